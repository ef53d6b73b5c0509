section HR
variable {p : Program} {l : Launch} {e : Env} {R : Room} {s : State} {m : MethodId} {args : Array Value} {below : List Frame} {meth : Method} {c : Code} {H : Heap} {locs : List Loc} {cells slots : Nat} {Q : State → Prop}
variable {cc : ByteArray} {pc : Nat} {ls : Array Slot} {rest : List Value} {D : va_G} {cl : List vw_C} {A : Nat → Prop} {a : Nat} {tys : List (ClassId × FieldType)} {ws : va_W} {H0 : Heap}
/-- the int on top by an equal one -/
theorem lv_ri {x y : Int32} (h : x = y) (k : W p l e R s m args below meth c H locs cells slots Q (F0 m pc ls (.int y :: rest))) : W p l e R s m args below meth c H locs cells slots Q (F0 m pc ls (.int x :: rest)) := by
  subst h
  exact k
/-- two roads that meet with one int each -/
theorem lv_dia {P : Prop} {dP : Decidable P} {g : JFrame} {x y : Int32} (M : Nat) (k : ∀ v : Int32, v = (if P then x else y) → W p l e R s m args below meth c H locs cells slots Q (F0 m M ls (.int v :: rest)))
    (h : (P → W p l e R s m args below meth c H locs cells slots Q (F0 m M ls (.int x :: rest))) → (¬ P → W p l e R s m args below meth c H locs cells slots Q (F0 m M ls (.int y :: rest))) → W p l e R s m args below meth c H locs cells slots Q g) : W p l e R s m args below meth c H locs cells slots Q g :=
  h (fun hp => k x (if_pos hp).symm) (fun hn => k y (if_neg hn).symm)
/-- an int array read at a place -/
theorem vq_iald {k : Nat} (hexec : p.tables.exec = Jvm.exec) (hb : c.code = cc) (hK : va_K D cl tys s) (hP : va_P D cl ws H) (q0 t0 : Nat) {cA : ClassId} {n : Nat} {f : Nat → Int32} (ha : ws[q0]? = some (a, .inl (cA, n, .inl f))) (ht : tys[t0]? = some (cA, .int)) {i : Int32} (hi : i = nI k) (hk : k < n) (hn : n < 2 ^ 31) (hdg : decode cc pc = .ok (.iaload, 1))
    (kk : W p l e R s m args below meth c H locs cells slots Q (F0 m (pc + 1) ls (.int (f k) :: rest))) : W p l e R s m args below meth c H locs cells slots Q (F0 m pc ls (.int i :: .ref a :: rest)) := by
  subst hi
  refine va_iald hexec hb hK hP q0 t0 ha ht (vp_in_nI hk hn) hdg ?_
  rw [nI_clamp (Nat.lt_trans hk hn)]
  exact kk
/-- .. a reference -/
theorem vq_aald {k b : Nat} (hexec : p.tables.exec = Jvm.exec) (hb : c.code = cc) (hK : va_K D cl tys s) (hP : va_P D cl ws H) (q0 t0 : Nat) {cA : ClassId} {C : String} {n : Nat} {f : Nat → Option Nat} (ha : ws[q0]? = some (a, .inl (cA, n, .inr (.inr (.inr (.inr f)))))) (ht : tys[t0]? = some (cA, .object C)) {i : Int32} (hi : i = nI k) (hk : k < n) (hn : n < 2 ^ 31) (hf : f k = some b) (hdg : decode cc pc = .ok (.aaload, 1))
    (kk : W p l e R s m args below meth c H locs cells slots Q (F0 m (pc + 1) ls (.ref b :: rest))) : W p l e R s m args below meth c H locs cells slots Q (F0 m pc ls (.int i :: .ref a :: rest)) := by
  subst hi
  refine va_aldq hexec hb hK hP q0 t0 ha ht (vp_in_nI hk hn) hdg ?_
  rw [nI_clamp (Nat.lt_trans hk hn), hf]
  exact kk
/-- an int array written at a place -/
theorem vq_iast {k : Nat} (hexec : p.tables.exec = Jvm.exec) (hb : c.code = cc) (hK : va_K D cl tys s) (hP : va_P D cl ws H) (hD : va_D A ws) (hS : va_S A H0 H locs) (q0 t0 : Nat) {cA : ClassId} {n : Nat} {f : Nat → Int32} (ha : ws[q0]? = some (a, .inl (cA, n, .inl f))) (ht : tys[t0]? = some (cA, .int)) {i : Int32} {x : Int32} (hi : i = nI k) (hk : k < n) (hn : n < 2 ^ 31) (hdg : decode cc pc = .ok (.iastore, 1))
    (kk : ∀ (H1 : Heap) (locs1 : List Loc), va_P D cl (ws.set q0 (a, .inl (cA, n, .inl (upd f k x)))) H1 → va_D A (ws.set q0 (a, .inl (cA, n, .inl (upd f k x)))) → va_S A H0 H1 locs1 → W p l e R s m args below meth c H1 locs1 cells slots Q (F0 m (pc + 1) ls rest)) : W p l e R s m args below meth c H locs cells slots Q (F0 m pc ls (.int x :: .int i :: .ref a :: rest)) := by
  subst hi
  refine va_iast hexec hb hK hP hD hS q0 t0 ha ht (vp_in_nI hk hn) hdg ?_
  rw [nI_clamp (Nat.lt_trans hk hn)]
  exact kk
/-- .. a long array -/
theorem vq_lald {k : Nat} (hexec : p.tables.exec = Jvm.exec) (hb : c.code = cc) (hK : va_K D cl tys s) (hP : va_P D cl ws H) (q0 t0 : Nat) {cA : ClassId} {n : Nat} {f : Nat → Int64} (ha : ws[q0]? = some (a, .inl (cA, n, .inr (.inl f)))) (ht : tys[t0]? = some (cA, .long)) {i : Int32} (hi : i = nI k) (hk : k < n) (hn : n < 2 ^ 31) (hdg : decode cc pc = .ok (.laload, 1))
    (kk : W p l e R s m args below meth c H locs cells slots Q (F0 m (pc + 1) ls (.long (f k) :: rest))) : W p l e R s m args below meth c H locs cells slots Q (F0 m pc ls (.int i :: .ref a :: rest)) := by
  subst hi
  refine va_lald hexec hb hK hP q0 t0 ha ht (vp_in_nI hk hn) hdg ?_
  rw [nI_clamp (Nat.lt_trans hk hn)]
  exact kk
theorem vq_last {k : Nat} (hexec : p.tables.exec = Jvm.exec) (hb : c.code = cc) (hK : va_K D cl tys s) (hP : va_P D cl ws H) (hD : va_D A ws) (hS : va_S A H0 H locs) (q0 t0 : Nat) {cA : ClassId} {n : Nat} {f : Nat → Int64} (ha : ws[q0]? = some (a, .inl (cA, n, .inr (.inl f)))) (ht : tys[t0]? = some (cA, .long)) {i : Int32} {x : Int64} (hi : i = nI k) (hk : k < n) (hn : n < 2 ^ 31) (hdg : decode cc pc = .ok (.lastore, 1))
    (kk : ∀ (H1 : Heap) (locs1 : List Loc), va_P D cl (ws.set q0 (a, .inl (cA, n, .inr (.inl (vp_updL f k x))))) H1 → va_D A (ws.set q0 (a, .inl (cA, n, .inr (.inl (vp_updL f k x))))) → va_S A H0 H1 locs1 → W p l e R s m args below meth c H1 locs1 cells slots Q (F0 m (pc + 1) ls rest)) : W p l e R s m args below meth c H locs cells slots Q (F0 m pc ls (.long x :: .int i :: .ref a :: rest)) := by
  subst hi
  refine va_last hexec hb hK hP hD hS q0 t0 ha ht (vp_in_nI hk hn) hdg ?_
  rw [nI_clamp (Nat.lt_trans hk hn)]
  exact kk
/-- a loop that only reads: a measure that falls -/
theorem wl_ro {σ : Type} (g : σ → JFrame) (I : σ → Prop) (μ : σ → Nat) (hs : ∀ a : σ, I a → (∀ b : σ, I b → μ b < μ a → W p l e R s m args below meth c H locs cells slots Q (g b)) → W p l e R s m args below meth c H locs cells slots Q (g a)) (a : σ) (h : I a) : W p l e R s m args below meth c H locs cells slots Q (g a) := by
  have key : ∀ (n : Nat) (a : σ), μ a < n → I a → W p l e R s m args below meth c H locs cells slots Q (g a) := by
    intro n
    induction n with
    | zero => intro a h; exact absurd h (Nat.not_lt_zero _)
    | succ n ih => intro a h hI; exact hs a hI (fun b hb hlt => ih b (Nat.lt_of_lt_of_le hlt (Nat.le_of_lt_succ h)) hb)
  exact key (μ a + 1) a (Nat.lt_succ_self _) h
/-- a loop that writes: heap and places are part of its state -/
theorem wl_rw {σ : Type} (g : σ → Heap × List Loc × JFrame) (I : σ → Prop) (μ : σ → Nat) (hs : ∀ a : σ, I a → (∀ b : σ, I b → μ b < μ a → W p l e R s m args below meth c (g b).1 (g b).2.1 cells slots Q (g b).2.2) → W p l e R s m args below meth c (g a).1 (g a).2.1 cells slots Q (g a).2.2) (a : σ) (h : I a) : W p l e R s m args below meth c (g a).1 (g a).2.1 cells slots Q (g a).2.2 := by
  have key : ∀ (n : Nat) (a : σ), μ a < n → I a → W p l e R s m args below meth c (g a).1 (g a).2.1 cells slots Q (g a).2.2 := by
    intro n
    induction n with
    | zero => intro a h; exact absurd h (Nat.not_lt_zero _)
    | succ n ih => intro a h hI; exact hs a hI (fun b hb hlt => ih b (Nat.lt_of_lt_of_le hlt (Nat.le_of_lt_succ h)) hb)
  exact key (μ a + 1) a (Nat.lt_succ_self _) h
end HR
theorem lp_x {k N : Nat} (hN : N < 2 ^ 31) (h : k ≤ N) (c : nI N ≤ nI k) : k = N := by
  have := (nI_leI hN (Nat.lt_of_le_of_lt h hN)).mp c
  omega
theorem lp_c {k N : Nat} (hN : N < 2 ^ 31) (h : k ≤ N) (c : ¬ nI N ≤ nI k) : k < N := by
  rcases Nat.lt_or_ge k N with q | q
  · exact q
  · exact absurd (nI_le q (Nat.lt_of_le_of_lt h hN)) c
theorem ite01 {P : Prop} {dP : Decidable P} : (if P then (0 : Int32) else 1) = 0 ↔ P := by
  by_cases h : P
  · rw [if_pos h]; exact ⟨fun _ => h, fun _ => rfl⟩
  · rw [if_neg h]; exact ⟨fun q => absurd q (by decide), fun q => absurd q h⟩
theorem ite10 {P : Prop} {dP : Decidable P} : (if P then (1 : Int32) else 0) = 0 ↔ ¬ P := by
  by_cases h : P
  · rw [if_pos h]; exact ⟨fun q => absurd q (by decide), fun q => absurd h q⟩
  · rw [if_neg h]; exact ⟨fun _ => h, fun _ => rfl⟩
section HC
variable {p : Program} {l : Launch} {e : Env} {R : Room} {s : State} {m : MethodId} {args : Array Value} {below : List Frame} {meth : Method} {c : Code} {H : Heap} {locs : List Loc} {cells slots : Nat} {Q : State → Prop}
variable {cc : ByteArray} {pc : Nat} {ls : Array Slot} {rest : List Value} {D : va_G} {cl : List vw_C} {A : Nat → Prop} {a : Nat} {tys : List (ClassId × FieldType)} {ws : va_W} {H0 : Heap}
/-- System.arraycopy between int arrays, its places by their numbers -/
theorem vq_copyi {x y z : Nat} (hexec : p.tables.exec = Jvm.exec) (hb : c.code = cc) (hml : c.maxLocals = ls.size) {own : String} {index : Nat} (hown : s.vm.findClass own = some m.cls) (hlink : (Cond.methodLink own index arraycopyName).before args s = true) (hnat : (Cond.native arraycopyName).before args s = true) (hstat : (Cond.static arraycopyName).before args s = true) (hini : (Cond.initialized "java/lang/System").before args s = true)
    (hK : va_K D cl tys s) (hP : va_P D cl ws H) (hD : va_D A ws) (hS : va_S A H0 H locs) (q0 q1 t0 : Nat) {a0 : Nat} {cA : ClassId} {n0 n1 : Nat} {f g : Nat → Int32} (ha0 : ws[q0]? = some (a0, .inl (cA, n0, .inl f))) (ha1 : ws[q1]? = some (a, .inl (cA, n1, .inl g))) (ht0 : tys[t0]? = some (cA, .int))
    {sp dp n : Int32} (e1 : sp = nI x) (e2 : dp = nI y) (e3 : n = nI z) (h4 : x + z ≤ n0) (h5 : y + z ≤ n1) (h0 : n0 < 2 ^ 31) (h1 : n1 < 2 ^ 31)
    (hframes : 1 ≤ R.frames) (hlocals : (rest.map fun v => v.category).sum + (nativeFrameWords "java/lang/System" "arraycopy" 5 + 11) ≤ R.locals) (hdg : decode cc pc = .ok (.invokestatic index, 3))
    (kk : ∀ (H1 : Heap) (locs1 : List Loc), va_P D cl (ws.set q1 (a, .inl (cA, n1, .inl (va_cpy f g x y z)))) H1 → va_D A (ws.set q1 (a, .inl (cA, n1, .inl (va_cpy f g x y z)))) → va_S A H0 H1 locs1 → W p l e R s m args below meth c H1 locs1 cells slots Q (F0 m (pc + 3) ls rest)) : W p l e R s m args below meth c H locs cells slots Q (F0 m pc ls (.int n :: .int dp :: .ref a :: .int sp :: .ref a0 :: rest)) := by
  subst e1; subst e2; subst e3
  have cx : (nI x).toNatClampNeg = x := nI_clamp (by omega)
  have cy : (nI y).toNatClampNeg = y := nI_clamp (by omega)
  have cz : (nI z).toNatClampNeg = z := nI_clamp (by omega)
  refine va_copyi hexec hb hml hown hlink hnat hstat hini hK hP hD hS q0 q1 t0 t0 ha0 ha1 ht0 ht0 rfl (nI_pos (by omega)) (nI_pos (by omega)) (nI_pos (by omega)) (by rw [cx, cz]; exact h4) (by rw [cy, cz]; exact h5) (fun i hi => rfl) hframes hlocals hdg ?_
  rw [cx, cy, cz]
  exact kk
end HC

abbrev wR (r ra : Nat) (cI : ClassId) (ri : Nat → Int32) (rv : Nat → Int32) : va_W := [(r, .inr (1, [.int (ri 0), .int (ri 1), .int (ri 2), .int (ri 3), .int (ri 4), .ref ra])), (ra, .inl (cI, 16, .inl rv))]
abbrev wF (f f1 f2 f3 f4 : Nat) (cI : ClassId) (fi : Nat → Int32) (fa : Nat → Nat → Int32) : va_W := [(f, .inr (0, [.int (fi 0), .int (fi 1), .int (fi 2), .int (fi 3), .int (fi 4), .int (fi 5), .ref f1, .ref f2, .ref f3, .ref f4])), (f1, .inl (cI, 272, .inl (fa 0))), (f2, .inl (cI, 16, .inl (fa 1))), (f3, .inl (cI, 16, .inl (fa 2))), (f4, .inl (cI, 16, .inl (fa 3)))]
abbrev wM (y y1 y2 y3 y4 y5 y6 y7 y8 y9 y10 : Nat) (cI : ClassId) (mi : Nat → Int32) (ma : Nat → Nat → Int32) : va_W := [(y, .inr (3, [.int (mi 0), .int (mi 1), .ref y1, .ref y2, .ref y3, .ref y4, .ref y5, .ref y6, .ref y7, .ref y8, .ref y9, .int (mi 2), .int (mi 3), .int (mi 4), .int (mi 5), .int (mi 6), .ref y10])), (y1, .inl (cI, 4, .inl (ma 0))), (y2, .inl (cI, 4, .inl (ma 1))), (y3, .inl (cI, 4, .inl (ma 2))), (y4, .inl (cI, 4, .inl (ma 3))), (y5, .inl (cI, 4, .inl (ma 4))), (y6, .inl (cI, 64, .inl (ma 5))), (y7, .inl (cI, 64, .inl (ma 6))), (y8, .inl (cI, 256, .inl (ma 7))), (y9, .inl (cI, 4096, .inl (ma 8))), (y10, .inl (cI, 16, .inl (ma 9)))]
abbrev wV (x xa r : Nat) (cQ : ClassId) (ad : Nat → Nat → Nat) : va_W := [(x, .inr (2, [.ref xa, .ref r])), (xa, .inl (cQ, 4, .inr (.inr (.inr (.inr (fun j => some (ad j 0)))))))]
def s_max (x y : Int32) : Int32 := if x < y then y else x
def s_min (x y : Int32) : Int32 := if y < x then y else x
/-- hasWrite -/
def s_hw (w k : Int32) : Int32 := if w &&& ((1 : Int32) <<< (k &&& 31)) = 0 then 0 else 1
/-- keysAfter, of the first n keys -/
def s_ky (lw : Nat → Int32) (b : Int32) : Nat → Int32
  | 0 => 0
  | n + 1 => if lw n ≤ b then s_ky lw b n else s_ky lw b n ||| ((1 : Int32) <<< (nI n &&& 31))
/-- decide -/
def s_dec (fi : Nat → Int32) (fa : Nat → Nat → Int32) (ri : Nat → Int32) (se : Nat) : Int32 :=
  if nI 1000000 ≤ fi 1 then -1 else if ri 2 ≤ fi 1 then (if fa 2 se < ri 1 then (if fi 1 - fi 0 ≤ ri 2 then (if ri 3 &&& s_ky (fa 1) (s_max (ri 2) 0) 16 = 0 then 1 else 2) else 2) else 0) else -1
/-- keptWrite -/
def s_kw (fi : Nat → Int32) (lw : Nat → Int32) (k : Nat) : Int32 := if lw k ≤ 0 then -1 else if lw k < fi 2 then -1 else lw k
/-- sumOfValues, of the first k keys; b: where the row begins -/
def s_sum (rw : Nat → Int32) (b : Nat) : Nat → Int32
  | 0 => 0
  | k + 1 => s_sum rw b k + rw (b + k)
/-- hasKeysOf for the keys from k on, m of them -/
def s_hk (lw lw2 rw rw2 : Nat → Int32) (o : Int32) (b : Nat) : Nat → Nat → Int32
  | 0, _ => 1
  | m + 1, k => if s_max (lw k) o = s_max (lw2 k) o then (if rw (b + k) = rw2 (b + k) then s_hk lw lw2 rw rw2 o b m (k + 1) else 0) else 0
/-- hasSessionsOf -/
def s_hs (q q2 v v2 : Nat → Int32) : Nat → Nat → Int32
  | 0, _ => 1
  | m + 1, k => if q k = q2 k then (if v k = v2 k then s_hs q q2 v v2 m (k + 1) else 0) else 0
/-- isLike -/
def s_like (fi : Nat → Int32) (fa : Nat → Nat → Int32) (gi : Nat → Int32) (ga : Nat → Nat → Int32) (n : Nat) : Int32 :=
  if fi 1 = gi 1 then (if s_hk (fa 1) (ga 1) (fa 0) (ga 0) (fi 1 - fi 0) (n % 17 * 16) 16 0 = 0 then 0 else if s_hs (fa 2) (ga 2) (fa 3) (ga 3) 16 0 = 0 then 0 else 1) else 0
/-- openNextRow; n: the index -/
def s_opi (fi : Nat → Int32) : Nat → Int32 := va_up (va_up fi 1 (fi 1 + 1)) 2 (s_max (fi 2) (fi 1 + 1 - fi 0))
def s_opa (fa : Nat → Nat → Int32) (n : Nat) : Nat → Nat → Int32 := va_up fa 0 (va_cpy (fa 0) (fa 0) (n % 17 * 16) ((n + 1) % 17 * 16) 16)
/-- store, of the first k keys; n: the index -/
def s_st (w : Int32) (vs : Nat → Int32) (n : Nat) (fa : Nat → Nat → Int32) : Nat → (Nat → Nat → Int32)
  | 0 => fa
  | k + 1 => if w &&& ((1 : Int32) <<< (nI k &&& 31)) = 0 then s_st w vs n fa k else va_up (va_up (s_st w vs n fa k) 0 (upd (s_st w vs n fa k 0) (n % 17 * 16 + k) (vs k))) 1 (upd (s_st w vs n fa k 1) k (nI n))
/-- Arrays.fill, of the first k places -/
def s_fill (v : Int32) (f : Nat → Int32) : Nat → (Nat → Int32)
  | 0 => f
  | k + 1 => upd (s_fill v f k) k v
/-- to let a request in: the answer, the fields, the arrays; n: the index, se: the session -/
def s_adm (fi : Nat → Int32) (fa : Nat → Nat → Int32) (ri rv : Nat → Int32) (n se : Nat) : Int32 × (Nat → Int32) × (Nat → Nat → Int32) :=
  if s_dec fi fa ri se = -1 then (-1, fi, fa) else
  if s_dec fi fa ri se = 0 then (0, va_up (s_opi fi) 5 (s_opi fi 5 + 1), s_opa fa n) else
  if s_dec fi fa ri se = 1 then (s_dec fi fa ri se, va_up (s_opi fi) 3 (s_opi fi 3 + 1), va_up (va_up (s_st (ri 4) rv (n + 1) (s_opa fa n) 16) 2 (upd (s_st (ri 4) rv (n + 1) (s_opa fa n) 16 2) se (ri 1))) 3 (upd (s_st (ri 4) rv (n + 1) (s_opa fa n) 16 3) se (s_dec fi fa ri se)))
  else (s_dec fi fa ri se, va_up (s_opi fi) 4 (s_opi fi 4 + 1), va_up (va_up (s_opa fa n) 2 (upd (s_opa fa n 2) se (ri 1))) 3 (upd (s_opa fa n 3) se (s_dec fi fa ri se)))
/-- reset -/
def s_rsi (fi : Nat → Int32) : Nat → Int32 := va_up (va_up (va_up (va_up (va_up fi 1 0) 2 0) 3 0) 4 0) 5 0
def s_rsa (fa : Nat → Nat → Int32) : Nat → Nat → Int32 := va_up (va_up (va_up (va_up fa 0 (s_fill 0 (fa 0) 272)) 1 (s_fill 0 (fa 1) 16)) 2 (s_fill 0 (fa 2) 16)) 3 (s_fill 0 (fa 3) 16)
/-- become -/
def s_bei (fi gi : Nat → Int32) : Nat → Int32 := va_up (va_up (va_up (va_up (va_up fi 1 (gi 1)) 2 (gi 1)) 3 (gi 3)) 4 (gi 4)) 5 (gi 5)
def s_bea (fa ga : Nat → Nat → Int32) : Nat → Nat → Int32 := va_up (va_up (va_up (va_up fa 0 (va_cpy (ga 0) (fa 0) 0 0 272)) 1 (va_cpy (ga 1) (fa 1) 0 0 16)) 2 (va_cpy (ga 2) (fa 2) 0 0 16)) 3 (va_cpy (ga 3) (fa 3) 0 0 16)
/-- is16, isKey, isSession -/
def s_in (k : Int32) : Int32 := if k < 0 then 0 else if nI 16 ≤ k then 0 else 1
/-- lacks -/
def s_lk (x : Int32) : Int32 := if x < 0 then 1 else if nI 4 ≤ x then 1 else 0
/-- draft: the answer, the fields -/
def m_dr (mi : Nat → Int32) (a b c : Int32) : Int32 × (Nat → Int32) :=
  if s_in a = 0 then (0, va_up mi 0 0) else if b < 1 then (0, va_up mi 0 0) else if 0 ≤ c then (1, va_up (va_up (va_up (va_up (va_up (va_up mi 0 0) 2 a) 3 b) 4 c) 5 0) 6 0) else (0, va_up mi 0 0)
/-- reads -/
def m_rd (mi : Nat → Int32) (k : Int32) : Nat → Int32 := va_up (va_up mi 0 0) 5 (if s_in k = 0 then mi 5 ||| 0 else mi 5 ||| ((1 : Int32) <<< (k &&& 31)))
/-- writtenSince: the sets at j places from a on; b: where the fold's sets begin -/
def m_ws (wr : Nat → Int32) (b a : Nat) : Nat → Int32
  | 0 => 0
  | j + 1 => m_ws wr b a j ||| wr (b + (a + j) % 64)
/-- decided; k: the fold, n: its index, se: the session, b: the snapshot -/
def m_dec (mi : Nat → Int32) (ma : Nat → Nat → Int32) (k n se b : Nat) : Int32 :=
  if nI 1000000 ≤ ma 0 k then -1 else if mi 4 ≤ ma 0 k then (if ma 5 (16 * k + se) < mi 3 then (if mi 4 < ma 0 k - mi 1 then 2 else if m_ws (ma 7) (64 * k) (b + 1) (n + 1 - (b + 1)) &&& mi 5 = 0 then 1 else 2) else 0) else -1
theorem m_dec_in (mi : Nat → Int32) (ma : Nat → Nat → Int32) (k n se b : Nat) : m_dec mi ma k n se b = -1 ∨ m_dec mi ma k n se b = 0 ∨ m_dec mi ma k n se b = 1 ∨ m_dec mi ma k n se b = 2 := by
  unfold m_dec
  repeat' split
  all_goals simp
/-- the values of a new row that is written, of the first k keys -/
def m_av (w : Int32) (dr : Nat → Int32) (at_ bf : Nat) (va : Nat → Int32) : Nat → (Nat → Int32)
  | 0 => va
  | k + 1 => upd (m_av w dr at_ bf va k) (16 * at_ + k) (if w >>> (nI k &&& 31) &&& 1 = 1 then dr k else m_av w dr at_ bf va k (16 * bf + k))
/-- a stretch copied within an array, place by place -/
def m_cp (f : Nat → Int32) (d s : Nat) : Nat → (Nat → Int32)
  | 0 => f
  | k + 1 => upd (m_cp f d s k) (d + k) (m_cp f d s k (s + k))
/-- a stretch set to 0 -/
def m_z (f : Nat → Int32) (d : Nat) : Nat → (Nat → Int32)
  | 0 => f
  | k + 1 => upd (m_z f d k) (d + k) 0
/-- the arrays behind apply: w the set, va the values, sq and vd the sessions', c1 c2 c3 what is counted -/
def m_ap_ (mi : Nat → Int32) (ma : Nat → Nat → Int32) (k n : Nat) (w : Int32) (va sq vd : Nat → Int32) (c1 c2 c3 : Int32) : Nat → Nat → Int32 :=
  va_up (va_up (va_up (va_up (va_up (va_up (va_up (va_up (va_up ma 0 (upd (ma 0) k (nI (n + 1)))) 7 (upd (ma 7) (64 * k + (n + 1) % 64) w)) 8 va) 5 sq) 6 vd) 2 (upd (ma 2) k (ma 2 k + c1))) 3 (upd (ma 3) k (ma 3 k + c2))) 4 (upd (ma 4) k (ma 4 k + c3)))
    1 (upd (ma 1) k (if nI (n + 1) - mi 1 ≤ ma 1 k then ma 1 k else nI (n + 1) - mi 1))
/-- apply: the answer, the arrays -/
def m_ap (mi : Nat → Int32) (ma : Nat → Nat → Int32) (k n se b : Nat) : Int32 × (Nat → Nat → Int32) :=
  if m_dec mi ma k n se b = -1 then (-1, ma) else
  if m_dec mi ma k n se b = 0 then (0, m_ap_ mi ma k n 0 (m_cp (ma 8) (16 * (64 * k + (n + 1) % 64)) (16 * (64 * k + n % 64)) 16) (ma 5) (ma 6) 0 0 1) else
  if m_dec mi ma k n se b = 1 then (1, m_ap_ mi ma k n (mi 6) (m_av (mi 6) (ma 9) (64 * k + (n + 1) % 64) (64 * k + n % 64) (ma 8) 16) (upd (ma 5) (16 * k + se) (mi 3)) (upd (ma 6) (16 * k + se) 1) 1 0 0)
  else (2, m_ap_ mi ma k n 0 (m_cp (ma 8) (16 * (64 * k + (n + 1) % 64)) (16 * (64 * k + n % 64)) 16) (upd (ma 5) (16 * k + se) (mi 3)) (upd (ma 6) (16 * k + se) 2) 0 1 0)
/-- take -/
def m_tk (ma : Nat → Nat → Int32) (a b : Nat) : Nat → Nat → Int32 :=
  va_up (va_up (va_up (va_up (va_up (va_up (va_up (va_up (va_up ma 0 (upd (ma 0) b (ma 0 a))) 1 (upd (ma 1) b (upd (ma 0) b (ma 0 a) a))) 2 (upd (ma 2) b (ma 2 a))) 3 (upd (ma 3) b (ma 3 a))) 4 (upd (ma 4) b (ma 4 a)))
    5 (m_cp (ma 5) (16 * b) (16 * a) 16)) 6 (m_cp (ma 6) (16 * b) (16 * a) 16)) 7 (m_cp (ma 7) (64 * b) (64 * a) 64)) 8 (m_cp (ma 8) (1024 * b) (1024 * a) 1024)
/-- clear -/
def m_cl (ma : Nat → Nat → Int32) (k : Nat) : Nat → Nat → Int32 :=
  va_up (va_up (va_up (va_up (va_up (va_up (va_up (va_up (va_up ma 0 (upd (ma 0) k 0)) 1 (upd (ma 1) k 0)) 2 (upd (ma 2) k 0)) 3 (upd (ma 3) k 0)) 4 (upd (ma 4) k 0)) 5 (m_z (ma 5) (16 * k) 16)) 6 (m_z (ma 6) (16 * k) 16)) 8 (m_z (ma 8) (1024 * k) 16)) 7 (upd (ma 7) (64 * k) 0)
/-- written: the search down from i -/
def m_wr (wr : Nat → Int32) (b : Nat) (hz key : Int32) : Nat → Int32
  | 0 => -1
  | i + 1 => if nI (i + 1) < hz then -1 else if wr (b + (i + 1) % 64) >>> (key &&& 31) &&& 1 = 1 then nI (i + 1) else m_wr wr b hz key i
/-- the sum of a row's values -/
def m_sum (va : Nat → Int32) (b : Nat) : Nat → Int32
  | 0 => 0
  | k + 1 => m_sum va b k + va (b + k)
theorem s_in_nI {k : Nat} (hk : k < 16) : s_in (nI k) = 1 := by
  unfold s_in
  rw [if_neg (nI_pos (by omega)), if_neg (nI_ge hk (by decide))]
theorem s_in_ne {k : Nat} (hk : k < 16) : ¬ s_in (nI k) = 0 := by
  rw [s_in_nI hk]; decide
theorem s_lk_nI {k : Nat} (hk : k < 4) : s_lk (nI k) = 0 := by
  unfold s_lk
  rw [if_neg (nI_pos (by omega)), if_neg (nI_ge hk (by decide))]
/-- take: the answer, the arrays -/
def m_tk2 (ma : Nat → Nat → Int32) (a b : Nat) : Int32 × (Nat → Nat → Int32) := if ma 0 b < ma 0 a then (1, m_tk ma a b) else (0, ma)
/-- same: the sessions and values from key k on, m of them; ra, rb: the rows -/
def m_sq (s v va : Nat → Int32) (a b ra rb : Nat) : Nat → Nat → Int32
  | 0, _ => 1
  | m + 1, k => if s (16 * a + k) = s (16 * b + k) then (if v (16 * a + k) = v (16 * b + k) then (if va (16 * ra + k) = va (16 * rb + k) then m_sq s v va a b ra rb m (k + 1) else 0) else 0) else 0
/-- same: the sets since n - j, m of them -/
def m_sw (wr : Nat → Int32) (a b n : Nat) : Nat → Nat → Int32
  | 0, _ => 1
  | m + 1, j => if m_ws wr (64 * a) (n - j + 1) (n + 1 - (n - j + 1)) = m_ws wr (64 * b) (n - j + 1) (n + 1 - (n - j + 1)) then m_sw wr a b n m (j + 1) else 0
/-- same; n: the index of a, v: the versions -/
def m_sm (ma : Nat → Nat → Int32) (a b n v : Nat) : Int32 :=
  if ma 0 a = ma 0 b then (if m_sq (ma 5) (ma 6) (ma 8) a b (64 * a + n % 64) (64 * b + n % 64) 16 0 = 0 then 0 else m_sw (ma 7) a b n (v + 1) 0) else 0
/-- look -/
def m_lk (mi : Nat → Int32) (ma : Nat → Nat → Int32) (k n : Nat) : Nat → Int32
  | 0 => ma 0 k
  | 1 => ma 1 k
  | 2 => ma 2 k
  | 3 => ma 3 k
  | 4 => ma 4 k
  | 5 => m_sum (ma 8) (16 * (64 * k + n % 64)) 16
  | 6 => mi 5
  | 7 => mi 6
  | _ => -1
theorem m_wr_lt {wr : Nat → Int32} {b : Nat} {hz key : Int32} {j : Nat} (h : nI j < hz) : m_wr wr b hz key j = -1 := by
  cases j with
  | zero => rfl
  | succ j => simp only [m_wr, if_pos h]
theorem m_wr_0 {wr : Nat → Int32} {b : Nat} {hz key : Int32} {j : Nat} (hj : j < 2 ^ 31) (h : nI j ≤ 0) : m_wr wr b hz key j = -1 := by
  cases j with
  | zero => rfl
  | succ j => exact absurd h (nI_nle (by omega) hj)
theorem sx_i {n j : Nat} (hn : n < 2 ^ 30) (hj : j < 2 ^ 30) : (nI n - nI j).toInt = (n : Int) - j := pk_sub_toInt hn hj
theorem sx_0 {n j : Nat} (hn : n < 2 ^ 30) (hj : j < 2 ^ 30) (h : ¬ 0 ≤ nI n - nI j) : n - j + 1 = 1 := by
  rw [Int32.le_iff_toInt_le, sx_i hn hj, Int32.toInt_zero] at h
  omega
theorem sx_1 {n j : Nat} (hn : n < 2 ^ 30) (hj : j < 2 ^ 30) (h : 0 ≤ nI n - nI j) : nI n - nI j + 1 = nI (n - j + 1) := by
  rw [Int32.le_iff_toInt_le, sx_i hn hj, Int32.toInt_zero] at h
  rw [pk_sub (by omega), nI_1]
theorem sx_lt {n j v : Nat} (hn : n < 2 ^ 30) (hj : j < 2 ^ 30) (hv : v < 2 ^ 30) : nI n - nI j < nI n - nI v ↔ v < j := by
  rw [Int32.lt_iff_toInt_lt, sx_i hn hj, sx_i hn hv]
  omega
theorem sx_s (n j : Nat) : nI n - nI j + (-1) = nI n - nI (j + 1) := by
  rw [nI_succ]
  apply Int32.toBitVec_inj.mp
  simp only [Int32.toBitVec_add, Int32.toBitVec_sub, Int32.toBitVec_neg]
  generalize (nI n).toBitVec = x
  generalize (nI j).toBitVec = y
  show x - y + -1#32 = x - (y + 1#32)
  bv_omega
theorem s_like_b {fi : Nat → Int32} {fa : Nat → Nat → Int32} {gi : Nat → Int32} {ga : Nat → Nat → Int32} {n : Nat} : narrow .boolean (.int (s_like fi fa gi ga n)) = .int (s_like fi fa gi ga n) := by
  unfold s_like
  repeat' split
  all_goals rfl
/-- look -/
def s_look (fi : Nat → Int32) (fa : Nat → Nat → Int32) (ri : Nat → Int32) (n : Nat) : Nat → Int32
  | 0 => fi 1
  | 1 => fi 2
  | 2 => fi 3
  | 3 => fi 4
  | 4 => fi 5
  | 5 => s_sum (fa 0) (n % 17 * 16) 16
  | 6 => ri 3
  | 7 => ri 4
  | _ => -1
/-- draft: the answer, the fields -/
def s_dr (ri : Nat → Int32) (a b c : Int32) : Int32 × (Nat → Int32) :=
  if s_in a = 0 then (0, ri) else if b < 1 then (0, ri) else if 0 ≤ c then (1, va_up (va_up (va_up (va_up (va_up ri 0 a) 1 b) 2 c) 3 0) 4 0) else (0, ri)
/-- reads -/
def s_rd (ri : Nat → Int32) (k : Int32) : Nat → Int32 := if s_in k = 0 then ri else va_up ri 3 (ri 3 ||| ((1 : Int32) <<< (k &&& 31)))
/-- take -/
def s_tki (fi gi : Nat → Int32) : Nat → Int32 := if gi 1 < fi 1 then s_bei gi fi else gi
def s_tka (fi gi : Nat → Int32) (fa ga : Nat → Nat → Int32) : Nat → Nat → Int32 := if gi 1 < fi 1 then s_bea ga fa else ga
theorem s_in_01 {k : Int32} (h : ¬ s_in k = 0) : s_in k = 1 := by
  unfold s_in at h ⊢
  by_cases h1 : k < 0
  · rw [if_pos h1] at h; exact absurd rfl h
  · rw [if_neg h1] at h ⊢
    by_cases h2 : nI 16 ≤ k
    · rw [if_pos h2] at h; exact absurd rfl h
    · rw [if_neg h2]
