/-- class and reference agree; T: what no index passes -/
def rA (v T : Nat) (FI : Nat → Nat → Int32) (FA : Nat → Nat → Nat → Int32) (ri rv mi : Nat → Int32) (ma : Nat → Nat → Int32) : Prop :=
  (1 ≤ v ∧ v ≤ 16 ∧ mi 1 = nI v) ∧ (ri 0 = mi 2 ∧ ri 1 = mi 3 ∧ ri 2 = mi 4 ∧ ri 3 = mi 5 ∧ ri 4 = mi 6) ∧ (∃ se, se < 16 ∧ mi 2 = nI se) ∧ (∃ b, b < 2 ^ 31 ∧ mi 4 = nI b) ∧ (∀ z, z < 16 → rv z = ma 9 z) ∧ (∀ z, 16 ≤ z → bt (mi 6) z = false) ∧
  ∀ k, k < 4 → ∃ n h lw, n ≤ T ∧ rF v k (FI k) (FA k) ma n h lw
theorem rA.mono {v T S : Nat} {FI : Nat → Nat → Int32} {FA : Nat → Nat → Nat → Int32} {ri rv mi : Nat → Int32} {ma : Nat → Nat → Int32} (hTS : T ≤ S) (h : rA v T FI FA ri rv mi ma) : rA v S FI FA ri rv mi ma := by
  obtain ⟨h1, h2, h3, h4, h5, h6, h7⟩ := h
  refine ⟨h1, h2, h3, h4, h5, h6, fun k hk => ?_⟩
  obtain ⟨n, hh, lw, q1, q2⟩ := h7 k hk
  exact ⟨n, hh, lw, by omega, q2⟩
theorem rA.thr {v T : Nat} {FI : Nat → Nat → Int32} {FA : Nat → Nat → Nat → Int32} {ri rv mi : Nat → Int32} {ma : Nat → Nat → Int32} (c : Int32) (h : rA v T FI FA ri rv mi ma) : rA v (T + 1) FI FA ri rv (va_up mi 0 c) ma := by
  have h := rA.mono (Nat.le_succ T) h
  exact h
theorem up_f {α : Type} {f : Nat → α} {k : Nat} {x : α} : va_up f k x k = x := va_up_self f k x
theorem rA.one {v T k n2 h2 : Nat} {lw2 : Nat → Nat} {FI : Nat → Nat → Int32} {FA : Nat → Nat → Nat → Int32} {ri rv mi fj : Nat → Int32} {ma mb fb : Nat → Nat → Int32} (c : Int32) (h : rA v T FI FA ri rv mi ma) (hn : n2 ≤ T + 1) (hF : rF v k fj fb mb n2 h2 lw2) (hA : ∀ j, j ≠ k → agF j ma mb) (h9 : mb 9 = ma 9) : rA v (T + 1) (va_up FI k fj) (va_up FA k fb) ri rv (va_up mi 0 c) mb := by
  obtain ⟨g1, g2, g3, g4, g5, g6, g7⟩ := h
  refine ⟨g1, g2, g3, g4, fun z hz => by rw [h9]; exact g5 z hz, g6, fun j hj => ?_⟩
  by_cases e : j = k
  · subst e
    rw [up_f, up_f]
    exact ⟨n2, h2, lw2, hn, hF⟩
  · rw [va_up_ne _ _ e, va_up_ne _ _ e]
    obtain ⟨n, hh, lw, q1, q2⟩ := g7 j hj
    exact ⟨n, hh, lw, by omega, q2.congr (hA j e)⟩
theorem rA.draft {v T : Nat} {FI : Nat → Nat → Int32} {FA : Nat → Nat → Nat → Int32} {ri rv mi : Nat → Int32} {ma : Nat → Nat → Int32} (a b c : Int32) (h : rA v T FI FA ri rv mi ma) : (s_dr ri a b c).1 = (m_dr mi a b c).1 ∧ rA v (T + 1) FI FA (s_dr ri a b c).2 rv (m_dr mi a b c).2 ma := by
  have h := rA.mono (Nat.le_succ T) h
  unfold s_dr m_dr
  by_cases h1 : s_in a = 0
  · rw [if_pos h1, if_pos h1]; exact ⟨rfl, h⟩
  · rw [if_neg h1, if_neg h1]
    by_cases h2 : b < 1
    · rw [if_pos h2, if_pos h2]; exact ⟨rfl, h⟩
    · rw [if_neg h2, if_neg h2]
      by_cases h3 : 0 ≤ c
      · rw [if_pos h3, if_pos h3]
        refine ⟨rfl, ?_⟩
        obtain ⟨g1, g2, g3, g4, g5, g6, g7⟩ := h
        refine ⟨g1, ⟨rfl, rfl, rfl, rfl, rfl⟩, ?_, ?_, g5, fun z _ => b_0 z, g7⟩
        · have ha : ¬ a < 0 := fun q => h1 (by unfold s_in; rw [if_pos q])
          have hb : ¬ nI 16 ≤ a := fun q => h1 (by unfold s_in; rw [if_neg ha, if_pos q])
          obtain ⟨j, hj, rfl⟩ := nI_of ha
          exact ⟨j, by rcases Nat.lt_or_ge j 16 with q | q; exact q; exact absurd (nI_le q (by omega)) hb, rfl⟩
        · obtain ⟨j, hj, e⟩ := nI_of (Int32.not_lt.mpr h3)
          exact ⟨j, hj, e⟩
      · rw [if_neg h3, if_neg h3]; exact ⟨rfl, h⟩
theorem in_cases (x : Int32) : s_in x = 0 ∨ ∃ z, z < 16 ∧ x = nI z := by
  by_cases h0 : x < 0
  · left; unfold s_in; rw [if_pos h0]
  · by_cases h1 : nI 16 ≤ x
    · left; unfold s_in; rw [if_neg h0, if_pos h1]
    · obtain ⟨j, hj, rfl⟩ := nI_of h0
      right
      exact ⟨j, by rcases Nat.lt_or_ge j 16 with q | q; exact q; exact absurd (nI_le q (by omega)) h1, rfl⟩
theorem lk_cases (x : Int32) : s_lk x = 1 ∨ ∃ k, k < 4 ∧ x = nI k := by
  by_cases h0 : x < 0
  · left; unfold s_lk; rw [if_pos h0]
  · by_cases h1 : nI 4 ≤ x
    · left; unfold s_lk; rw [if_neg h0, if_pos h1]
    · obtain ⟨j, hj, rfl⟩ := nI_of h0
      right
      exact ⟨j, by rcases Nat.lt_or_ge j 4 with q | q; exact q; exact absurd (nI_le q (by omega)) h1, rfl⟩
theorem or_bit {w : Int32} {z : Nat} (hz : z < 16) (h : ∀ i, 16 ≤ i → bt w i = false) : ∀ i, 16 ≤ i → bt (w ||| ((1 : Int32) <<< (nI z &&& 31))) i = false := by
  intro i hi
  rcases Nat.lt_or_ge i 32 with q | q
  · rw [b_or, h i hi, bt_one (by omega) q, decide_eq_false (by omega)]; rfl
  · exact b_big q
theorem i_or0 (x : Int32) : x ||| 0 = x := by
  apply b_ext
  intro i hi
  rw [b_or, b_0, Bool.or_false]
theorem rA.reads {v T : Nat} {FI : Nat → Nat → Int32} {FA : Nat → Nat → Nat → Int32} {ri rv mi : Nat → Int32} {ma : Nat → Nat → Int32} (x : Int32) (h : rA v T FI FA ri rv mi ma) : rA v (T + 1) FI FA (s_rd ri x) rv (m_rd mi x) ma := by
  have h := rA.mono (Nat.le_succ T) h
  obtain ⟨g1, ⟨d0, d1, d2, d3, d4⟩, g3, g4, g5, g6, g7⟩ := h
  unfold s_rd m_rd
  by_cases e : s_in x = 0
  · rw [if_pos e, if_pos e, i_or0]
    exact ⟨g1, ⟨d0, d1, d2, d3, d4⟩, g3, g4, g5, g6, g7⟩
  · rw [if_neg e, if_neg e]
    refine ⟨g1, ⟨d0, d1, d2, ?_, d4⟩, g3, g4, g5, g6, g7⟩
    show ri 3 ||| _ = mi 5 ||| _
    rw [d3]
theorem rA.writes {v T z : Nat} {FI : Nat → Nat → Int32} {FA : Nat → Nat → Nat → Int32} {ri rv mi : Nat → Int32} {ma : Nat → Nat → Int32} (x : Int32) (hz : z < 16) (h : rA v T FI FA ri rv mi ma) : rA v (T + 1) FI FA (va_up ri 4 (ri 4 ||| ((1 : Int32) <<< (nI z &&& 31)))) (upd rv z x) (va_up (va_up mi 0 0) 6 (mi 6 ||| ((1 : Int32) <<< (nI z &&& 31)))) (va_up ma 9 (upd (ma 9) z x)) := by
  have h := rA.mono (Nat.le_succ T) h
  obtain ⟨g1, ⟨d0, d1, d2, d3, d4⟩, g3, g4, g5, g6, g7⟩ := h
  refine ⟨g1, ⟨d0, d1, d2, d3, ?_⟩, g3, g4, fun i hi => ?_, or_bit hz g6, fun k hk => ?_⟩
  · show ri 4 ||| _ = mi 6 ||| _
    rw [d4]
  · show upd rv z x i = upd (ma 9) z x i
    by_cases e : i = z
    · subst e; rw [pk_us, pk_us]
    · rw [pk_un e, pk_un e]; exact g5 i hi
  · obtain ⟨n, hh, lw, q1, q2⟩ := g7 k hk
    exact ⟨n, hh, lw, q1, q2.congr ⟨⟨rfl, rfl, rfl, rfl, rfl⟩, fun _ _ => ⟨rfl, rfl⟩, fun _ _ => rfl, fun _ _ => rfl⟩⟩
/-- the start -/
theorem rA.init {v : Nat} {w w2 : Int32} (h1 : 1 ≤ v) (h2 : v ≤ 16) (e1 : w = nI v) (e2 : w2 = nI v) : rA v 0 (fun _ => va_up (fun _ => 0) 0 w) (fun _ _ _ => 0) (va_up (fun _ => 0) 1 1) (fun _ => 0) (va_up (va_up (fun _ => 0) 3 1) 1 w2) (fun _ _ => 0) := by
  refine ⟨⟨h1, h2, e2⟩, ⟨rfl, rfl, rfl, rfl, rfl⟩, ⟨0, by omega, rfl⟩, ⟨0, by omega, rfl⟩, fun _ _ => rfl, fun z _ => b_0 z, fun k _ => ⟨0, 0, fun _ => 0, Nat.le_refl _, ?_⟩⟩
  exact ⟨⟨e1, rfl, rfl, rfl, rfl, Nat.le_refl _, by omega⟩, ⟨rfl, rfl, rfl⟩, fun _ _ => ⟨rfl, rfl⟩, fun _ _ _ _ _ => rfl, fun _ _ => ⟨rfl, Nat.le_refl _⟩, fun i i1 i2 _ => by omega⟩
theorem cl_eq (x : Int32) : ∃ v, 1 ≤ v ∧ v ≤ 16 ∧ s_max 1 (s_min (nI 16) x) = nI v ∧ s_cl x = nI v := by
  unfold s_cl s_max s_min
  by_cases h1 : 1 ≤ x
  · have h0 : ¬ x < 0 := fun q => absurd (Int32.lt_of_le_of_lt h1 q) (by decide)
    obtain ⟨j, hj, rfl⟩ := nI_of h0
    have hj1 : 1 ≤ j := (nI_leI (a := 1) (by decide) hj).mp h1
    rw [if_pos h1]
    by_cases h2 : nI j ≤ nI 16
    · have hj2 : j ≤ 16 := (nI_leI hj (by decide)).mp h2
      rw [if_pos h2]
      refine ⟨j, hj1, hj2, ?_, rfl⟩
      by_cases h3 : nI j < nI 16
      · rw [if_pos h3]
        by_cases h4 : (1 : Int32) < nI j
        · rw [if_pos h4]
        · rw [if_neg h4]
          have : ¬ 1 < j := fun q => h4 (nI_lt (a := 1) q hj)
          have : j = 1 := by omega
          subst this; rfl
      · rw [if_neg h3]
        have : ¬ j < 16 := fun q => h3 (nI_lt q (by decide))
        have : j = 16 := by omega
        subst this; decide
    · rw [if_neg h2]
      have h3 : ¬ nI j < nI 16 := fun q => h2 (Int32.le_of_lt q)
      rw [if_neg h3]
      exact ⟨16, by omega, by omega, by decide, rfl⟩
  · rw [if_neg h1]
    refine ⟨1, by omega, by omega, ?_, rfl⟩
    have hx : x < 1 := Int32.not_le.mp h1
    have h3 : x < nI 16 := Int32.lt_trans hx (by decide)
    rw [if_pos h3, if_neg (fun q => absurd (Int32.lt_trans hx q) (fun r => Int32.lt_irrefl r))]
    rfl
