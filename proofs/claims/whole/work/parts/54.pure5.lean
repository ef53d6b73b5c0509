theorem hk_iff (lw lx rw rx : Nat → Int32) (o : Int32) (b : Nat) : ∀ m k, (s_hk lw lx rw rx o b m k = 0 ∨ s_hk lw lx rw rx o b m k = 1) ∧ (s_hk lw lx rw rx o b m k = 1 ↔ ∀ t, t < m → s_max (lw (k + t)) o = s_max (lx (k + t)) o ∧ rw (b + (k + t)) = rx (b + (k + t))) := by
  intro m
  induction m with
  | zero => intro k; exact ⟨Or.inr rfl, fun _ t ht => by omega, fun _ => rfl⟩
  | succ m ih =>
    intro k
    unfold s_hk
    by_cases h1 : s_max (lw k) o = s_max (lx k) o
    · rw [if_pos h1]
      by_cases h2 : rw (b + k) = rx (b + k)
      · rw [if_pos h2]
        obtain ⟨i1, i2⟩ := ih (k + 1)
        refine ⟨i1, i2.trans ⟨fun q t ht => ?_, fun q t ht => ?_⟩⟩
        · cases t with
          | zero => exact ⟨h1, h2⟩
          | succ t => rw [show k + (t + 1) = k + 1 + t by omega]; exact q t (by omega)
        · rw [show k + 1 + t = k + (t + 1) by omega]; exact q (t + 1) (by omega)
      · rw [if_neg h2]
        exact ⟨Or.inl rfl, fun q => absurd q (by decide), fun q => absurd (q 0 (by omega)).2 h2⟩
    · rw [if_neg h1]
      exact ⟨Or.inl rfl, fun q => absurd q (by decide), fun q => absurd (q 0 (by omega)).1 h1⟩
theorem hs_iff (q q2 v v2 : Nat → Int32) : ∀ m k, (s_hs q q2 v v2 m k = 0 ∨ s_hs q q2 v v2 m k = 1) ∧ (s_hs q q2 v v2 m k = 1 ↔ ∀ t, t < m → q (k + t) = q2 (k + t) ∧ v (k + t) = v2 (k + t)) := by
  intro m
  induction m with
  | zero => intro k; exact ⟨Or.inr rfl, fun _ t ht => by omega, fun _ => rfl⟩
  | succ m ih =>
    intro k
    unfold s_hs
    by_cases h1 : q k = q2 k
    · rw [if_pos h1]
      by_cases h2 : v k = v2 k
      · rw [if_pos h2]
        obtain ⟨i1, i2⟩ := ih (k + 1)
        refine ⟨i1, i2.trans ⟨fun q t ht => ?_, fun q t ht => ?_⟩⟩
        · cases t with
          | zero => exact ⟨h1, h2⟩
          | succ t => rw [show k + (t + 1) = k + 1 + t by omega]; exact q t (by omega)
        · rw [show k + 1 + t = k + (t + 1) by omega]; exact q (t + 1) (by omega)
      · rw [if_neg h2]
        exact ⟨Or.inl rfl, fun q => absurd q (by decide), fun q => absurd (q 0 (by omega)).2 h2⟩
    · rw [if_neg h1]
      exact ⟨Or.inl rfl, fun q => absurd q (by decide), fun q => absurd (q 0 (by omega)).1 h1⟩
theorem sq_iff (s v va : Nat → Int32) (a b ra rb : Nat) : ∀ m k, (m_sq s v va a b ra rb m k = 0 ∨ m_sq s v va a b ra rb m k = 1) ∧ (m_sq s v va a b ra rb m k = 1 ↔ ∀ t, t < m → s (16 * a + (k + t)) = s (16 * b + (k + t)) ∧ v (16 * a + (k + t)) = v (16 * b + (k + t)) ∧ va (16 * ra + (k + t)) = va (16 * rb + (k + t))) := by
  intro m
  induction m with
  | zero => intro k; exact ⟨Or.inr rfl, fun _ t ht => by omega, fun _ => rfl⟩
  | succ m ih =>
    intro k
    unfold m_sq
    by_cases h1 : s (16 * a + k) = s (16 * b + k)
    · rw [if_pos h1]
      by_cases h2 : v (16 * a + k) = v (16 * b + k)
      · rw [if_pos h2]
        by_cases h3 : va (16 * ra + k) = va (16 * rb + k)
        · rw [if_pos h3]
          obtain ⟨i1, i2⟩ := ih (k + 1)
          refine ⟨i1, i2.trans ⟨fun q t ht => ?_, fun q t ht => ?_⟩⟩
          · cases t with
            | zero => exact ⟨h1, h2, h3⟩
            | succ t => rw [show k + (t + 1) = k + 1 + t by omega]; exact q t (by omega)
          · rw [show k + 1 + t = k + (t + 1) by omega]; exact q (t + 1) (by omega)
        · rw [if_neg h3]
          exact ⟨Or.inl rfl, fun q => absurd q (by decide), fun q => absurd (q 0 (by omega)).2.2 h3⟩
      · rw [if_neg h2]
        exact ⟨Or.inl rfl, fun q => absurd q (by decide), fun q => absurd (q 0 (by omega)).2.1 h2⟩
    · rw [if_neg h1]
      exact ⟨Or.inl rfl, fun q => absurd q (by decide), fun q => absurd (q 0 (by omega)).1 h1⟩
theorem sw_iff (wr : Nat → Int32) (a b n : Nat) : ∀ m j, (m_sw wr a b n m j = 0 ∨ m_sw wr a b n m j = 1) ∧ (m_sw wr a b n m j = 1 ↔ ∀ t, t < m → m_ws wr (64 * a) (n - (j + t) + 1) (n + 1 - (n - (j + t) + 1)) = m_ws wr (64 * b) (n - (j + t) + 1) (n + 1 - (n - (j + t) + 1))) := by
  intro m
  induction m with
  | zero => intro k; exact ⟨Or.inr rfl, fun _ t ht => by omega, fun _ => rfl⟩
  | succ m ih =>
    intro j
    unfold m_sw
    by_cases h1 : m_ws wr (64 * a) (n - j + 1) (n + 1 - (n - j + 1)) = m_ws wr (64 * b) (n - j + 1) (n + 1 - (n - j + 1))
    · rw [if_pos h1]
      obtain ⟨i1, i2⟩ := ih (j + 1)
      refine ⟨i1, i2.trans ⟨fun q t ht => ?_, fun q t ht => ?_⟩⟩
      · cases t with
        | zero => exact h1
        | succ t => rw [show j + (t + 1) = j + 1 + t by omega]; exact q t (by omega)
      · rw [show j + 1 + t = j + (t + 1) by omega]; exact q (t + 1) (by omega)
    · rw [if_neg h1]
      exact ⟨Or.inl rfl, fun q => absurd q (by decide), fun q => absurd (q 0 (by omega)) h1⟩
theorem smax_i {x n v : Nat} (hx : x < 2 ^ 30) (hn : n < 2 ^ 30) (hv : v ≤ 16) : (s_max (nI x) (nI n - nI v)).toInt = max (x : Int) ((n : Int) - v) := by
  have h1 : (nI x).toInt = (x : Int) := nI_toInt (by omega)
  have h2 := sub_i hn hv
  unfold s_max
  by_cases h : nI x < nI n - nI v
  · rw [if_pos h, h2]
    rw [Int32.lt_iff_toInt_lt, h1, h2] at h
    omega
  · rw [if_neg h, h1]
    rw [Int32.lt_iff_toInt_lt, h1, h2] at h
    omega
theorem ky_iff {l l2 : Nat → Int32} {b : Int32} : s_ky l b 16 = s_ky l2 b 16 ↔ ∀ t, t < 16 → (l t ≤ b ↔ l2 t ≤ b) := by
  constructor
  · intro h t ht
    have h1 := ky_bt l b 16 (by omega) t (by omega)
    have h2 := ky_bt l2 b 16 (by omega) t (by omega)
    rw [h, h2, decide_eq_true ht, Bool.true_and, Bool.true_and] at h1
    have h3 := decide_eq_decide.mp h1
    exact ⟨fun q => Classical.byContradiction (fun r => (h3.mp r) q), fun q => Classical.byContradiction (fun r => (h3.mpr r) q)⟩
  · intro h
    apply b_ext
    intro i hi
    rw [ky_bt l b 16 (by omega) i hi, ky_bt l2 b 16 (by omega) i hi]
    by_cases e : i < 16
    · rw [decide_eq_decide.mpr (not_congr (h i e))]
    · rw [decide_eq_false e, Bool.false_and, Bool.false_and]
theorem max_iff {x y n v : Nat} (hx : x ≤ n) (hy : y ≤ n) : max (x : Int) ((n : Int) - v) = max (y : Int) ((n : Int) - v) ↔ ∀ j, j < v + 1 → (x ≤ n - j ↔ y ≤ n - j) := by
  constructor
  · intro h j hj
    omega
  · intro h
    have h1 := h (n - max x (n - v)) (by omega)
    have h2 := h (n - max y (n - v)) (by omega)
    omega
/-- same -/
theorem same_eq {v a b n ha nb hb : Nat} {fi gi : Nat → Int32} {fa ga ma : Nat → Nat → Int32} {la lb : Nat → Nat} (hF : rF v a fi fa ma n ha la) (hG : rF v b gi ga ma nb hb lb) (hn : n < 2 ^ 30) (hnb : nb < 2 ^ 30) (hv : v ≤ 16) : s_like fi fa gi ga n = 0 ↔ m_sm ma a b n v = 0 := by
  obtain ⟨⟨a1, a2, a3, a4, a5, a6, a7⟩, -, g2, g3, g4, g5⟩ := hF
  obtain ⟨⟨c1, c2, c3, c4, c5, c6, c7⟩, -, d2, d3, d4, d5⟩ := hG
  unfold s_like m_sm
  rw [a1, a2, a3, c2, c3]
  by_cases hnn : nI n = nI nb
  · have hnn2 : n = nb := (nI_eq (by omega) (by omega)).mp hnn
    subst hnn2
    rw [if_pos rfl, if_pos rfl]
    obtain ⟨k1, k2⟩ := hk_iff (fa 1) (ga 1) (fa 0) (ga 0) (nI n - nI v) (n % 17 * 16) 16 0
    obtain ⟨s1, s2⟩ := hs_iff (fa 2) (ga 2) (fa 3) (ga 3) 16 0
    obtain ⟨q1, q2⟩ := sq_iff (ma 5) (ma 6) (ma 8) a b (64 * a + n % 64) (64 * b + n % 64) 16 0
    obtain ⟨w1, w2⟩ := sw_iff (ma 7) a b n (v + 1) 0
    have hL : (∀ t, t < 16 → s_max (fa 1 t) (nI n - nI v) = s_max (ga 1 t) (nI n - nI v)) ↔ ∀ t, t < v + 1 → m_ws (ma 7) (64 * a) (n - (0 + t) + 1) (n + 1 - (n - (0 + t) + 1)) = m_ws (ma 7) (64 * b) (n - (0 + t) + 1) (n + 1 - (n - (0 + t) + 1)) := by
      have e1 : (∀ t, t < 16 → s_max (fa 1 t) (nI n - nI v) = s_max (ga 1 t) (nI n - nI v)) ↔ ∀ t, t < 16 → ∀ j, j < v + 1 → (la t ≤ n - j ↔ lb t ≤ n - j) := by
        constructor
        · intro h t ht
          have h1 := h t ht
          rw [(g4 t ht).1, (d4 t ht).1] at h1
          have h2 := congrArg Int32.toInt h1
          rw [smax_i (by have := (g4 t ht).2; omega) hn hv, smax_i (by have := (d4 t ht).2; omega) hn hv] at h2
          exact (max_iff (g4 t ht).2 (d4 t ht).2).mp h2
        · intro h t ht
          rw [(g4 t ht).1, (d4 t ht).1]
          apply Int32.toInt_inj.mp
          rw [smax_i (by have := (g4 t ht).2; omega) hn hv, smax_i (by have := (d4 t ht).2; omega) hn hv]
          exact (max_iff (g4 t ht).2 (d4 t ht).2).mpr (h t ht)
      rw [e1]
      have e2 : ∀ j, j < v + 1 → (m_ws (ma 7) (64 * a) (n - (0 + j) + 1) (n + 1 - (n - (0 + j) + 1)) = m_ws (ma 7) (64 * b) (n - (0 + j) + 1) (n + 1 - (n - (0 + j) + 1)) ↔ ∀ t, t < 16 → (la t ≤ n - j ↔ lb t ≤ n - j)) := by
        intro j hj
        rw [Nat.zero_add, ← mask_eq g5 g4 hn (by omega) (by omega), ← mask_eq d5 d4 hn (by omega) (by omega), ky_iff]
        constructor
        · intro h t ht
          have h1 := h t ht
          have := (g4 t ht).2
          have := (d4 t ht).2
          rw [(g4 t ht).1, (d4 t ht).1, nI_leI (by omega) (by omega), nI_leI (by omega) (by omega)] at h1
          exact h1
        · intro h t ht
          have := (g4 t ht).2
          have := (d4 t ht).2
          rw [(g4 t ht).1, (d4 t ht).1, nI_leI (by omega) (by omega), nI_leI (by omega) (by omega)]
          exact h t ht
      constructor
      · intro h j hj
        exact (e2 j hj).mpr (fun t ht => h t ht j hj)
      · intro h t ht j hj
        exact (e2 j hj).mp (h j hj) t ht
    have hR : ∀ t, t < 16 → (fa 0 (n % 17 * 16 + t) = ga 0 (n % 17 * 16 + t) ↔ ma 8 (16 * (64 * a + n % 64) + t) = ma 8 (16 * (64 * b + n % 64) + t)) := by
      intro t ht
      rw [g3 n (by omega) (by omega) t ht, d3 n (by omega) (by omega) t ht]
    have key : (s_hk (fa 1) (ga 1) (fa 0) (ga 0) (nI n - nI v) (n % 17 * 16) 16 0 = 1 ∧ s_hs (fa 2) (ga 2) (fa 3) (ga 3) 16 0 = 1) ↔ (m_sq (ma 5) (ma 6) (ma 8) a b (64 * a + n % 64) (64 * b + n % 64) 16 0 = 1 ∧ m_sw (ma 7) a b n (v + 1) 0 = 1) := by
      rw [k2, s2, q2, w2]
      simp only [Nat.zero_add]
      simp only [Nat.zero_add] at hL
      constructor
      · rintro ⟨h1, h2⟩
        refine ⟨fun t ht => ⟨?_, ?_, (hR t ht).mp (h1 t ht).2⟩, hL.mp (fun t ht => (h1 t ht).1)⟩
        · rw [← (g2 t ht).1, ← (d2 t ht).1]; exact (h2 t ht).1
        · rw [← (g2 t ht).2, ← (d2 t ht).2]; exact (h2 t ht).2
      · rintro ⟨h1, h2⟩
        refine ⟨fun t ht => ⟨hL.mpr h2 t ht, (hR t ht).mpr (h1 t ht).2.2⟩, fun t ht => ⟨?_, ?_⟩⟩
        · rw [(g2 t ht).1, (d2 t ht).1]; exact (h1 t ht).1
        · rw [(g2 t ht).2, (d2 t ht).2]; exact (h1 t ht).2.1
    rcases k1 with k1 | k1
    · rw [if_pos k1]
      rcases q1 with q1 | q1
      · rw [if_pos q1]
      · rw [if_neg (by rw [q1]; decide)]
        rcases w1 with w1 | w1
        · rw [w1]
        · exact absurd (key.mpr ⟨q1, w1⟩).1 (by rw [k1]; decide)
    · rw [if_neg (by rw [k1]; decide)]
      rcases s1 with s1 | s1
      · rw [if_pos s1]
        rcases q1 with q1 | q1
        · rw [if_pos q1]
        · rw [if_neg (by rw [q1]; decide)]
          rcases w1 with w1 | w1
          · rw [w1]
          · exact absurd (key.mpr ⟨q1, w1⟩).2 (by rw [s1]; decide)
      · rw [if_neg (by rw [s1]; decide)]
        obtain ⟨q3, w3⟩ := key.mp ⟨k1, s1⟩
        rw [if_neg (by rw [q3]; decide), w3]
  · rw [if_neg hnn, if_neg hnn]
