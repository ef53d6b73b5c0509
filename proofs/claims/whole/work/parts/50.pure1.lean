def bt (x : Int32) (i : Nat) : Bool := x.toBitVec.getLsbD i
theorem b_ext {x y : Int32} (h : ∀ i, i < 32 → bt x i = bt y i) : x = y := Int32.toBitVec_inj.mp (BitVec.eq_of_getLsbD_eq (fun i hi => h i hi))
theorem b_or (x y : Int32) (i : Nat) : bt (x ||| y) i = (bt x i || bt y i) := by unfold bt; rw [Int32.toBitVec_or, BitVec.getLsbD_or]
theorem b_and (x y : Int32) (i : Nat) : bt (x &&& y) i = (bt x i && bt y i) := by unfold bt; rw [Int32.toBitVec_and, BitVec.getLsbD_and]
theorem b_big {x : Int32} {i : Nat} (h : 32 ≤ i) : bt x i = false := BitVec.getLsbD_of_ge _ _ h
theorem b_0 (i : Nat) : bt 0 i = false := BitVec.getLsbD_zero
theorem s_l : ∀ n, n < 32 → ((nI n &&& 31).toBitVec.smod 32).toNat = n := by decide +kernel
theorem b_shl (n : Nat) (hn : n < 32) (x : Int32) {i : Nat} (hi : i < 32) : bt (x <<< (nI n &&& 31)) i = (decide (n ≤ i) && bt x (i - n)) := by
  unfold bt
  rw [Int32.toBitVec_shiftLeft]
  show (x.toBitVec <<< ((nI n &&& 31).toBitVec.smod 32).toNat).getLsbD i = _
  rw [s_l n hn, BitVec.getLsbD_shiftLeft]
  rcases Nat.lt_or_ge i n with h | h
  · simp [h, Nat.not_le.mpr h]
  · simp [hi, h, Nat.not_lt.mpr h]
theorem b_sshr (n : Nat) (hn : n < 32) (x : Int32) {i : Nat} (hi : i < 32) : bt (x >>> (nI n &&& 31)) i = if n + i < 32 then bt x (n + i) else bt x 31 := by
  unfold bt
  rw [Int32.toBitVec_shiftRight]
  show (x.toBitVec.sshiftRight ((nI n &&& 31).toBitVec.smod 32).toNat).getLsbD i = _
  rw [s_l n hn, BitVec.getLsbD_sshiftRight, BitVec.msb_eq_getLsbD_last]
  simp [hi]
theorem b_1 : ∀ i, i < 32 → bt 1 i = decide (i = 0) := by decide +kernel
theorem bt_one {n i : Nat} (hn : n < 32) (hi : i < 32) : bt ((1 : Int32) <<< (nI n &&& 31)) i = decide (i = n) := by
  rw [b_shl n hn 1 hi, b_1 (i - n) (by omega)]
  by_cases h : n ≤ i
  · by_cases h2 : i = n
    · subst h2; simp
    · have : ¬ (i - n = 0) := by omega
      simp [h2, this]
  · have : ¬ i = n := by omega
    simp [h, this]
theorem bt_and {w : Int32} {k : Nat} (hk : k < 32) : w &&& ((1 : Int32) <<< (nI k &&& 31)) = 0 ↔ bt w k = false := by
  constructor
  · intro h
    have h1 := b_and w ((1 : Int32) <<< (nI k &&& 31)) k
    rw [h, b_0, bt_one hk hk] at h1
    simpa using h1.symm
  · intro h
    apply b_ext
    intro i hi
    rw [b_and, b_0, bt_one hk hi]
    by_cases e : i = k
    · subst e; simp [h]
    · simp [e]
theorem bt_sh {w : Int32} {k : Nat} (hk : k < 32) : w >>> (nI k &&& 31) &&& 1 = 1 ↔ bt w k = true := by
  have key : ∀ i, i < 32 → bt (w >>> (nI k &&& 31) &&& 1) i = (bt w k && decide (i = 0)) := by
    intro i hi
    rw [b_and, b_1 i hi]
    by_cases e : i = 0
    · subst e
      rw [b_sshr k hk w (by omega), if_pos (by omega)]
      simp
    · simp [e]
  constructor
  · intro h
    have h1 := key 0 (by omega)
    rw [h, b_1 0 (by omega)] at h1
    simpa using h1.symm
  · intro h
    apply b_ext
    intro i hi
    rw [key i hi, h, b_1 i hi]
    simp
theorem ky_bt (lw : Nat → Int32) (b : Int32) : ∀ n, n ≤ 16 → ∀ i, i < 32 → bt (s_ky lw b n) i = (decide (i < n) && decide (¬ lw i ≤ b)) := by
  intro n
  induction n with
  | zero => intro _ i hi; simp [s_ky, b_0]
  | succ n ih =>
    intro hn i hi
    unfold s_ky
    by_cases h : lw n ≤ b
    · rw [if_pos h, ih (by omega) i hi]
      by_cases e : i = n
      · subst e; simp [h]
      · have : (i < n + 1) ↔ i < n := by omega
        simp [this]
    · rw [if_neg h, b_or, ih (by omega) i hi, bt_one (by omega) hi]
      by_cases e : i = n
      · subst e; simp [h]
      · have : (i < n + 1) ↔ i < n := by omega
        simp [this, e]
theorem ws_bt (wr : Nat → Int32) (b a : Nat) : ∀ (j i : Nat), bt (m_ws wr b a j) i = true ↔ ∃ t, t < j ∧ bt (wr (b + (a + t) % 64)) i = true := by
  intro j
  induction j with
  | zero => intro i; simp [m_ws, b_0]
  | succ j ih =>
    intro i
    unfold m_ws
    rw [b_or, Bool.or_eq_true, ih i]
    constructor
    · rintro (⟨t, h1, h2⟩ | h)
      · exact ⟨t, by omega, h2⟩
      · exact ⟨j, by omega, h⟩
    · rintro ⟨t, h1, h2⟩
      by_cases e : t = j
      · subst e; exact Or.inr h2
      · exact Or.inl ⟨t, by omega, h2⟩
/-- the sets of the last 64 requests tell the last writes -/
def rW (k : Nat) (wr : Nat → Int32) (n : Nat) (lw : Nat → Nat) : Prop := ∀ i, 1 ≤ i → i ≤ n → n < i + 64 →
  (∀ z, z < 16 → (bt (wr (64 * k + i % 64)) z = true → i ≤ lw z) ∧ (i = lw z → bt (wr (64 * k + i % 64)) z = true)) ∧ ∀ z, 16 ≤ z → bt (wr (64 * k + i % 64)) z = false
theorem mask_eq {k n b : Nat} {lw : Nat → Nat} {wr l : Nat → Int32} (hW : rW k wr n lw) (hl : ∀ z, z < 16 → l z = nI (lw z) ∧ lw z ≤ n) (hn : n < 2 ^ 30) (hb : b ≤ n) (hr : n < b + 64) : s_ky l (nI b) 16 = m_ws wr (64 * k) (b + 1) (n + 1 - (b + 1)) := by
  apply b_ext
  intro i hi
  rw [ky_bt l (nI b) 16 (by omega) i hi]
  by_cases h16 : i < 16
  · obtain ⟨e1, e2⟩ := hl i h16
    have hle : l i ≤ nI b ↔ lw i ≤ b := by rw [e1]; exact nI_leI (by omega) (by omega)
    by_cases hlt : b < lw i
    · have h2 : ¬ l i ≤ nI b := fun q => by have := hle.mp q; omega
      have h3 : bt (m_ws wr (64 * k) (b + 1) (n + 1 - (b + 1))) i = true := by
        rw [ws_bt]
        refine ⟨lw i - (b + 1), by omega, ?_⟩
        rw [show b + 1 + (lw i - (b + 1)) = lw i by omega]
        exact ((hW (lw i) (by omega) e2 (by omega)).1 i h16).2 rfl
      rw [h3]; simp [h16, h2]
    · have h2 : l i ≤ nI b := hle.mpr (by omega)
      have h3 : ¬ bt (m_ws wr (64 * k) (b + 1) (n + 1 - (b + 1))) i = true := by
        rw [ws_bt]
        rintro ⟨t, h4, h5⟩
        have := ((hW (b + 1 + t) (by omega) (by omega) (by omega)).1 i h16).1 h5
        omega
      rw [Bool.not_eq_true] at h3
      rw [h3]; simp [h2]
  · have h3 : ¬ bt (m_ws wr (64 * k) (b + 1) (n + 1 - (b + 1))) i = true := by
      rw [ws_bt]
      rintro ⟨t, h4, h5⟩
      have := (hW (b + 1 + t) (by omega) (by omega) (by omega)).2 i (by omega)
      rw [this] at h5
      cases h5
    rw [Bool.not_eq_true] at h3
    rw [h3]; simp [h16]
