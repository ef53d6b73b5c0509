/-- a fold of the class (its fields fi, its arrays fa) and the fold k of the reference: n the index, h the horizon, lw the last writes -/
def rF (v k : Nat) (fi : Nat → Int32) (fa : Nat → Nat → Int32) (ma : Nat → Nat → Int32) (n h : Nat) (lw : Nat → Nat) : Prop :=
  (fi 0 = nI v ∧ fi 1 = nI n ∧ ma 0 k = nI n ∧ fi 2 = nI h ∧ ma 1 k = nI h ∧ h ≤ n ∧ n ≤ h + v) ∧ (fi 3 = ma 2 k ∧ fi 4 = ma 3 k ∧ fi 5 = ma 4 k) ∧
  (∀ s, s < 16 → fa 2 s = ma 5 (16 * k + s) ∧ fa 3 s = ma 6 (16 * k + s)) ∧
  (∀ i, h ≤ i → i ≤ n → ∀ z, z < 16 → fa 0 (i % 17 * 16 + z) = ma 8 (16 * (64 * k + i % 64) + z)) ∧
  (∀ z, z < 16 → fa 1 z = nI (lw z) ∧ lw z ≤ n) ∧ rW k (ma 7) n lw
/-- two references have the fold j alike -/
def agF (j : Nat) (ma mb : Nat → Nat → Int32) : Prop :=
  (mb 0 j = ma 0 j ∧ mb 1 j = ma 1 j ∧ mb 2 j = ma 2 j ∧ mb 3 j = ma 3 j ∧ mb 4 j = ma 4 j) ∧ (∀ s, s < 16 → mb 5 (16 * j + s) = ma 5 (16 * j + s) ∧ mb 6 (16 * j + s) = ma 6 (16 * j + s)) ∧
  (∀ t, t < 64 → mb 7 (64 * j + t) = ma 7 (64 * j + t)) ∧ (∀ t, t < 1024 → mb 8 (1024 * j + t) = ma 8 (1024 * j + t))
theorem ix8 (k i z : Nat) : 16 * (64 * k + i % 64) + z = 1024 * k + (16 * (i % 64) + z) := by omega
theorem rF.congr {v j n h : Nat} {fi : Nat → Int32} {fa ma mb : Nat → Nat → Int32} {lw : Nat → Nat} (hF : rF v j fi fa ma n h lw) (hA : agF j ma mb) : rF v j fi fa mb n h lw := by
  obtain ⟨⟨a1, a2, a3, a4, a5, a6, a7⟩, ⟨b1, b2, b3⟩, h2, h3, h4, h5⟩ := hF
  obtain ⟨⟨c0, c1, c2, c3, c4⟩, d1, d2, d3⟩ := hA
  refine ⟨⟨a1, a2, by rw [c0]; exact a3, a4, by rw [c1]; exact a5, a6, a7⟩, ⟨by rw [c2]; exact b1, by rw [c3]; exact b2, by rw [c4]; exact b3⟩, fun s hs => ?_, fun i i1 i2 z hz => ?_, h4, fun i i1 i2 i3 => ?_⟩
  · rw [(d1 s hs).1, (d1 s hs).2]; exact h2 s hs
  · rw [h3 i i1 i2 z hz, ix8, d3 _ (by omega)]
  · rw [d2 (i % 64) (by omega)]; exact h5 i i1 i2 i3
theorem mcp_out (f : Nat → Int32) (d s : Nat) : ∀ (m p : Nat), (p < d ∨ d + m ≤ p) → m_cp f d s m p = f p := by
  intro m
  induction m with
  | zero => intro p _; rfl
  | succ m ih =>
    intro p h
    unfold m_cp
    rw [pk_un (by omega), ih p (by omega)]
theorem mcp_in (f : Nat → Int32) (d s M : Nat) (hd : s + M ≤ d ∨ d + M ≤ s) : ∀ (m : Nat), m ≤ M → ∀ t, t < m → m_cp f d s m (d + t) = f (s + t) := by
  intro m
  induction m with
  | zero => intro _ t ht; omega
  | succ m ih =>
    intro hm t ht
    unfold m_cp
    by_cases e : t = m
    · subst e
      rw [pk_us, mcp_out f d s t (s + t) (by omega)]
    · rw [pk_un (by omega), ih (by omega) t (by omega)]
theorem mz_out (f : Nat → Int32) (d : Nat) : ∀ (m p : Nat), (p < d ∨ d + m ≤ p) → m_z f d m p = f p := by
  intro m
  induction m with
  | zero => intro p _; rfl
  | succ m ih =>
    intro p h
    unfold m_z
    rw [pk_un (by omega), ih p (by omega)]
theorem mz_in (f : Nat → Int32) (d : Nat) : ∀ (m t : Nat), t < m → m_z f d m (d + t) = 0 := by
  intro m
  induction m with
  | zero => intro t ht; omega
  | succ m ih =>
    intro t ht
    unfold m_z
    by_cases e : t = m
    · subst e; rw [pk_us]
    · rw [pk_un (by omega), ih t (by omega)]
theorem fill_in (f : Nat → Int32) : ∀ (m t : Nat), t < m → s_fill 0 f m t = 0 := by
  intro m
  induction m with
  | zero => intro t ht; omega
  | succ m ih =>
    intro t ht
    unfold s_fill
    by_cases e : t = m
    · subst e; rw [pk_us]
    · rw [pk_un (by omega), ih t (by omega)]
theorem mav_out (w : Int32) (dr : Nat → Int32) (at_ bf : Nat) (va : Nat → Int32) : ∀ (m p : Nat), (p < 16 * at_ ∨ 16 * at_ + m ≤ p) → m_av w dr at_ bf va m p = va p := by
  intro m
  induction m with
  | zero => intro p _; rfl
  | succ m ih =>
    intro p h
    unfold m_av
    rw [pk_un (by omega), ih p (by omega)]
theorem mav_in (w : Int32) (dr : Nat → Int32) (at_ bf : Nat) (va : Nat → Int32) (hd : at_ ≠ bf) : ∀ (m : Nat), m ≤ 16 → ∀ t, t < m → m_av w dr at_ bf va m (16 * at_ + t) = (if bt w t = true then dr t else va (16 * bf + t)) := by
  intro m
  induction m with
  | zero => intro _ t ht; omega
  | succ m ih =>
    intro hm t ht
    unfold m_av
    by_cases e : t = m
    · subst e
      rw [pk_us, mav_out w dr at_ bf va t (16 * bf + t) (by omega)]
      by_cases hbit : bt w t = true
      · rw [if_pos ((bt_sh (by omega)).mpr hbit), if_pos hbit]
      · rw [if_neg (fun q => hbit ((bt_sh (by omega)).mp q)), if_neg hbit]
    · rw [pk_un (by omega), ih (by omega) t (by omega)]
/-- store: its arrays -/
theorem st_rest (w : Int32) (vs : Nat → Int32) (n : Nat) (fa : Nat → Nat → Int32) : ∀ m, s_st w vs n fa m 2 = fa 2 ∧ s_st w vs n fa m 3 = fa 3 := by
  intro m
  induction m with
  | zero => exact ⟨rfl, rfl⟩
  | succ m ih =>
    unfold s_st
    split
    · exact ih
    · exact ih
theorem st_0out (w : Int32) (vs : Nat → Int32) (n : Nat) (fa : Nat → Nat → Int32) : ∀ (m p : Nat), (p < n % 17 * 16 ∨ n % 17 * 16 + m ≤ p) → s_st w vs n fa m 0 p = fa 0 p := by
  intro m
  induction m with
  | zero => intro p _; rfl
  | succ m ih =>
    intro p h
    unfold s_st
    split
    · exact ih p (by omega)
    · show upd (s_st w vs n fa m 0) (n % 17 * 16 + m) (vs m) p = _
      rw [pk_un (by omega), ih p (by omega)]
theorem st_0in (w : Int32) (vs : Nat → Int32) (n : Nat) (fa : Nat → Nat → Int32) : ∀ (m : Nat), m ≤ 16 → ∀ t, t < m → s_st w vs n fa m 0 (n % 17 * 16 + t) = (if bt w t = true then vs t else fa 0 (n % 17 * 16 + t)) := by
  intro m
  induction m with
  | zero => intro _ t ht; omega
  | succ m ih =>
    intro hm t ht
    unfold s_st
    by_cases hz : w &&& ((1 : Int32) <<< (nI m &&& 31)) = 0
    · rw [if_pos hz]
      by_cases e : t = m
      · subst e
        rw [st_0out w vs n fa t _ (by omega), if_neg (by rw [(bt_and (by omega)).mp hz]; decide)]
      · exact ih (by omega) t (by omega)
    · rw [if_neg hz]
      show upd (s_st w vs n fa m 0) (n % 17 * 16 + m) (vs m) _ = _
      by_cases e : t = m
      · subst e
        have hb : bt w t = true := by
          cases hq : bt w t with
          | true => rfl
          | false => exact absurd ((bt_and (by omega)).mpr hq) hz
        rw [pk_us, if_pos hb]
      · rw [pk_un (by omega), ih (by omega) t (by omega)]
theorem st_1 (w : Int32) (vs : Nat → Int32) (n : Nat) (fa : Nat → Nat → Int32) : ∀ (m : Nat), m ≤ 16 → ∀ t, s_st w vs n fa m 1 t = (if t < m ∧ bt w t = true then nI n else fa 1 t) := by
  intro m
  induction m with
  | zero => intro _ t; rw [if_neg (by omega)]; rfl
  | succ m ih =>
    intro hm t
    unfold s_st
    by_cases hz : w &&& ((1 : Int32) <<< (nI m &&& 31)) = 0
    · rw [if_pos hz, ih (by omega) t]
      have hb := (bt_and (by omega)).mp hz
      by_cases e : t = m
      · subst e; simp [hb]
      · have : (t < m + 1) ↔ t < m := by omega
        simp [this]
    · rw [if_neg hz]
      show upd (s_st w vs n fa m 1) m (nI n) t = _
      have hb : bt w m = true := by
        cases hq : bt w m with
        | true => rfl
        | false => exact absurd ((bt_and (by omega)).mpr hq) hz
      by_cases e : t = m
      · subst e; rw [pk_us, if_pos ⟨by omega, hb⟩]
      · rw [pk_un e, ih (by omega) t]
        have : (t < m + 1) ↔ t < m := by omega
        simp [this]
theorem sub_i {n v : Nat} (hn : n < 2 ^ 30) (hv : v ≤ 16) : (nI n - nI v).toInt = (n : Int) - v := pk_sub_toInt hn (by omega)
/-- both decide alike -/
theorem dec_eq {v k n h b se : Nat} {fi ri mi : Nat → Int32} {fa ma : Nat → Nat → Int32} {lw : Nat → Nat} (hF : rF v k fi fa ma n h lw) (hn : n < 900000) (hv : v ≤ 16) (hver : mi 1 = nI v) (h1 : ri 1 = mi 3) (h2 : ri 2 = mi 4) (h3 : ri 3 = mi 5) (hs16 : se < 16) (hsn : mi 4 = nI b) (hb : b < 2 ^ 31) :
    s_dec fi fa ri se = m_dec mi ma k n se b := by
  obtain ⟨⟨a1, a2, a3, a4, a5, a6, a7⟩, ⟨b1, b2, b3⟩, g2, g3, g4, g5⟩ := hF
  unfold s_dec m_dec
  rw [a1, a2, a3, h1, h2, h3, hver, (g2 se hs16).1, hsn]
  have hbig : ¬ nI 1000000 ≤ nI n := nI_ge (by omega) (by decide)
  rw [if_neg hbig, if_neg hbig]
  by_cases hle : nI b ≤ nI n
  · rw [if_pos hle, if_pos hle]
    have hbn : b ≤ n := (nI_leI hb (by omega)).mp hle
    by_cases hq : ma 5 (16 * k + se) < mi 3
    · rw [if_pos hq, if_pos hq]
      by_cases hlt : nI b < nI n - nI v
      · rw [if_pos hlt, if_neg (Int32.not_le.mpr hlt)]
      · have hge : nI n - nI v ≤ nI b := Int32.not_lt.mp hlt
        have hnb : n ≤ b + v := by
          rw [Int32.le_iff_toInt_le, sub_i (by omega) hv, nI_toInt hb] at hge
          omega
        have hm : s_max (nI b) 0 = nI b := by unfold s_max; rw [if_neg (nI_pos hb)]
        rw [if_pos hge, if_neg hlt, hm, mask_eq g5 g4 (by omega) hbn (by omega), Int32.and_comm]
    · rw [if_neg hq, if_neg hq]
  · rw [if_neg hle, if_neg hle]
/-- the horizon of a fold whose index has become n -/
theorem hz_eq {n h v : Nat} (hn : n < 2 ^ 30) (hh : h ≤ n) (hv : v ≤ 16) : s_max (nI h) (nI n - nI v) = nI (max h (n - v)) ∧ (if nI n - nI v ≤ nI h then nI h else nI n - nI v) = nI (max h (n - v)) := by
  have hi : (nI h).toInt = (h : Int) := nI_toInt (by omega)
  by_cases hlt : nI h < nI n - nI v
  · have h1 : h < n - v := by
      rw [Int32.lt_iff_toInt_lt, sub_i hn hv, hi] at hlt
      omega
    have h2 : nI n - nI v = nI (n - v) := pk_sub (by omega)
    unfold s_max
    rw [if_pos hlt, if_neg (Int32.not_le.mpr hlt), h2, Nat.max_eq_right (by omega)]
    exact ⟨rfl, rfl⟩
  · have h1 : n - v ≤ h := by
      rw [Int32.lt_iff_toInt_lt, sub_i hn hv, hi] at hlt
      omega
    unfold s_max
    rw [if_neg hlt, if_pos (Int32.not_lt.mp hlt), Nat.max_eq_left h1]
    exact ⟨rfl, rfl⟩
