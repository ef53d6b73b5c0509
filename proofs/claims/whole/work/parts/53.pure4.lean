theorem cpy_in {f g : Nat → Int32} {m t : Nat} (h : t < m) : va_cpy f g 0 0 m t = f t := by
  rw [pk_cpy_in (Nat.zero_le _) (by omega)]
  congr 1
  omega
/-- take: fold b becomes as fold a is -/
theorem tk_step {v a b na ha : Nat} {fi gi : Nat → Int32} {fa ga ma : Nat → Nat → Int32} {la : Nat → Nat} (hF : rF v a fi fa ma na ha la) (hg0 : gi 0 = nI v) (hab : a ≠ b) (ha4 : a < 4) (hb4 : b < 4) :
    rF v b (s_bei gi fi) (s_bea ga fa) (m_tk ma a b) na na la ∧ (∀ j, j ≠ b → agF j ma (m_tk ma a b)) ∧ m_tk ma a b 9 = ma 9 := by
  obtain ⟨⟨a1, a2, a3, a4, a5, a6, a7⟩, ⟨b1, b2, b3⟩, g2, g3, g4, g5⟩ := hF
  refine ⟨⟨⟨hg0, a2, ?_, a2, ?_, Nat.le_refl _, by omega⟩, ⟨?_, ?_, ?_⟩, fun s hs => ⟨?_, ?_⟩, fun i i1 i2 z hz => ?_, fun z hz => ⟨?_, (g4 z hz).2⟩, fun i i1 i2 i3 => ?_⟩, fun j hj => ⟨⟨?_, ?_, ?_, ?_, ?_⟩, fun s hs => ⟨?_, ?_⟩, fun t ht => ?_, fun t ht => ?_⟩, rfl⟩
  · show upd (ma 0) b (ma 0 a) b = _; rw [pk_us]; exact a3
  · show upd (ma 1) b (upd (ma 0) b (ma 0 a) a) b = _; rw [pk_us, pk_un hab]; exact a3
  · show fi 3 = upd (ma 2) b (ma 2 a) b; rw [pk_us]; exact b1
  · show fi 4 = upd (ma 3) b (ma 3 a) b; rw [pk_us]; exact b2
  · show fi 5 = upd (ma 4) b (ma 4 a) b; rw [pk_us]; exact b3
  · show va_cpy (fa 2) (ga 2) 0 0 16 s = m_cp (ma 5) (16 * b) (16 * a) 16 (16 * b + s)
    rw [cpy_in hs, mcp_in _ _ _ 16 (by omega) 16 (Nat.le_refl _) s hs]; exact (g2 s hs).1
  · show va_cpy (fa 3) (ga 3) 0 0 16 s = m_cp (ma 6) (16 * b) (16 * a) 16 (16 * b + s)
    rw [cpy_in hs, mcp_in _ _ _ 16 (by omega) 16 (Nat.le_refl _) s hs]; exact (g2 s hs).2
  · show va_cpy (fa 0) (ga 0) 0 0 272 (i % 17 * 16 + z) = m_cp (ma 8) (1024 * b) (1024 * a) 1024 (16 * (64 * b + i % 64) + z)
    rw [cpy_in (by omega), ix8, mcp_in _ _ _ 1024 (by omega) 1024 (Nat.le_refl _) _ (by omega), g3 i (by omega) i2 z hz, ix8]
  · show va_cpy (fa 1) (ga 1) 0 0 16 z = _
    rw [cpy_in hz]; exact (g4 z hz).1
  · have e : m_tk ma a b 7 (64 * b + i % 64) = ma 7 (64 * a + i % 64) := by
      show m_cp (ma 7) (64 * b) (64 * a) 64 (64 * b + i % 64) = _
      exact mcp_in _ _ _ 64 (by omega) 64 (Nat.le_refl _) _ (by omega)
    rw [e]; exact g5 i i1 i2 i3
  · show upd (ma 0) b _ j = _; exact pk_un hj
  · show upd (ma 1) b _ j = _; exact pk_un hj
  · show upd (ma 2) b _ j = _; exact pk_un hj
  · show upd (ma 3) b _ j = _; exact pk_un hj
  · show upd (ma 4) b _ j = _; exact pk_un hj
  · show m_cp (ma 5) (16 * b) (16 * a) 16 (16 * j + s) = _; exact mcp_out _ _ _ 16 _ (by omega)
  · show m_cp (ma 6) (16 * b) (16 * a) 16 (16 * j + s) = _; exact mcp_out _ _ _ 16 _ (by omega)
  · show m_cp (ma 7) (64 * b) (64 * a) 64 (64 * j + t) = _; exact mcp_out _ _ _ 64 _ (by omega)
  · show m_cp (ma 8) (1024 * b) (1024 * a) 1024 (1024 * j + t) = _; exact mcp_out _ _ _ 1024 _ (by omega)
/-- clear -/
theorem cl_step {v k : Nat} {fi : Nat → Int32} {fa ma : Nat → Nat → Int32} (h0 : fi 0 = nI v) (hk : k < 4) : rF v k (s_rsi fi) (s_rsa fa) (m_cl ma k) 0 0 (fun _ => 0) ∧ (∀ j, j ≠ k → agF j ma (m_cl ma k)) ∧ m_cl ma k 9 = ma 9 := by
  refine ⟨⟨⟨h0, rfl, ?_, rfl, ?_, Nat.le_refl _, by omega⟩, ⟨?_, ?_, ?_⟩, fun s hs => ⟨?_, ?_⟩, fun i i1 i2 z hz => ?_, fun z hz => ⟨?_, Nat.le_refl _⟩, fun i i1 i2 i3 => by omega⟩, fun j hj => ⟨⟨?_, ?_, ?_, ?_, ?_⟩, fun s hs => ⟨?_, ?_⟩, fun t ht => ?_, fun t ht => ?_⟩, rfl⟩
  · show upd (ma 0) k 0 k = _; exact pk_us
  · show upd (ma 1) k 0 k = _; exact pk_us
  · show (0 : Int32) = upd (ma 2) k 0 k; exact pk_us.symm
  · show (0 : Int32) = upd (ma 3) k 0 k; exact pk_us.symm
  · show (0 : Int32) = upd (ma 4) k 0 k; exact pk_us.symm
  · show s_fill 0 (fa 2) 16 s = m_z (ma 5) (16 * k) 16 (16 * k + s); rw [fill_in _ 16 s hs, mz_in _ _ 16 s hs]
  · show s_fill 0 (fa 3) 16 s = m_z (ma 6) (16 * k) 16 (16 * k + s); rw [fill_in _ 16 s hs, mz_in _ _ 16 s hs]
  · show s_fill 0 (fa 0) 272 (i % 17 * 16 + z) = m_z (ma 8) (1024 * k) 16 (16 * (64 * k + i % 64) + z)
    have hi : i = 0 := by omega
    subst hi
    rw [fill_in _ 272 _ (by omega), show 16 * (64 * k + 0 % 64) + z = 1024 * k + z by omega, mz_in _ _ 16 z hz]
  · show s_fill 0 (fa 1) 16 z = _; rw [fill_in _ 16 z hz]; rfl
  · show upd (ma 0) k _ j = _; exact pk_un hj
  · show upd (ma 1) k _ j = _; exact pk_un hj
  · show upd (ma 2) k _ j = _; exact pk_un hj
  · show upd (ma 3) k _ j = _; exact pk_un hj
  · show upd (ma 4) k _ j = _; exact pk_un hj
  · show m_z (ma 5) (16 * k) 16 (16 * j + s) = _; exact mz_out _ _ 16 _ (by omega)
  · show m_z (ma 6) (16 * k) 16 (16 * j + s) = _; exact mz_out _ _ 16 _ (by omega)
  · show upd (ma 7) (64 * k) 0 (64 * j + t) = _; exact pk_un (by omega)
  · show m_z (ma 8) (1024 * k) 16 (1024 * j + t) = _; exact mz_out _ _ 16 _ (by omega)
/-- written -/
theorem wr_eq {v k n h z : Nat} {fi : Nat → Int32} {fa ma : Nat → Nat → Int32} {lw : Nat → Nat} (hF : rF v k fi fa ma n h lw) (hn : n < 2 ^ 30) (hv : v ≤ 16) (hz : z < 16) : s_kw fi (fa 1) z = m_wr (ma 7) (64 * k) (ma 1 k) (nI z) n := by
  obtain ⟨⟨a1, a2, a3, a4, a5, a6, a7⟩, -, -, -, g4, g5⟩ := hF
  obtain ⟨e1, e2⟩ := g4 z hz
  have key : ∀ i, i ≤ n → (∀ t, i < t → t ≤ n → h ≤ t → bt (ma 7 (64 * k + t % 64)) z = false) → s_kw fi (fa 1) z = m_wr (ma 7) (64 * k) (nI h) (nI z) i := by
    intro i
    induction i with
    | zero =>
      intro _ hall
      show s_kw fi (fa 1) z = -1
      unfold s_kw
      rw [e1, a4]
      by_cases h0 : lw z = 0
      · rw [if_pos (by rw [h0]; decide)]
      · rw [if_neg (nI_nle (by omega) (by omega))]
        by_cases hlt : lw z < h
        · rw [if_pos (nI_lt hlt (by omega))]
        · have := hall (lw z) (by omega) e2 (by omega)
          rw [((g5 (lw z) (by omega) e2 (by omega)).1 z hz).2 rfl] at this
          cases this
    | succ i ih =>
      intro hi hall
      unfold m_wr
      by_cases hlt : nI (i + 1) < nI h
      · rw [if_pos hlt]
        have hlt2 : i + 1 < h := (nI_ltI (by omega) (by omega)).mp hlt
        unfold s_kw
        rw [e1, a4]
        by_cases h0 : nI (lw z) ≤ 0
        · rw [if_pos h0]
        · rw [if_neg h0]
          by_cases hl : lw z < h
          · rw [if_pos (nI_lt hl (by omega))]
          · have h1 : lw z ≠ 0 := fun q => h0 (by rw [q]; decide)
            have := hall (lw z) (by omega) e2 (by omega)
            rw [((g5 (lw z) (by omega) e2 (by omega)).1 z hz).2 rfl] at this
            cases this
      · rw [if_neg hlt]
        have hge : h ≤ i + 1 := by
          rcases Nat.lt_or_ge (i + 1) h with q | q
          · exact absurd (nI_lt q (by omega)) hlt
          · exact q
        by_cases hb : bt (ma 7 (64 * k + (i + 1) % 64)) z = true
        · rw [if_pos ((bt_sh (by omega)).mpr hb)]
          have h1 := ((g5 (i + 1) (by omega) hi (by omega)).1 z hz).1 hb
          have h2 : lw z = i + 1 := by
            rcases Nat.lt_or_ge (i + 1) (lw z) with q | q
            · have := hall (lw z) q e2 (by omega)
              rw [((g5 (lw z) (by omega) e2 (by omega)).1 z hz).2 rfl] at this
              cases this
            · omega
          unfold s_kw
          rw [e1, a4, h2, if_neg (nI_nle (by omega) (by omega)), if_neg hlt]
        · rw [if_neg (fun q => hb ((bt_sh (by omega)).mp q))]
          refine ih (by omega) (fun t t1 t2 t3 => ?_)
          by_cases e : t = i + 1
          · subst e; rw [Bool.not_eq_true] at hb; exact hb
          · exact hall t (by omega) t2 t3
  rw [a5]
  exact key n (Nat.le_refl _) (fun t t1 t2 => by omega)
/-- since: where the reference begins -/
theorem since_eq {v k n h : Nat} {fi : Nat → Int32} {fa ma : Nat → Nat → Int32} {lw : Nat → Nat} {x : Int32} (hF : rF v k fi fa ma n h lw) (hn : n < 2 ^ 30) (hv : v ≤ 16) (hlo : ¬ x < fi 1 - fi 0) (hhi : x ≤ fi 1) :
    ∃ a, a ≤ n + 1 ∧ (¬ 0 ≤ x → a = 1) ∧ (0 ≤ x → x + 1 = nI a) ∧ s_ky (fa 1) (s_max x 0) 16 = m_ws (ma 7) (64 * k) a (n + 1 - a) := by
  obtain ⟨⟨a1, a2, a3, a4, a5, a6, a7⟩, -, -, -, g4, g5⟩ := hF
  rw [a2] at hhi
  rw [a1, a2, Int32.lt_iff_toInt_lt, sub_i hn hv] at hlo
  by_cases h0 : x < 0
  · have hx : x.toInt < 0 := by rw [Int32.lt_iff_toInt_lt, Int32.toInt_zero] at h0; exact h0
    refine ⟨1, by omega, fun _ => rfl, fun q => absurd h0 (Int32.not_lt.mpr q), ?_⟩
    have hm : s_max x 0 = nI 0 := by unfold s_max; rw [if_pos h0]; rfl
    rw [hm]
    exact mask_eq g5 g4 hn (Nat.zero_le _) (by omega)
  · obtain ⟨b, hb, rfl⟩ := nI_of h0
    have hbn : b ≤ n := (nI_leI hb (by omega)).mp hhi
    rw [nI_toInt hb] at hlo
    refine ⟨b + 1, by omega, fun q => absurd (nI_pos' hb) q, fun _ => nI_1 b, ?_⟩
    have hm : s_max (nI b) 0 = nI b := by unfold s_max; rw [if_neg h0]
    rw [hm]
    exact mask_eq g5 g4 hn hbn (by omega)
/-- look -/
theorem look_eq {v k n h j0 : Nat} {fi ri mi : Nat → Int32} {fa ma : Nat → Nat → Int32} {lw : Nat → Nat} (hF : rF v k fi fa ma n h lw) (h3 : ri 3 = mi 5) (h4 : ri 4 = mi 6) : s_look fi fa ri n j0 = m_lk mi ma k n j0 := by
  obtain ⟨⟨a1, a2, a3, a4, a5, a6, a7⟩, ⟨b1, b2, b3⟩, -, g3, -, -⟩ := hF
  have hs : ∀ m, m ≤ 16 → s_sum (fa 0) (n % 17 * 16) m = m_sum (ma 8) (16 * (64 * k + n % 64)) m := by
    intro m
    induction m with
    | zero => intro _; rfl
    | succ m ih =>
      intro hm
      unfold s_sum m_sum
      rw [ih (by omega), g3 n (by omega) (by omega) m (by omega)]
  match j0 with
  | 0 => exact a2.trans a3.symm
  | 1 => exact a4.trans a5.symm
  | 2 => exact b1
  | 3 => exact b2
  | 4 => exact b3
  | 5 => exact hs 16 (Nat.le_refl _)
  | 6 => exact h3
  | 7 => exact h4
  | _ + 8 => rfl
