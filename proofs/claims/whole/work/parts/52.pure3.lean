theorem rF_next {v k n h : Nat} {fi fj : Nat → Int32} {fa fb ma mb : Nat → Nat → Int32} {lw lx : Nat → Nat} (hF : rF v k fi fa ma n h lw) (hv1 : 1 ≤ v) (hv : v ≤ 16)
    (e0 : fj 0 = nI v) (e1 : fj 1 = nI (n + 1)) (m0 : mb 0 k = nI (n + 1)) (e2 : fj 2 = nI (max h (n + 1 - v))) (m1 : mb 1 k = nI (max h (n + 1 - v))) (c3 : fj 3 = mb 2 k) (c4 : fj 4 = mb 3 k) (c5 : fj 5 = mb 4 k)
    (hs : ∀ s, s < 16 → fb 2 s = mb 5 (16 * k + s) ∧ fb 3 s = mb 6 (16 * k + s))
    (r_new : ∀ z, z < 16 → fb 0 ((n + 1) % 17 * 16 + z) = mb 8 (16 * (64 * k + (n + 1) % 64) + z))
    (r_old : ∀ p, (p < (n + 1) % 17 * 16 ∨ (n + 1) % 17 * 16 + 16 ≤ p) → fb 0 p = fa 0 p)
    (m_old : ∀ i, i % 64 ≠ (n + 1) % 64 → ∀ z, z < 16 → mb 8 (16 * (64 * k + i % 64) + z) = ma 8 (16 * (64 * k + i % 64) + z))
    (l_new : ∀ z, z < 16 → fb 1 z = nI (lx z)) (l_old : ∀ z, z < 16 → lx z = n + 1 ∨ lx z = lw z)
    (w_old : ∀ i, i % 64 ≠ (n + 1) % 64 → mb 7 (64 * k + i % 64) = ma 7 (64 * k + i % 64))
    (w_new : ∀ z, z < 16 → (bt (mb 7 (64 * k + (n + 1) % 64)) z = true ↔ lx z = n + 1)) (w_big : ∀ z, 16 ≤ z → bt (mb 7 (64 * k + (n + 1) % 64)) z = false) : rF v k fj fb mb (n + 1) (max h (n + 1 - v)) lx := by
  obtain ⟨⟨a1, a2, a3, a4, a5, a6, a7⟩, ⟨b1, b2, b3⟩, g2, g3, g4, g5⟩ := hF
  refine ⟨⟨e0, e1, m0, e2, m1, by omega, by omega⟩, ⟨c3, c4, c5⟩, hs, fun i i1 i2 z hz => ?_, fun z hz => ⟨l_new z hz, ?_⟩, fun i i1 i2 i3 => ?_⟩
  · by_cases e : i = n + 1
    · subst e; exact r_new z hz
    · have h17 : i % 17 ≠ (n + 1) % 17 := by omega
      have h64 : i % 64 ≠ (n + 1) % 64 := by omega
      rw [r_old _ (by omega), m_old i h64 z hz]
      exact g3 i (by omega) (by omega) z hz
  · rcases l_old z hz with q | q
    · omega
    · rw [q]; have := (g4 z hz).2; omega
  · by_cases e : i = n + 1
    · subst e
      exact ⟨fun z hz => ⟨fun q => by rw [(w_new z hz).mp q]; exact Nat.le_refl _, fun q => (w_new z hz).mpr q.symm⟩, w_big⟩
    · have h64 : i % 64 ≠ (n + 1) % 64 := by omega
      rw [w_old i h64]
      obtain ⟨k1, k2⟩ := g5 i i1 (by omega) (by omega)
      refine ⟨fun z hz => ⟨fun q => ?_, fun q => ?_⟩, k2⟩
      · have := (k1 z hz).1 q
        rcases l_old z hz with q2 | q2 <;> omega
      · rcases l_old z hz with q2 | q2
        · omega
        · exact (k1 z hz).2 (q.trans q2)
/-- the parts of m_ap_ -/
theorem apx_ag {mi : Nat → Int32} {ma : Nat → Nat → Int32} {k n j se : Nat} {w c1 c2 c3 : Int32} {va sq vd : Nat → Int32} (hj : j ≠ k) (hva : ∀ p, (p < 16 * (64 * k + (n + 1) % 64) ∨ 16 * (64 * k + (n + 1) % 64) + 16 ≤ p) → va p = ma 8 p) (hsq : ∀ s, s < 16 → sq (16 * j + s) = ma 5 (16 * j + s)) (hvd : ∀ s, s < 16 → vd (16 * j + s) = ma 6 (16 * j + s)) : agF j ma (m_ap_ mi ma k n w va sq vd c1 c2 c3) := by
  refine ⟨⟨?_, ?_, ?_, ?_, ?_⟩, fun s hs => ⟨hsq s hs, hvd s hs⟩, fun t ht => ?_, fun t ht => ?_⟩
  · show upd (ma 0) k _ j = _; exact pk_un hj
  · show upd (ma 1) k _ j = _; exact pk_un hj
  · show upd (ma 2) k _ j = _; exact pk_un hj
  · show upd (ma 3) k _ j = _; exact pk_un hj
  · show upd (ma 4) k _ j = _; exact pk_un hj
  · show upd (ma 7) (64 * k + (n + 1) % 64) w (64 * j + t) = _; exact pk_un (by omega)
  · show va (1024 * j + t) = _; exact hva _ (by omega)
theorem opa_0 {fa : Nat → Nat → Int32} {n z : Nat} (hz : z < 16) : s_opa fa n 0 ((n + 1) % 17 * 16 + z) = fa 0 (n % 17 * 16 + z) := by
  show va_cpy (fa 0) (fa 0) (n % 17 * 16) ((n + 1) % 17 * 16) 16 _ = _
  rw [pk_cpy_in (by omega) (by omega)]
  congr 1
  omega
theorem opa_o {fa : Nat → Nat → Int32} {n p : Nat} (h : p < (n + 1) % 17 * 16 ∨ (n + 1) % 17 * 16 + 16 ≤ p) : s_opa fa n 0 p = fa 0 p := by
  show va_cpy (fa 0) (fa 0) (n % 17 * 16) ((n + 1) % 17 * 16) 16 _ = _
  exact pk_cpy_out h
theorem i_add0 (x : Int32) : x + 0 = x := by
  apply Int32.toBitVec_inj.mp
  simp
theorem ap_step {v k n h b se : Nat} {fi ri rv mi : Nat → Int32} {fa ma : Nat → Nat → Int32} {lw : Nat → Nat} (hF : rF v k fi fa ma n h lw) (hn : n < 900000) (hv1 : 1 ≤ v) (hv : v ≤ 16) (hver : mi 1 = nI v) (h1 : ri 1 = mi 3) (h2 : ri 2 = mi 4) (h3 : ri 3 = mi 5) (h4 : ri 4 = mi 6)
    (hdr : ∀ z, z < 16 → rv z = ma 9 z) (hw16 : ∀ z, 16 ≤ z → bt (mi 6) z = false) (hs16 : se < 16) (hsn : mi 4 = nI b) (hb : b < 2 ^ 31) :
    (s_adm fi fa ri rv n se).1 = (m_ap mi ma k n se b).1 ∧ (∃ n2 h2 lw2, n2 ≤ n + 1 ∧ rF v k (s_adm fi fa ri rv n se).2.1 (s_adm fi fa ri rv n se).2.2 (m_ap mi ma k n se b).2 n2 h2 lw2) ∧ (∀ j, j ≠ k → agF j ma (m_ap mi ma k n se b).2) ∧ (m_ap mi ma k n se b).2 9 = ma 9 := by
  have hd := dec_eq hF hn hv hver h1 h2 h3 hs16 hsn hb
  have hF0 := hF
  obtain ⟨⟨a1, a2, a3, a4, a5, a6, a7⟩, ⟨b1, b2, b3⟩, g2, g3, g4, g5⟩ := hF
  have hz := hz_eq (n := n + 1) (h := h) (v := v) (by omega) (by omega) hv
  have hfz : s_max (fi 2) (fi 1 + 1 - fi 0) = nI (max h (n + 1 - v)) := by rw [a4, a2, a1, nI_1]; exact hz.1
  have hmz : (if nI (n + 1) - mi 1 ≤ ma 1 k then ma 1 k else nI (n + 1) - mi 1) = nI (max h (n + 1 - v)) := by rw [a5, hver]; exact hz.2
  have hne : 64 * k + (n + 1) % 64 ≠ 64 * k + n % 64 := by omega
  have hcp : ∀ p, (p < 16 * (64 * k + (n + 1) % 64) ∨ 16 * (64 * k + (n + 1) % 64) + 16 ≤ p) → m_cp (ma 8) (16 * (64 * k + (n + 1) % 64)) (16 * (64 * k + n % 64)) 16 p = ma 8 p := fun p hp => mcp_out _ _ _ 16 p hp
  have hcn : ∀ z, z < 16 → m_cp (ma 8) (16 * (64 * k + (n + 1) % 64)) (16 * (64 * k + n % 64)) 16 (16 * (64 * k + (n + 1) % 64) + z) = fa 0 (n % 17 * 16 + z) := fun z hz => by
    rw [mcp_in _ _ _ 16 (by omega) 16 (Nat.le_refl _) z hz]
    exact (g3 n (by omega) (by omega) z hz).symm
  rcases m_dec_in mi ma k n se b with hm | hm | hm | hm
  · have hs : s_adm fi fa ri rv n se = (-1, fi, fa) := by unfold s_adm; rw [hd, if_pos hm]
    rw [hs, m_ap_n hm]
    exact ⟨rfl, ⟨n, h, lw, by omega, hF0⟩, fun j _ => ⟨⟨rfl, rfl, rfl, rfl, rfl⟩, fun _ _ => ⟨rfl, rfl⟩, fun _ _ => rfl, fun _ _ => rfl⟩, rfl⟩
  · have hs : s_adm fi fa ri rv n se = (0, va_up (s_opi fi) 5 (s_opi fi 5 + 1), s_opa fa n) := by unfold s_adm; rw [hd, if_neg (by rw [hm]; decide), if_pos hm]
    rw [hs, m_ap_0 hm]
    refine ⟨rfl, ⟨n + 1, max h (n + 1 - v), lw, Nat.le_refl _, ?_⟩, fun j hj => apx_ag (se := se) hj hcp (fun _ _ => rfl) (fun _ _ => rfl), rfl⟩
    refine rF_next hF0 hv1 hv a1 (by show fi 1 + 1 = _; rw [a2]; exact nI_1 n) (by show upd (ma 0) k _ k = _; exact pk_us) hfz (by show upd (ma 1) k _ k = _; rw [pk_us]; exact hmz) (by show fi 3 = upd (ma 2) k _ k; rw [pk_us, i_add0]; exact b1) (by show fi 4 = upd (ma 3) k _ k; rw [pk_us, i_add0]; exact b2) (by show fi 5 + 1 = upd (ma 4) k _ k; rw [pk_us, b3])
      (fun s hs => g2 s hs) (fun z hz => by show s_opa fa n 0 _ = _; rw [opa_0 hz]; exact (hcn z hz).symm) (fun p hp => by show s_opa fa n 0 p = _; exact opa_o hp) (fun i hi z hz => hcp _ (by omega)) (fun z hz => (g4 z hz).1) (fun z hz => Or.inr rfl) (fun i hi => by show upd (ma 7) _ _ _ = _; exact pk_un (by omega)) (fun z hz => ?_) (fun z hz => ?_)
    · show bt (upd (ma 7) (64 * k + (n + 1) % 64) 0 (64 * k + (n + 1) % 64)) z = true ↔ _
      rw [pk_us, b_0]
      have := (g4 z hz).2
      constructor
      · intro q; cases q
      · intro q; omega
    · show bt (upd (ma 7) (64 * k + (n + 1) % 64) 0 (64 * k + (n + 1) % 64)) z = false
      rw [pk_us, b_0]
  · have hs : s_adm fi fa ri rv n se = (s_dec fi fa ri se, va_up (s_opi fi) 3 (s_opi fi 3 + 1), va_up (va_up (s_st (ri 4) rv (n + 1) (s_opa fa n) 16) 2 (upd (s_st (ri 4) rv (n + 1) (s_opa fa n) 16 2) se (ri 1))) 3 (upd (s_st (ri 4) rv (n + 1) (s_opa fa n) 16 3) se (s_dec fi fa ri se))) := by
      unfold s_adm; rw [hd, if_neg (by rw [hm]; decide), if_neg (by rw [hm]; decide), if_pos hm]
    rw [hs, m_ap_1 hm]
    have hav : ∀ p, (p < 16 * (64 * k + (n + 1) % 64) ∨ 16 * (64 * k + (n + 1) % 64) + 16 ≤ p) → m_av (mi 6) (ma 9) (64 * k + (n + 1) % 64) (64 * k + n % 64) (ma 8) 16 p = ma 8 p := fun p hp => mav_out _ _ _ _ _ 16 p hp
    have hd1 : s_dec fi fa ri se = 1 := hd.trans hm
    refine ⟨hd1, ⟨n + 1, max h (n + 1 - v), fun z => if bt (mi 6) z = true then n + 1 else lw z, Nat.le_refl _, ?_⟩, fun j hj => apx_ag (se := se) hj hav (fun s hs => pk_un (by omega)) (fun s hs => pk_un (by omega)), rfl⟩
    refine rF_next hF0 hv1 hv a1 (by show fi 1 + 1 = _; rw [a2]; exact nI_1 n) (by show upd (ma 0) k _ k = _; exact pk_us) hfz (by show upd (ma 1) k _ k = _; rw [pk_us]; exact hmz) (by show fi 3 + 1 = upd (ma 2) k _ k; rw [pk_us, b1]) (by show fi 4 = upd (ma 3) k _ k; rw [pk_us, i_add0]; exact b2) (by show fi 5 = upd (ma 4) k _ k; rw [pk_us, i_add0]; exact b3)
      (fun s hs => ?_) (fun z hz => ?_) (fun p hp => ?_) (fun i hi z hz => hav _ (by omega)) (fun z hz => ?_) (fun z hz => ?_) (fun i hi => by show upd (ma 7) _ _ _ = _; exact pk_un (by omega)) (fun z hz => ?_) (fun z hz => ?_)
    · show upd (s_st (ri 4) rv (n + 1) (s_opa fa n) 16 2) se (ri 1) s = upd (ma 5) (16 * k + se) (mi 3) (16 * k + s) ∧ upd (s_st (ri 4) rv (n + 1) (s_opa fa n) 16 3) se (s_dec fi fa ri se) s = upd (ma 6) (16 * k + se) 1 (16 * k + s)
      rw [(st_rest (ri 4) rv (n + 1) (s_opa fa n) 16).1, (st_rest (ri 4) rv (n + 1) (s_opa fa n) 16).2]
      by_cases e : s = se
      · subst e; rw [pk_us, pk_us, pk_us, pk_us]; exact ⟨h1, hd1⟩
      · rw [pk_un e, pk_un e, pk_un (by omega), pk_un (by omega)]; exact g2 s hs
    · show s_st (ri 4) rv (n + 1) (s_opa fa n) 16 0 _ = m_av (mi 6) (ma 9) (64 * k + (n + 1) % 64) (64 * k + n % 64) (ma 8) 16 _
      rw [st_0in _ _ _ _ 16 (Nat.le_refl _) z hz, mav_in _ _ _ _ _ hne 16 (Nat.le_refl _) z hz, h4, opa_0 hz, hdr z hz, g3 n (by omega) (by omega) z hz]
    · show s_st (ri 4) rv (n + 1) (s_opa fa n) 16 0 p = _
      rw [st_0out _ _ _ _ 16 p hp]
      exact opa_o hp
    · show s_st (ri 4) rv (n + 1) (s_opa fa n) 16 1 z = _
      rw [st_1 _ _ _ _ 16 (Nat.le_refl _) z, h4]
      by_cases e : bt (mi 6) z = true
      · rw [if_pos ⟨hz, e⟩, if_pos e]
      · rw [if_neg (fun q => e q.2), if_neg e]; exact (g4 z hz).1
    · by_cases e : bt (mi 6) z = true
      · exact Or.inl (if_pos e)
      · exact Or.inr (if_neg e)
    · show bt (upd (ma 7) (64 * k + (n + 1) % 64) (mi 6) (64 * k + (n + 1) % 64)) z = true ↔ _
      rw [pk_us]
      have := (g4 z hz).2
      by_cases e : bt (mi 6) z = true
      · rw [if_pos e]; exact ⟨fun _ => rfl, fun _ => e⟩
      · rw [if_neg e]; exact ⟨fun q => absurd q e, fun q => by omega⟩
    · show bt (upd (ma 7) (64 * k + (n + 1) % 64) (mi 6) (64 * k + (n + 1) % 64)) z = false
      rw [pk_us]; exact hw16 z hz
  · have hd2 : s_dec fi fa ri se = 2 := hd.trans hm
    have hs : s_adm fi fa ri rv n se = (s_dec fi fa ri se, va_up (s_opi fi) 4 (s_opi fi 4 + 1), va_up (va_up (s_opa fa n) 2 (upd (s_opa fa n 2) se (ri 1))) 3 (upd (s_opa fa n 3) se (s_dec fi fa ri se))) := by
      unfold s_adm; rw [hd, if_neg (by rw [hm]; decide), if_neg (by rw [hm]; decide), if_neg (by rw [hm]; decide)]
    rw [hs, m_ap_2 hm]
    refine ⟨hd2, ⟨n + 1, max h (n + 1 - v), lw, Nat.le_refl _, ?_⟩, fun j hj => apx_ag (se := se) hj hcp (fun s hs => pk_un (by omega)) (fun s hs => pk_un (by omega)), rfl⟩
    refine rF_next hF0 hv1 hv a1 (by show fi 1 + 1 = _; rw [a2]; exact nI_1 n) (by show upd (ma 0) k _ k = _; exact pk_us) hfz (by show upd (ma 1) k _ k = _; rw [pk_us]; exact hmz) (by show fi 3 = upd (ma 2) k _ k; rw [pk_us, i_add0]; exact b1) (by show fi 4 + 1 = upd (ma 3) k _ k; rw [pk_us, b2]) (by show fi 5 = upd (ma 4) k _ k; rw [pk_us, i_add0]; exact b3)
      (fun s hs => ?_) (fun z hz => by show s_opa fa n 0 _ = _; rw [opa_0 hz]; exact (hcn z hz).symm) (fun p hp => by show s_opa fa n 0 p = _; exact opa_o hp) (fun i hi z hz => hcp _ (by omega)) (fun z hz => (g4 z hz).1) (fun z hz => Or.inr rfl) (fun i hi => by show upd (ma 7) _ _ _ = _; exact pk_un (by omega)) (fun z hz => ?_) (fun z hz => ?_)
    · show upd (fa 2) se (ri 1) s = upd (ma 5) (16 * k + se) (mi 3) (16 * k + s) ∧ upd (fa 3) se (s_dec fi fa ri se) s = upd (ma 6) (16 * k + se) 2 (16 * k + s)
      by_cases e : s = se
      · subst e; rw [pk_us, pk_us, pk_us, pk_us]; exact ⟨h1, hd2⟩
      · rw [pk_un e, pk_un e, pk_un (by omega), pk_un (by omega)]; exact g2 s hs
    · show bt (upd (ma 7) (64 * k + (n + 1) % 64) 0 (64 * k + (n + 1) % 64)) z = true ↔ _
      rw [pk_us, b_0]
      have := (g4 z hz).2
      constructor
      · intro q; cases q
      · intro q; omega
    · show bt (upd (ma 7) (64 * k + (n + 1) % 64) 0 (64 * k + (n + 1) % 64)) z = false
      rw [pk_us, b_0]
