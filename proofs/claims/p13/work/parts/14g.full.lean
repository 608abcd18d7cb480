theorem q_rec_mono {u : q_S} {v : Int32} {R : Nat} (hR : R < 1000) (e : q_nr u = nI R) (h : ¬ x_isRecord u v = 0) : ¬ (if v < 1 then (0 : Int32) else (if (q_nr u) + 1 < v then 0 else 1)) = 0 := by
  unfold x_isRecord at h
  by_cases h1 : v < 1
  · rw [if_pos h1] at h
    exact absurd rfl h
  · rw [if_neg h1] at h
    by_cases h2 : q_nr u < v
    · rw [if_pos h2] at h
      exact absurd rfl h
    · have h3 : ¬ q_nr u + 1 < v := by
        rw [e, nI_1 R, Int32.lt_iff_toInt_lt, nI_toInt (by omega)]
        rw [e, Int32.lt_iff_toInt_lt, nI_toInt (by omega)] at h2
        omega
      rw [if_neg h1, if_neg h3]
      decide
theorem k_record {u w : q_S} (hI : q_I u) (K : q_K u w) (a : Int32) : x_record_r u a = m_record_r w a ∧ q_K (x_record_s u a) (m_record_s w a) := by
  have K0 := k_th K
  obtain ⟨th, ch, hy, hu, N, M, hw, eN, eM, R1, R2, R3, T, J⟩ := id K0
  obtain ⟨R, hR, e⟩ := q_I_nr hI
  have hc : (q_nr u < 30 ↔ ¬ q_nr u = 30) := q_nlt (N := 30) e hR (by omega)
  unfold x_record_r m_record_r x_record_s m_record_s x_record m_record
  rw [← q_kind a, show q_nr w = q_nr u from by show q_nr (q_th_s w 0) = _; rw [hw]; rfl]
  by_cases h : x_isKind a = 0
  · simp only [if_pos h]; exact ⟨by first | rfl | trivial, K0⟩
  · simp only [if_neg h]
    by_cases h2 : q_nr u = 30
    · simp only [if_neg (fun q => hc.mp q h2), if_pos h2]; exact ⟨by first | rfl | trivial, K0⟩
    · simp only [if_pos (hc.mpr h2), if_neg h2]
      exact ⟨by first | rfl | trivial, th, ch, hy, hu, N, M, by rw [hw]; rfl, eN, eM, R1, R2, R3, T, J.1, fun k k1 k2 => q_rec_mono (show R < 1000 by omega) e (J.2.1 k k1 k2), J.2.2⟩
theorem k_copy {u w : q_S} (K : q_K u w) (a b : Int32) : x_copy_r u a b = m_copy_r w a b ∧ q_K (x_copy_s u a b) (m_copy_s w a b) := by
  have K0 := k_th K
  obtain ⟨th, ch, hy, hu, N, M, hw, eN, eM, R1, R2, R3, T, J⟩ := id K0
  have hM := T.1.2
  have hc : (q_nc u < 60 ↔ ¬ q_nc u = 60) := q_nlt (N := 60) eM hM (by omega)
  have e1 : x_isRecord u a = m_in a 1 (q_nr w) := by
    show x_isRecord u a = m_in a 1 (q_nr (q_th_s w 0))
    rw [hw]
    rfl
  unfold x_copy_r m_copy_r x_copy_s m_copy_s x_copy m_copy xc_areFull
  rw [← q_place b, ← e1, show q_nc w = q_nc u from by show q_nc (q_th_s w 0) = _; rw [hw]; rfl]
  by_cases h : x_isRecord u a = 0
  · simp only [if_pos h]; exact ⟨by first | rfl | trivial, K0⟩
  · simp only [if_neg h]
    by_cases h1 : x_isPlace b = 0
    · simp only [if_pos h1]; exact ⟨by first | rfl | trivial, K0⟩
    · simp only [if_neg h1]
      by_cases h2 : q_nc u = 60
      · simp only [if_neg (fun q => hc.mp q h2), if_pos h2, if_neg q_10]; exact ⟨by first | rfl | trivial, K0⟩
      · have h3 := hc.mpr h2
        simp only [if_pos h3, if_neg h2, ↓reduceIte]
        have kM : M + 1 ≤ 60 := by
          rw [eM] at h3
          have h9 : nI M < nI 60 := h3
          rw [nI_ltI (by omega) (by omega)] at h9
          omega
        have e2 : q_nc u + 1 = nI (M + 1) := by rw [eM]; exact nI_1 M
        have e3 : (q_nc u + 1).toNatClampNeg = M + 1 := by rw [e2]; exact nI_clamp (by omega)
        have ch0 := (T.2.1.2 (M + 1) (Or.inr (by omega))).2
        refine ⟨by first | rfl | trivial, th, upd ch (q_nc u + 1).toNatClampNeg 0, hy, hu, N, M + 1, by rw [hw]; rfl, eN, e2, R1, ?_, R3, ?_, J⟩
        · intro c
          show upd ch (q_nc u + 1).toNatClampNeg 0 c = q_p25 (upd (q_cs u) (q_nc u + 1).toNatClampNeg 1 c) (q_hs u (Int32.toNatClampNeg (q_ch u c))) (q_ch u c)
          rw [e3]
          by_cases e : c = M + 1
          · subst e
            rw [pk_us, pk_us, ch0, q_p25_0]
          · rw [pk_un e, pk_un e, R2 c]
            rfl
        · show q_T (q_hs u) (q_hy u) (upd (q_cs u) (q_nc u + 1).toNatClampNeg 1) (q_ch u) N (M + 1)
          rw [e3]
          exact q_T_nc T kM
theorem k_bar {u w : q_S} (K : q_K u w) (a b : Int32) : x_bar_r u a b = m_bar_r w a b ∧ q_K (x_bar_s u a b) (m_bar_s w a b) := by
  have K0 := k_th K
  obtain ⟨th, ch, hy, hu, N, M, hw, r⟩ := id K0
  unfold x_bar_r m_bar_r x_bar_s m_bar_s x_bar m_bar
  rw [← q_kind a, show q_bd w = q_bd u from by show q_bd (q_th_s w 0) = _; rw [hw]; rfl]
  by_cases h : x_isKind a = 0
  · simp only [if_pos h]; exact ⟨by first | rfl | trivial, K0⟩
  · simp only [if_neg h]
    exact ⟨by first | rfl | trivial, th, ch, hy, hu, N, M, by rw [hw]; rfl, r⟩
theorem k_most {u w : q_S} (K : q_K u w) (a b : Int32) : x_most_r u a b = m_most_r w a b ∧ q_K (x_most_s u a b) (m_most_s w a b) := by
  have K0 := k_th K
  obtain ⟨th, ch, hy, hu, N, M, hw, r⟩ := id K0
  unfold x_most_r m_most_r x_most_s m_most_s x_most m_most
  rw [← q_person a, show q_mo w = q_mo u from by show q_mo (q_th_s w 0) = _; rw [hw]; rfl]
  by_cases h : x_isPerson a = 0
  · simp only [if_pos h]; exact ⟨by first | rfl | trivial, K0⟩
  · simp only [if_neg h]
    by_cases h1 : b < 0
    · simp only [if_pos h1, if_pos (m_in_0 (b := 20) h1)]; exact ⟨by first | rfl | trivial, K0⟩
    · simp only [if_neg h1]
      by_cases h2 : b ≤ 20
      · simp only [if_pos h2, if_neg (m_in_1 h1 h2)]
        exact ⟨by first | rfl | trivial, th, ch, hy, hu, N, M, by rw [hw]; rfl, r⟩
      · simp only [if_neg h2, if_pos (m_in_2 (a := 0) h2)]; exact ⟨by first | rfl | trivial, K0⟩
theorem k_span {u w : q_S} (K : q_K u w) (a : Int32) : x_span_r u a = m_span_r w a ∧ q_K (x_span_s u a) (m_span_s w a) := by
  have K0 := k_th K
  obtain ⟨th, ch, hy, hu, N, M, hw, r⟩ := id K0
  unfold x_span_r m_span_r x_span_s m_span_s x_span m_span
  rw [show q_sp w = q_sp u from by show q_sp (q_th_s w 0) = _; rw [hw]; rfl]
  by_cases h1 : a < 1
  · simp only [if_pos h1, if_pos (m_in_0 (b := 99) h1)]; exact ⟨by first | rfl | trivial, K0⟩
  · simp only [if_neg h1]
    by_cases h2 : a ≤ 99
    · simp only [if_pos h2, if_neg (m_in_1 h1 h2)]
      exact ⟨by first | rfl | trivial, th, ch, hy, hu, N, M, by rw [hw]; rfl, r⟩
    · simp only [if_neg h2, if_pos (m_in_2 (a := 1) h2)]; exact ⟨by first | rfl | trivial, K0⟩
theorem k_state {u w : q_S} (K : q_K u w) (a b : Int32) : q_K u (m_state_s w a b) := by
  have e : m_state_s w a b = q_th_s w 0 := by
    unfold m_state_s m_state
    repeat' split
    all_goals rfl
  rw [e]
  exact k_th K
theorem k_where {u w : q_S} (K : q_K u w) (a b : Int32) : q_K u (m_where_s w a b) := by
  have e : m_where_s w a b = q_th_s w 0 := by
    unfold m_where_s m_where
    repeat' split
    all_goals rfl
  rw [e]
  exact k_th K
theorem k_new : q_K q_new q_new := ⟨0, fun _ => 0, fun _ => 0, fun _ => 0, 0, 0, rfl, by decide +kernel, by decide +kernel, fun _ => rfl, fun _ => rfl, fun _ => Or.inl rfl, q_T_new, fun _ _ => rfl, fun h h1 h2 => by omega, by decide +kernel⟩
def q_Rel (u w : q_S) : Prop := q_I u ∧ q_I w ∧ q_K u w
theorem rel_new : q_Rel q_new q_new := ⟨q_I_new, q_I_new, k_new⟩
