theorem k_suspend {u w : q_S} (K : q_K u w) (a : Int32) (b : Int64) : x_suspend_r u a b = m_suspend_r w a b ∧ q_K (x_suspend_s u a b) (m_suspend_s w a b) := by
  have K0 := k_th K
  obtain ⟨th, ch, hy, hu, N, M, hw, eN, eM, R1, R2, R3, T, J⟩ := id K0
  unfold x_suspend_r m_suspend_r x_suspend_s m_suspend_s x_suspend m_suspend
  have e1 : m_isWaiting (q_th_s w 0) a = xh_isIn u a 0 := by rw [hw]; rfl
  rw [e1]
  by_cases h1 : xh_isIn u a 0 = 0
  · simp only [if_pos h1]
    exact ⟨by first | rfl | trivial, K0⟩
  · simp only [if_neg h1]
    obtain ⟨j, j1, j2, rfl, hj⟩ := f_isIn T.1.1 eN h1
    have hN := T.1.1
    have ej : (nI j).toNatClampNeg = j := nI_clamp (by omega)
    refine ⟨by first | rfl | trivial, th, ch, hy, vp_updL hu (nI j).toNatClampNeg b, N, M, by rw [hw]; rfl, eN, eM, R1, R2, ?_, T, ?_, J.2⟩
    · rw [ej]
      intro h
      show vp_updL hu j b h = vp_updL (q_hu u) (nI j).toNatClampNeg b h ∨ (vp_updL (q_hu u) (nI j).toNatClampNeg b h = 0 ∧ vp_updL hu j b h = (-9223372036854775807))
      rw [ej]
      unfold vp_updL
      by_cases e : h = j
      · rw [if_pos e, if_pos e]
        exact Or.inl rfl
      · rw [if_neg e, if_neg e]
        exact R3 h
    · intro h hh
      show vp_updL (q_hu u) (nI j).toNatClampNeg b h = 0
      rw [ej]
      unfold vp_updL
      rw [if_neg (by omega)]
      exact J.1 h hh
theorem k_arrive {u w : q_S} (K : q_K u w) (a : Int32) : x_arrive_r u a = m_arrive_r w a ∧ q_K (x_arrive_s u a) (m_arrive_s w a) := by
  have K0 := k_th K
  obtain ⟨th, ch, hy, hu, N, M, hw, eN, eM, R1, R2, R3, T, J⟩ := id K0
  unfold x_arrive_r m_arrive_r x_arrive_s m_arrive_s x_arrive m_arrive
  have e1 : m_isCopy (q_th_s w 0) a 2 = xc_isIn u a 2 := by rw [hw]; rfl
  rw [e1]
  by_cases h1 : xc_isIn u a 2 = 0
  · simp only [if_pos h1]
    exact ⟨by first | rfl | trivial, K0⟩
  · simp only [if_neg h1]
    obtain ⟨c0, k1, k2, rfl, hc⟩ := f_isC T.1.2 eM h1
    have hN := T.1.1
    have hM := T.1.2
    have ec : (nI c0).toNatClampNeg = c0 := nI_clamp (by omega)
    obtain ⟨j, j1, j2, hcj, hyj, htie⟩ : ∃ h : Nat, 1 ≤ h ∧ h ≤ N ∧ q_ch u c0 = nI h ∧ q_hy u h = nI c0 ∧ q_tie (q_hs u h) (q_cs u c0) := by
      rcases T.2.2.2 c0 with q | q
      · rcases q.2 with q | q <;> exact absurd (hc.symm.trans q) (by decide)
      · exact q
    have ej : (nI j).toNatClampNeg = j := nI_clamp (by omega)
    have ewc : q_ch w c0 = q_chv u c0 := by
      have h := R2 c0
      rw [← h]
      show q_ch (q_th_s w 0) c0 = ch c0
      rw [hw]
      rfl
    rw [ec, hcj, ewc]
    unfold q_chv
    rw [hc, hcj, ej]
    by_cases h5 : q_hs u j = 5
    · rw [f_isIn_n hN eN j1 j2 (by rw [h5]; decide)]
      rw [q_p25_y rfl h5]
      simp only [↓reduceIte, if_pos (show (0 : Int32) ≤ 0 by decide)]
      refine ⟨by first | rfl | trivial, ?_⟩
      refine (k_settle (u := x_untie u (nI c0) (nI j)) (w := q_th_s w 0) (N := N) (M := M) (c0 := c0) (th := th) (ch := ch) (hy := hy) (hu := hu) (by rw [hw]; rfl) eN eM k1 k2 ?_ ?_ R3 ?_ J).2
      · intro h
        show hy h = q_p5 (q_hs u h) (upd (q_hy u) (nI j).toNatClampNeg 0 h)
        rw [ej, R1 h]
        by_cases e : h = j
        · subst e
          rw [q_p5_y h5, q_p5_y h5]
        · rw [pk_un e]
      · intro c e
        rw [R2 c]
        show q_chv u c = q_p25 (q_cs u c) (q_hs u (Int32.toNatClampNeg (upd (q_ch u) (nI c0).toNatClampNeg 0 c))) (upd (q_ch u) (nI c0).toNatClampNeg 0 c)
        rw [ec, pk_un e]
        rfl
      · show q_T (q_hs u) (upd (q_hy u) (nI j).toNatClampNeg 0) (upd (q_cs u) c0 1) (upd (q_ch u) (nI c0).toNatClampNeg 0) N M
        rw [ej, ec]
        have t := q_T_upd T (h0 := j) (c0 := c0) (a := q_hs u j) (y := 0) (b := 1) (z := 0) j1 j2 k1 k2 (Or.inr hyj) (Or.inr hcj) (Or.inr ⟨rfl, rfl, Or.inr (Or.inr (Or.inr h5)), Or.inr rfl⟩)
        rw [q_upd_self] at t
        exact t
    · have hs1 : q_hs u j = 1 := by
        rcases htie with q | q | q
        · exact q.1
        · exact absurd (hc.symm.trans q.2) (by decide)
        · exact absurd q.1 h5
      rw [f_isIn_y hN eN j1 j2 hs1]
      rw [q_p25_2 h5]
      simp only [if_neg q_10, if_neg (nI_nle j1 (show j < 2 ^ 31 by omega))]
      refine ⟨by first | rfl | trivial, th, ch, hy, hu, N, M, by rw [hw]; rfl, eN, eM, ?_, ?_, R3, ?_, J⟩
      · intro h
        show hy h = q_p5 (upd (q_hs u) (nI j).toNatClampNeg 2 h) (q_hy u h)
        rw [ej, R1 h]
        by_cases e : h = j
        · subst e
          rw [pk_us, q_p5_n h5, q_p5_n (by decide)]
        · rw [pk_un e]
      · intro c
        rw [R2 c]
        show q_chv u c = q_p25 (upd (q_cs u) (nI c0).toNatClampNeg 3 c) (upd (q_hs u) (nI j).toNatClampNeg 2 (Int32.toNatClampNeg (q_ch u c))) (q_ch u c)
        rw [ej, ec]
        unfold q_chv
        by_cases e : c = c0
        · subst e
          rw [pk_us, hcj, ej, q_p25_2 h5, q_p25_1 (by decide)]
        · rw [pk_un e]
          by_cases e2 : Int32.toNatClampNeg (q_ch u c) = j
          · rw [e2, pk_us, q_p25_2 h5, q_p25_2 (by decide)]
          · rw [pk_un e2]
      · show q_T (upd (q_hs u) (nI j).toNatClampNeg 2) (q_hy u) (upd (q_cs u) (nI c0).toNatClampNeg 3) (q_ch u) N M
        rw [ej, ec]
        have t := q_T_upd T (h0 := j) (c0 := c0) (a := 2) (y := q_hy u j) (b := 3) (z := q_ch u c0) j1 j2 k1 k2 (Or.inr hyj) (Or.inr hcj) (Or.inl ⟨hyj, hcj, Or.inr (Or.inl ⟨rfl, rfl⟩)⟩)
        rw [q_upd_self, q_upd_self] at t
        exact t
theorem k_pick {u w : q_S} (K : q_K u w) (a : Int32) : x_pick_r u a = m_pick_r w a ∧ q_K (x_pick_s u a) (m_pick_s w a) := by
  have K0 := k_th K
  obtain ⟨th, ch, hy, hu, N, M, hw, eN, eM, R1, R2, R3, T, J⟩ := id K0
  unfold x_pick_r m_pick_r x_pick_s m_pick_s x_pick m_pick xh_isIn
  have e1 : m_isHold (q_th_s w 0) a = xh_has u a := by rw [hw]; rfl
  have e2 : q_hs w = q_hs u := by
    show q_hs (q_th_s w 0) = _
    rw [hw]
    rfl
  rw [e1, e2]
  by_cases h1 : xh_has u a = 0
  · simp only [if_pos h1, ↓reduceIte]
    exact ⟨by first | rfl | trivial, K0⟩
  · simp only [if_neg h1]
    by_cases h2 : q_hs u (Int32.toNatClampNeg a) = 2
    · simp only [if_pos h2, if_neg q_10]
      have hN := T.1.1
      have hM := T.1.2
      obtain ⟨j, j1, j2, rfl⟩ := q_has (u := 0) (show N < 1000 by omega) eN h1
      have ej : (nI j).toNatClampNeg = j := nI_clamp (by omega)
      rw [ej] at h2
      obtain ⟨c0, k1, k2, hyj, hcj, htie⟩ : ∃ c : Nat, 1 ≤ c ∧ c ≤ M ∧ q_hy u j = nI c ∧ q_ch u c = nI j ∧ q_tie (q_hs u j) (q_cs u c) := by
        rcases T.2.2.1 j with q | q
        · rcases q.2 with q | q | q | q <;> exact absurd (h2.symm.trans q) (by decide)
        · exact q
      have ec : (nI c0).toNatClampNeg = c0 := nI_clamp (by omega)
      have ewy : q_hy w j = nI c0 := by
        show q_hy (q_th_s w 0) j = _
        rw [hw]
        show hy j = _
        rw [R1 j, q_p5_n (by rw [h2]; decide)]
        exact hyj
      rw [ej, hyj, ewy]
      refine ⟨by first | rfl | trivial, th, upd ch (nI c0).toNatClampNeg 0, upd hy (nI j).toNatClampNeg 0, hu, N, M, ?_, ?_, ?_, ?_, ?_, q_R3_of ?_ R3, ?_, q_J_of ?_ ?_ ?_ ?_ J⟩
      · rw [hw]
        refine q_ext ?_ ?_ ?_ ?_ ?_ ?_ ?_ ?_ ?_ ?_ ?_ ?_ ?_ ?_ ?_ ?_ ?_ ?_ ?_ ?_ ?_ <;> dsimp only [x_untie, q_th, q_nr, q_nc, q_nh, q_sp, q_td, q_kd, q_bd, q_mo, q_cr, q_cp, q_cs, q_ch, q_hp, q_hr, q_hl, q_hk, q_hs, q_hy, q_hu, q_he, q_th_s, q_nr_s, q_nc_s, q_nh_s, q_sp_s, q_td_s, q_kd_s, q_bd_s, q_mo_s, q_cr_s, q_cp_s, q_cs_s, q_ch_s, q_hp_s, q_hr_s, q_hl_s, q_hk_s, q_hs_s, q_hy_s, q_hu_s, q_he_s, q_kd_u, q_bd_u, q_mo_u, q_cr_u, q_cp_u, q_cs_u, q_ch_u, q_hp_u, q_hr_u, q_hl_u, q_hk_u, q_hs_u, q_hy_u, q_hu_u, q_he_u, q_mix]
      · dsimp only [x_untie, q_th, q_nr, q_nc, q_nh, q_sp, q_td, q_kd, q_bd, q_mo, q_cr, q_cp, q_cs, q_ch, q_hp, q_hr, q_hl, q_hk, q_hs, q_hy, q_hu, q_he, q_th_s, q_nr_s, q_nc_s, q_nh_s, q_sp_s, q_td_s, q_kd_s, q_bd_s, q_mo_s, q_cr_s, q_cp_s, q_cs_s, q_ch_s, q_hp_s, q_hr_s, q_hl_s, q_hk_s, q_hs_s, q_hy_s, q_hu_s, q_he_s, q_kd_u, q_bd_u, q_mo_u, q_cr_u, q_cp_u, q_cs_u, q_ch_u, q_hp_u, q_hr_u, q_hl_u, q_hk_u, q_hs_u, q_hy_u, q_hu_u, q_he_u, q_mix]
        exact eN
      · dsimp only [x_untie, q_th, q_nr, q_nc, q_nh, q_sp, q_td, q_kd, q_bd, q_mo, q_cr, q_cp, q_cs, q_ch, q_hp, q_hr, q_hl, q_hk, q_hs, q_hy, q_hu, q_he, q_th_s, q_nr_s, q_nc_s, q_nh_s, q_sp_s, q_td_s, q_kd_s, q_bd_s, q_mo_s, q_cr_s, q_cp_s, q_cs_s, q_ch_s, q_hp_s, q_hr_s, q_hl_s, q_hk_s, q_hs_s, q_hy_s, q_hu_s, q_he_s, q_kd_u, q_bd_u, q_mo_u, q_cr_u, q_cp_u, q_cs_u, q_ch_u, q_hp_u, q_hr_u, q_hl_u, q_hk_u, q_hs_u, q_hy_u, q_hu_u, q_he_u, q_mix]
        exact eM
      · intro h
        dsimp only [x_untie, q_th, q_nr, q_nc, q_nh, q_sp, q_td, q_kd, q_bd, q_mo, q_cr, q_cp, q_cs, q_ch, q_hp, q_hr, q_hl, q_hk, q_hs, q_hy, q_hu, q_he, q_th_s, q_nr_s, q_nc_s, q_nh_s, q_sp_s, q_td_s, q_kd_s, q_bd_s, q_mo_s, q_cr_s, q_cp_s, q_cs_s, q_ch_s, q_hp_s, q_hr_s, q_hl_s, q_hk_s, q_hs_s, q_hy_s, q_hu_s, q_he_s, q_kd_u, q_bd_u, q_mo_u, q_cr_u, q_cp_u, q_cs_u, q_ch_u, q_hp_u, q_hr_u, q_hl_u, q_hk_u, q_hs_u, q_hy_u, q_hu_u, q_he_u, q_mix]
        show upd hy (nI j).toNatClampNeg 0 h = q_p5 (upd (q_hs u) (nI j).toNatClampNeg 3 h) (upd (q_hy u) (nI j).toNatClampNeg 0 h)
        rw [ej]
        by_cases e : h = j
        · subst e
          rw [pk_us, pk_us, pk_us, q_p5_0]
        · rw [pk_un e, pk_un e, pk_un e, R1 h]
      · intro c
        unfold q_chv
        dsimp only [x_untie, q_th, q_nr, q_nc, q_nh, q_sp, q_td, q_kd, q_bd, q_mo, q_cr, q_cp, q_cs, q_ch, q_hp, q_hr, q_hl, q_hk, q_hs, q_hy, q_hu, q_he, q_th_s, q_nr_s, q_nc_s, q_nh_s, q_sp_s, q_td_s, q_kd_s, q_bd_s, q_mo_s, q_cr_s, q_cp_s, q_cs_s, q_ch_s, q_hp_s, q_hr_s, q_hl_s, q_hk_s, q_hs_s, q_hy_s, q_hu_s, q_he_s, q_kd_u, q_bd_u, q_mo_u, q_cr_u, q_cp_u, q_cs_u, q_ch_u, q_hp_u, q_hr_u, q_hl_u, q_hk_u, q_hs_u, q_hy_u, q_hu_u, q_he_u, q_mix]
        show upd ch (nI c0).toNatClampNeg 0 c = q_p25 (upd (q_cs u) (nI c0).toNatClampNeg 1 c) (upd (q_hs u) (nI j).toNatClampNeg 3 (Int32.toNatClampNeg (upd (q_ch u) (nI c0).toNatClampNeg 0 c))) (upd (q_ch u) (nI c0).toNatClampNeg 0 c)
        rw [ej, ec]
        by_cases e : c = c0
        · subst e
          rw [pk_us, pk_us, pk_us, q_p25_0]
        · rw [pk_un e, pk_un e, pk_un e, R2 c]
          unfold q_chv
          by_cases e2 : Int32.toNatClampNeg (q_ch u c) = j
          · rw [e2, pk_us, q_p25_2 (by rw [h2]; decide), q_p25_2 (by decide)]
          · rw [pk_un e2]
      · dsimp only [x_untie, q_th, q_nr, q_nc, q_nh, q_sp, q_td, q_kd, q_bd, q_mo, q_cr, q_cp, q_cs, q_ch, q_hp, q_hr, q_hl, q_hk, q_hs, q_hy, q_hu, q_he, q_th_s, q_nr_s, q_nc_s, q_nh_s, q_sp_s, q_td_s, q_kd_s, q_bd_s, q_mo_s, q_cr_s, q_cp_s, q_cs_s, q_ch_s, q_hp_s, q_hr_s, q_hl_s, q_hk_s, q_hs_s, q_hy_s, q_hu_s, q_he_s, q_kd_u, q_bd_u, q_mo_u, q_cr_u, q_cp_u, q_cs_u, q_ch_u, q_hp_u, q_hr_u, q_hl_u, q_hk_u, q_hs_u, q_hy_u, q_hu_u, q_he_u, q_mix]
      · dsimp only [x_untie, q_th, q_nr, q_nc, q_nh, q_sp, q_td, q_kd, q_bd, q_mo, q_cr, q_cp, q_cs, q_ch, q_hp, q_hr, q_hl, q_hk, q_hs, q_hy, q_hu, q_he, q_th_s, q_nr_s, q_nc_s, q_nh_s, q_sp_s, q_td_s, q_kd_s, q_bd_s, q_mo_s, q_cr_s, q_cp_s, q_cs_s, q_ch_s, q_hp_s, q_hr_s, q_hl_s, q_hk_s, q_hs_s, q_hy_s, q_hu_s, q_he_s, q_kd_u, q_bd_u, q_mo_u, q_cr_u, q_cp_u, q_cs_u, q_ch_u, q_hp_u, q_hr_u, q_hl_u, q_hk_u, q_hs_u, q_hy_u, q_hu_u, q_he_u, q_mix]
        show q_T (upd (q_hs u) (nI j).toNatClampNeg 3) (upd (q_hy u) (nI j).toNatClampNeg 0) (upd (q_cs u) (nI c0).toNatClampNeg 1) (upd (q_ch u) (nI c0).toNatClampNeg 0) N M
        rw [ej, ec]
        exact q_T_upd T j1 j2 k1 k2 (Or.inr hyj) (Or.inr hcj) (Or.inr ⟨rfl, rfl, Or.inr (Or.inl rfl), Or.inr rfl⟩)
      · dsimp only [x_untie, q_th, q_nr, q_nc, q_nh, q_sp, q_td, q_kd, q_bd, q_mo, q_cr, q_cp, q_cs, q_ch, q_hp, q_hr, q_hl, q_hk, q_hs, q_hy, q_hu, q_he, q_th_s, q_nr_s, q_nc_s, q_nh_s, q_sp_s, q_td_s, q_kd_s, q_bd_s, q_mo_s, q_cr_s, q_cp_s, q_cs_s, q_ch_s, q_hp_s, q_hr_s, q_hl_s, q_hk_s, q_hs_s, q_hy_s, q_hu_s, q_he_s, q_kd_u, q_bd_u, q_mo_u, q_cr_u, q_cp_u, q_cs_u, q_ch_u, q_hp_u, q_hr_u, q_hl_u, q_hk_u, q_hs_u, q_hy_u, q_hu_u, q_he_u, q_mix]
      · dsimp only [x_untie, q_th, q_nr, q_nc, q_nh, q_sp, q_td, q_kd, q_bd, q_mo, q_cr, q_cp, q_cs, q_ch, q_hp, q_hr, q_hl, q_hk, q_hs, q_hy, q_hu, q_he, q_th_s, q_nr_s, q_nc_s, q_nh_s, q_sp_s, q_td_s, q_kd_s, q_bd_s, q_mo_s, q_cr_s, q_cp_s, q_cs_s, q_ch_s, q_hp_s, q_hr_s, q_hl_s, q_hk_s, q_hs_s, q_hy_s, q_hu_s, q_he_s, q_kd_u, q_bd_u, q_mo_u, q_cr_u, q_cp_u, q_cs_u, q_ch_u, q_hp_u, q_hr_u, q_hl_u, q_hk_u, q_hs_u, q_hy_u, q_hu_u, q_he_u, q_mix]
      · dsimp only [x_untie, q_th, q_nr, q_nc, q_nh, q_sp, q_td, q_kd, q_bd, q_mo, q_cr, q_cp, q_cs, q_ch, q_hp, q_hr, q_hl, q_hk, q_hs, q_hy, q_hu, q_he, q_th_s, q_nr_s, q_nc_s, q_nh_s, q_sp_s, q_td_s, q_kd_s, q_bd_s, q_mo_s, q_cr_s, q_cp_s, q_cs_s, q_ch_s, q_hp_s, q_hr_s, q_hl_s, q_hk_s, q_hs_s, q_hy_s, q_hu_s, q_he_s, q_kd_u, q_bd_u, q_mo_u, q_cr_u, q_cp_u, q_cs_u, q_ch_u, q_hp_u, q_hr_u, q_hl_u, q_hk_u, q_hs_u, q_hy_u, q_hu_u, q_he_u, q_mix]
      · dsimp only [x_untie, q_th, q_nr, q_nc, q_nh, q_sp, q_td, q_kd, q_bd, q_mo, q_cr, q_cp, q_cs, q_ch, q_hp, q_hr, q_hl, q_hk, q_hs, q_hy, q_hu, q_he, q_th_s, q_nr_s, q_nc_s, q_nh_s, q_sp_s, q_td_s, q_kd_s, q_bd_s, q_mo_s, q_cr_s, q_cp_s, q_cs_s, q_ch_s, q_hp_s, q_hr_s, q_hl_s, q_hk_s, q_hs_s, q_hy_s, q_hu_s, q_he_s, q_kd_u, q_bd_u, q_mo_u, q_cr_u, q_cp_u, q_cs_u, q_ch_u, q_hp_u, q_hr_u, q_hl_u, q_hk_u, q_hs_u, q_hy_u, q_hu_u, q_he_u, q_mix]
    · simp only [if_neg h2, ↓reduceIte]
      exact ⟨by first | rfl | trivial, K0⟩
/-- a hold that is ready ends (expired or cancelled): its copy goes on -/
theorem k_release {u w : q_S} (K : q_K u w) {j N : Nat} {a : Int32} (ha : a = 4 ∨ a = 5) (eN : q_nh u = nI N) (hN : N ≤ 120) (j1 : 1 ≤ j) (j2 : j ≤ N) (h2 : q_hs u j = 2) : q_K (x_letGo (q_hs_u u (nI j) a) (nI j)) (m_ends w (nI j) a) := by
  obtain ⟨th, ch, hy, hu, N', M, hw, eN', eM, R1, R2, R3, T, J⟩ := K
  have e0 : N' = N := q_nI_inj (by have := T.1.1; omega) (by omega) (eN'.symm.trans eN)
  subst e0
  have hM := T.1.2
  have ej : (nI j).toNatClampNeg = j := nI_clamp (by omega)
  obtain ⟨c0, k1, k2, hyj, hcj, htie⟩ : ∃ c : Nat, 1 ≤ c ∧ c ≤ M ∧ q_hy u j = nI c ∧ q_ch u c = nI j ∧ q_tie (q_hs u j) (q_cs u c) := by
    rcases T.2.2.1 j with q | q
    · rcases q.2 with q | q | q | q <;> exact absurd (h2.symm.trans q) (by decide)
    · exact q
  have hc3 : q_cs u c0 = 3 := by
    rcases htie with q | q | q
    · exact absurd (h2.symm.trans q.1) (by decide)
    · exact q.2
    · exact absurd (h2.symm.trans q.1) (by decide)
  have ec : (nI c0).toNatClampNeg = c0 := nI_clamp (by omega)
  have ewy : q_hy w j = nI c0 := by
    rw [hw]
    show hy j = _
    rw [R1 j, q_p5_n (by rw [h2]; decide)]
    exact hyj
  have ews : q_hs w j = 2 := by
    rw [hw]
    exact h2
  unfold x_letGo m_ends
  rw [show q_hy (q_hs_u u (nI j) a) = q_hy u from rfl, ej, hyj, ews, ewy]
  simp only [if_pos (rfl : (2 : Int32) = 2), if_neg (nI_nle k1 (show c0 < 2 ^ 31 by omega))]
  refine (k_settle (u := x_untie (q_hs_u u (nI j) a) (nI c0) (nI j)) (w := q_ch_u (q_hy_u (q_hs_u w (nI j) a) (nI j) 0) (nI c0) 0) (N := N') (M := M) (c0 := c0) (th := th) (ch := upd ch (nI c0).toNatClampNeg 0) (hy := upd hy (nI j).toNatClampNeg 0) (hu := hu) (by rw [hw]; rfl) eN eM k1 k2 ?_ ?_ R3 ?_ J).2
  · intro h
    show upd hy (nI j).toNatClampNeg 0 h = q_p5 (upd (q_hs u) (nI j).toNatClampNeg a h) (upd (q_hy u) (nI j).toNatClampNeg 0 h)
    rw [ej]
    by_cases e : h = j
    · subst e
      rw [pk_us, pk_us, pk_us, q_p5_0]
    · rw [pk_un e, pk_un e, pk_un e, R1 h]
  · intro c e
    show upd ch (nI c0).toNatClampNeg 0 c = q_p25 (q_cs u c) (upd (q_hs u) (nI j).toNatClampNeg a (Int32.toNatClampNeg (upd (q_ch u) (nI c0).toNatClampNeg 0 c))) (upd (q_ch u) (nI c0).toNatClampNeg 0 c)
    rw [ej, ec, pk_un e, pk_un e, R2 c]
    unfold q_chv
    by_cases e2 : q_cs u c = 2
    · obtain ⟨h, q1, q2, q3, q4, q5⟩ : ∃ h : Nat, 1 ≤ h ∧ h ≤ N' ∧ q_ch u c = nI h ∧ q_hy u h = nI c ∧ q_tie (q_hs u h) (q_cs u c) := by
        rcases T.2.2.2 c with q | q
        · rcases q.2 with q | q <;> exact absurd (e2.symm.trans q) (by decide)
        · exact q
      have e3 : h ≠ j := by
        intro e3
        subst e3
        rcases q5 with q | q | q
        · exact absurd (h2.symm.trans q.1) (by decide)
        · exact absurd (e2.symm.trans q.2) (by decide)
        · exact absurd (h2.symm.trans q.1) (by decide)
      rw [q3, nI_clamp (n := h) (by omega), pk_un e3]
    · rw [q_p25_1 e2, q_p25_1 e2]
  · show q_T (upd (q_hs u) (nI j).toNatClampNeg a) (upd (q_hy u) (nI j).toNatClampNeg 0) (upd (q_cs u) c0 1) (upd (q_ch u) (nI c0).toNatClampNeg 0) N' M
    rw [ej, ec]
    exact q_T_upd T j1 j2 k1 k2 (Or.inr hyj) (Or.inr hcj) (Or.inr ⟨rfl, rfl, Or.inr (Or.inr ha), Or.inr rfl⟩)
