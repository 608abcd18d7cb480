/-! THE FULL RELATION: the reference's state is the landed code's but for th, ch, hy, hu -/
def q_p5 (a b : Int32) : Int32 := if a = 5 then 0 else b
def q_p25 (a b z : Int32) : Int32 := if a = 2 ∧ b = 5 then 0 else z
theorem q_p5_y {a b : Int32} (h : a = 5) : q_p5 a b = 0 := if_pos h
theorem q_p5_n {a b : Int32} (h : ¬ a = 5) : q_p5 a b = b := if_neg h
theorem q_p5_0 (a : Int32) : q_p5 a 0 = 0 := by
  unfold q_p5
  split <;> rfl
theorem q_p25_y {a b z : Int32} (h : a = 2) (h2 : b = 5) : q_p25 a b z = 0 := if_pos ⟨h, h2⟩
theorem q_p25_1 {a b z : Int32} (h : ¬ a = 2) : q_p25 a b z = z := if_neg (fun q => h q.1)
theorem q_p25_2 {a b z : Int32} (h : ¬ b = 5) : q_p25 a b z = z := if_neg (fun q => h q.2)
theorem q_p25_0 (a b : Int32) : q_p25 a b 0 = 0 := by
  unfold q_p25
  split <;> rfl
def q_R1 (u : q_S) (hy : Nat → Int32) : Prop := ∀ h, hy h = q_p5 (q_hs u h) (q_hy u h)
def q_chv (u : q_S) (c : Nat) : Int32 := q_p25 (q_cs u c) (q_hs u (Int32.toNatClampNeg (q_ch u c))) (q_ch u c)
def q_R3 (u : q_S) (hu : Nat → Int64) : Prop := ∀ h, hu h = q_hu u h ∨ (q_hu u h = 0 ∧ hu h = (-9223372036854775807))
/-- what stays of the landed code's state by itself -/
def q_J (u : q_S) (N : Nat) : Prop := (∀ h, N < h → q_hu u h = 0) ∧ (∀ h, 1 ≤ h → h ≤ N → ¬ x_isRecord u (q_hr u h) = 0) ∧ 0 ≤ (q_td u).toInt
def q_K (u w : q_S) : Prop := ∃ (th : Int32) (ch hy : Nat → Int32) (hu : Nat → Int64) (N M : Nat), w = q_mix u th ch hy hu ∧ q_nh u = nI N ∧ q_nc u = nI M ∧ q_R1 u hy ∧ (∀ c, ch c = q_chv u c) ∧ q_R3 u hu ∧ q_T (q_hs u) (q_hy u) (q_cs u) (q_ch u) N M ∧ q_J u N
theorem q_Hu {u : q_S} {hu : Nat → Int64} (h : q_R3 u hu) (ht : 0 ≤ (q_td u).toInt) : ∀ k, (0 < lg_cmp (hu k) (q_td u)) ↔ (0 < lg_cmp (q_hu u k) (q_td u)) := by
  intro k
  rw [lg_cmp_gt, lg_cmp_gt]
  rcases h k with e | ⟨e1, e2⟩
  · rw [e]
  · rw [e1, e2, Int64.lt_iff_toInt_lt, Int64.lt_iff_toInt_lt]
    have e3 : (-9223372036854775807 : Int64).toInt = -9223372036854775807 := by decide +kernel
    have e4 : (0 : Int64).toInt = 0 := by decide +kernel
    rw [e3, e4]
    constructor <;> intro _ <;> omega
theorem q_J_of {u v : q_S} {N : Nat} (h1 : q_hu v = q_hu u) (h2 : q_hr v = q_hr u) (h3 : q_nr v = q_nr u) (h4 : q_td v = q_td u) (J : q_J u N) : q_J v N := by
  unfold q_J x_isRecord
  rw [h1, h2, h3, h4]
  exact J
theorem q_R3_of {u v : q_S} {hu : Nat → Int64} (h1 : q_hu v = q_hu u) (R : q_R3 u hu) : q_R3 v hu := by
  unfold q_R3
  rw [h1]
  exact R
theorem q_R1_of {u v : q_S} {hy : Nat → Int32} (h1 : q_hs v = q_hs u) (h2 : q_hy v = q_hy u) (R : q_R1 u hy) : q_R1 v hy := by
  unfold q_R1
  rw [h1, h2]
  exact R
/-- a free copy finds its hold: the same on both sides -/
theorem k_settle {u w : q_S} {th : Int32} {ch hy : Nat → Int32} {hu : Nat → Int64} {N M c0 : Nat} (hw : w = q_mix u th ch hy hu) (eN : q_nh u = nI N) (eM : q_nc u = nI M) (k1 : 1 ≤ c0) (k2 : c0 ≤ M)
    (R1 : q_R1 u hy) (R2 : ∀ c, c ≠ c0 → ch c = q_chv u c) (R3 : q_R3 u hu) (T : q_T (q_hs u) (q_hy u) (upd (q_cs u) c0 1) (q_ch u) N M) (J : q_J u N) :
    x_settle_r u (nI c0) = m_goes_r w (nI c0) ∧ q_K (x_settle_s u (nI c0)) (m_goes_s w (nI c0)) := by
  subst hw
  have hN : N ≤ 120 := T.1.1
  have hM : M ≤ 60 := T.1.2
  have ec : (nI c0).toNatClampNeg = c0 := nI_clamp (by omega)
  have Hu := q_Hu R3 J.2.2
  have ef : m_fits (q_mix u th ch hy hu) (q_cr (q_mix u th ch hy hu) c0) = xh_firstFitting u (q_cr u c0) (q_td u) := f_fits u th ch hy hu Hu (q_cr u c0)
  have ch0 : q_ch u c0 = 0 := by
    rcases T.2.2.2 c0 with q | ⟨h, q1, q2, q3, q4, q5⟩
    · exact q.1
    · rw [pk_us] at q5
      rcases q5 with q | q | q <;> exact absurd q.2 (by decide)
  unfold x_settle_r m_goes_r x_settle_s m_goes_s x_settle m_goes
  rw [ec, ef]
  rcases f_first u (q_cr u c0) (q_td u) hN eN with hf | ⟨j, j1, j2, hf, hsj, hrj⟩
  · rw [hf]
    simp only [↓reduceIte]
    refine ⟨by first | rfl | trivial, th, upd ch (nI c0).toNatClampNeg 0, hy, hu, N, M, rfl, eN, eM, R1, ?_, R3, ?_, J⟩
    · rw [ec]
      intro c
      by_cases e : c = c0
      · subst e
        rw [pk_us]
        unfold q_chv
        rw [show q_ch (q_cs_u u (nI c) 0) c = q_ch u c from rfl, ch0, q_p25_0]
      · rw [pk_un e, R2 c e]
        unfold q_chv
        rw [show q_cs (q_cs_u u (nI c0) 0) c = q_cs u c from by show upd (q_cs u) (nI c0).toNatClampNeg 0 c = _; rw [ec, pk_un e]]
        rfl
    · have t := q_T_c T k1 k2 ch0 (b := 0) (Or.inl rfl)
      rw [q_upd_upd] at t
      show q_T (q_hs u) (q_hy u) (upd (q_cs u) (nI c0).toNatClampNeg 0) (q_ch u) N M
      rw [ec]
      exact t
  · have ej : (nI j).toNatClampNeg = j := nI_clamp (by omega)
    have hyj : q_hy u j = 0 := by
      rcases T.2.2.1 j with q | ⟨c, q1, q2, q3, q4, q5⟩
      · exact q.1
      · rcases q5 with q | q | q <;> exact absurd (hsj.symm.trans q.1) (by decide)
    rw [hf, ej]
    simp only [if_neg (q_nI_z (show j ≤ 1000 by omega) j1)]
    have R1' : ∀ a : Int32, (a = 1 ∨ a = 2) → ∀ h, upd hy j (nI c0) h = q_p5 (upd (q_hs u) j a h) (upd (q_hy u) j (nI c0) h) := by
      intro a ha h
      by_cases e : h = j
      · subst e
        rw [pk_us, pk_us, pk_us, q_p5_n (by rcases ha with rfl | rfl <;> decide)]
      · rw [pk_un e, pk_un e, pk_un e]
        exact R1 h
    have R2' : ∀ a b : Int32, (a = 1 ∨ a = 2) → ∀ c, upd ch c0 (nI j) c = q_p25 (upd (q_cs u) c0 b c) (upd (q_hs u) j a (Int32.toNatClampNeg (upd (q_ch u) c0 (nI j) c))) (upd (q_ch u) c0 (nI j) c) := by
      intro a b ha c
      by_cases e : c = c0
      · subst e
        rw [pk_us, pk_us, pk_us, ej, pk_us, q_p25_2 (by rcases ha with rfl | rfl <;> decide)]
      · rw [pk_un e, pk_un e, pk_un e, R2 c e]
        unfold q_chv
        by_cases e2 : Int32.toNatClampNeg (q_ch u c) = j
        · rw [e2, pk_us, hsj, q_p25_2 (by decide), q_p25_2 (by rcases ha with rfl | rfl <;> decide)]
        · rw [pk_un e2]
    have Tb : ∀ a b : Int32, q_tie a b → q_T (upd (q_hs u) j a) (upd (q_hy u) j (nI c0)) (upd (q_cs u) c0 b) (upd (q_ch u) c0 (nI j)) N M := by
      intro a b hab
      have t := q_T_upd T (h0 := j) (c0 := c0) (a := a) (y := nI c0) (b := b) (z := nI j) j1 j2 k1 k2 (Or.inl hyj) (Or.inl ch0) (Or.inl ⟨rfl, rfl, hab⟩)
      rw [q_upd_upd] at t
      exact t
    by_cases hp : q_cp u c0 = q_hl u j
    · have hp2 : q_cp (q_mix u th ch hy hu) c0 = q_hl (q_mix u th ch hy hu) j := hp
      simp only [if_pos hp, if_pos hp2]
      refine ⟨by first | rfl | trivial, th, upd ch (nI c0).toNatClampNeg (nI j), upd hy (nI j).toNatClampNeg (nI c0), hu, N, M, ?_, ?_, ?_, ?_, ?_, q_R3_of ?_ R3, ?_, q_J_of ?_ ?_ ?_ ?_ J⟩
      · refine q_ext ?_ ?_ ?_ ?_ ?_ ?_ ?_ ?_ ?_ ?_ ?_ ?_ ?_ ?_ ?_ ?_ ?_ ?_ ?_ ?_ ?_ <;> dsimp only [x_layReady, x_send, m_lies, q_th, q_nr, q_nc, q_nh, q_sp, q_td, q_kd, q_bd, q_mo, q_cr, q_cp, q_cs, q_ch, q_hp, q_hr, q_hl, q_hk, q_hs, q_hy, q_hu, q_he, q_th_s, q_nr_s, q_nc_s, q_nh_s, q_sp_s, q_td_s, q_kd_s, q_bd_s, q_mo_s, q_cr_s, q_cp_s, q_cs_s, q_ch_s, q_hp_s, q_hr_s, q_hl_s, q_hk_s, q_hs_s, q_hy_s, q_hu_s, q_he_s, q_kd_u, q_bd_u, q_mo_u, q_cr_u, q_cp_u, q_cs_u, q_ch_u, q_hp_u, q_hr_u, q_hl_u, q_hk_u, q_hs_u, q_hy_u, q_hu_u, q_he_u, q_mix]
        exact q_upd_upd _ _ _ _
      · dsimp only [x_layReady, x_send, q_th, q_nr, q_nc, q_nh, q_sp, q_td, q_kd, q_bd, q_mo, q_cr, q_cp, q_cs, q_ch, q_hp, q_hr, q_hl, q_hk, q_hs, q_hy, q_hu, q_he, q_th_s, q_nr_s, q_nc_s, q_nh_s, q_sp_s, q_td_s, q_kd_s, q_bd_s, q_mo_s, q_cr_s, q_cp_s, q_cs_s, q_ch_s, q_hp_s, q_hr_s, q_hl_s, q_hk_s, q_hs_s, q_hy_s, q_hu_s, q_he_s, q_kd_u, q_bd_u, q_mo_u, q_cr_u, q_cp_u, q_cs_u, q_ch_u, q_hp_u, q_hr_u, q_hl_u, q_hk_u, q_hs_u, q_hy_u, q_hu_u, q_he_u, q_mix]
        exact eN
      · dsimp only [x_layReady, x_send, q_th, q_nr, q_nc, q_nh, q_sp, q_td, q_kd, q_bd, q_mo, q_cr, q_cp, q_cs, q_ch, q_hp, q_hr, q_hl, q_hk, q_hs, q_hy, q_hu, q_he, q_th_s, q_nr_s, q_nc_s, q_nh_s, q_sp_s, q_td_s, q_kd_s, q_bd_s, q_mo_s, q_cr_s, q_cp_s, q_cs_s, q_ch_s, q_hp_s, q_hr_s, q_hl_s, q_hk_s, q_hs_s, q_hy_s, q_hu_s, q_he_s, q_kd_u, q_bd_u, q_mo_u, q_cr_u, q_cp_u, q_cs_u, q_ch_u, q_hp_u, q_hr_u, q_hl_u, q_hk_u, q_hs_u, q_hy_u, q_hu_u, q_he_u, q_mix]
        exact eM
      · unfold q_R1
        dsimp only [x_layReady, x_send, q_th, q_nr, q_nc, q_nh, q_sp, q_td, q_kd, q_bd, q_mo, q_cr, q_cp, q_cs, q_ch, q_hp, q_hr, q_hl, q_hk, q_hs, q_hy, q_hu, q_he, q_th_s, q_nr_s, q_nc_s, q_nh_s, q_sp_s, q_td_s, q_kd_s, q_bd_s, q_mo_s, q_cr_s, q_cp_s, q_cs_s, q_ch_s, q_hp_s, q_hr_s, q_hl_s, q_hk_s, q_hs_s, q_hy_s, q_hu_s, q_he_s, q_kd_u, q_bd_u, q_mo_u, q_cr_u, q_cp_u, q_cs_u, q_ch_u, q_hp_u, q_hr_u, q_hl_u, q_hk_u, q_hs_u, q_hy_u, q_hu_u, q_he_u, q_mix]
        rw [ej]
        exact R1' 2 (Or.inr rfl)
      · unfold q_chv
        dsimp only [x_layReady, x_send, q_th, q_nr, q_nc, q_nh, q_sp, q_td, q_kd, q_bd, q_mo, q_cr, q_cp, q_cs, q_ch, q_hp, q_hr, q_hl, q_hk, q_hs, q_hy, q_hu, q_he, q_th_s, q_nr_s, q_nc_s, q_nh_s, q_sp_s, q_td_s, q_kd_s, q_bd_s, q_mo_s, q_cr_s, q_cp_s, q_cs_s, q_ch_s, q_hp_s, q_hr_s, q_hl_s, q_hk_s, q_hs_s, q_hy_s, q_hu_s, q_he_s, q_kd_u, q_bd_u, q_mo_u, q_cr_u, q_cp_u, q_cs_u, q_ch_u, q_hp_u, q_hr_u, q_hl_u, q_hk_u, q_hs_u, q_hy_u, q_hu_u, q_he_u, q_mix]
        rw [ej, ec]
        exact R2' 2 3 (Or.inr rfl)
      · dsimp only [x_layReady, x_send, q_th, q_nr, q_nc, q_nh, q_sp, q_td, q_kd, q_bd, q_mo, q_cr, q_cp, q_cs, q_ch, q_hp, q_hr, q_hl, q_hk, q_hs, q_hy, q_hu, q_he, q_th_s, q_nr_s, q_nc_s, q_nh_s, q_sp_s, q_td_s, q_kd_s, q_bd_s, q_mo_s, q_cr_s, q_cp_s, q_cs_s, q_ch_s, q_hp_s, q_hr_s, q_hl_s, q_hk_s, q_hs_s, q_hy_s, q_hu_s, q_he_s, q_kd_u, q_bd_u, q_mo_u, q_cr_u, q_cp_u, q_cs_u, q_ch_u, q_hp_u, q_hr_u, q_hl_u, q_hk_u, q_hs_u, q_hy_u, q_hu_u, q_he_u, q_mix]
      · dsimp only [x_layReady, x_send, q_th, q_nr, q_nc, q_nh, q_sp, q_td, q_kd, q_bd, q_mo, q_cr, q_cp, q_cs, q_ch, q_hp, q_hr, q_hl, q_hk, q_hs, q_hy, q_hu, q_he, q_th_s, q_nr_s, q_nc_s, q_nh_s, q_sp_s, q_td_s, q_kd_s, q_bd_s, q_mo_s, q_cr_s, q_cp_s, q_cs_s, q_ch_s, q_hp_s, q_hr_s, q_hl_s, q_hk_s, q_hs_s, q_hy_s, q_hu_s, q_he_s, q_kd_u, q_bd_u, q_mo_u, q_cr_u, q_cp_u, q_cs_u, q_ch_u, q_hp_u, q_hr_u, q_hl_u, q_hk_u, q_hs_u, q_hy_u, q_hu_u, q_he_u, q_mix]
        rw [ej, ec]
        exact Tb 2 3 (Or.inr (Or.inl ⟨rfl, rfl⟩))
      · dsimp only [x_layReady, x_send, q_th, q_nr, q_nc, q_nh, q_sp, q_td, q_kd, q_bd, q_mo, q_cr, q_cp, q_cs, q_ch, q_hp, q_hr, q_hl, q_hk, q_hs, q_hy, q_hu, q_he, q_th_s, q_nr_s, q_nc_s, q_nh_s, q_sp_s, q_td_s, q_kd_s, q_bd_s, q_mo_s, q_cr_s, q_cp_s, q_cs_s, q_ch_s, q_hp_s, q_hr_s, q_hl_s, q_hk_s, q_hs_s, q_hy_s, q_hu_s, q_he_s, q_kd_u, q_bd_u, q_mo_u, q_cr_u, q_cp_u, q_cs_u, q_ch_u, q_hp_u, q_hr_u, q_hl_u, q_hk_u, q_hs_u, q_hy_u, q_hu_u, q_he_u, q_mix]
      · dsimp only [x_layReady, x_send, q_th, q_nr, q_nc, q_nh, q_sp, q_td, q_kd, q_bd, q_mo, q_cr, q_cp, q_cs, q_ch, q_hp, q_hr, q_hl, q_hk, q_hs, q_hy, q_hu, q_he, q_th_s, q_nr_s, q_nc_s, q_nh_s, q_sp_s, q_td_s, q_kd_s, q_bd_s, q_mo_s, q_cr_s, q_cp_s, q_cs_s, q_ch_s, q_hp_s, q_hr_s, q_hl_s, q_hk_s, q_hs_s, q_hy_s, q_hu_s, q_he_s, q_kd_u, q_bd_u, q_mo_u, q_cr_u, q_cp_u, q_cs_u, q_ch_u, q_hp_u, q_hr_u, q_hl_u, q_hk_u, q_hs_u, q_hy_u, q_hu_u, q_he_u, q_mix]
      · dsimp only [x_layReady, x_send, q_th, q_nr, q_nc, q_nh, q_sp, q_td, q_kd, q_bd, q_mo, q_cr, q_cp, q_cs, q_ch, q_hp, q_hr, q_hl, q_hk, q_hs, q_hy, q_hu, q_he, q_th_s, q_nr_s, q_nc_s, q_nh_s, q_sp_s, q_td_s, q_kd_s, q_bd_s, q_mo_s, q_cr_s, q_cp_s, q_cs_s, q_ch_s, q_hp_s, q_hr_s, q_hl_s, q_hk_s, q_hs_s, q_hy_s, q_hu_s, q_he_s, q_kd_u, q_bd_u, q_mo_u, q_cr_u, q_cp_u, q_cs_u, q_ch_u, q_hp_u, q_hr_u, q_hl_u, q_hk_u, q_hs_u, q_hy_u, q_hu_u, q_he_u, q_mix]
      · dsimp only [x_layReady, x_send, q_th, q_nr, q_nc, q_nh, q_sp, q_td, q_kd, q_bd, q_mo, q_cr, q_cp, q_cs, q_ch, q_hp, q_hr, q_hl, q_hk, q_hs, q_hy, q_hu, q_he, q_th_s, q_nr_s, q_nc_s, q_nh_s, q_sp_s, q_td_s, q_kd_s, q_bd_s, q_mo_s, q_cr_s, q_cp_s, q_cs_s, q_ch_s, q_hp_s, q_hr_s, q_hl_s, q_hk_s, q_hs_s, q_hy_s, q_hu_s, q_he_s, q_kd_u, q_bd_u, q_mo_u, q_cr_u, q_cp_u, q_cs_u, q_ch_u, q_hp_u, q_hr_u, q_hl_u, q_hk_u, q_hs_u, q_hy_u, q_hu_u, q_he_u, q_mix]
    · have hp2 : ¬ q_cp (q_mix u th ch hy hu) c0 = q_hl (q_mix u th ch hy hu) j := hp
      simp only [if_neg hp, if_neg hp2]
      refine ⟨by first | rfl | trivial, th, upd ch (nI c0).toNatClampNeg (nI j), upd hy (nI j).toNatClampNeg (nI c0), hu, N, M, ?_, ?_, ?_, ?_, ?_, q_R3_of ?_ R3, ?_, q_J_of ?_ ?_ ?_ ?_ J⟩
      · refine q_ext ?_ ?_ ?_ ?_ ?_ ?_ ?_ ?_ ?_ ?_ ?_ ?_ ?_ ?_ ?_ ?_ ?_ ?_ ?_ ?_ ?_ <;> dsimp only [x_layReady, x_send, m_lies, q_th, q_nr, q_nc, q_nh, q_sp, q_td, q_kd, q_bd, q_mo, q_cr, q_cp, q_cs, q_ch, q_hp, q_hr, q_hl, q_hk, q_hs, q_hy, q_hu, q_he, q_th_s, q_nr_s, q_nc_s, q_nh_s, q_sp_s, q_td_s, q_kd_s, q_bd_s, q_mo_s, q_cr_s, q_cp_s, q_cs_s, q_ch_s, q_hp_s, q_hr_s, q_hl_s, q_hk_s, q_hs_s, q_hy_s, q_hu_s, q_he_s, q_kd_u, q_bd_u, q_mo_u, q_cr_u, q_cp_u, q_cs_u, q_ch_u, q_hp_u, q_hr_u, q_hl_u, q_hk_u, q_hs_u, q_hy_u, q_hu_u, q_he_u, q_mix]
        · rw [ej]
        · exact q_upd_upd _ _ _ _
      · dsimp only [x_layReady, x_send, q_th, q_nr, q_nc, q_nh, q_sp, q_td, q_kd, q_bd, q_mo, q_cr, q_cp, q_cs, q_ch, q_hp, q_hr, q_hl, q_hk, q_hs, q_hy, q_hu, q_he, q_th_s, q_nr_s, q_nc_s, q_nh_s, q_sp_s, q_td_s, q_kd_s, q_bd_s, q_mo_s, q_cr_s, q_cp_s, q_cs_s, q_ch_s, q_hp_s, q_hr_s, q_hl_s, q_hk_s, q_hs_s, q_hy_s, q_hu_s, q_he_s, q_kd_u, q_bd_u, q_mo_u, q_cr_u, q_cp_u, q_cs_u, q_ch_u, q_hp_u, q_hr_u, q_hl_u, q_hk_u, q_hs_u, q_hy_u, q_hu_u, q_he_u, q_mix]
        exact eN
      · dsimp only [x_layReady, x_send, q_th, q_nr, q_nc, q_nh, q_sp, q_td, q_kd, q_bd, q_mo, q_cr, q_cp, q_cs, q_ch, q_hp, q_hr, q_hl, q_hk, q_hs, q_hy, q_hu, q_he, q_th_s, q_nr_s, q_nc_s, q_nh_s, q_sp_s, q_td_s, q_kd_s, q_bd_s, q_mo_s, q_cr_s, q_cp_s, q_cs_s, q_ch_s, q_hp_s, q_hr_s, q_hl_s, q_hk_s, q_hs_s, q_hy_s, q_hu_s, q_he_s, q_kd_u, q_bd_u, q_mo_u, q_cr_u, q_cp_u, q_cs_u, q_ch_u, q_hp_u, q_hr_u, q_hl_u, q_hk_u, q_hs_u, q_hy_u, q_hu_u, q_he_u, q_mix]
        exact eM
      · unfold q_R1
        dsimp only [x_layReady, x_send, q_th, q_nr, q_nc, q_nh, q_sp, q_td, q_kd, q_bd, q_mo, q_cr, q_cp, q_cs, q_ch, q_hp, q_hr, q_hl, q_hk, q_hs, q_hy, q_hu, q_he, q_th_s, q_nr_s, q_nc_s, q_nh_s, q_sp_s, q_td_s, q_kd_s, q_bd_s, q_mo_s, q_cr_s, q_cp_s, q_cs_s, q_ch_s, q_hp_s, q_hr_s, q_hl_s, q_hk_s, q_hs_s, q_hy_s, q_hu_s, q_he_s, q_kd_u, q_bd_u, q_mo_u, q_cr_u, q_cp_u, q_cs_u, q_ch_u, q_hp_u, q_hr_u, q_hl_u, q_hk_u, q_hs_u, q_hy_u, q_hu_u, q_he_u, q_mix]
        rw [ej]
        exact R1' 1 (Or.inl rfl)
      · unfold q_chv
        dsimp only [x_layReady, x_send, q_th, q_nr, q_nc, q_nh, q_sp, q_td, q_kd, q_bd, q_mo, q_cr, q_cp, q_cs, q_ch, q_hp, q_hr, q_hl, q_hk, q_hs, q_hy, q_hu, q_he, q_th_s, q_nr_s, q_nc_s, q_nh_s, q_sp_s, q_td_s, q_kd_s, q_bd_s, q_mo_s, q_cr_s, q_cp_s, q_cs_s, q_ch_s, q_hp_s, q_hr_s, q_hl_s, q_hk_s, q_hs_s, q_hy_s, q_hu_s, q_he_s, q_kd_u, q_bd_u, q_mo_u, q_cr_u, q_cp_u, q_cs_u, q_ch_u, q_hp_u, q_hr_u, q_hl_u, q_hk_u, q_hs_u, q_hy_u, q_hu_u, q_he_u, q_mix]
        rw [ej, ec]
        exact R2' 1 2 (Or.inl rfl)
      · dsimp only [x_layReady, x_send, q_th, q_nr, q_nc, q_nh, q_sp, q_td, q_kd, q_bd, q_mo, q_cr, q_cp, q_cs, q_ch, q_hp, q_hr, q_hl, q_hk, q_hs, q_hy, q_hu, q_he, q_th_s, q_nr_s, q_nc_s, q_nh_s, q_sp_s, q_td_s, q_kd_s, q_bd_s, q_mo_s, q_cr_s, q_cp_s, q_cs_s, q_ch_s, q_hp_s, q_hr_s, q_hl_s, q_hk_s, q_hs_s, q_hy_s, q_hu_s, q_he_s, q_kd_u, q_bd_u, q_mo_u, q_cr_u, q_cp_u, q_cs_u, q_ch_u, q_hp_u, q_hr_u, q_hl_u, q_hk_u, q_hs_u, q_hy_u, q_hu_u, q_he_u, q_mix]
      · dsimp only [x_layReady, x_send, q_th, q_nr, q_nc, q_nh, q_sp, q_td, q_kd, q_bd, q_mo, q_cr, q_cp, q_cs, q_ch, q_hp, q_hr, q_hl, q_hk, q_hs, q_hy, q_hu, q_he, q_th_s, q_nr_s, q_nc_s, q_nh_s, q_sp_s, q_td_s, q_kd_s, q_bd_s, q_mo_s, q_cr_s, q_cp_s, q_cs_s, q_ch_s, q_hp_s, q_hr_s, q_hl_s, q_hk_s, q_hs_s, q_hy_s, q_hu_s, q_he_s, q_kd_u, q_bd_u, q_mo_u, q_cr_u, q_cp_u, q_cs_u, q_ch_u, q_hp_u, q_hr_u, q_hl_u, q_hk_u, q_hs_u, q_hy_u, q_hu_u, q_he_u, q_mix]
        rw [ej, ec]
        exact Tb 1 2 (Or.inl ⟨rfl, rfl⟩)
      · dsimp only [x_layReady, x_send, q_th, q_nr, q_nc, q_nh, q_sp, q_td, q_kd, q_bd, q_mo, q_cr, q_cp, q_cs, q_ch, q_hp, q_hr, q_hl, q_hk, q_hs, q_hy, q_hu, q_he, q_th_s, q_nr_s, q_nc_s, q_nh_s, q_sp_s, q_td_s, q_kd_s, q_bd_s, q_mo_s, q_cr_s, q_cp_s, q_cs_s, q_ch_s, q_hp_s, q_hr_s, q_hl_s, q_hk_s, q_hs_s, q_hy_s, q_hu_s, q_he_s, q_kd_u, q_bd_u, q_mo_u, q_cr_u, q_cp_u, q_cs_u, q_ch_u, q_hp_u, q_hr_u, q_hl_u, q_hk_u, q_hs_u, q_hy_u, q_hu_u, q_he_u, q_mix]
      · dsimp only [x_layReady, x_send, q_th, q_nr, q_nc, q_nh, q_sp, q_td, q_kd, q_bd, q_mo, q_cr, q_cp, q_cs, q_ch, q_hp, q_hr, q_hl, q_hk, q_hs, q_hy, q_hu, q_he, q_th_s, q_nr_s, q_nc_s, q_nh_s, q_sp_s, q_td_s, q_kd_s, q_bd_s, q_mo_s, q_cr_s, q_cp_s, q_cs_s, q_ch_s, q_hp_s, q_hr_s, q_hl_s, q_hk_s, q_hs_s, q_hy_s, q_hu_s, q_he_s, q_kd_u, q_bd_u, q_mo_u, q_cr_u, q_cp_u, q_cs_u, q_ch_u, q_hp_u, q_hr_u, q_hl_u, q_hk_u, q_hs_u, q_hy_u, q_hu_u, q_he_u, q_mix]
      · dsimp only [x_layReady, x_send, q_th, q_nr, q_nc, q_nh, q_sp, q_td, q_kd, q_bd, q_mo, q_cr, q_cp, q_cs, q_ch, q_hp, q_hr, q_hl, q_hk, q_hs, q_hy, q_hu, q_he, q_th_s, q_nr_s, q_nc_s, q_nh_s, q_sp_s, q_td_s, q_kd_s, q_bd_s, q_mo_s, q_cr_s, q_cp_s, q_cs_s, q_ch_s, q_hp_s, q_hr_s, q_hl_s, q_hk_s, q_hs_s, q_hy_s, q_hu_s, q_he_s, q_kd_u, q_bd_u, q_mo_u, q_cr_u, q_cp_u, q_cs_u, q_ch_u, q_hp_u, q_hr_u, q_hl_u, q_hk_u, q_hs_u, q_hy_u, q_hu_u, q_he_u, q_mix]
      · dsimp only [x_layReady, x_send, q_th, q_nr, q_nc, q_nh, q_sp, q_td, q_kd, q_bd, q_mo, q_cr, q_cp, q_cs, q_ch, q_hp, q_hr, q_hl, q_hk, q_hs, q_hy, q_hu, q_he, q_th_s, q_nr_s, q_nc_s, q_nh_s, q_sp_s, q_td_s, q_kd_s, q_bd_s, q_mo_s, q_cr_s, q_cp_s, q_cs_s, q_ch_s, q_hp_s, q_hr_s, q_hl_s, q_hk_s, q_hs_s, q_hy_s, q_hu_s, q_he_s, q_kd_u, q_bd_u, q_mo_u, q_cr_u, q_cp_u, q_cs_u, q_ch_u, q_hp_u, q_hr_u, q_hl_u, q_hk_u, q_hs_u, q_hy_u, q_hu_u, q_he_u, q_mix]
theorem k_th {u w : q_S} (h : q_K u w) : q_K u (q_th_s w 0) := by
  obtain ⟨th, ch, hy, hu, N, M, rfl, r⟩ := h
  exact ⟨0, ch, hy, hu, N, M, rfl, r⟩
theorem f_isIn {u : q_S} {v a : Int32} {N : Nat} (hN : N ≤ 120) (eN : q_nh u = nI N) (h : ¬ xh_isIn u v a = 0) : ∃ j : Nat, 1 ≤ j ∧ j ≤ N ∧ v = nI j ∧ q_hs u j = a := by
  unfold xh_isIn at h
  by_cases h1 : xh_has u v = 0
  · rw [if_pos h1] at h
    exact absurd rfl h
  · rw [if_neg h1] at h
    obtain ⟨j, j1, j2, rfl⟩ := q_has (u := 0) (show N < 1000 by omega) eN h1
    rw [nI_clamp (n := j) (by omega)] at h
    by_cases h2 : q_hs u j = a
    · exact ⟨j, j1, j2, rfl, h2⟩
    · rw [if_neg h2] at h
      exact absurd rfl h
theorem f_has {u : q_S} {N j : Nat} (hN : N ≤ 120) (eN : q_nh u = nI N) (j1 : 1 ≤ j) (j2 : j ≤ N) : xh_has u (nI j) = 1 := by
  unfold xh_has
  rw [if_neg (show ¬ nI j < 1 from nI_nlt (b := 1) j1 (by omega)), eN, if_neg (nI_nlt j2 (by omega))]
theorem f_isIn_y {u : q_S} {a : Int32} {N j : Nat} (hN : N ≤ 120) (eN : q_nh u = nI N) (j1 : 1 ≤ j) (j2 : j ≤ N) (h : q_hs u j = a) : xh_isIn u (nI j) a = 1 := by
  unfold xh_isIn
  rw [f_has hN eN j1 j2, if_neg q_10, nI_clamp (n := j) (by omega), if_pos h]
theorem f_isIn_n {u : q_S} {a : Int32} {N j : Nat} (hN : N ≤ 120) (eN : q_nh u = nI N) (j1 : 1 ≤ j) (j2 : j ≤ N) (h : ¬ q_hs u j = a) : xh_isIn u (nI j) a = 0 := by
  unfold xh_isIn
  rw [f_has hN eN j1 j2, if_neg q_10, nI_clamp (n := j) (by omega), if_neg h]
theorem f_isC {u : q_S} {v a : Int32} {M : Nat} (hM : M ≤ 60) (eM : q_nc u = nI M) (h : ¬ xc_isIn u v a = 0) : ∃ j : Nat, 1 ≤ j ∧ j ≤ M ∧ v = nI j ∧ q_cs u j = a := by
  unfold xc_isIn at h
  by_cases h1 : xc_has u v = 0
  · rw [if_pos h1] at h
    exact absurd rfl h
  · rw [if_neg h1] at h
    obtain ⟨j, j1, j2, rfl⟩ := q_has (u := 0) (show M < 1000 by omega) eM h1
    rw [nI_clamp (n := j) (by omega)] at h
    by_cases h2 : q_cs u j = a
    · exact ⟨j, j1, j2, rfl, h2⟩
    · rw [if_neg h2] at h
      exact absurd rfl h
theorem k_back {u w : q_S} (K : q_K u w) (a b : Int32) : x_back_r u a b = m_back_r w a b ∧ q_K (x_back_s u a b) (m_back_s w a b) := by
  have K0 := k_th K
  obtain ⟨th, ch, hy, hu, N, M, hw, eN, eM, R1, R2, R3, T, J⟩ := id K0
  unfold x_back_r m_back_r x_back_s m_back_s x_back m_back
  have e1 : m_isCopy (q_th_s w 0) a 1 = xc_isIn u a 1 := by rw [hw]; rfl
  rw [← q_place b, e1]
  by_cases h1 : xc_isIn u a 1 = 0
  · simp only [if_pos h1]
    exact ⟨by first | rfl | trivial, K0⟩
  · simp only [if_neg h1]
    by_cases h2 : x_isPlace b = 0
    · simp only [if_pos h2]
      exact ⟨by first | rfl | trivial, K0⟩
    · simp only [if_neg h2]
      obtain ⟨c0, k1, k2, rfl, hc⟩ := f_isC T.1.2 eM h1
      have es : upd (q_cs u) c0 1 = q_cs u := by
        have h := q_upd_self (q_cs u) c0
        rw [hc] at h
        exact h
      exact k_settle (u := q_cp_u u (nI c0) b) (w := q_cp_u (q_th_s w 0) (nI c0) b) (N := N) (M := M) (c0 := c0) (th := th) (ch := ch) (hy := hy) (hu := hu) (by rw [hw]; rfl) eN eM k1 k2 R1 (fun c _ => R2 c) R3 (by show q_T (q_hs u) (q_hy u) (upd (q_cs u) c0 1) (q_ch u) N M; rw [es]; exact T) J
theorem k_lend {u w : q_S} (K : q_K u w) (a : Int32) : x_lend_r u a = m_lend_r w a ∧ q_K (x_lend_s u a) (m_lend_s w a) := by
  have K0 := k_th K
  obtain ⟨th, ch, hy, hu, N, M, hw, eN, eM, R1, R2, R3, T, J⟩ := id K0
  unfold x_lend_r m_lend_r x_lend_s m_lend_s x_lend m_lend
  have e1 : m_isCopy (q_th_s w 0) a 0 = xc_isIn u a 0 := by rw [hw]; rfl
  rw [e1]
  by_cases h1 : xc_isIn u a 0 = 0
  · simp only [if_pos h1]
    exact ⟨by first | rfl | trivial, K0⟩
  · simp only [if_neg h1]
    obtain ⟨c0, k1, k2, rfl, hc⟩ := f_isC T.1.2 eM h1
    have hM := T.1.2
    have ec : (nI c0).toNatClampNeg = c0 := nI_clamp (by omega)
    have ch0 : q_ch u c0 = 0 := by
      rcases T.2.2.2 c0 with q | ⟨h, q1, q2, q3, q4, q5⟩
      · exact q.1
      · rcases q5 with q | q | q <;> exact absurd (hc.symm.trans q.2) (by decide)
    refine ⟨by first | rfl | trivial, th, ch, hy, hu, N, M, by rw [hw]; rfl, eN, eM, R1, fun c => ?_, R3, ?_, J⟩
    · rw [R2 c]
      show q_chv u c = q_p25 (upd (q_cs u) (nI c0).toNatClampNeg 1 c) (q_hs u (Int32.toNatClampNeg (q_ch u c))) (q_ch u c)
      rw [ec]
      unfold q_chv
      by_cases e : c = c0
      · subst e
        rw [pk_us, hc, q_p25_1 (by decide), q_p25_1 (by decide)]
      · rw [pk_un e]
    · show q_T (q_hs u) (q_hy u) (upd (q_cs u) (nI c0).toNatClampNeg 1) (q_ch u) N M
      rw [ec]
      exact q_T_c T k1 k2 ch0 (Or.inr rfl)
theorem k_rank {u w : q_S} (K : q_K u w) (a b : Int32) : x_rank_r u a b = m_rank_r w a b ∧ q_K (x_rank_s u a b) (m_rank_s w a b) := by
  have K0 := k_th K
  obtain ⟨th, ch, hy, hu, N, M, hw, r⟩ := id K0
  unfold x_rank_r m_rank_r x_rank_s m_rank_s x_rank m_rank
  have e1 : m_isWaiting (q_th_s w 0) a = xh_isIn u a 0 := by rw [hw]; rfl
  rw [e1]
  by_cases h1 : xh_isIn u a 0 = 0
  · simp only [if_pos h1]
    exact ⟨by first | rfl | trivial, K0⟩
  · simp only [if_neg h1]
    refine ⟨?_, th, ch, hy, hu, N, M, by rw [hw]; rfl, r⟩
    rw [hw]
    exact (f_place (q_hk_u u a b) th ch hy hu a).symm
