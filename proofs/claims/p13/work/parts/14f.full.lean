/-- the least free copy of a record, as a search from above -/
def q_lf (cr cs : Nat → Int32) (r : Int32) : Nat → Int32 → Int32
  | 0, v => v
  | k + 1, v => q_lf cr cs r k (if cr (k + 1) = r ∧ cs (k + 1) = 0 then nI (k + 1) else v)
theorem q_lf_no (cr cs : Nat → Int32) (r : Int32) : ∀ (k : Nat) (v : Int32), (∀ i, 1 ≤ i → i ≤ k → ¬ (cr i = r ∧ cs i = 0)) → q_lf cr cs r k v = v := by
  intro k
  induction k with
  | zero => intro v _; rfl
  | succ k ih =>
    intro v h
    show q_lf cr cs r k (if cr (k + 1) = r ∧ cs (k + 1) = 0 then nI (k + 1) else v) = v
    rw [if_neg (h (k + 1) (by omega) (by omega))]
    exact ih v (fun i i1 i2 => h i i1 (by omega))
theorem q_lf_at (cr cs : Nat → Int32) (r : Int32) {j : Nat} (j1 : 1 ≤ j) (hj : cr j = r ∧ cs j = 0) (hno : ∀ i, 1 ≤ i → i < j → ¬ (cr i = r ∧ cs i = 0)) : ∀ (k : Nat) (v : Int32), j ≤ k → q_lf cr cs r k v = nI j := by
  intro k
  induction k with
  | zero => intro v h; omega
  | succ k ih =>
    intro v h
    show q_lf cr cs r k (if cr (k + 1) = r ∧ cs (k + 1) = 0 then nI (k + 1) else v) = nI j
    by_cases e : j = k + 1
    · subst e
      rw [if_pos hj]
      exact q_lf_no cr cs r k _ (fun i i1 i2 => hno i i1 (by omega))
    · exact ih _ (by omega)
theorem q_lf_or (cr cs : Nat → Int32) (r : Int32) {M : Nat} : ∀ (k : Nat) (v : Int32), k ≤ M → (v = 0 ∨ ∃ j : Nat, 1 ≤ j ∧ j ≤ M ∧ v = nI j ∧ cr j = r ∧ cs j = 0) → (q_lf cr cs r k v = 0 ∨ ∃ j : Nat, 1 ≤ j ∧ j ≤ M ∧ q_lf cr cs r k v = nI j ∧ cr j = r ∧ cs j = 0) := by
  intro k
  induction k with
  | zero => intro v _ h; exact h
  | succ k ih =>
    intro v hk h
    show (q_lf cr cs r k (if cr (k + 1) = r ∧ cs (k + 1) = 0 then nI (k + 1) else v) = 0 ∨ ∃ j : Nat, 1 ≤ j ∧ j ≤ M ∧ q_lf cr cs r k (if cr (k + 1) = r ∧ cs (k + 1) = 0 then nI (k + 1) else v) = nI j ∧ cr j = r ∧ cs j = 0)
    refine ih _ (by omega) ?_
    by_cases e : cr (k + 1) = r ∧ cs (k + 1) = 0
    · rw [if_pos e]
      exact Or.inr ⟨k + 1, by omega, hk, rfl, e⟩
    · rw [if_neg e]
      exact h
theorem f_least_l (u : q_S) (r : Int32) {M : Nat} (hM : M ≤ 60) (eM : q_nc u = nI M) : ∀ (n k : Nat), 1 ≤ k → k ≤ 61 → 61 < n + k → (∀ i, 1 ≤ i → i < k → ¬ (q_cr u i = r ∧ q_cs u i = 0)) → xc_leastFree_l2 n r (nI k) u = q_lf (q_cr u) (q_cs u) r M 0 := by
  intro n
  induction n with
  | zero => intro k _ _ _ _; omega
  | succ n ih =>
    intro k k1 k2 k3 hno
    show xc_leastFree_l2_b (xc_leastFree_l2 n) r (nI k) u = _
    unfold xc_leastFree_l2_b
    rw [nI_1 k, nI_clamp (n := k) (by omega)]
    by_cases h1 : q_nc u < nI k
    · simp only [if_pos h1]
      have hk : M < k := by
        rw [eM, nI_ltI (by omega) (by omega)] at h1
        exact h1
      exact (q_lf_no _ _ r M 0 (fun i i1 i2 => hno i i1 (by omega))).symm
    · simp only [if_neg h1]
      have hk : k ≤ M := by
        rw [eM, nI_ltI (by omega) (by omega)] at h1
        omega
      by_cases h2 : q_cr u k = r
      · by_cases h3 : q_cs u k = 0
        · simp only [if_pos h2, if_pos h3]
          exact (q_lf_at _ _ r k1 ⟨h2, h3⟩ hno M 0 hk).symm
        · simp only [if_pos h2, if_neg h3]
          exact ih (k + 1) (by omega) (by omega) (by omega) (fun i i1 i2 q => by
            rcases (show i < k ∨ i = k by omega) with e | e
            · exact hno i i1 e q
            · subst e; exact h3 q.2)
      · simp only [if_neg h2]
        exact ih (k + 1) (by omega) (by omega) (by omega) (fun i i1 i2 q => by
          rcases (show i < k ∨ i = k by omega) with e | e
          · exact hno i i1 e q
          · subst e; exact h2 q.1)
theorem f_least (u : q_S) (r : Int32) {M : Nat} (hM : M ≤ 60) (eM : q_nc u = nI M) : xc_leastFree u r = q_lf (q_cr u) (q_cs u) r M 0 :=
  f_least_l u r hM eM 200 1 (by omega) (by omega) (by omega) (fun i i1 i2 => by omega)
theorem f_hold_2 (w : q_S) (v1 r v3 v4 v5 v6 : Int32) : ∀ (n k : Nat) (v : Int32), k ≤ 60 → k < n → m_hold_l232 n v1 r v3 v4 v5 v6 v (nI k) w = (v6, if q_lf (q_cr w) (q_cs w) r k v ≤ 0 then w else m_goes_s w (q_lf (q_cr w) (q_cs w) r k v)) := by
  intro n
  induction n with
  | zero => intro k v _ h; omega
  | succ n ih =>
    intro k v k2 hk
    show m_hold_l232_b (m_hold_l232 n) v1 r v3 v4 v5 v6 v (nI k) w = _
    unfold m_hold_l232_b
    cases k with
    | zero =>
      simp only [if_pos (show nI 0 ≤ 0 by decide +kernel)]
      show (if v ≤ 0 then (v6, w) else (v6, m_goes_s w v)) = (v6, if v ≤ 0 then w else m_goes_s w v)
      by_cases h : v ≤ 0
      · rw [if_pos h, if_pos h]
      · rw [if_neg h, if_neg h]
    | succ k =>
      have e1 : nI (k + 1) + (-1) = nI k := by rw [← Int32.sub_eq_add_neg]; exact nI_pred k
      rw [e1, nI_clamp (n := k + 1) (by omega)]
      simp only [if_neg (nI_nle (n := k + 1) (by omega) (by omega))]
      show _ = (v6, if q_lf (q_cr w) (q_cs w) r k (if q_cr w (k + 1) = r ∧ q_cs w (k + 1) = 0 then nI (k + 1) else v) ≤ 0 then w else m_goes_s w (q_lf (q_cr w) (q_cs w) r k (if q_cr w (k + 1) = r ∧ q_cs w (k + 1) = 0 then nI (k + 1) else v)))
      by_cases h2 : q_cr w (k + 1) = r
      · by_cases h3 : q_cs w (k + 1) = 0
        · simp only [if_pos h2, if_pos h3, if_pos (And.intro h2 h3)]
          exact ih k (nI (k + 1)) (by omega) (by omega)
        · simp only [if_pos h2, if_neg h3, if_neg (fun q : q_cr w (k + 1) = r ∧ q_cs w (k + 1) = 0 => h3 q.2)]
          exact ih k v (by omega) (by omega)
      · simp only [if_neg h2, if_neg (fun q : q_cr w (k + 1) = r ∧ q_cs w (k + 1) = 0 => h2 q.1)]
        exact ih k v (by omega) (by omega)
/-- the reference's state with one hold more -/
def q_hw (w : q_S) (v1 v2 v3 v4 : Int32) : q_S := q_hu_u (q_hy_u (q_hs_u (q_hk_u (q_hl_u (q_hr_u (q_hp_u (q_nh_s w ((q_nh w) + 1)) ((q_nh w) + 1) v1) ((q_nh w) + 1) v2) ((q_nh w) + 1) v3) ((q_nh w) + 1) v4) ((q_nh w) + 1) 0) ((q_nh w) + 1) 0) ((q_nh w) + 1) (-9223372036854775807)
theorem f_hold_1 (u w : q_S) {N M : Nat} {hy cs ch : Nat → Int32} (T : q_T (q_hs u) hy cs ch N M) (eN : q_nh u = nI N) (w1 : q_nh w = q_nh u) (w2 : q_hp w = q_hp u) (w3 : q_hr w = q_hr u) (w4 : q_hs w = q_hs u) (p r v3 v4 : Int32) : ∀ (n k : Nat) (cnt : Int32), 1 ≤ k → k ≤ 121 → 121 < n + k → m_hold_l67 n p r v3 v4 cnt (nI k) w = if xh_hasOpen_l2 n p r (nI k) u = 0 then (if xh_countOpen_l4 n p cnt (nI k) u < q_mo w (Int32.toNatClampNeg p) then m_hold_l232 200 p r v3 v4 (xh_countOpen_l4 n p cnt (nI k) u) ((q_nh w) + 1) 0 (q_nc w) (q_hw w p r v3 v4) else ((-1), w)) else (0, w) := by
  have hN := T.1.1
  intro n
  induction n with
  | zero => intro k cnt _ _ _; omega
  | succ n ih =>
    intro k cnt k1 k2 k3
    show m_hold_l67_b (m_hold_l67 n) p r v3 v4 cnt (nI k) w = if xh_hasOpen_l2_b (xh_hasOpen_l2 n) p r (nI k) u = 0 then (if xh_countOpen_l4_b (xh_countOpen_l4 n) p cnt (nI k) u < q_mo w (Int32.toNatClampNeg p) then m_hold_l232 200 p r v3 v4 (xh_countOpen_l4_b (xh_countOpen_l4 n) p cnt (nI k) u) ((q_nh w) + 1) 0 (q_nc w) (q_hw w p r v3 v4) else ((-1), w)) else (0, w)
    unfold m_hold_l67_b xh_hasOpen_l2_b xh_countOpen_l4_b
    rw [nI_1 k, nI_clamp (n := k) (by omega), w2, w3]
    by_cases h1 : q_nh u < nI k
    · simp only [w1, if_pos h1, ↓reduceIte]
      unfold q_hw
      rw [w1]
    · have hk : k ≤ N := by
        rw [eN, nI_ltI (by omega) (by omega)] at h1
        omega
      have h1w : ¬ q_nh w < nI k := by rw [w1]; exact h1
      simp only [if_neg h1, if_neg h1w]
      by_cases h2 : q_hp u k = p
      · simp only [if_pos h2]
        have eo : m_isOpen w (nI k) = xh_isOpen u (nI k) := by
          rw [f_open T eN k1 hk]
          unfold m_isOpen
          rw [nI_clamp (n := k) (by omega), w4]
        rw [eo]
        by_cases h3 : xh_isOpen u (nI k) = 0
        · simp only [if_pos h3]
          have go := ih (k + 1) cnt (by omega) (by omega) (by omega)
          by_cases h4 : q_hr u k = r
          · simp only [if_pos h4]; exact go
          · simp only [if_neg h4]; exact go
        · simp only [if_neg h3]
          by_cases h4 : q_hr u k = r
          · simp only [if_pos h4, if_neg q_10]
          · simp only [if_neg h4]
            exact ih (k + 1) (cnt + 1) (by omega) (by omega) (by omega)
      · simp only [if_neg h2]
        exact ih (k + 1) cnt (by omega) (by omega) (by omega)
/-- one hold more: related again -/
theorem k_add {u w : q_S} {th : Int32} {ch hy : Nat → Int32} {hu : Nat → Int64} {N M : Nat} (hw : w = q_mix u th ch hy hu) (eN : q_nh u = nI N) (eM : q_nc u = nI M) (R1 : q_R1 u hy) (R2 : ∀ c, ch c = q_chv u c) (R3 : q_R3 u hu) (T : q_T (q_hs u) (q_hy u) (q_cs u) (q_ch u) N M) (J : q_J u N) (k : N + 1 ≤ 120) (p r v3 v4 : Int32) (hr : ¬ x_isRecord u r = 0) :
    ∃ U : q_S, xh_add_s u p r v3 v4 = U ∧ (q_cr U = q_cr u ∧ q_cs U = q_cs u ∧ q_ch U = q_ch u) ∧ q_hw w p r v3 v4 = q_mix U th ch (upd hy (N + 1) 0) (vp_updL hu (N + 1) (-9223372036854775807)) ∧ q_nh U = nI (N + 1) ∧ q_nc U = nI M ∧ q_R1 U (upd hy (N + 1) 0) ∧ (∀ c, ch c = q_chv U c) ∧ q_R3 U (vp_updL hu (N + 1) (-9223372036854775807)) ∧ q_T (q_hs U) (q_hy U) (q_cs U) (q_ch U) (N + 1) M ∧ q_J U (N + 1) := by
  have e1 : q_nh u + 1 = nI (N + 1) := by rw [eN]; exact nI_1 N
  have e2 : (q_nh u + 1).toNatClampNeg = N + 1 := by rw [e1]; exact nI_clamp (by omega)
  have e3 : upd (q_hs u) (N + 1) 0 = q_hs u := by
    have h := q_upd_self (q_hs u) (N + 1)
    rw [(T.2.1.1 (N + 1) (Or.inr (by omega))).1] at h
    exact h
  have e4 : q_hs (xh_add_s u p r v3 v4) = q_hs u := by
    have h : q_hs (xh_add_s u p r v3 v4) = upd (q_hs u) (q_nh u + 1).toNatClampNeg 0 := by dsimp only [xh_add_s, xh_add, q_th, q_nr, q_nc, q_nh, q_sp, q_td, q_kd, q_bd, q_mo, q_cr, q_cp, q_cs, q_ch, q_hp, q_hr, q_hl, q_hk, q_hs, q_hy, q_hu, q_he, q_th_s, q_nr_s, q_nc_s, q_nh_s, q_sp_s, q_td_s, q_kd_s, q_bd_s, q_mo_s, q_cr_s, q_cp_s, q_cs_s, q_ch_s, q_hp_s, q_hr_s, q_hl_s, q_hk_s, q_hs_s, q_hy_s, q_hu_s, q_he_s, q_kd_u, q_bd_u, q_mo_u, q_cr_u, q_cp_u, q_cs_u, q_ch_u, q_hp_u, q_hr_u, q_hl_u, q_hk_u, q_hs_u, q_hy_u, q_hu_u, q_he_u, q_mix]
    rw [h, e2, e3]
  have fnh : q_nh (xh_add_s u p r v3 v4) = q_nh u + 1 := by dsimp only [xh_add_s, xh_add, q_th, q_nr, q_nc, q_nh, q_sp, q_td, q_kd, q_bd, q_mo, q_cr, q_cp, q_cs, q_ch, q_hp, q_hr, q_hl, q_hk, q_hs, q_hy, q_hu, q_he, q_th_s, q_nr_s, q_nc_s, q_nh_s, q_sp_s, q_td_s, q_kd_s, q_bd_s, q_mo_s, q_cr_s, q_cp_s, q_cs_s, q_ch_s, q_hp_s, q_hr_s, q_hl_s, q_hk_s, q_hs_s, q_hy_s, q_hu_s, q_he_s, q_kd_u, q_bd_u, q_mo_u, q_cr_u, q_cp_u, q_cs_u, q_ch_u, q_hp_u, q_hr_u, q_hl_u, q_hk_u, q_hs_u, q_hy_u, q_hu_u, q_he_u, q_mix]
  have fnc : q_nc (xh_add_s u p r v3 v4) = q_nc u := by dsimp only [xh_add_s, xh_add, q_th, q_nr, q_nc, q_nh, q_sp, q_td, q_kd, q_bd, q_mo, q_cr, q_cp, q_cs, q_ch, q_hp, q_hr, q_hl, q_hk, q_hs, q_hy, q_hu, q_he, q_th_s, q_nr_s, q_nc_s, q_nh_s, q_sp_s, q_td_s, q_kd_s, q_bd_s, q_mo_s, q_cr_s, q_cp_s, q_cs_s, q_ch_s, q_hp_s, q_hr_s, q_hl_s, q_hk_s, q_hs_s, q_hy_s, q_hu_s, q_he_s, q_kd_u, q_bd_u, q_mo_u, q_cr_u, q_cp_u, q_cs_u, q_ch_u, q_hp_u, q_hr_u, q_hl_u, q_hk_u, q_hs_u, q_hy_u, q_hu_u, q_he_u, q_mix]
  have fnr : q_nr (xh_add_s u p r v3 v4) = q_nr u := by dsimp only [xh_add_s, xh_add, q_th, q_nr, q_nc, q_nh, q_sp, q_td, q_kd, q_bd, q_mo, q_cr, q_cp, q_cs, q_ch, q_hp, q_hr, q_hl, q_hk, q_hs, q_hy, q_hu, q_he, q_th_s, q_nr_s, q_nc_s, q_nh_s, q_sp_s, q_td_s, q_kd_s, q_bd_s, q_mo_s, q_cr_s, q_cp_s, q_cs_s, q_ch_s, q_hp_s, q_hr_s, q_hl_s, q_hk_s, q_hs_s, q_hy_s, q_hu_s, q_he_s, q_kd_u, q_bd_u, q_mo_u, q_cr_u, q_cp_u, q_cs_u, q_ch_u, q_hp_u, q_hr_u, q_hl_u, q_hk_u, q_hs_u, q_hy_u, q_hu_u, q_he_u, q_mix]
  have ftd : q_td (xh_add_s u p r v3 v4) = q_td u := by dsimp only [xh_add_s, xh_add, q_th, q_nr, q_nc, q_nh, q_sp, q_td, q_kd, q_bd, q_mo, q_cr, q_cp, q_cs, q_ch, q_hp, q_hr, q_hl, q_hk, q_hs, q_hy, q_hu, q_he, q_th_s, q_nr_s, q_nc_s, q_nh_s, q_sp_s, q_td_s, q_kd_s, q_bd_s, q_mo_s, q_cr_s, q_cp_s, q_cs_s, q_ch_s, q_hp_s, q_hr_s, q_hl_s, q_hk_s, q_hs_s, q_hy_s, q_hu_s, q_he_s, q_kd_u, q_bd_u, q_mo_u, q_cr_u, q_cp_u, q_cs_u, q_ch_u, q_hp_u, q_hr_u, q_hl_u, q_hk_u, q_hs_u, q_hy_u, q_hu_u, q_he_u, q_mix]
  have fcr : q_cr (xh_add_s u p r v3 v4) = q_cr u := by dsimp only [xh_add_s, xh_add, q_th, q_nr, q_nc, q_nh, q_sp, q_td, q_kd, q_bd, q_mo, q_cr, q_cp, q_cs, q_ch, q_hp, q_hr, q_hl, q_hk, q_hs, q_hy, q_hu, q_he, q_th_s, q_nr_s, q_nc_s, q_nh_s, q_sp_s, q_td_s, q_kd_s, q_bd_s, q_mo_s, q_cr_s, q_cp_s, q_cs_s, q_ch_s, q_hp_s, q_hr_s, q_hl_s, q_hk_s, q_hs_s, q_hy_s, q_hu_s, q_he_s, q_kd_u, q_bd_u, q_mo_u, q_cr_u, q_cp_u, q_cs_u, q_ch_u, q_hp_u, q_hr_u, q_hl_u, q_hk_u, q_hs_u, q_hy_u, q_hu_u, q_he_u, q_mix]
  have fcs : q_cs (xh_add_s u p r v3 v4) = q_cs u := by dsimp only [xh_add_s, xh_add, q_th, q_nr, q_nc, q_nh, q_sp, q_td, q_kd, q_bd, q_mo, q_cr, q_cp, q_cs, q_ch, q_hp, q_hr, q_hl, q_hk, q_hs, q_hy, q_hu, q_he, q_th_s, q_nr_s, q_nc_s, q_nh_s, q_sp_s, q_td_s, q_kd_s, q_bd_s, q_mo_s, q_cr_s, q_cp_s, q_cs_s, q_ch_s, q_hp_s, q_hr_s, q_hl_s, q_hk_s, q_hs_s, q_hy_s, q_hu_s, q_he_s, q_kd_u, q_bd_u, q_mo_u, q_cr_u, q_cp_u, q_cs_u, q_ch_u, q_hp_u, q_hr_u, q_hl_u, q_hk_u, q_hs_u, q_hy_u, q_hu_u, q_he_u, q_mix]
  have fch : q_ch (xh_add_s u p r v3 v4) = q_ch u := by dsimp only [xh_add_s, xh_add, q_th, q_nr, q_nc, q_nh, q_sp, q_td, q_kd, q_bd, q_mo, q_cr, q_cp, q_cs, q_ch, q_hp, q_hr, q_hl, q_hk, q_hs, q_hy, q_hu, q_he, q_th_s, q_nr_s, q_nc_s, q_nh_s, q_sp_s, q_td_s, q_kd_s, q_bd_s, q_mo_s, q_cr_s, q_cp_s, q_cs_s, q_ch_s, q_hp_s, q_hr_s, q_hl_s, q_hk_s, q_hs_s, q_hy_s, q_hu_s, q_he_s, q_kd_u, q_bd_u, q_mo_u, q_cr_u, q_cp_u, q_cs_u, q_ch_u, q_hp_u, q_hr_u, q_hl_u, q_hk_u, q_hs_u, q_hy_u, q_hu_u, q_he_u, q_mix]
  have fhy : q_hy (xh_add_s u p r v3 v4) = q_hy u := by dsimp only [xh_add_s, xh_add, q_th, q_nr, q_nc, q_nh, q_sp, q_td, q_kd, q_bd, q_mo, q_cr, q_cp, q_cs, q_ch, q_hp, q_hr, q_hl, q_hk, q_hs, q_hy, q_hu, q_he, q_th_s, q_nr_s, q_nc_s, q_nh_s, q_sp_s, q_td_s, q_kd_s, q_bd_s, q_mo_s, q_cr_s, q_cp_s, q_cs_s, q_ch_s, q_hp_s, q_hr_s, q_hl_s, q_hk_s, q_hs_s, q_hy_s, q_hu_s, q_he_s, q_kd_u, q_bd_u, q_mo_u, q_cr_u, q_cp_u, q_cs_u, q_ch_u, q_hp_u, q_hr_u, q_hl_u, q_hk_u, q_hs_u, q_hy_u, q_hu_u, q_he_u, q_mix]
  have fhu : q_hu (xh_add_s u p r v3 v4) = q_hu u := by dsimp only [xh_add_s, xh_add, q_th, q_nr, q_nc, q_nh, q_sp, q_td, q_kd, q_bd, q_mo, q_cr, q_cp, q_cs, q_ch, q_hp, q_hr, q_hl, q_hk, q_hs, q_hy, q_hu, q_he, q_th_s, q_nr_s, q_nc_s, q_nh_s, q_sp_s, q_td_s, q_kd_s, q_bd_s, q_mo_s, q_cr_s, q_cp_s, q_cs_s, q_ch_s, q_hp_s, q_hr_s, q_hl_s, q_hk_s, q_hs_s, q_hy_s, q_hu_s, q_he_s, q_kd_u, q_bd_u, q_mo_u, q_cr_u, q_cp_u, q_cs_u, q_ch_u, q_hp_u, q_hr_u, q_hl_u, q_hk_u, q_hs_u, q_hy_u, q_hu_u, q_he_u, q_mix]
  have fhr : q_hr (xh_add_s u p r v3 v4) = upd (q_hr u) (q_nh u + 1).toNatClampNeg r := by dsimp only [xh_add_s, xh_add, q_th, q_nr, q_nc, q_nh, q_sp, q_td, q_kd, q_bd, q_mo, q_cr, q_cp, q_cs, q_ch, q_hp, q_hr, q_hl, q_hk, q_hs, q_hy, q_hu, q_he, q_th_s, q_nr_s, q_nc_s, q_nh_s, q_sp_s, q_td_s, q_kd_s, q_bd_s, q_mo_s, q_cr_s, q_cp_s, q_cs_s, q_ch_s, q_hp_s, q_hr_s, q_hl_s, q_hk_s, q_hs_s, q_hy_s, q_hu_s, q_he_s, q_kd_u, q_bd_u, q_mo_u, q_cr_u, q_cp_u, q_cs_u, q_ch_u, q_hp_u, q_hr_u, q_hl_u, q_hk_u, q_hs_u, q_hy_u, q_hu_u, q_he_u, q_mix]
  have fw : q_hw w p r v3 v4 = q_mix (xh_add_s u p r v3 v4) th ch (upd hy (q_nh u + 1).toNatClampNeg 0) (vp_updL hu (q_nh u + 1).toNatClampNeg (-9223372036854775807)) := by
    rw [hw]
    refine q_ext ?_ ?_ ?_ ?_ ?_ ?_ ?_ ?_ ?_ ?_ ?_ ?_ ?_ ?_ ?_ ?_ ?_ ?_ ?_ ?_ ?_ <;> dsimp only [q_hw, xh_add_s, xh_add, q_th, q_nr, q_nc, q_nh, q_sp, q_td, q_kd, q_bd, q_mo, q_cr, q_cp, q_cs, q_ch, q_hp, q_hr, q_hl, q_hk, q_hs, q_hy, q_hu, q_he, q_th_s, q_nr_s, q_nc_s, q_nh_s, q_sp_s, q_td_s, q_kd_s, q_bd_s, q_mo_s, q_cr_s, q_cp_s, q_cs_s, q_ch_s, q_hp_s, q_hr_s, q_hl_s, q_hk_s, q_hs_s, q_hy_s, q_hu_s, q_he_s, q_kd_u, q_bd_u, q_mo_u, q_cr_u, q_cp_u, q_cs_u, q_ch_u, q_hp_u, q_hr_u, q_hl_u, q_hk_u, q_hs_u, q_hy_u, q_hu_u, q_he_u, q_mix]
  rw [e2] at fw fhr
  generalize xh_add_s u p r v3 v4 = U at *
  refine ⟨U, rfl, ⟨fcr, fcs, fch⟩, fw, fnh.trans e1, fnc.trans eM, ?_, ?_, ?_, ?_, ?_, ?_, ?_⟩
  · intro h
    rw [e4, fhy]
    by_cases e : h = N + 1
    · subst e
      rw [pk_us, (T.2.1.1 (N + 1) (Or.inr (by omega))).1, (T.2.1.1 (N + 1) (Or.inr (by omega))).2, q_p5_0]
    · rw [pk_un e]
      exact R1 h
  · intro c
    rw [R2 c]
    unfold q_chv
    rw [e4, fcs, fch]
  · intro h
    rw [fhu]
    unfold vp_updL
    by_cases e : h = N + 1
    · rw [if_pos e]
      exact Or.inr ⟨J.1 h (by omega), rfl⟩
    · rw [if_neg e]
      exact R3 h
  · rw [e4, fhy, fcs, fch]
    have t := q_T_nh T k
    rw [e3] at t
    exact t
  · intro h hh
    rw [fhu]
    exact J.1 h (by omega)
  · intro h h1 h2
    have g : ∀ v, x_isRecord U v = x_isRecord u v := by
      intro v
      unfold x_isRecord
      rw [fnr]
    rw [g, fhr]
    by_cases e : h = N + 1
    · subst e
      rw [pk_us]
      exact hr
    · rw [pk_un e]
      exact J.2.1 h h1 (by omega)
  · rw [ftd]
    exact J.2.2
theorem k_hold {u w : q_S} (K : q_K u w) (p r v3 v4 : Int32) : x_hold_r u p r v3 v4 = m_hold_r w p r v3 v4 ∧ q_K (x_hold_s u p r v3 v4) (m_hold_s w p r v3 v4) := by
  have K0 := k_th K
  obtain ⟨th, ch, hy, hu, N, M, hw, eN, eM, R1, R2, R3, T, J⟩ := id K0
  have hN := T.1.1
  have hM := T.1.2
  unfold x_hold_r m_hold_r x_hold_s m_hold_s x_hold m_hold
  have e1 : x_isRecord u r = m_in r 1 (q_nr w) := by
    show x_isRecord u r = m_in r 1 (q_nr (q_th_s w 0))
    rw [hw]
    rfl
  have e2 : q_bd w = q_bd u := by show q_bd (q_th_s w 0) = _; rw [hw]; rfl
  have e3 : q_kd w = q_kd u := by show q_kd (q_th_s w 0) = _; rw [hw]; rfl
  have e4 : q_nh w = q_nh u := by show q_nh (q_th_s w 0) = _; rw [hw]; rfl
  have e5 : q_nc (q_th_s w 0) = q_nc u := by rw [hw]; rfl
  have e6 : q_mo (q_th_s w 0) = q_mo u := by rw [hw]; rfl
  rw [← q_person p, ← q_place v3, ← e1, e2, e3, e4]
  have hc : (q_nh u < 120 ↔ ¬ q_nh u = 120) := q_nlt (N := 120) eN hN (by omega)
  by_cases h1 : x_isPerson p = 0
  · simp only [if_pos h1]; exact ⟨by first | rfl | trivial, K0⟩
  by_cases h2 : x_isRecord u r = 0
  · simp only [if_neg h1, if_pos h2]; exact ⟨by first | rfl | trivial, K0⟩
  by_cases h3 : x_isPlace v3 = 0
  · simp only [if_neg h1, if_neg h2, if_pos h3]; exact ⟨by first | rfl | trivial, K0⟩
  by_cases h4 : q_bd u (Int32.toNatClampNeg (q_kd u (Int32.toNatClampNeg r))) = 0
  case neg => simp only [if_neg h1, if_neg h2, if_neg h3, if_neg h4]; exact ⟨by first | rfl | trivial, K0⟩
  simp only [if_neg h1, if_neg h2, if_neg h3, if_pos h4]
  have L := f_hold_1 u (q_th_s w 0) T eN e4 (by rw [hw]; rfl) (by rw [hw]; rfl) (by rw [hw]; rfl) p r v3 v4 200 1 0 (by omega) (by omega) (by omega)
  have L' : m_hold_l67 200 p r v3 v4 0 1 (q_th_s w 0) = if xh_hasOpen u p r = 0 then (if xh_countOpen u p < q_mo u (Int32.toNatClampNeg p) then m_hold_l232 200 p r v3 v4 (xh_countOpen u p) ((q_nh u) + 1) 0 (q_nc u) (q_hw (q_th_s w 0) p r v3 v4) else ((-1), q_th_s w 0)) else (0, q_th_s w 0) := by
    rw [e5, e6, show q_nh (q_th_s w 0) = q_nh u from e4] at L
    exact L
  rw [L']
  unfold xh_areFull
  by_cases h6 : q_nh u = 120
  · have h7 : ¬ q_nh u < 120 := fun q => hc.mp q h6
    simp only [if_pos h6, if_neg h7, if_neg q_10]
    by_cases h5 : xh_hasOpen u p r = 0
    · simp only [if_pos h5]; exact ⟨by first | rfl | trivial, K0⟩
    · simp only [if_neg h5]; exact ⟨by first | rfl | trivial, K0⟩
  · have h7 : q_nh u < 120 := hc.mpr h6
    simp only [if_neg h6, if_pos h7, ↓reduceIte]
    by_cases h5 : xh_hasOpen u p r = 0
    case neg => simp only [if_neg h5]; exact ⟨by first | rfl | trivial, K0⟩
    simp only [if_pos h5]
    by_cases h8 : xh_countOpen u p < q_mo u (Int32.toNatClampNeg p)
    case neg => simp only [if_neg h8]; exact ⟨by first | rfl | trivial, K0⟩
    simp only [if_pos h8]
    have kN : N + 1 ≤ 120 := by
      rw [eN] at h7
      have h9 : nI N < nI 120 := h7
      rw [nI_ltI (by omega) (by omega)] at h9
      omega
    obtain ⟨U, eU, ⟨fcr, fcs, fch⟩, a1, a2, aM, a3, a4, a5, a6, a7⟩ := k_add hw eN eM R1 R2 R3 T J kN p r v3 v4 h2
    have er : xh_add_r u p r v3 v4 = q_nh u + 1 := rfl
    rw [eU, er]
    have K1 : q_K U (q_hw (q_th_s w 0) p r v3 v4) := ⟨th, ch, _, _, N + 1, M, a1, a2, aM, a3, a4, a5, a6, a7⟩
    have ecr : q_cr (q_hw (q_th_s w 0) p r v3 v4) = q_cr u := by rw [a1, q_cr_mix]; exact fcr
    have ecs : q_cs (q_hw (q_th_s w 0) p r v3 v4) = q_cs u := by rw [a1, q_cs_mix]; exact fcs
    have ef : xc_leastFree U r = q_lf (q_cr u) (q_cs u) r M 0 := by
      rw [f_least U r hM aM, fcr, fcs]
    rw [eM, f_hold_2 (q_hw (q_th_s w 0) p r v3 v4) p r v3 v4 (xh_countOpen u p) (q_nh u + 1) 200 M 0 hM (by omega), ecr, ecs, ef]
    rcases q_lf_or (q_cr u) (q_cs u) r (M := M) M 0 (Nat.le_refl M) (Or.inl rfl) with hf | ⟨c0, k1, k2, hf, hr0, hs0⟩
    · rw [hf]
      simp only [↓reduceIte, if_pos (show (0 : Int32) ≤ 0 by decide)]
      exact ⟨by first | rfl | trivial, K1⟩
    · rw [hf]
      simp only [if_neg (q_nI_z (show c0 ≤ 1000 by omega) k1), if_neg (nI_nle k1 (show c0 < 2 ^ 31 by omega))]
      refine ⟨by first | rfl | trivial, ?_⟩
      have ch0 : q_ch U c0 = 0 := by
        rw [fch]
        rcases T.2.2.2 c0 with q | ⟨h, q1, q2, q3, q4, q5⟩
        · exact q.1
        · rcases q5 with q | q | q <;> exact absurd (hs0.symm.trans q.2) (by decide)
      exact (k_settle (u := U) (N := N + 1) (M := M) (c0 := c0) a1 a2 aM k1 k2 a3 (fun c _ => a4 c) a5 (q_T_c a6 k1 k2 ch0 (Or.inr rfl)) a7).2
