theorem m_record_pp {u : q_S} (hI : q_I u) (v1 : Int32) : m_record_p u v1 := by
  unfold m_record_p
  exact ⟨fun _ => trivial, fun _ => ⟨fun _ => trivial, fun h2 => (q_inc_nr hI (q_ne_nr hI h2)).2⟩⟩
theorem m_record_I {u : q_S} (hI : q_I u) (v1 : Int32) : q_I (m_record_s u v1) := by
  show q_I ((m_record u v1).2)
  unfold m_record
  by_cases h1 : (m_in v1 0 3) = 0
  · rw [if_pos h1]
    exact (q_I_th_s hI _)
  · rw [if_neg h1]
    by_cases h2 : (q_nr u) = 30
    · rw [if_pos h2]
      exact (q_I_th_s hI _)
    · rw [if_neg h2]
      exact (q_I_kd_u (q_I_nr_s (q_I_th_s hI _) (q_inc_nr hI (q_ne_nr hI h2)).1) _ _ (m_in3 h1))
theorem m_copy_pp {u : q_S} (hI : q_I u) (v1 : Int32) (v2 : Int32) : m_copy_p u v1 v2 := by
  unfold m_copy_p
  exact ⟨fun _ => trivial, fun _ => ⟨fun _ => trivial, fun _ => ⟨fun _ => trivial, fun h3 => (q_inc_nc hI (q_ne_nc hI h3)).2⟩⟩⟩
theorem m_copy_I {u : q_S} (hI : q_I u) (v1 : Int32) (v2 : Int32) : q_I (m_copy_s u v1 v2) := by
  show q_I ((m_copy u v1 v2).2)
  unfold m_copy
  by_cases h1 : (m_in v1 1 (q_nr u)) = 0
  · rw [if_pos h1]
    exact (q_I_th_s hI _)
  · rw [if_neg h1]
    by_cases h2 : (m_in v2 0 5) = 0
    · rw [if_pos h2]
      exact (q_I_th_s hI _)
    · rw [if_neg h2]
      by_cases h3 : (q_nc u) = 60
      · rw [if_pos h3]
        exact (q_I_th_s hI _)
      · rw [if_neg h3]
        exact (q_I_ch_u (q_I_cp_u (q_I_cs_u (q_I_cr_u (q_I_nc_s (q_I_th_s hI _) (q_inc_nc hI (q_ne_nc hI h3)).1) _ _) _ _) _ _) _ _ (q_0in 121 (by omega) (by omega)))
theorem m_bar_pp {u : q_S} (hI : q_I u) (v1 : Int32) (v2 : Int32) : m_bar_p u v1 v2 := by
  unfold m_bar_p
  exact ⟨fun _ => trivial, fun h1 => ⟨(m_in3 h1), q_nb (q_I_bd hI _)⟩⟩
theorem m_bar_I {u : q_S} (hI : q_I u) (v1 : Int32) (v2 : Int32) : q_I (m_bar_s u v1 v2) := by
  show q_I ((m_bar u v1 v2).2)
  unfold m_bar
  by_cases h1 : (m_in v1 0 3) = 0
  · rw [if_pos h1]
    exact (q_I_th_s hI _)
  · rw [if_neg h1]
    exact (q_I_bd_u (q_I_th_s hI _) _ _ (q_nz _))
theorem m_isOpen_pp {u : q_S} (hI : q_I u) (v1 : Int32) (e0 : vp_in v1 121) : m_isOpen_p u v1 := by
  unfold m_isOpen_p
  exact e0
theorem m_isAhead_pp {u : q_S} (hI : q_I u) (v1 : Int32) (v2 : Int32) (e0 : vp_in v1 121) (e1 : vp_in v2 121) : m_isAhead_p u v1 v2 := by
  unfold m_isAhead_p
  exact ⟨e0, e1⟩
theorem m_placeOf_l4_pp {N : Nat} (hB : N ≤ 120) : ∀ (n k : Nat) (v1 : Int32) (v2 : Int32) (u : q_S), q_I u → q_nh u = nI N → 1 ≤ k → k ≤ N + 1 → N + 1 < k + n → vp_in v1 121 → m_placeOf_l4_p n v1 v2 (nI k) u := by
  intro n
  induction n with
  | zero => intro k v1 v2 u hI hN h1 h2 h3; omega
  | succ n ih =>
    intro k v1 v2 u hI hN h1 h2 h3 e1
    show m_placeOf_l4_pb (m_placeOf_l4_p n) v1 v2 (nI k) u
    unfold m_placeOf_l4_pb
    exact ⟨fun _ => trivial, fun h1 => ⟨(q_lpv hN (by omega) (by omega) h1 (by omega) (by omega)), ⟨fun h2 => ⟨e1, ⟨fun _ => ⟨m_isAhead_pp hI _ _ (q_lpv hN (by omega) (by omega) h1 (by omega) (by omega)) e1, ⟨fun _ => (by have ih2 := ih (k + 1) v1 (v2 + 0) u hI hN (by omega) (by have := q_lp hN (by omega) (by omega) h1; omega) (by omega) e1; rw [← nI_1] at ih2; exact ih2), fun _ => (by have ih2 := ih (k + 1) v1 (v2 + 1) u hI hN (by omega) (by have := q_lp hN (by omega) (by omega) h1; omega) (by omega) e1; rw [← nI_1] at ih2; exact ih2)⟩⟩, fun _ => (by have ih2 := ih (k + 1) v1 (v2 + 0) u hI hN (by omega) (by have := q_lp hN (by omega) (by omega) h1; omega) (by omega) e1; rw [← nI_1] at ih2; exact ih2)⟩⟩, fun h2 => (by have ih2 := ih (k + 1) v1 (v2 + 0) u hI hN (by omega) (by have := q_lp hN (by omega) (by omega) h1; omega) (by omega) e1; rw [← nI_1] at ih2; exact ih2)⟩⟩⟩
theorem m_placeOf_pp {u : q_S} (hI : q_I u) (v1 : Int32) (e0 : vp_in v1 121) : m_placeOf_p u v1 := by
  unfold m_placeOf_p
  exact (by obtain ⟨N, hB, hN⟩ := q_I_nh hI; exact m_placeOf_l4_pp hB 200 1 v1 0 u hI hN (by omega) (by omega) (by omega) e0)
theorem m_fits_l4_pp {N : Nat} (hB : N ≤ 120) : ∀ (n k : Nat) (v1 : Int32) (v2 : Int32) (u : q_S), q_I u → q_nh u = nI N → 1 ≤ k → k ≤ N + 1 → N + 1 < k + n → vp_in v2 121 → m_fits_l4_p n v1 v2 (nI k) u := by
  intro n
  induction n with
  | zero => intro k v1 v2 u hI hN h1 h2 h3; omega
  | succ n ih =>
    intro k v1 v2 u hI hN h1 h2 h3 e2
    show m_fits_l4_pb (m_fits_l4_p n) v1 v2 (nI k) u
    unfold m_fits_l4_pb
    exact ⟨fun _ => trivial, fun h1 => ⟨(q_lpv hN (by omega) (by omega) h1 (by omega) (by omega)), ⟨fun h2 => ⟨fun _ => ⟨fun _ => (by have ih2 := ih (k + 1) v1 v2 u hI hN (by omega) (by have := q_lp hN (by omega) (by omega) h1; omega) (by omega) e2; rw [← nI_1] at ih2; exact ih2), fun _ => ⟨fun _ => (by have ih2 := ih (k + 1) v1 (nI k) u hI hN (by omega) (by have := q_lp hN (by omega) (by omega) h1; omega) (by omega) (q_lpv hN (by omega) (by omega) h1 (by omega) (by omega)); rw [← nI_1] at ih2; exact ih2), fun _ => ⟨m_isAhead_pp hI _ _ (q_lpv hN (by omega) (by omega) h1 (by omega) (by omega)) e2, ⟨fun _ => (by have ih2 := ih (k + 1) v1 v2 u hI hN (by omega) (by have := q_lp hN (by omega) (by omega) h1; omega) (by omega) e2; rw [← nI_1] at ih2; exact ih2), fun _ => (by have ih2 := ih (k + 1) v1 (nI k) u hI hN (by omega) (by have := q_lp hN (by omega) (by omega) h1; omega) (by omega) (q_lpv hN (by omega) (by omega) h1 (by omega) (by omega)); rw [← nI_1] at ih2; exact ih2)⟩⟩⟩⟩, fun _ => (by have ih2 := ih (k + 1) v1 v2 u hI hN (by omega) (by have := q_lp hN (by omega) (by omega) h1; omega) (by omega) e2; rw [← nI_1] at ih2; exact ih2)⟩, fun h2 => (by have ih2 := ih (k + 1) v1 v2 u hI hN (by omega) (by have := q_lp hN (by omega) (by omega) h1; omega) (by omega) e2; rw [← nI_1] at ih2; exact ih2)⟩⟩⟩
theorem m_fits_pp {u : q_S} (hI : q_I u) (v1 : Int32) : m_fits_p u v1 := by
  unfold m_fits_p
  exact (by obtain ⟨N, hB, hN⟩ := q_I_nh hI; exact m_fits_l4_pp hB 200 1 v1 0 u hI hN (by omega) (by omega) (by omega) (q_0in 121 (by omega) (by omega)))
theorem m_fits_l4_vp {N : Nat} (hB : N ≤ 120) : ∀ (n k : Nat) (v1 : Int32) (v2 : Int32) (u : q_S), q_I u → q_nh u = nI N → 1 ≤ k → k ≤ N + 1 → N + 1 < k + n → vp_in v2 121 → vp_in (m_fits_l4 n v1 v2 (nI k) u) 121 := by
  intro n
  induction n with
  | zero => intro k v1 v2 u hI hN h1 h2 h3; omega
  | succ n ih =>
    intro k v1 v2 u hI hN h1 h2 h3 e2
    show vp_in (m_fits_l4_b (m_fits_l4 n) v1 v2 (nI k) u) 121
    unfold m_fits_l4_b
    by_cases h11 : (q_nh u) < (nI k)
    · rw [if_pos h11]
      exact e2
    · rw [if_neg h11]
      by_cases h12 : (q_hs u (Int32.toNatClampNeg (nI k))) = 0
      · rw [if_pos h12]
        by_cases h13 : (q_hr u (Int32.toNatClampNeg (nI k))) = v1
        · rw [if_pos h13]
          by_cases h14 : 0 < (lg_cmp (q_hu u (Int32.toNatClampNeg (nI k))) (q_td u))
          · rw [if_pos h14]
            exact (by have ih2 := ih (k + 1) v1 v2 u hI hN (by omega) (by have := q_lp hN (by omega) (by omega) h11; omega) (by omega) e2; rw [← nI_1] at ih2; exact ih2)
          · rw [if_neg h14]
            by_cases h15 : v2 = 0
            · rw [if_pos h15]
              exact (by have ih2 := ih (k + 1) v1 (nI k) u hI hN (by omega) (by have := q_lp hN (by omega) (by omega) h11; omega) (by omega) (q_lpv hN (by omega) (by omega) h11 (by omega) (by omega)); rw [← nI_1] at ih2; exact ih2)
            · rw [if_neg h15]
              by_cases h16 : (m_isAhead u (nI k) v2) = 0
              · rw [if_pos h16]
                exact (by have ih2 := ih (k + 1) v1 v2 u hI hN (by omega) (by have := q_lp hN (by omega) (by omega) h11; omega) (by omega) e2; rw [← nI_1] at ih2; exact ih2)
              · rw [if_neg h16]
                exact (by have ih2 := ih (k + 1) v1 (nI k) u hI hN (by omega) (by have := q_lp hN (by omega) (by omega) h11; omega) (by omega) (q_lpv hN (by omega) (by omega) h11 (by omega) (by omega)); rw [← nI_1] at ih2; exact ih2)
        · rw [if_neg h13]
          exact (by have ih2 := ih (k + 1) v1 v2 u hI hN (by omega) (by have := q_lp hN (by omega) (by omega) h11; omega) (by omega) e2; rw [← nI_1] at ih2; exact ih2)
      · rw [if_neg h12]
        exact (by have ih2 := ih (k + 1) v1 v2 u hI hN (by omega) (by have := q_lp hN (by omega) (by omega) h11; omega) (by omega) e2; rw [← nI_1] at ih2; exact ih2)
theorem m_fits_vp {u : q_S} (hI : q_I u) (v1 : Int32) : vp_in (m_fits u v1) 121 := by
  obtain ⟨N, hB, hN⟩ := q_I_nh hI
  exact m_fits_l4_vp hB 200 1 v1 0 u hI hN (by omega) (by omega) (by omega) (q_0in 121 (by omega) (by omega))
theorem m_lies_pp {u : q_S} (hI : q_I u) (v1 : Int32) (v2 : Int32) (e0 : vp_in v1 61) (e1 : vp_in v2 121) : m_lies_p u v1 v2 := by
  unfold m_lies_p
  exact ⟨e1, e0⟩
theorem m_lies_I {u : q_S} (hI : q_I u) (v1 : Int32) (v2 : Int32) (e0 : vp_in v1 61) (e1 : vp_in v2 121) : q_I (m_lies u v1 v2) := by
  show q_I (m_lies u v1 v2)
  unfold m_lies
  exact (q_I_cs_u (q_I_he_u (q_I_hs_u hI _ _) _ _) _ _)
theorem m_goes_pp {u : q_S} (hI : q_I u) (v1 : Int32) (e0 : vp_in v1 61) : m_goes_p u v1 := by
  unfold m_goes_p
  exact ⟨e0, ⟨m_fits_pp hI _, ⟨fun _ => trivial, fun _ => ⟨(m_fits_vp hI _), ⟨fun _ => m_lies_pp (q_I_hy_u (q_I_cs_u (q_I_ch_u hI _ _ (m_fits_vp hI _)) _ _) _ _ e0) _ _ e0 (m_fits_vp hI _), fun _ => trivial⟩⟩⟩⟩⟩
theorem m_goes_I {u : q_S} (hI : q_I u) (v1 : Int32) (e0 : vp_in v1 61) : q_I (m_goes_s u v1) := by
  show q_I ((m_goes u v1).2)
  unfold m_goes
  by_cases h1 : (m_fits u (q_cr u (Int32.toNatClampNeg v1))) = 0
  · rw [if_pos h1]
    exact (q_I_cs_u (q_I_ch_u hI _ _ (m_fits_vp hI _)) _ _)
  · rw [if_neg h1]
    by_cases h2 : (q_cp u (Int32.toNatClampNeg v1)) = (q_hl u (Int32.toNatClampNeg (m_fits u (q_cr u (Int32.toNatClampNeg v1)))))
    · rw [if_pos h2]
      exact (m_lies_I (q_I_hy_u (q_I_cs_u (q_I_ch_u hI _ _ (m_fits_vp hI _)) _ _) _ _ e0) _ _ e0 (m_fits_vp hI _))
    · rw [if_neg h2]
      exact (q_I_cp_u (q_I_cs_u (q_I_hs_u (q_I_hy_u (q_I_cs_u (q_I_ch_u hI _ _ (m_fits_vp hI _)) _ _) _ _ e0) _ _) _ _) _ _)
theorem m_hold_l232_pp {u : q_S} {cn : Int32} (hI : q_I u) (hN : ∃ N, N ≤ 60 ∧ cn = nI N) (v1 v2 v3 v4 v5 v6 : Int32) : m_hold_l232_p 200 v1 v2 v3 v4 v5 v6 0 cn u := by
  have key : ∀ (n k : Nat) (v7 : Int32), k ≤ 60 → k < n → vp_in v7 61 → m_hold_l232_p n v1 v2 v3 v4 v5 v6 v7 (nI k) u := by
    intro n
    induction n with
    | zero => intro k v7 h1 h2; omega
    | succ n ih =>
      intro k v7 h1 h2 h7
      show m_hold_l232_pb (m_hold_l232_p n) v1 v2 v3 v4 v5 v6 v7 (nI k) u
      unfold m_hold_l232_pb
      refine ⟨fun _ => ⟨fun _ => trivial, fun _ => m_goes_pp hI _ h7⟩, fun h => ?_⟩
      cases k with
      | zero => exact absurd (by decide +kernel : nI 0 ≤ 0) h
      | succ k =>
        have A : vp_in (nI (k + 1)) 61 := vp_in_nI (by omega) (by omega)
        rw [pk_m1]
        exact ⟨A, ⟨fun _ => ⟨fun _ => ih k _ (by omega) (by omega) A, fun _ => ih k _ (by omega) (by omega) h7⟩, fun _ => ih k _ (by omega) (by omega) h7⟩⟩
  obtain ⟨N, hB, e⟩ := hN
  rw [e]
  exact key 200 N 0 hB (by omega) (q_0in 61 (by omega) (by omega))
theorem m_hold_l232_I {u : q_S} {cn : Int32} (hI : q_I u) (hN : ∃ N, N ≤ 60 ∧ cn = nI N) (v1 v2 v3 v4 v5 v6 : Int32) : q_I (m_hold_l232 200 v1 v2 v3 v4 v5 v6 0 cn u).2 := by
  have key : ∀ (n k : Nat) (v7 : Int32), k ≤ 60 → vp_in v7 61 → q_I (m_hold_l232 n v1 v2 v3 v4 v5 v6 v7 (nI k) u).2 := by
    intro n
    induction n with
    | zero => intro k v7 h1 h2; exact hI
    | succ n ih =>
      intro k v7 h1 h7
      show q_I (m_hold_l232_b (m_hold_l232 n) v1 v2 v3 v4 v5 v6 v7 (nI k) u).2
      unfold m_hold_l232_b
      by_cases h : nI k ≤ 0
      · rw [if_pos h]
        by_cases h2 : v7 ≤ 0
        · rw [if_pos h2]; exact hI
        · rw [if_neg h2]; exact m_goes_I hI _ h7
      · rw [if_neg h]
        cases k with
        | zero => exact absurd (by decide +kernel : nI 0 ≤ 0) h
        | succ k =>
          have A : vp_in (nI (k + 1)) 61 := vp_in_nI (by omega) (by omega)
          rw [pk_m1]
          split
          · split
            · exact ih k _ (by omega) A
            · exact ih k _ (by omega) h7
          · exact ih k _ (by omega) h7
  obtain ⟨N, hB, e⟩ := hN
  rw [e]
  exact key 200 N 0 hB (q_0in 61 (by omega) (by omega))

theorem m_hold_l67_pp {N : Nat} (hB : N ≤ 120) : ∀ (n k : Nat) (v1 : Int32) (v2 : Int32) (v3 : Int32) (v4 : Int32) (v5 : Int32) (u : q_S), q_I u → q_nh u = nI N → 1 ≤ k → k ≤ N + 1 → N + 1 < k + n → vp_in v1 40 → q_nh u < 120 → m_hold_l67_p n v1 v2 v3 v4 v5 (nI k) u := by
  intro n
  induction n with
  | zero => intro k v1 v2 v3 v4 v5 u hI hN h1 h2 h3; omega
  | succ n ih =>
    intro k v1 v2 v3 v4 v5 u hI hN h1 h2 h3 e1 hst
    show m_hold_l67_pb (m_hold_l67_p n) v1 v2 v3 v4 v5 (nI k) u
    unfold m_hold_l67_pb
    exact ⟨fun _ => ⟨e1, ⟨fun _ => ⟨(q_inc_nh hI hst).2, (m_hold_l232_pp (q_I_hu_u (q_I_hy_u (q_I_hs_u (q_I_hk_u (q_I_hl_u (q_I_hr_u (q_I_hp_u (q_I_nh_s hI (q_inc_nh hI hst).1) _ _) _ _) _ _) _ _) _ _) _ _ (q_0in 61 (by omega) (by omega))) _ _) (q_I_nc hI) _ _ _ _ _ _)⟩, fun _ => trivial⟩⟩, fun h1 => ⟨(q_lpv hN (by omega) (by omega) h1 (by omega) (by omega)), ⟨fun _ => ⟨m_isOpen_pp hI _ (q_lpv hN (by omega) (by omega) h1 (by omega) (by omega)), ⟨fun _ => (by have ih2 := ih (k + 1) v1 v2 v3 v4 v5 u hI hN (by omega) (by have := q_lp hN (by omega) (by omega) h1; omega) (by omega) e1 hst; rw [← nI_1] at ih2; exact ih2), fun _ => ⟨fun _ => trivial, fun _ => (by have ih2 := ih (k + 1) v1 v2 v3 v4 (v5 + 1) u hI hN (by omega) (by have := q_lp hN (by omega) (by omega) h1; omega) (by omega) e1 hst; rw [← nI_1] at ih2; exact ih2)⟩⟩⟩, fun _ => (by have ih2 := ih (k + 1) v1 v2 v3 v4 v5 u hI hN (by omega) (by have := q_lp hN (by omega) (by omega) h1; omega) (by omega) e1 hst; rw [← nI_1] at ih2; exact ih2)⟩⟩⟩
theorem m_hold_pp {u : q_S} (hI : q_I u) (v1 : Int32) (v2 : Int32) (v3 : Int32) (v4 : Int32) : m_hold_p u v1 v2 v3 v4 := by
  unfold m_hold_p
  exact ⟨fun _ => trivial, fun h1 => ⟨fun _ => trivial, fun h2 => ⟨fun _ => trivial, fun _ => ⟨(m_in_nr hI h2), ⟨(q_I_kd hI _), ⟨fun _ => ⟨fun _ => trivial, fun h5 => (by obtain ⟨N, hB, hN⟩ := q_I_nh hI; exact m_hold_l67_pp hB 200 1 v1 v2 v3 v4 0 (q_th_s u 0) (q_I_th_s hI _) hN (by omega) (by omega) (by omega) (m_in39 h1) (q_ne_nh hI h5))⟩, fun _ => trivial⟩⟩⟩⟩⟩⟩
theorem m_hold_l67_I {N : Nat} (hB : N ≤ 120) : ∀ (n k : Nat) (v1 : Int32) (v2 : Int32) (v3 : Int32) (v4 : Int32) (v5 : Int32) (u : q_S), q_I u → q_nh u = nI N → 1 ≤ k → k ≤ N + 1 → vp_in v1 40 → q_nh u < 120 → q_I (m_hold_l67 n v1 v2 v3 v4 v5 (nI k) u).2 := by
  intro n
  induction n with
  | zero => intro k v1 v2 v3 v4 v5 u hI hN h1 h2 e1 hst; exact hI
  | succ n ih =>
    intro k v1 v2 v3 v4 v5 u hI hN h1 h2 e1 hst
    show q_I (m_hold_l67_b (m_hold_l67 n) v1 v2 v3 v4 v5 (nI k) u).2
    unfold m_hold_l67_b
    by_cases h11 : (q_nh u) < (nI k)
    · rw [if_pos h11]
      by_cases h12 : v5 < (q_mo u (Int32.toNatClampNeg v1))
      · rw [if_pos h12]
        exact (m_hold_l232_I (q_I_hu_u (q_I_hy_u (q_I_hs_u (q_I_hk_u (q_I_hl_u (q_I_hr_u (q_I_hp_u (q_I_nh_s hI (q_inc_nh hI hst).1) _ _) _ _) _ _) _ _) _ _) _ _ (q_0in 61 (by omega) (by omega))) _ _) (q_I_nc hI) _ _ _ _ _ _)
      · rw [if_neg h12]
        exact hI
    · rw [if_neg h11]
      by_cases h13 : (q_hp u (Int32.toNatClampNeg (nI k))) = v1
      · rw [if_pos h13]
        by_cases h14 : (m_isOpen u (nI k)) = 0
        · rw [if_pos h14]
          exact (by have ih2 := ih (k + 1) v1 v2 v3 v4 v5 u hI hN (by omega) (by have := q_lp hN (by omega) (by omega) h11; omega) e1 hst; rw [← nI_1] at ih2; exact ih2)
        · rw [if_neg h14]
          by_cases h15 : (q_hr u (Int32.toNatClampNeg (nI k))) = v2
          · rw [if_pos h15]
            exact hI
          · rw [if_neg h15]
            exact (by have ih2 := ih (k + 1) v1 v2 v3 v4 (v5 + 1) u hI hN (by omega) (by have := q_lp hN (by omega) (by omega) h11; omega) e1 hst; rw [← nI_1] at ih2; exact ih2)
      · rw [if_neg h13]
        exact (by have ih2 := ih (k + 1) v1 v2 v3 v4 v5 u hI hN (by omega) (by have := q_lp hN (by omega) (by omega) h11; omega) e1 hst; rw [← nI_1] at ih2; exact ih2)
theorem m_hold_I {u : q_S} (hI : q_I u) (v1 : Int32) (v2 : Int32) (v3 : Int32) (v4 : Int32) : q_I (m_hold_s u v1 v2 v3 v4) := by
  show q_I ((m_hold u v1 v2 v3 v4).2)
  unfold m_hold
  by_cases h11 : (m_in v1 0 39) = 0
  · rw [if_pos h11]
    exact (q_I_th_s hI _)
  · rw [if_neg h11]
    by_cases h12 : (m_in v2 1 (q_nr u)) = 0
    · rw [if_pos h12]
      exact (q_I_th_s hI _)
    · rw [if_neg h12]
      by_cases h13 : (m_in v3 0 5) = 0
      · rw [if_pos h13]
        exact (q_I_th_s hI _)
      · rw [if_neg h13]
        by_cases h14 : (q_bd u (Int32.toNatClampNeg (q_kd u (Int32.toNatClampNeg v2)))) = 0
        · rw [if_pos h14]
          by_cases h15 : (q_nh u) = 120
          · rw [if_pos h15]
            exact (q_I_th_s hI _)
          · rw [if_neg h15]
            obtain ⟨N, hB, hN⟩ := q_I_nh hI
            exact m_hold_l67_I hB 200 1 v1 v2 v3 v4 0 (q_th_s u 0) (q_I_th_s hI _) hN (by omega) (by omega) (m_in39 h11) (q_ne_nh hI h15)
        · rw [if_neg h14]
          exact (q_I_th_s hI _)
theorem m_most_pp {u : q_S} (hI : q_I u) (v1 : Int32) (v2 : Int32) : m_most_p u v1 v2 := by
  unfold m_most_p
  exact ⟨fun _ => trivial, fun h1 => ⟨fun _ => trivial, fun _ => (m_in39 h1)⟩⟩
theorem m_most_I {u : q_S} (hI : q_I u) (v1 : Int32) (v2 : Int32) : q_I (m_most_s u v1 v2) := by
  show q_I ((m_most u v1 v2).2)
  unfold m_most
  by_cases h1 : (m_in v1 0 39) = 0
  · rw [if_pos h1]
    exact (q_I_th_s hI _)
  · rw [if_neg h1]
    by_cases h2 : (m_in v2 0 20) = 0
    · rw [if_pos h2]
      exact (q_I_th_s hI _)
    · rw [if_neg h2]
      exact (q_I_mo_u (q_I_th_s hI _) _ _)
theorem m_isHold_pp {u : q_S} (hI : q_I u) (v1 : Int32) : m_isHold_p u v1 := by
  unfold m_isHold_p
  exact q_nb (m_in_01 _ _ _)
theorem m_isWaiting_pp {u : q_S} (hI : q_I u) (v1 : Int32) : m_isWaiting_p u v1 := by
  unfold m_isWaiting_p
  exact ⟨m_isHold_pp hI _, ⟨fun _ => trivial, fun h1 => (m_isHold_vp hI h1)⟩⟩
theorem m_suspend_pp {u : q_S} (hI : q_I u) (v1 : Int32) (v2 : Int64) : m_suspend_p u v1 v2 := by
  unfold m_suspend_p
  exact ⟨m_isWaiting_pp (q_I_th_s hI _) _, ⟨fun _ => trivial, fun h1 => (m_isHold_vp (q_I_th_s hI _) (m_isWaiting_ne h1).1)⟩⟩
theorem m_suspend_I {u : q_S} (hI : q_I u) (v1 : Int32) (v2 : Int64) : q_I (m_suspend_s u v1 v2) := by
  show q_I ((m_suspend u v1 v2).2)
  unfold m_suspend
  by_cases h1 : (m_isWaiting (q_th_s u 0) v1) = 0
  · rw [if_pos h1]
    exact (q_I_th_s hI _)
  · rw [if_neg h1]
    exact (q_I_hu_u (q_I_th_s hI _) _ _)
theorem m_isCopy_pp {u : q_S} (hI : q_I u) (v1 : Int32) (v2 : Int32) : m_isCopy_p u v1 v2 := by
  unfold m_isCopy_p
  exact ⟨fun _ => trivial, fun h1 => (m_in_nc hI h1)⟩
theorem m_back_pp {u : q_S} (hI : q_I u) (v1 : Int32) (v2 : Int32) : m_back_p u v1 v2 := by
  unfold m_back_p
  exact ⟨m_isCopy_pp (q_I_th_s hI _) _ _, ⟨fun _ => trivial, fun h1 => ⟨fun _ => trivial, fun _ => ⟨(m_isCopy_vp (q_I_th_s hI _) h1), m_goes_pp (q_I_cp_u (q_I_th_s hI _) _ _) _ (m_isCopy_vp (q_I_th_s hI _) h1)⟩⟩⟩⟩
theorem m_back_I {u : q_S} (hI : q_I u) (v1 : Int32) (v2 : Int32) : q_I (m_back_s u v1 v2) := by
  show q_I ((m_back u v1 v2).2)
  unfold m_back
  by_cases h1 : (m_isCopy (q_th_s u 0) v1 1) = 0
  · rw [if_pos h1]
    exact (q_I_th_s hI _)
  · rw [if_neg h1]
    by_cases h2 : (m_in v2 0 5) = 0
    · rw [if_pos h2]
      exact (q_I_th_s hI _)
    · rw [if_neg h2]
      exact (m_goes_I (q_I_cp_u (q_I_th_s hI _) _ _) _ (m_isCopy_vp (q_I_th_s hI _) h1))
theorem m_arrive_pp {u : q_S} (hI : q_I u) (v1 : Int32) : m_arrive_p u v1 := by
  unfold m_arrive_p
  exact ⟨m_isCopy_pp (q_I_th_s hI _) _ _, ⟨fun _ => trivial, fun h1 => ⟨(m_isCopy_vp (q_I_th_s hI _) h1), ⟨fun _ => m_goes_pp (q_I_th_s hI _) _ (m_isCopy_vp (q_I_th_s hI _) h1), fun _ => m_lies_pp (q_I_th_s hI _) _ _ (m_isCopy_vp (q_I_th_s hI _) h1) (q_I_ch hI _)⟩⟩⟩⟩
theorem m_arrive_I {u : q_S} (hI : q_I u) (v1 : Int32) : q_I (m_arrive_s u v1) := by
  show q_I ((m_arrive u v1).2)
  unfold m_arrive
  by_cases h1 : (m_isCopy (q_th_s u 0) v1 2) = 0
  · rw [if_pos h1]
    exact (q_I_th_s hI _)
  · rw [if_neg h1]
    by_cases h2 : (q_ch u (Int32.toNatClampNeg v1)) ≤ 0
    · rw [if_pos h2]
      exact (m_goes_I (q_I_th_s hI _) _ (m_isCopy_vp (q_I_th_s hI _) h1))
    · rw [if_neg h2]
      exact (m_lies_I (q_I_th_s hI _) _ _ (m_isCopy_vp (q_I_th_s hI _) h1) (q_I_ch hI _))
theorem m_pick_pp {u : q_S} (hI : q_I u) (v1 : Int32) : m_pick_p u v1 := by
  unfold m_pick_p
  exact ⟨m_isHold_pp (q_I_th_s hI _) _, ⟨fun _ => trivial, fun h1 => ⟨(m_isHold_vp (q_I_th_s hI _) h1), ⟨fun _ => (q_I_hy hI _), fun _ => trivial⟩⟩⟩⟩
theorem m_pick_I {u : q_S} (hI : q_I u) (v1 : Int32) : q_I (m_pick_s u v1) := by
  show q_I ((m_pick u v1).2)
  unfold m_pick
  by_cases h1 : (m_isHold (q_th_s u 0) v1) = 0
  · rw [if_pos h1]
    exact (q_I_th_s hI _)
  · rw [if_neg h1]
    by_cases h2 : (q_hs u (Int32.toNatClampNeg v1)) = 2
    · rw [if_pos h2]
      exact (q_I_ch_u (q_I_cs_u (q_I_hy_u (q_I_hs_u (q_I_th_s hI _) _ _) _ _ (q_0in 61 (by omega) (by omega))) _ _) _ _ (q_0in 121 (by omega) (by omega)))
    · rw [if_neg h2]
      exact (q_I_th_s hI _)
theorem m_lend_pp {u : q_S} (hI : q_I u) (v1 : Int32) : m_lend_p u v1 := by
  unfold m_lend_p
  exact ⟨m_isCopy_pp (q_I_th_s hI _) _ _, ⟨fun _ => trivial, fun h1 => (m_isCopy_vp (q_I_th_s hI _) h1)⟩⟩
theorem m_lend_I {u : q_S} (hI : q_I u) (v1 : Int32) : q_I (m_lend_s u v1) := by
  show q_I ((m_lend u v1).2)
  unfold m_lend
  by_cases h1 : (m_isCopy (q_th_s u 0) v1 0) = 0
  · rw [if_pos h1]
    exact (q_I_th_s hI _)
  · rw [if_neg h1]
    exact (q_I_cs_u (q_I_th_s hI _) _ _)
theorem m_ends_pp {u : q_S} (hI : q_I u) (v1 : Int32) (v2 : Int32) (e0 : vp_in v1 121) : m_ends_p u v1 v2 := by
  unfold m_ends_p
  exact ⟨e0, ⟨fun _ => ⟨fun _ => m_goes_pp (q_I_hy_u (q_I_hs_u hI _ _) _ _ (q_0in 61 (by omega) (by omega))) _ (q_I_hy hI _), fun _ => ⟨(q_I_hy hI _), m_goes_pp (q_I_ch_u (q_I_hy_u (q_I_hs_u hI _ _) _ _ (q_0in 61 (by omega) (by omega))) _ _ (q_0in 121 (by omega) (by omega))) _ (q_I_hy hI _)⟩⟩, fun _ => ⟨fun _ => trivial, fun _ => (q_I_hy hI _)⟩⟩⟩
theorem m_ends_I {u : q_S} (hI : q_I u) (v1 : Int32) (v2 : Int32) (e0 : vp_in v1 121) : q_I (m_ends u v1 v2) := by
  show q_I (m_ends u v1 v2)
  unfold m_ends
  by_cases h1 : (q_hs u (Int32.toNatClampNeg v1)) = 2
  · rw [if_pos h1]
    by_cases h2 : (q_hy u (Int32.toNatClampNeg v1)) ≤ 0
    · rw [if_pos h2]
      exact (m_goes_I (q_I_hy_u (q_I_hs_u hI _ _) _ _ (q_0in 61 (by omega) (by omega))) _ (q_I_hy hI _))
    · rw [if_neg h2]
      exact (m_goes_I (q_I_ch_u (q_I_hy_u (q_I_hs_u hI _ _) _ _ (q_0in 61 (by omega) (by omega))) _ _ (q_0in 121 (by omega) (by omega))) _ (q_I_hy hI _))
  · rw [if_neg h1]
    by_cases h3 : (q_hy u (Int32.toNatClampNeg v1)) ≤ 0
    · rw [if_pos h3]
      exact (q_I_hy_u (q_I_hs_u hI _ _) _ _ (q_0in 61 (by omega) (by omega)))
    · rw [if_neg h3]
      exact (q_I_ch_u (q_I_hy_u (q_I_hs_u hI _ _) _ _ (q_0in 61 (by omega) (by omega))) _ _ (q_0in 121 (by omega) (by omega)))
theorem m_goes_nh (u : q_S) (c : Int32) : q_nh (m_goes_s u c) = q_nh u := by
  show q_nh (m_goes u c).2 = q_nh u
  unfold m_goes m_lies
  split
  · simp only [q_nh_cp_u, q_nh_cs_u, q_nh_hs_u, q_nh_hy_u, q_nh_ch_u, q_nh_he_u]
  · split
    · simp only [q_nh_cp_u, q_nh_cs_u, q_nh_hs_u, q_nh_hy_u, q_nh_ch_u, q_nh_he_u]
    · simp only [q_nh_cp_u, q_nh_cs_u, q_nh_hs_u, q_nh_hy_u, q_nh_ch_u, q_nh_he_u]
theorem m_ends_nh (u : q_S) (h v : Int32) : q_nh (m_ends u h v) = q_nh u := by
  unfold m_ends
  split
  · split
    · simp only [m_goes_nh, q_nh_cp_u, q_nh_cs_u, q_nh_hs_u, q_nh_hy_u, q_nh_ch_u, q_nh_he_u]
    · simp only [m_goes_nh, q_nh_cp_u, q_nh_cs_u, q_nh_hs_u, q_nh_hy_u, q_nh_ch_u, q_nh_he_u]
  · split
    · simp only [q_nh_cp_u, q_nh_cs_u, q_nh_hs_u, q_nh_hy_u, q_nh_ch_u, q_nh_he_u]
    · simp only [q_nh_cp_u, q_nh_cs_u, q_nh_hs_u, q_nh_hy_u, q_nh_ch_u, q_nh_he_u]
theorem m_cancel_pp {u : q_S} (hI : q_I u) (v1 : Int32) : m_cancel_p u v1 := by
  unfold m_cancel_p
  exact ⟨m_isHold_pp (q_I_th_s hI _) _, ⟨fun _ => trivial, fun h1 => ⟨m_isOpen_pp (q_I_th_s hI _) _ (m_isHold_vp (q_I_th_s hI _) h1), ⟨fun _ => trivial, fun _ => m_ends_pp (q_I_th_s hI _) _ _ (m_isHold_vp (q_I_th_s hI _) h1)⟩⟩⟩⟩
theorem m_cancel_I {u : q_S} (hI : q_I u) (v1 : Int32) : q_I (m_cancel_s u v1) := by
  show q_I ((m_cancel u v1).2)
  unfold m_cancel
  by_cases h1 : (m_isHold (q_th_s u 0) v1) = 0
  · rw [if_pos h1]
    exact (q_I_th_s hI _)
  · rw [if_neg h1]
    by_cases h2 : (m_isOpen (q_th_s u 0) v1) = 0
    · rw [if_pos h2]
      exact (q_I_th_s hI _)
    · rw [if_neg h2]
      exact (m_ends_I (q_I_th_s hI _) _ _ (m_isHold_vp (q_I_th_s hI _) h1))
theorem m_tick_l34_pp {N : Nat} (hB : N ≤ 120) : ∀ (n k : Nat) (v1 : Int64) (v3 : Int32) (u : q_S), q_I u → q_nh u = nI N → 1 ≤ k → k ≤ N + 1 → N + 1 < k + n → m_tick_l34_p n v1 v3 (nI k) u := by
  intro n
  induction n with
  | zero => intro k v1 v3 u hI hN h1 h2 h3; omega
  | succ n ih =>
    intro k v1 v3 u hI hN h1 h2 h3
    show m_tick_l34_pb (m_tick_l34_p n) v1 v3 (nI k) u
    unfold m_tick_l34_pb
    exact ⟨fun _ => trivial, fun h1 => ⟨(q_lpv hN (by omega) (by omega) h1 (by omega) (by omega)), ⟨fun h2 => ⟨fun _ => (by have ih2 := ih (k + 1) v1 v3 u hI hN (by omega) (by have := q_lp hN (by omega) (by omega) h1; omega) (by omega); rw [← nI_1] at ih2; exact ih2), fun _ => ⟨m_ends_pp hI _ _ (q_lpv hN (by omega) (by omega) h1 (by omega) (by omega)), (by have ih2 := ih (k + 1) v1 (v3 + 1) (m_ends u (nI k) 4) (m_ends_I hI _ _ (q_lpv hN (by omega) (by omega) h1 (by omega) (by omega))) ((m_ends_nh _ _ _).trans hN) (by omega) (by have := q_lp hN (by omega) (by omega) h1; omega) (by omega); rw [← nI_1] at ih2; exact ih2)⟩⟩, fun h2 => (by have ih2 := ih (k + 1) v1 v3 u hI hN (by omega) (by have := q_lp hN (by omega) (by omega) h1; omega) (by omega); rw [← nI_1] at ih2; exact ih2)⟩⟩⟩
theorem m_tick_pp {u : q_S} (hI : q_I u) (v1 : Int64) : m_tick_p u v1 := by
  unfold m_tick_p
  exact ⟨fun _ => trivial, fun _ => ⟨fun _ => (by obtain ⟨N, hB, hN⟩ := q_I_nh hI; exact m_tick_l34_pp hB 200 1 v1 0 (q_td_s (q_th_s u 0) v1) (q_I_td_s (q_I_th_s hI _) _) hN (by omega) (by omega) (by omega)), fun _ => trivial⟩⟩
theorem m_tick_l34_I {N : Nat} (hB : N ≤ 120) : ∀ (n k : Nat) (v1 : Int64) (v3 : Int32) (u : q_S), q_I u → q_nh u = nI N → 1 ≤ k → k ≤ N + 1 → q_I (m_tick_l34 n v1 v3 (nI k) u).2 := by
  intro n
  induction n with
  | zero => intro k v1 v3 u hI hN h1 h2; exact hI
  | succ n ih =>
    intro k v1 v3 u hI hN h1 h2
    show q_I (m_tick_l34_b (m_tick_l34 n) v1 v3 (nI k) u).2
    unfold m_tick_l34_b
    by_cases h11 : (q_nh u) < (nI k)
    · rw [if_pos h11]
      exact hI
    · rw [if_neg h11]
      by_cases h12 : (q_hs u (Int32.toNatClampNeg (nI k))) = 2
      · rw [if_pos h12]
        by_cases h13 : 0 ≤ (lg_cmp (q_he u (Int32.toNatClampNeg (nI k))) (q_td u))
        · rw [if_pos h13]
          exact (by have ih2 := ih (k + 1) v1 v3 u hI hN (by omega) (by have := q_lp hN (by omega) (by omega) h11; omega); rw [← nI_1] at ih2; exact ih2)
        · rw [if_neg h13]
          exact (by have ih2 := ih (k + 1) v1 (v3 + 1) (m_ends u (nI k) 4) (m_ends_I hI _ _ (q_lpv hN (by omega) (by omega) h11 (by omega) (by omega))) ((m_ends_nh _ _ _).trans hN) (by omega) (by have := q_lp hN (by omega) (by omega) h11; omega); rw [← nI_1] at ih2; exact ih2)
      · rw [if_neg h12]
        exact (by have ih2 := ih (k + 1) v1 v3 u hI hN (by omega) (by have := q_lp hN (by omega) (by omega) h11; omega); rw [← nI_1] at ih2; exact ih2)
theorem m_tick_I {u : q_S} (hI : q_I u) (v1 : Int64) : q_I (m_tick_s u v1) := by
  show q_I ((m_tick u v1).2)
  unfold m_tick
  by_cases h11 : (lg_cmp v1 (q_td u)) ≤ 0
  · rw [if_pos h11]
    exact (q_I_th_s hI _)
  · rw [if_neg h11]
    by_cases h12 : (lg_cmp v1 1000000000) ≤ 0
    · rw [if_pos h12]
      obtain ⟨N, hB, hN⟩ := q_I_nh hI
      exact m_tick_l34_I hB 200 1 v1 0 (q_td_s (q_th_s u 0) v1) (q_I_td_s (q_I_th_s hI _) _) hN (by omega) (by omega)
    · rw [if_neg h12]
      exact (q_I_th_s hI _)
theorem m_span_I {u : q_S} (hI : q_I u) (v1 : Int32) : q_I (m_span_s u v1) := by
  show q_I ((m_span u v1).2)
  unfold m_span
  by_cases h1 : (m_in v1 1 99) = 0
  · rw [if_pos h1]
    exact (q_I_th_s hI _)
  · rw [if_neg h1]
    exact (q_I_sp_s (q_I_th_s hI _) _)
theorem m_rank_pp {u : q_S} (hI : q_I u) (v1 : Int32) (v2 : Int32) : m_rank_p u v1 v2 := by
  unfold m_rank_p
  exact ⟨m_isWaiting_pp (q_I_th_s hI _) _, ⟨fun _ => trivial, fun h1 => ⟨(m_isHold_vp (q_I_th_s hI _) (m_isWaiting_ne h1).1), m_placeOf_pp (q_I_hk_u (q_I_th_s hI _) _ _) _ (m_isHold_vp (q_I_th_s hI _) (m_isWaiting_ne h1).1)⟩⟩⟩
theorem m_rank_I {u : q_S} (hI : q_I u) (v1 : Int32) (v2 : Int32) : q_I (m_rank_s u v1 v2) := by
  show q_I ((m_rank u v1 v2).2)
  unfold m_rank
  by_cases h1 : (m_isWaiting (q_th_s u 0) v1) = 0
  · rw [if_pos h1]
    exact (q_I_th_s hI _)
  · rw [if_neg h1]
    exact (q_I_hk_u (q_I_th_s hI _) _ _)
theorem m_order_l7_pp {N : Nat} (hB : N ≤ 120) : ∀ (n k : Nat) (v1 : Int32) (v2 : Int32) (u : q_S), q_I u → q_nh u = nI N → 1 ≤ k → k ≤ N + 1 → N + 1 < k + n → m_order_l7_p n v1 v2 (nI k) u := by
  intro n
  induction n with
  | zero => intro k v1 v2 u hI hN h1 h2 h3; omega
  | succ n ih =>
    intro k v1 v2 u hI hN h1 h2 h3
    show m_order_l7_pb (m_order_l7_p n) v1 v2 (nI k) u
    unfold m_order_l7_pb
    exact ⟨fun _ => trivial, fun h1 => ⟨(q_lpv hN (by omega) (by omega) h1 (by omega) (by omega)), ⟨fun h2 => ⟨fun _ => ⟨m_placeOf_pp hI _ (q_lpv hN (by omega) (by omega) h1 (by omega) (by omega)), ⟨fun _ => trivial, fun _ => (by have ih2 := ih (k + 1) v1 v2 u hI hN (by omega) (by have := q_lp hN (by omega) (by omega) h1; omega) (by omega); rw [← nI_1] at ih2; exact ih2)⟩⟩, fun _ => (by have ih2 := ih (k + 1) v1 v2 u hI hN (by omega) (by have := q_lp hN (by omega) (by omega) h1; omega) (by omega); rw [← nI_1] at ih2; exact ih2)⟩, fun h2 => (by have ih2 := ih (k + 1) v1 v2 u hI hN (by omega) (by have := q_lp hN (by omega) (by omega) h1; omega) (by omega); rw [← nI_1] at ih2; exact ih2)⟩⟩⟩
theorem m_order_pp {u : q_S} (hI : q_I u) (v1 : Int32) (v2 : Int32) : m_order_p u v1 v2 := by
  unfold m_order_p
  exact (by obtain ⟨N, hB, hN⟩ := q_I_nh hI; exact m_order_l7_pp hB 200 1 v1 v2 (q_th_s u 0) (q_I_th_s hI _) hN (by omega) (by omega) (by omega))
theorem m_order_l7_I {N : Nat} (hB : N ≤ 120) : ∀ (n k : Nat) (v1 : Int32) (v2 : Int32) (u : q_S), q_I u → q_nh u = nI N → 1 ≤ k → k ≤ N + 1 → q_I (m_order_l7 n v1 v2 (nI k) u).2 := by
  intro n
  induction n with
  | zero => intro k v1 v2 u hI hN h1 h2; exact hI
  | succ n ih =>
    intro k v1 v2 u hI hN h1 h2
    show q_I (m_order_l7_b (m_order_l7 n) v1 v2 (nI k) u).2
    unfold m_order_l7_b
    by_cases h11 : (q_nh u) < (nI k)
    · rw [if_pos h11]
      exact hI
    · rw [if_neg h11]
      by_cases h12 : (q_hs u (Int32.toNatClampNeg (nI k))) = 0
      · rw [if_pos h12]
        by_cases h13 : (q_hr u (Int32.toNatClampNeg (nI k))) = v1
        · rw [if_pos h13]
          by_cases h14 : (m_placeOf u (nI k)) = v2
          · rw [if_pos h14]
            exact hI
          · rw [if_neg h14]
            exact (by have ih2 := ih (k + 1) v1 v2 u hI hN (by omega) (by have := q_lp hN (by omega) (by omega) h11; omega); rw [← nI_1] at ih2; exact ih2)
        · rw [if_neg h13]
          exact (by have ih2 := ih (k + 1) v1 v2 u hI hN (by omega) (by have := q_lp hN (by omega) (by omega) h11; omega); rw [← nI_1] at ih2; exact ih2)
      · rw [if_neg h12]
        exact (by have ih2 := ih (k + 1) v1 v2 u hI hN (by omega) (by have := q_lp hN (by omega) (by omega) h11; omega); rw [← nI_1] at ih2; exact ih2)
theorem m_order_I {u : q_S} (hI : q_I u) (v1 : Int32) (v2 : Int32) : q_I (m_order_s u v1 v2) := by
  show q_I ((m_order u v1 v2).2)
  unfold m_order
  obtain ⟨N, hB, hN⟩ := q_I_nh hI
  exact m_order_l7_I hB 200 1 v1 v2 (q_th_s u 0) (q_I_th_s hI _) hN (by omega) (by omega)
theorem m_state_pp {u : q_S} (hI : q_I u) (v1 : Int32) (v2 : Int32) : m_state_p u v1 v2 := by
  unfold m_state_p
  exact ⟨m_isHold_pp (q_I_th_s hI _) _, ⟨fun _ => trivial, fun h1 => ⟨fun _ => (m_isHold_vp (q_I_th_s hI _) h1), fun _ => ⟨fun _ => (m_isHold_vp (q_I_th_s hI _) h1), fun _ => ⟨fun _ => ⟨(m_isHold_vp (q_I_th_s hI _) h1), ⟨fun _ => m_placeOf_pp (q_I_th_s hI _) _ (m_isHold_vp (q_I_th_s hI _) h1), fun _ => trivial⟩⟩, fun _ => trivial⟩⟩⟩⟩⟩
theorem m_state_I {u : q_S} (hI : q_I u) (v1 : Int32) (v2 : Int32) : q_I (m_state_s u v1 v2) := by
  show q_I ((m_state u v1 v2).2)
  unfold m_state
  by_cases h1 : (m_isHold (q_th_s u 0) v1) = 0
  · rw [if_pos h1]
    exact (q_I_th_s hI _)
  · rw [if_neg h1]
    by_cases h2 : v2 = 0
    · rw [if_pos h2]
      exact (q_I_th_s hI _)
    · rw [if_neg h2]
      by_cases h3 : v2 = 1
      · rw [if_pos h3]
        exact (q_I_th_s hI _)
      · rw [if_neg h3]
        by_cases h4 : v2 = 2
        · rw [if_pos h4]
          by_cases h5 : (q_hs u (Int32.toNatClampNeg v1)) = 0
          · rw [if_pos h5]
            exact (q_I_th_s hI _)
          · rw [if_neg h5]
            exact (q_I_th_s hI _)
        · rw [if_neg h4]
          exact (q_I_th_s hI _)
theorem m_where_pp {u : q_S} (hI : q_I u) (v1 : Int32) (v2 : Int32) : m_where_p u v1 v2 := by
  unfold m_where_p
  exact ⟨fun _ => trivial, fun h1 => ⟨fun _ => (m_in_nc hI h1), fun _ => ⟨fun _ => (m_in_nc hI h1), fun _ => ⟨fun _ => (m_in_nc hI h1), fun _ => trivial⟩⟩⟩⟩
theorem m_where_I {u : q_S} (hI : q_I u) (v1 : Int32) (v2 : Int32) : q_I (m_where_s u v1 v2) := by
  show q_I ((m_where u v1 v2).2)
  unfold m_where
  by_cases h1 : (m_in v1 1 (q_nc u)) = 0
  · rw [if_pos h1]
    exact (q_I_th_s hI _)
  · rw [if_neg h1]
    by_cases h2 : v2 = 0
    · rw [if_pos h2]
      exact (q_I_th_s hI _)
    · rw [if_neg h2]
      by_cases h3 : v2 = 1
      · rw [if_pos h3]
        exact (q_I_th_s hI _)
      · rw [if_neg h3]
        by_cases h4 : v2 = 2
        · rw [if_pos h4]
          exact (q_I_th_s hI _)
        · rw [if_neg h4]
          exact (q_I_th_s hI _)
