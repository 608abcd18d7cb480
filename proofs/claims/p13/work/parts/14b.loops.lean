def q_mix (u : q_S) (th : Int32) (ch hy : Nat → Int32) (hu : Nat → Int64) : q_S := (th, q_nr u, q_nc u, q_nh u, q_sp u, q_td u, q_kd u, q_bd u, q_mo u, q_cr u, q_cp u, q_cs u, ch, q_hp u, q_hr u, q_hl u, q_hk u, q_hs u, hy, hu, q_he u)
theorem q_th_mix (u : q_S) (th : Int32) (ch hy : Nat → Int32) (hu : Nat → Int64) : q_th (q_mix u th ch hy hu) = th := rfl
theorem q_nr_mix (u : q_S) (th : Int32) (ch hy : Nat → Int32) (hu : Nat → Int64) : q_nr (q_mix u th ch hy hu) = q_nr u := rfl
theorem q_nc_mix (u : q_S) (th : Int32) (ch hy : Nat → Int32) (hu : Nat → Int64) : q_nc (q_mix u th ch hy hu) = q_nc u := rfl
theorem q_nh_mix (u : q_S) (th : Int32) (ch hy : Nat → Int32) (hu : Nat → Int64) : q_nh (q_mix u th ch hy hu) = q_nh u := rfl
theorem q_sp_mix (u : q_S) (th : Int32) (ch hy : Nat → Int32) (hu : Nat → Int64) : q_sp (q_mix u th ch hy hu) = q_sp u := rfl
theorem q_td_mix (u : q_S) (th : Int32) (ch hy : Nat → Int32) (hu : Nat → Int64) : q_td (q_mix u th ch hy hu) = q_td u := rfl
theorem q_kd_mix (u : q_S) (th : Int32) (ch hy : Nat → Int32) (hu : Nat → Int64) : q_kd (q_mix u th ch hy hu) = q_kd u := rfl
theorem q_bd_mix (u : q_S) (th : Int32) (ch hy : Nat → Int32) (hu : Nat → Int64) : q_bd (q_mix u th ch hy hu) = q_bd u := rfl
theorem q_mo_mix (u : q_S) (th : Int32) (ch hy : Nat → Int32) (hu : Nat → Int64) : q_mo (q_mix u th ch hy hu) = q_mo u := rfl
theorem q_cr_mix (u : q_S) (th : Int32) (ch hy : Nat → Int32) (hu : Nat → Int64) : q_cr (q_mix u th ch hy hu) = q_cr u := rfl
theorem q_cp_mix (u : q_S) (th : Int32) (ch hy : Nat → Int32) (hu : Nat → Int64) : q_cp (q_mix u th ch hy hu) = q_cp u := rfl
theorem q_cs_mix (u : q_S) (th : Int32) (ch hy : Nat → Int32) (hu : Nat → Int64) : q_cs (q_mix u th ch hy hu) = q_cs u := rfl
theorem q_ch_mix (u : q_S) (th : Int32) (ch hy : Nat → Int32) (hu : Nat → Int64) : q_ch (q_mix u th ch hy hu) = ch := rfl
theorem q_hp_mix (u : q_S) (th : Int32) (ch hy : Nat → Int32) (hu : Nat → Int64) : q_hp (q_mix u th ch hy hu) = q_hp u := rfl
theorem q_hr_mix (u : q_S) (th : Int32) (ch hy : Nat → Int32) (hu : Nat → Int64) : q_hr (q_mix u th ch hy hu) = q_hr u := rfl
theorem q_hl_mix (u : q_S) (th : Int32) (ch hy : Nat → Int32) (hu : Nat → Int64) : q_hl (q_mix u th ch hy hu) = q_hl u := rfl
theorem q_hk_mix (u : q_S) (th : Int32) (ch hy : Nat → Int32) (hu : Nat → Int64) : q_hk (q_mix u th ch hy hu) = q_hk u := rfl
theorem q_hs_mix (u : q_S) (th : Int32) (ch hy : Nat → Int32) (hu : Nat → Int64) : q_hs (q_mix u th ch hy hu) = q_hs u := rfl
theorem q_hy_mix (u : q_S) (th : Int32) (ch hy : Nat → Int32) (hu : Nat → Int64) : q_hy (q_mix u th ch hy hu) = hy := rfl
theorem q_hu_mix (u : q_S) (th : Int32) (ch hy : Nat → Int32) (hu : Nat → Int64) : q_hu (q_mix u th ch hy hu) = hu := rfl
theorem q_he_mix (u : q_S) (th : Int32) (ch hy : Nat → Int32) (hu : Nat → Int64) : q_he (q_mix u th ch hy hu) = q_he u := rfl
theorem q_ext {u w : q_S} (h0 : q_th u = q_th w) (h1 : q_nr u = q_nr w) (h2 : q_nc u = q_nc w) (h3 : q_nh u = q_nh w) (h4 : q_sp u = q_sp w) (h5 : q_td u = q_td w) (h6 : q_kd u = q_kd w) (h7 : q_bd u = q_bd w) (h8 : q_mo u = q_mo w) (h9 : q_cr u = q_cr w) (h10 : q_cp u = q_cp w) (h11 : q_cs u = q_cs w) (h12 : q_ch u = q_ch w) (h13 : q_hp u = q_hp w) (h14 : q_hr u = q_hr w) (h15 : q_hl u = q_hl w) (h16 : q_hk u = q_hk w) (h17 : q_hs u = q_hs w) (h18 : q_hy u = q_hy w) (h19 : q_hu u = q_hu w) (h20 : q_he u = q_he w) : u = w := by
  obtain ⟨a0, a1, a2, a3, a4, a5, a6, a7, a8, a9, a10, a11, a12, a13, a14, a15, a16, a17, a18, a19, a20⟩ := u
  obtain ⟨b0, b1, b2, b3, b4, b5, b6, b7, b8, b9, b10, b11, b12, b13, b14, b15, b16, b17, b18, b19, b20⟩ := w
  cases (show a0 = b0 from h0)
  cases (show a1 = b1 from h1)
  cases (show a2 = b2 from h2)
  cases (show a3 = b3 from h3)
  cases (show a4 = b4 from h4)
  cases (show a5 = b5 from h5)
  cases (show a6 = b6 from h6)
  cases (show a7 = b7 from h7)
  cases (show a8 = b8 from h8)
  cases (show a9 = b9 from h9)
  cases (show a10 = b10 from h10)
  cases (show a11 = b11 from h11)
  cases (show a12 = b12 from h12)
  cases (show a13 = b13 from h13)
  cases (show a14 = b14 from h14)
  cases (show a15 = b15 from h15)
  cases (show a16 = b16 from h16)
  cases (show a17 = b17 from h17)
  cases (show a18 = b18 from h18)
  cases (show a19 = b19 from h19)
  cases (show a20 = b20 from h20)
  rfl
theorem q_10 : ¬ (1 : Int32) = 0 := by decide
theorem q_00 : (0 : Int32) = 0 := rfl
section QL
variable (u : q_S) (th : Int32) (ch hy : Nat → Int32) (hu : Nat → Int64)
theorem f_ahead (a b : Int32) : m_isAhead (q_mix u th ch hy hu) a b = xh_comesBefore u a b := rfl
theorem f_place_l : ∀ (n : Nat) (v1 v2 v3 : Int32), m_placeOf_l4 n v1 v2 v3 (q_mix u th ch hy hu) = xh_placeInQueue_l4 n v1 v2 v3 u := by
  intro n
  induction n with
  | zero => intro v1 v2 v3; rfl
  | succ n ih =>
    intro v1 v2 v3
    show m_placeOf_l4_b (m_placeOf_l4 n) v1 v2 v3 (q_mix u th ch hy hu) = xh_placeInQueue_l4_b (xh_placeInQueue_l4 n) v1 v2 v3 u
    unfold m_placeOf_l4_b xh_placeInQueue_l4_b xh_isQueued
    simp only [q_th_mix, q_nr_mix, q_nc_mix, q_nh_mix, q_sp_mix, q_td_mix, q_kd_mix, q_bd_mix, q_mo_mix, q_cr_mix, q_cp_mix, q_cs_mix, q_ch_mix, q_hp_mix, q_hr_mix, q_hl_mix, q_hk_mix, q_hs_mix, q_hy_mix, q_hu_mix, q_he_mix, ih, f_ahead, Int32.add_zero]
    by_cases h1 : q_nh u < v3
    · simp only [if_pos h1]
    · simp only [if_neg h1]
      by_cases h2 : q_hs u (Int32.toNatClampNeg v3) = 0
      · simp only [if_pos h2]
        by_cases h3 : q_hr u (Int32.toNatClampNeg v3) = q_hr u (Int32.toNatClampNeg v1)
        · simp only [if_pos h3, if_neg q_10]
        · simp only [if_neg h3, ↓reduceIte]
      · simp only [if_neg h2]
        by_cases h3 : q_hr u (Int32.toNatClampNeg v3) = q_hr u (Int32.toNatClampNeg v1)
        · simp only [if_pos h3, ↓reduceIte]
        · simp only [if_neg h3, ↓reduceIte]
theorem f_place (v : Int32) : m_placeOf (q_mix u th ch hy hu) v = xh_placeInQueue u v := f_place_l u th ch hy hu 200 v 0 1
theorem f_fits_l (Hu : ∀ k, (0 < lg_cmp (hu k) (q_td u)) ↔ (0 < lg_cmp (q_hu u k) (q_td u))) : ∀ (n : Nat) (v1 v2 v3 : Int32), m_fits_l4 n v1 v2 v3 (q_mix u th ch hy hu) = xh_firstFitting_l6 n v1 (q_td u) v2 v3 u := by
  intro n
  induction n with
  | zero => intro v1 v2 v3; rfl
  | succ n ih =>
    intro v1 v2 v3
    show m_fits_l4_b (m_fits_l4 n) v1 v2 v3 (q_mix u th ch hy hu) = xh_firstFitting_l6_b (xh_firstFitting_l6 n) v1 (q_td u) v2 v3 u
    unfold m_fits_l4_b xh_firstFitting_l6_b xh_isQueued
    simp only [q_th_mix, q_nr_mix, q_nc_mix, q_nh_mix, q_sp_mix, q_td_mix, q_kd_mix, q_bd_mix, q_mo_mix, q_cr_mix, q_cp_mix, q_cs_mix, q_ch_mix, q_hp_mix, q_hr_mix, q_hl_mix, q_hk_mix, q_hs_mix, q_hy_mix, q_hu_mix, q_he_mix, ih, f_ahead]
    by_cases h1 : q_nh u < v3
    · simp only [if_pos h1]
    · simp only [if_neg h1]
      by_cases h2 : q_hs u (Int32.toNatClampNeg v3) = 0
      · simp only [if_pos h2]
        by_cases h3 : q_hr u (Int32.toNatClampNeg v3) = v1
        · simp only [if_pos h3, if_neg q_10]
          by_cases h4 : 0 < lg_cmp (q_hu u (Int32.toNatClampNeg v3)) (q_td u)
          · simp only [if_pos h4, if_pos ((Hu _).mpr h4)]
          · simp only [if_neg h4, if_neg (fun q => h4 ((Hu _).mp q))]
        · simp only [if_neg h3, ↓reduceIte]
      · simp only [if_neg h2]
        by_cases h3 : q_hr u (Int32.toNatClampNeg v3) = v1
        · simp only [if_pos h3, ↓reduceIte]
        · simp only [if_neg h3, ↓reduceIte]
theorem f_fits (Hu : ∀ k, (0 < lg_cmp (hu k) (q_td u)) ↔ (0 < lg_cmp (q_hu u k) (q_td u))) (v : Int32) : m_fits (q_mix u th ch hy hu) v = xh_firstFitting u v (q_td u) := f_fits_l u th ch hy hu Hu 200 v 0 1
end QL
/-- what the queue's search finds: nothing, or a hold that waits -/
theorem f_first_l (u : q_S) (r : Int32) (d : Int64) {N : Nat} (hN : N ≤ 120) (e : q_nh u = nI N) : ∀ (n k : Nat) (v : Int32), 1 ≤ k → k ≤ 121 → (v = 0 ∨ ∃ j : Nat, 1 ≤ j ∧ j ≤ N ∧ v = nI j ∧ q_hs u j = 0 ∧ q_hr u j = r) → (xh_firstFitting_l6 n r d v (nI k) u = 0 ∨ ∃ j : Nat, 1 ≤ j ∧ j ≤ N ∧ xh_firstFitting_l6 n r d v (nI k) u = nI j ∧ q_hs u j = 0 ∧ q_hr u j = r) := by
  intro n
  induction n with
  | zero => intro k v _ _ _; exact Or.inl rfl
  | succ n ih =>
    intro k v k1 k2 hv
    have e1 : nI k + 1 = nI (k + 1) := nI_1 k
    show (xh_firstFitting_l6_b (xh_firstFitting_l6 n) r d v (nI k) u = 0 ∨ ∃ j : Nat, 1 ≤ j ∧ j ≤ N ∧ xh_firstFitting_l6_b (xh_firstFitting_l6 n) r d v (nI k) u = nI j ∧ q_hs u j = 0 ∧ q_hr u j = r)
    unfold xh_firstFitting_l6_b xh_isQueued
    rw [e1, nI_clamp (n := k) (by omega)]
    by_cases h1 : q_nh u < nI k
    · simp only [if_pos h1]; exact hv
    · simp only [if_neg h1]
      have hk : k ≤ N := by
        rw [e, nI_ltI (by omega) (by omega)] at h1
        omega
      have go := ih (k + 1) v (by omega) (by omega) hv
      by_cases h2 : q_hr u k = r
      · by_cases h3 : q_hs u k = 0
        · simp only [if_pos h2, if_pos h3, if_neg q_10]
          have go2 := ih (k + 1) (nI k) (by omega) (by omega) (Or.inr ⟨k, k1, hk, rfl, h3, h2⟩)
          by_cases h4 : 0 < lg_cmp (q_hu u k) d
          · simp only [if_pos h4]; exact go
          · simp only [if_neg h4]
            by_cases h5 : v = 0
            · simp only [if_pos h5]; exact go2
            · simp only [if_neg h5]
              by_cases h6 : xh_comesBefore u (nI k) v = 0
              · simp only [if_pos h6]; exact go
              · simp only [if_neg h6]; exact go2
        · simp only [if_pos h2, if_neg h3, ↓reduceIte]; exact go
      · simp only [if_neg h2, ↓reduceIte]; exact go
theorem f_first (u : q_S) (r : Int32) (d : Int64) {N : Nat} (hN : N ≤ 120) (e : q_nh u = nI N) : xh_firstFitting u r d = 0 ∨ ∃ j : Nat, 1 ≤ j ∧ j ≤ N ∧ xh_firstFitting u r d = nI j ∧ q_hs u j = 0 ∧ q_hr u j = r :=
  f_first_l u r d hN e 200 1 0 (by omega) (by omega) (Or.inl rfl)
