/-! SAFETY: what keeps every index in range, of the landed code and of the reference alike -/
def q_I (u : q_S) : Prop := ((∃ N, N ≤ 30 ∧ q_nr u = nI N) ∧ (∃ N, N ≤ 60 ∧ q_nc u = nI N) ∧ (∃ N, N ≤ 120 ∧ q_nh u = nI N)) ∧ (∀ i, vp_in (q_kd u i) 4) ∧ (∀ i, q_bd u i = 0 ∨ q_bd u i = 1) ∧ (∀ i, vp_in (q_hy u i) 61) ∧ ∀ i, vp_in (q_ch u i) 121
theorem q_I_nr {u : q_S} (h : q_I u) : ∃ N, N ≤ 30 ∧ q_nr u = nI N := h.1.1
theorem q_I_nc {u : q_S} (h : q_I u) : ∃ N, N ≤ 60 ∧ q_nc u = nI N := h.1.2.1
theorem q_I_nh {u : q_S} (h : q_I u) : ∃ N, N ≤ 120 ∧ q_nh u = nI N := h.1.2.2
theorem q_I_kd {u : q_S} (h : q_I u) : ∀ i, vp_in (q_kd u i) 4 := h.2.1
theorem q_I_bd {u : q_S} (h : q_I u) : ∀ i, q_bd u i = 0 ∨ q_bd u i = 1 := h.2.2.1
theorem q_I_hy {u : q_S} (h : q_I u) : ∀ i, vp_in (q_hy u i) 61 := h.2.2.2.1
theorem q_I_ch {u : q_S} (h : q_I u) : ∀ i, vp_in (q_ch u i) 121 := h.2.2.2.2
theorem q_up {P : Int32 → Prop} {f : Nat → Int32} {k : Nat} {x : Int32} (h : ∀ i, P (f i)) (hx : P x) : ∀ i, P (upd f k x i) := by
  intro i
  by_cases e : i = k
  · subst e; rw [pk_us]; exact hx
  · rw [pk_un e]; exact h i
theorem q_I_hy_u {u : q_S} (h : q_I u) (i x : Int32) (hx : vp_in x 61) : q_I (q_hy_u u i x) := ⟨h.1, h.2.1, h.2.2.1, q_up (P := fun z => vp_in z 61) h.2.2.2.1 hx, h.2.2.2.2⟩
theorem q_I_ch_u {u : q_S} (h : q_I u) (i x : Int32) (hx : vp_in x 121) : q_I (q_ch_u u i x) := ⟨h.1, h.2.1, h.2.2.1, h.2.2.2.1, q_up (P := fun z => vp_in z 121) h.2.2.2.2 hx⟩
theorem q_I_kd_u {u : q_S} (h : q_I u) (i x : Int32) (hx : vp_in x 4) : q_I (q_kd_u u i x) := ⟨h.1, q_up (P := fun z => vp_in z 4) h.2.1 hx, h.2.2.1, h.2.2.2.1, h.2.2.2.2⟩
theorem q_I_bd_u {u : q_S} (h : q_I u) (i x : Int32) (hx : x = 0 ∨ x = 1) : q_I (q_bd_u u i x) := ⟨h.1, h.2.1, q_up (P := fun z => z = 0 ∨ z = 1) h.2.2.1 hx, h.2.2.2.1, h.2.2.2.2⟩
theorem q_I_nr_s {u : q_S} (h : q_I u) {x : Int32} (hx : ∃ N, N ≤ 30 ∧ x = nI N) : q_I (q_nr_s u x) := ⟨⟨hx, h.1.2.1, h.1.2.2⟩, h.2⟩
theorem q_I_nc_s {u : q_S} (h : q_I u) {x : Int32} (hx : ∃ N, N ≤ 60 ∧ x = nI N) : q_I (q_nc_s u x) := ⟨⟨h.1.1, hx, h.1.2.2⟩, h.2⟩
theorem q_I_nh_s {u : q_S} (h : q_I u) {x : Int32} (hx : ∃ N, N ≤ 120 ∧ x = nI N) : q_I (q_nh_s u x) := ⟨⟨h.1.1, h.1.2.1, hx⟩, h.2⟩
theorem q_I_mo_u {u : q_S} (h : q_I u) (i x : Int32) : q_I (q_mo_u u i x) := ⟨h.1, h.2.1, h.2.2.1, h.2.2.2.1, h.2.2.2.2⟩
theorem q_I_cr_u {u : q_S} (h : q_I u) (i x : Int32) : q_I (q_cr_u u i x) := ⟨h.1, h.2.1, h.2.2.1, h.2.2.2.1, h.2.2.2.2⟩
theorem q_I_cp_u {u : q_S} (h : q_I u) (i x : Int32) : q_I (q_cp_u u i x) := ⟨h.1, h.2.1, h.2.2.1, h.2.2.2.1, h.2.2.2.2⟩
theorem q_I_cs_u {u : q_S} (h : q_I u) (i x : Int32) : q_I (q_cs_u u i x) := ⟨h.1, h.2.1, h.2.2.1, h.2.2.2.1, h.2.2.2.2⟩
theorem q_I_hp_u {u : q_S} (h : q_I u) (i x : Int32) : q_I (q_hp_u u i x) := ⟨h.1, h.2.1, h.2.2.1, h.2.2.2.1, h.2.2.2.2⟩
theorem q_I_hr_u {u : q_S} (h : q_I u) (i x : Int32) : q_I (q_hr_u u i x) := ⟨h.1, h.2.1, h.2.2.1, h.2.2.2.1, h.2.2.2.2⟩
theorem q_I_hl_u {u : q_S} (h : q_I u) (i x : Int32) : q_I (q_hl_u u i x) := ⟨h.1, h.2.1, h.2.2.1, h.2.2.2.1, h.2.2.2.2⟩
theorem q_I_hk_u {u : q_S} (h : q_I u) (i x : Int32) : q_I (q_hk_u u i x) := ⟨h.1, h.2.1, h.2.2.1, h.2.2.2.1, h.2.2.2.2⟩
theorem q_I_hs_u {u : q_S} (h : q_I u) (i x : Int32) : q_I (q_hs_u u i x) := ⟨h.1, h.2.1, h.2.2.1, h.2.2.2.1, h.2.2.2.2⟩
theorem q_I_hu_u {u : q_S} (h : q_I u) (i : Int32) (x : Int64) : q_I (q_hu_u u i x) := ⟨h.1, h.2.1, h.2.2.1, h.2.2.2.1, h.2.2.2.2⟩
theorem q_I_he_u {u : q_S} (h : q_I u) (i : Int32) (x : Int64) : q_I (q_he_u u i x) := ⟨h.1, h.2.1, h.2.2.1, h.2.2.2.1, h.2.2.2.2⟩
theorem q_I_th_s {u : q_S} (h : q_I u) (x : Int32) : q_I (q_th_s u x) := ⟨h.1, h.2.1, h.2.2.1, h.2.2.2.1, h.2.2.2.2⟩
theorem q_I_sp_s {u : q_S} (h : q_I u) (x : Int32) : q_I (q_sp_s u x) := ⟨h.1, h.2.1, h.2.2.1, h.2.2.2.1, h.2.2.2.2⟩
theorem q_I_td_s {u : q_S} (h : q_I u) (x : Int64) : q_I (q_td_s u x) := ⟨h.1, h.2.1, h.2.2.1, h.2.2.2.1, h.2.2.2.2⟩
theorem q_nh_kd_u (u : q_S) (i x : Int32) : q_nh (q_kd_u u i x) = q_nh u := rfl
theorem q_nh_bd_u (u : q_S) (i x : Int32) : q_nh (q_bd_u u i x) = q_nh u := rfl
theorem q_nh_mo_u (u : q_S) (i x : Int32) : q_nh (q_mo_u u i x) = q_nh u := rfl
theorem q_nh_cr_u (u : q_S) (i x : Int32) : q_nh (q_cr_u u i x) = q_nh u := rfl
theorem q_nh_cp_u (u : q_S) (i x : Int32) : q_nh (q_cp_u u i x) = q_nh u := rfl
theorem q_nh_cs_u (u : q_S) (i x : Int32) : q_nh (q_cs_u u i x) = q_nh u := rfl
theorem q_nh_ch_u (u : q_S) (i x : Int32) : q_nh (q_ch_u u i x) = q_nh u := rfl
theorem q_nh_hp_u (u : q_S) (i x : Int32) : q_nh (q_hp_u u i x) = q_nh u := rfl
theorem q_nh_hr_u (u : q_S) (i x : Int32) : q_nh (q_hr_u u i x) = q_nh u := rfl
theorem q_nh_hl_u (u : q_S) (i x : Int32) : q_nh (q_hl_u u i x) = q_nh u := rfl
theorem q_nh_hk_u (u : q_S) (i x : Int32) : q_nh (q_hk_u u i x) = q_nh u := rfl
theorem q_nh_hs_u (u : q_S) (i x : Int32) : q_nh (q_hs_u u i x) = q_nh u := rfl
theorem q_nh_hy_u (u : q_S) (i x : Int32) : q_nh (q_hy_u u i x) = q_nh u := rfl
theorem q_nh_hu_u (u : q_S) (i : Int32) (x : Int64) : q_nh (q_hu_u u i x) = q_nh u := rfl
theorem q_nh_he_u (u : q_S) (i : Int32) (x : Int64) : q_nh (q_he_u u i x) = q_nh u := rfl
theorem q_0in (n : Nat) (h : 0 < n) (hn : n < 2 ^ 31) : vp_in 0 n := vp_in_nI (n := 0) h hn
theorem q_lt1 {N j : Nat} (h : N < 1000) (hj : j < 1000) (hlt : ¬ nI N < nI j) : j ≤ N := by
  rcases Nat.lt_or_ge N j with q | q
  · exact absurd (nI_lt q (by omega)) hlt
  · exact q
theorem q_rng {v : Int32} {N : Nat} (hN : N < 1000) (h1 : ¬ v < 1) (h2 : ¬ nI N < v) : ∃ j, 1 ≤ j ∧ j ≤ N ∧ v = nI j := by
  have e1 : (1 : Int32).toInt = 1 := by decide +kernel
  have e0 : (0 : Int32).toInt = 0 := by decide +kernel
  have eN := nI_toInt (n := N) (by omega)
  have h0 : ¬ v < 0 := by
    rw [Int32.lt_iff_toInt_lt] at h1 ⊢
    omega
  have h3 : v ≤ nI N := by
    rw [Int32.lt_iff_toInt_lt] at h2
    rw [Int32.le_iff_toInt_le]
    omega
  obtain ⟨j, hj, rfl⟩ := nI_of2 eN h0 h3
  refine ⟨j, ?_, hj, rfl⟩
  rcases Nat.eq_zero_or_pos j with h | h
  · subst h
    exact absurd (by decide +kernel : nI 0 < 1) h1
  · exact h
/-- a number of a row between 0 and one less than n -/
theorem q_rng0 {v M : Int32} {n : Nat} (hM : M.toInt = n) (hn : n < 1000) (h1 : ¬ v < 0) (h2 : ¬ M < v) : vp_in v (n + 1) := by
  have h3 : v ≤ M := by
    rw [Int32.lt_iff_toInt_lt] at h2
    rw [Int32.le_iff_toInt_le]
    omega
  obtain ⟨j, hj, rfl⟩ := nI_of2 hM h1 h3
  exact vp_in_nI (by omega) (by omega)
theorem q_rng1 {v M : Int32} {n : Nat} (hM : M.toInt = n) (hn : n < 1000) (h1 : ¬ v < 0) (h2 : ¬ M ≤ v) : vp_in v n := by
  rw [vp_in_iff]
  rw [Int32.lt_iff_toInt_lt] at h1
  rw [Int32.le_iff_toInt_le] at h2
  have e0 : (0 : Int32).toInt = 0 := by decide +kernel
  omega
theorem q_has {u c v : Int32} {N : Nat} (hN : N < 1000) (hc : c = nI N) (h : ¬ (if v < 1 then (0 : Int32) else (if c < v then 0 else 1)) = 0) : ∃ j, 1 ≤ j ∧ j ≤ N ∧ v = nI j := by
  by_cases h1 : v < 1
  · rw [if_pos h1] at h; exact absurd rfl h
  · rw [if_neg h1] at h
    by_cases h2 : c < v
    · rw [if_pos h2] at h; exact absurd rfl h
    · rw [hc] at h2
      exact q_rng hN h1 h2
theorem q_nb {x : Int32} (h : x = 0 ∨ x = 1) : narrow .boolean (.int x) = .int x := by
  rcases h with h | h <;> (subst h; decide +kernel)
theorem q_nz (x : Int32) : vp_nar .boolean x = 0 ∨ vp_nar .boolean x = 1 := by
  have e : vp_nar .boolean x = x &&& 1 := rfl
  obtain ⟨j, hj, h⟩ := pk_andE x (m := 1) 1 (by decide +kernel)
  have hj : j < 2 := hj
  rw [e, h]
  rcases (show j = 0 ∨ j = 1 by omega) with r | r
  · subst r; exact Or.inl (by decide +kernel)
  · subst r; exact Or.inr (by decide +kernel)
/-- a loop's number is at most the count where the loop goes on -/
theorem q_lp {c : Int32} {N k : Nat} (e : c = nI N) (hN : N ≤ 120) (hk : k ≤ N + 1) (h : ¬ c < nI k) : k ≤ N := q_lt1 (by omega) (by omega) (by rw [← e]; exact h)
theorem q_lpv {c : Int32} {N k B : Nat} (e : c = nI N) (hN : N ≤ 120) (hk : k ≤ N + 1) (h : ¬ c < nI k) (hB : N < B) (hb : B < 1000) : vp_in (nI k) B := by
  have h2 := q_lp e hN hk h
  exact vp_in_nI (by omega) (by omega)

-- the landed code
theorem xh_has_in {u : q_S} {v : Int32} (hI : q_I u) (h : ¬ xh_has u v = 0) : ∃ j N, q_nh u = nI N ∧ N ≤ 120 ∧ 1 ≤ j ∧ j ≤ N ∧ v = nI j := by
  obtain ⟨N, hN, e⟩ := q_I_nh hI
  obtain ⟨j, a, b, c⟩ := q_has (u := 0) (N := N) (by omega) e h
  exact ⟨j, N, e, hN, a, b, c⟩
theorem xc_has_in {u : q_S} {v : Int32} (hI : q_I u) (h : ¬ xc_has u v = 0) : ∃ j N, q_nc u = nI N ∧ N ≤ 60 ∧ 1 ≤ j ∧ j ≤ N ∧ v = nI j := by
  obtain ⟨N, hN, e⟩ := q_I_nc hI
  obtain ⟨j, a, b, c⟩ := q_has (u := 0) (N := N) (by omega) e h
  exact ⟨j, N, e, hN, a, b, c⟩
theorem x_isRecord_in {u : q_S} {v : Int32} (hI : q_I u) (h : ¬ x_isRecord u v = 0) : ∃ j N, q_nr u = nI N ∧ N ≤ 30 ∧ 1 ≤ j ∧ j ≤ N ∧ v = nI j := by
  obtain ⟨N, hN, e⟩ := q_I_nr hI
  obtain ⟨j, a, b, c⟩ := q_has (u := 0) (N := N) (by omega) e h
  exact ⟨j, N, e, hN, a, b, c⟩
theorem xh_has_vp {u : q_S} {v : Int32} (hI : q_I u) (h : ¬ xh_has u v = 0) : vp_in v 121 := by
  obtain ⟨j, N, -, hN, h1, h2, rfl⟩ := xh_has_in hI h
  exact vp_in_nI (by omega) (by omega)
theorem xc_has_vp {u : q_S} {v : Int32} (hI : q_I u) (h : ¬ xc_has u v = 0) : vp_in v 61 := by
  obtain ⟨j, N, -, hN, h1, h2, rfl⟩ := xc_has_in hI h
  exact vp_in_nI (by omega) (by omega)
theorem x_isRecord_vp {u : q_S} {v : Int32} (hI : q_I u) (h : ¬ x_isRecord u v = 0) : vp_in v 31 := by
  obtain ⟨j, N, -, hN, h1, h2, rfl⟩ := x_isRecord_in hI h
  exact vp_in_nI (by omega) (by omega)
theorem x_isKind_vp {v : Int32} (h : ¬ x_isKind v = 0) : vp_in v 4 := by
  unfold x_isKind at h
  by_cases h1 : v < 0
  · rw [if_pos h1] at h; exact absurd rfl h
  · rw [if_neg h1] at h
    by_cases h2 : 4 ≤ v
    · rw [if_pos h2] at h; exact absurd rfl h
    · exact q_rng1 (M := 4) (n := 4) (by decide +kernel) (by omega) h1 h2
theorem x_isPerson_vp {v : Int32} (h : ¬ x_isPerson v = 0) : vp_in v 40 := by
  unfold x_isPerson at h
  by_cases h1 : v < 0
  · rw [if_pos h1] at h; exact absurd rfl h
  · rw [if_neg h1] at h
    by_cases h2 : 40 ≤ v
    · rw [if_pos h2] at h; exact absurd rfl h
    · exact q_rng1 (M := 40) (n := 40) (by decide +kernel) (by omega) h1 h2
theorem xh_isIn_ne {u : q_S} {v w : Int32} (h : ¬ xh_isIn u v w = 0) : ¬ xh_has u v = 0 ∧ q_hs u v.toNatClampNeg = w := by
  unfold xh_isIn at h
  by_cases h1 : xh_has u v = 0
  · rw [if_pos h1] at h; exact absurd rfl h
  · rw [if_neg h1] at h
    by_cases h2 : q_hs u v.toNatClampNeg = w
    · exact ⟨h1, h2⟩
    · rw [if_neg h2] at h; exact absurd rfl h
theorem xc_isIn_ne {u : q_S} {v w : Int32} (h : ¬ xc_isIn u v w = 0) : ¬ xc_has u v = 0 ∧ q_cs u v.toNatClampNeg = w := by
  unfold xc_isIn at h
  by_cases h1 : xc_has u v = 0
  · rw [if_pos h1] at h; exact absurd rfl h
  · rw [if_neg h1] at h
    by_cases h2 : q_cs u v.toNatClampNeg = w
    · exact ⟨h1, h2⟩
    · rw [if_neg h2] at h; exact absurd rfl h
theorem xh_isOpen_ne {u : q_S} {v : Int32} (h : ¬ xh_isOpen u v = 0) : ¬ xh_has u v = 0 := by
  intro h0
  have e : ∀ w, xh_isIn u v w = 0 := fun w => by unfold xh_isIn; rw [if_pos h0]
  unfold xh_isOpen at h
  rw [e 0, e 1, e 2] at h
  exact h rfl

theorem q_inc_nr {u : q_S} (hI : q_I u) (h : q_nr u < 30) : (∃ N, N ≤ 30 ∧ q_nr u + 1 = nI N) ∧ vp_in (q_nr u + 1) 31 := by
  obtain ⟨N, hN, e⟩ := q_I_nr hI
  rw [e] at h ⊢
  have h2 : N < 30 := (nI_ltI (by omega) (by omega)).mp (show nI N < nI 30 from h)
  rw [nI_1]
  exact ⟨⟨N + 1, by omega, rfl⟩, vp_in_nI (by omega) (by omega)⟩
theorem q_inc_nc {u : q_S} (hI : q_I u) (h : q_nc u < 60) : (∃ N, N ≤ 60 ∧ q_nc u + 1 = nI N) ∧ vp_in (q_nc u + 1) 61 := by
  obtain ⟨N, hN, e⟩ := q_I_nc hI
  rw [e] at h ⊢
  have h2 : N < 60 := (nI_ltI (by omega) (by omega)).mp (show nI N < nI 60 from h)
  rw [nI_1]
  exact ⟨⟨N + 1, by omega, rfl⟩, vp_in_nI (by omega) (by omega)⟩
theorem q_inc_nh {u : q_S} (hI : q_I u) (h : q_nh u < 120) : (∃ N, N ≤ 120 ∧ q_nh u + 1 = nI N) ∧ vp_in (q_nh u + 1) 121 := by
  obtain ⟨N, hN, e⟩ := q_I_nh hI
  rw [e] at h ⊢
  have h2 : N < 120 := (nI_ltI (by omega) (by omega)).mp (show nI N < nI 120 from h)
  rw [nI_1]
  exact ⟨⟨N + 1, by omega, rfl⟩, vp_in_nI (by omega) (by omega)⟩
theorem q_ne_nr {u : q_S} (hI : q_I u) (h : ¬ q_nr u = 30) : q_nr u < 30 := by
  obtain ⟨N, hN, e⟩ := q_I_nr hI
  rw [e] at h ⊢
  have h2 : N ≠ 30 := fun q => h (by rw [q]; rfl)
  exact (show nI N < nI 30 from nI_lt (by omega) (by omega))
theorem q_ne_nc {u : q_S} (hI : q_I u) (h : ¬ q_nc u = 60) : q_nc u < 60 := by
  obtain ⟨N, hN, e⟩ := q_I_nc hI
  rw [e] at h ⊢
  have h2 : N ≠ 60 := fun q => h (by rw [q]; rfl)
  exact (show nI N < nI 60 from nI_lt (by omega) (by omega))
theorem q_ne_nh {u : q_S} (hI : q_I u) (h : ¬ q_nh u = 120) : q_nh u < 120 := by
  obtain ⟨N, hN, e⟩ := q_I_nh hI
  rw [e] at h ⊢
  have h2 : N ≠ 120 := fun q => h (by rw [q]; rfl)
  exact (show nI N < nI 120 from nI_lt (by omega) (by omega))
theorem xc_areFull_lt {u : q_S} (h : xc_areFull u = 0) : q_nc u < 60 := by
  unfold xc_areFull at h
  by_cases h1 : q_nc u < 60
  · exact h1
  · rw [if_neg h1] at h; exact absurd h (by decide +kernel)
theorem xh_areFull_lt {u : q_S} (h : xh_areFull u = 0) : q_nh u < 120 := by
  unfold xh_areFull at h
  by_cases h1 : q_nh u < 120
  · exact h1
  · rw [if_neg h1] at h; exact absurd h (by decide +kernel)
-- the reference
theorem m_in_ne {v a b : Int32} (h : ¬ m_in v a b = 0) : ¬ v < a ∧ ¬ b < v := by
  unfold m_in at h
  by_cases h1 : v < a
  · rw [if_pos h1] at h; exact absurd rfl h
  · rw [if_neg h1] at h
    by_cases h2 : b < v
    · rw [if_pos h2] at h; exact absurd rfl h
    · exact ⟨h1, h2⟩
theorem m_in_01 (v a b : Int32) : m_in v a b = 0 ∨ m_in v a b = 1 := by
  unfold m_in
  split
  · exact Or.inl rfl
  · split
    · exact Or.inl rfl
    · exact Or.inr rfl
theorem m_in3 {v : Int32} (h : ¬ m_in v 0 3 = 0) : vp_in v 4 := q_rng0 (M := 3) (n := 3) (by decide +kernel) (by omega) (m_in_ne h).1 (m_in_ne h).2
theorem m_in39 {v : Int32} (h : ¬ m_in v 0 39 = 0) : vp_in v 40 := q_rng0 (M := 39) (n := 39) (by decide +kernel) (by omega) (m_in_ne h).1 (m_in_ne h).2
theorem m_in_nr {u : q_S} {v : Int32} (hI : q_I u) (h : ¬ m_in v 1 (q_nr u) = 0) : vp_in v 31 := by
  obtain ⟨N, hN, e⟩ := q_I_nr hI
  obtain ⟨h1, h2⟩ := m_in_ne h
  rw [e] at h2
  obtain ⟨j, a, b, rfl⟩ := q_rng (by omega) h1 h2
  exact vp_in_nI (by omega) (by omega)
theorem m_in_nc {u : q_S} {v : Int32} (hI : q_I u) (h : ¬ m_in v 1 (q_nc u) = 0) : vp_in v 61 := by
  obtain ⟨N, hN, e⟩ := q_I_nc hI
  obtain ⟨h1, h2⟩ := m_in_ne h
  rw [e] at h2
  obtain ⟨j, a, b, rfl⟩ := q_rng (by omega) h1 h2
  exact vp_in_nI (by omega) (by omega)
theorem m_in_nh {u : q_S} {v : Int32} (hI : q_I u) (h : ¬ m_in v 1 (q_nh u) = 0) : vp_in v 121 := by
  obtain ⟨N, hN, e⟩ := q_I_nh hI
  obtain ⟨h1, h2⟩ := m_in_ne h
  rw [e] at h2
  obtain ⟨j, a, b, rfl⟩ := q_rng (by omega) h1 h2
  exact vp_in_nI (by omega) (by omega)
theorem m_isHold_vp {u : q_S} {v : Int32} (hI : q_I u) (h : ¬ m_isHold u v = 0) : vp_in v 121 := m_in_nh hI h
theorem m_isWaiting_ne {u : q_S} {v : Int32} (h : ¬ m_isWaiting u v = 0) : ¬ m_isHold u v = 0 ∧ q_hs u v.toNatClampNeg = 0 := by
  unfold m_isWaiting at h
  by_cases h1 : m_isHold u v = 0
  · rw [if_pos h1] at h; exact absurd rfl h
  · rw [if_neg h1] at h
    by_cases h2 : q_hs u v.toNatClampNeg = 0
    · exact ⟨h1, h2⟩
    · rw [if_neg h2] at h; exact absurd rfl h
theorem m_isCopy_ne {u : q_S} {v w : Int32} (h : ¬ m_isCopy u v w = 0) : ¬ m_in v 1 (q_nc u) = 0 ∧ q_cs u v.toNatClampNeg = w := by
  unfold m_isCopy at h
  by_cases h1 : m_in v 1 (q_nc u) = 0
  · rw [if_pos h1] at h; exact absurd rfl h
  · rw [if_neg h1] at h
    by_cases h2 : q_cs u v.toNatClampNeg = w
    · exact ⟨h1, h2⟩
    · rw [if_neg h2] at h; exact absurd rfl h
theorem m_isCopy_vp {u : q_S} {v w : Int32} (hI : q_I u) (h : ¬ m_isCopy u v w = 0) : vp_in v 61 := m_in_nc hI (m_isCopy_ne h).1
theorem x_record_pp {u : q_S} (hI : q_I u) (v1 : Int32) : x_record_p u v1 := by
  unfold x_record_p
  exact ⟨fun _ => trivial, fun _ => ⟨fun h2 => (q_inc_nr hI h2).2, fun _ => trivial⟩⟩
theorem x_record_I {u : q_S} (hI : q_I u) (v1 : Int32) : q_I (x_record_s u v1) := by
  show q_I ((x_record u v1).2)
  unfold x_record
  by_cases h1 : (x_isKind v1) = 0
  · rw [if_pos h1]
    exact hI
  · rw [if_neg h1]
    by_cases h2 : (q_nr u) < 30
    · rw [if_pos h2]
      exact (q_I_kd_u (q_I_nr_s hI (q_inc_nr hI h2).1) _ _ (x_isKind_vp h1))
    · rw [if_neg h2]
      exact hI
theorem xc_add_pp {u : q_S} (hI : q_I u) (v1 : Int32) (v2 : Int32) (hlt : q_nc u < 60) : xc_add_p u v1 v2 := by
  unfold xc_add_p
  exact (q_inc_nc hI hlt).2
theorem xc_add_I {u : q_S} (hI : q_I u) (v1 : Int32) (v2 : Int32) (hlt : q_nc u < 60) : q_I (xc_add_s u v1 v2) := by
  show q_I ((xc_add u v1 v2).2)
  unfold xc_add
  exact (q_I_cs_u (q_I_cp_u (q_I_cr_u (q_I_nc_s hI (q_inc_nc hI hlt).1) _ _) _ _) _ _)
theorem x_copy_pp {u : q_S} (hI : q_I u) (v1 : Int32) (v2 : Int32) : x_copy_p u v1 v2 := by
  unfold x_copy_p
  exact ⟨trivial, ⟨fun _ => trivial, fun _ => ⟨fun _ => trivial, fun _ => ⟨fun h3 => xc_add_pp hI _ _ (xc_areFull_lt h3), fun _ => trivial⟩⟩⟩⟩
theorem x_copy_I {u : q_S} (hI : q_I u) (v1 : Int32) (v2 : Int32) : q_I (x_copy_s u v1 v2) := by
  show q_I ((x_copy u v1 v2).2)
  unfold x_copy
  by_cases h1 : (x_isRecord u v1) = 0
  · rw [if_pos h1]
    exact hI
  · rw [if_neg h1]
    by_cases h2 : (x_isPlace v2) = 0
    · rw [if_pos h2]
      exact hI
    · rw [if_neg h2]
      by_cases h3 : (xc_areFull u) = 0
      · rw [if_pos h3]
        exact (xc_add_I hI _ _ (xc_areFull_lt h3))
      · rw [if_neg h3]
        exact hI
theorem x_bar_pp {u : q_S} (hI : q_I u) (v1 : Int32) (v2 : Int32) : x_bar_p u v1 v2 := by
  unfold x_bar_p
  exact ⟨fun _ => trivial, fun h1 => ⟨(x_isKind_vp h1), q_nb (q_I_bd hI _)⟩⟩
theorem x_bar_I {u : q_S} (hI : q_I u) (v1 : Int32) (v2 : Int32) : q_I (x_bar_s u v1 v2) := by
  show q_I ((x_bar u v1 v2).2)
  unfold x_bar
  by_cases h1 : (x_isKind v1) = 0
  · rw [if_pos h1]
    exact hI
  · rw [if_neg h1]
    exact (q_I_bd_u hI _ _ (q_nz _))
theorem xh_isIn_pp {u : q_S} (hI : q_I u) (v1 : Int32) (v2 : Int32) : xh_isIn_p u v1 v2 := by
  unfold xh_isIn_p
  exact ⟨trivial, ⟨fun _ => trivial, fun h1 => (xh_has_vp hI h1)⟩⟩
theorem xh_isOpen_pp {u : q_S} (hI : q_I u) (v1 : Int32) : xh_isOpen_p u v1 := by
  unfold xh_isOpen_p
  exact ⟨xh_isIn_pp hI _ _, ⟨fun _ => ⟨xh_isIn_pp hI _ _, ⟨fun _ => xh_isIn_pp hI _ _, fun _ => trivial⟩⟩, fun _ => trivial⟩⟩
theorem xh_hasOpen_l2_pp {N : Nat} (hB : N ≤ 120) : ∀ (n k : Nat) (v1 : Int32) (v2 : Int32) (u : q_S), q_I u → q_nh u = nI N → 1 ≤ k → k ≤ N + 1 → N + 1 < k + n → xh_hasOpen_l2_p n v1 v2 (nI k) u := by
  intro n
  induction n with
  | zero => intro k v1 v2 u hI hN h1 h2 h3; omega
  | succ n ih =>
    intro k v1 v2 u hI hN h1 h2 h3
    show xh_hasOpen_l2_pb (xh_hasOpen_l2_p n) v1 v2 (nI k) u
    unfold xh_hasOpen_l2_pb
    exact ⟨fun _ => trivial, fun h1 => ⟨(q_lpv hN (by omega) (by omega) h1 (by omega) (by omega)), ⟨fun h2 => ⟨fun _ => ⟨xh_isOpen_pp hI _, ⟨fun _ => (by have ih2 := ih (k + 1) v1 v2 u hI hN (by omega) (by have := q_lp hN (by omega) (by omega) h1; omega) (by omega); rw [← nI_1] at ih2; exact ih2), fun _ => trivial⟩⟩, fun _ => (by have ih2 := ih (k + 1) v1 v2 u hI hN (by omega) (by have := q_lp hN (by omega) (by omega) h1; omega) (by omega); rw [← nI_1] at ih2; exact ih2)⟩, fun h2 => (by have ih2 := ih (k + 1) v1 v2 u hI hN (by omega) (by have := q_lp hN (by omega) (by omega) h1; omega) (by omega); rw [← nI_1] at ih2; exact ih2)⟩⟩⟩
theorem xh_hasOpen_pp {u : q_S} (hI : q_I u) (v1 : Int32) (v2 : Int32) : xh_hasOpen_p u v1 v2 := by
  unfold xh_hasOpen_p
  exact (by obtain ⟨N, hB, hN⟩ := q_I_nh hI; exact xh_hasOpen_l2_pp hB 200 1 v1 v2 u hI hN (by omega) (by omega) (by omega))
theorem xh_countOpen_l4_pp {N : Nat} (hB : N ≤ 120) : ∀ (n k : Nat) (v1 : Int32) (v2 : Int32) (u : q_S), q_I u → q_nh u = nI N → 1 ≤ k → k ≤ N + 1 → N + 1 < k + n → xh_countOpen_l4_p n v1 v2 (nI k) u := by
  intro n
  induction n with
  | zero => intro k v1 v2 u hI hN h1 h2 h3; omega
  | succ n ih =>
    intro k v1 v2 u hI hN h1 h2 h3
    show xh_countOpen_l4_pb (xh_countOpen_l4_p n) v1 v2 (nI k) u
    unfold xh_countOpen_l4_pb
    exact ⟨fun _ => trivial, fun h1 => ⟨(q_lpv hN (by omega) (by omega) h1 (by omega) (by omega)), ⟨fun h2 => ⟨xh_isOpen_pp hI _, ⟨fun _ => (by have ih2 := ih (k + 1) v1 v2 u hI hN (by omega) (by have := q_lp hN (by omega) (by omega) h1; omega) (by omega); rw [← nI_1] at ih2; exact ih2), fun _ => (by have ih2 := ih (k + 1) v1 (v2 + 1) u hI hN (by omega) (by have := q_lp hN (by omega) (by omega) h1; omega) (by omega); rw [← nI_1] at ih2; exact ih2)⟩⟩, fun h2 => (by have ih2 := ih (k + 1) v1 v2 u hI hN (by omega) (by have := q_lp hN (by omega) (by omega) h1; omega) (by omega); rw [← nI_1] at ih2; exact ih2)⟩⟩⟩
theorem xh_countOpen_pp {u : q_S} (hI : q_I u) (v1 : Int32) : xh_countOpen_p u v1 := by
  unfold xh_countOpen_p
  exact (by obtain ⟨N, hB, hN⟩ := q_I_nh hI; exact xh_countOpen_l4_pp hB 200 1 v1 0 u hI hN (by omega) (by omega) (by omega))
theorem xh_add_pp {u : q_S} (hI : q_I u) (v1 : Int32) (v2 : Int32) (v3 : Int32) (v4 : Int32) (hlt : q_nh u < 120) : xh_add_p u v1 v2 v3 v4 := by
  unfold xh_add_p
  exact (q_inc_nh hI hlt).2
theorem xh_add_I {u : q_S} (hI : q_I u) (v1 : Int32) (v2 : Int32) (v3 : Int32) (v4 : Int32) (hlt : q_nh u < 120) : q_I (xh_add_s u v1 v2 v3 v4) := by
  show q_I ((xh_add u v1 v2 v3 v4).2)
  unfold xh_add
  exact (q_I_hs_u (q_I_hk_u (q_I_hl_u (q_I_hr_u (q_I_hp_u (q_I_nh_s hI (q_inc_nh hI hlt).1) _ _) _ _) _ _) _ _) _ _)
theorem xc_leastFree_l2_pp {N : Nat} (hB : N ≤ 60) : ∀ (n k : Nat) (v1 : Int32) (u : q_S), q_I u → q_nc u = nI N → 1 ≤ k → k ≤ N + 1 → N + 1 < k + n → xc_leastFree_l2_p n v1 (nI k) u := by
  intro n
  induction n with
  | zero => intro k v1 u hI hN h1 h2 h3; omega
  | succ n ih =>
    intro k v1 u hI hN h1 h2 h3
    show xc_leastFree_l2_pb (xc_leastFree_l2_p n) v1 (nI k) u
    unfold xc_leastFree_l2_pb
    exact ⟨fun _ => trivial, fun h1 => ⟨(q_lpv hN (by omega) (by omega) h1 (by omega) (by omega)), ⟨fun h2 => ⟨fun _ => trivial, fun _ => (by have ih2 := ih (k + 1) v1 u hI hN (by omega) (by have := q_lp hN (by omega) (by omega) h1; omega) (by omega); rw [← nI_1] at ih2; exact ih2)⟩, fun h2 => (by have ih2 := ih (k + 1) v1 u hI hN (by omega) (by have := q_lp hN (by omega) (by omega) h1; omega) (by omega); rw [← nI_1] at ih2; exact ih2)⟩⟩⟩
theorem xc_leastFree_pp {u : q_S} (hI : q_I u) (v1 : Int32) : xc_leastFree_p u v1 := by
  unfold xc_leastFree_p
  exact (by obtain ⟨N, hB, hN⟩ := q_I_nc hI; exact xc_leastFree_l2_pp hB 200 1 v1 u hI hN (by omega) (by omega) (by omega))
theorem xc_leastFree_l2_vp {N : Nat} (hB : N ≤ 60) : ∀ (n k : Nat) (v1 : Int32) (u : q_S), q_I u → q_nc u = nI N → 1 ≤ k → k ≤ N + 1 → N + 1 < k + n → vp_in (xc_leastFree_l2 n v1 (nI k) u) 61 := by
  intro n
  induction n with
  | zero => intro k v1 u hI hN h1 h2 h3; omega
  | succ n ih =>
    intro k v1 u hI hN h1 h2 h3
    show vp_in (xc_leastFree_l2_b (xc_leastFree_l2 n) v1 (nI k) u) 61
    unfold xc_leastFree_l2_b
    by_cases h11 : (q_nc u) < (nI k)
    · rw [if_pos h11]
      exact (q_0in 61 (by omega) (by omega))
    · rw [if_neg h11]
      by_cases h12 : (q_cr u (Int32.toNatClampNeg (nI k))) = v1
      · rw [if_pos h12]
        by_cases h13 : (q_cs u (Int32.toNatClampNeg (nI k))) = 0
        · rw [if_pos h13]
          exact (q_lpv hN (by omega) (by omega) h11 (by omega) (by omega))
        · rw [if_neg h13]
          exact (by have ih2 := ih (k + 1) v1 u hI hN (by omega) (by have := q_lp hN (by omega) (by omega) h11; omega) (by omega); rw [← nI_1] at ih2; exact ih2)
      · rw [if_neg h12]
        exact (by have ih2 := ih (k + 1) v1 u hI hN (by omega) (by have := q_lp hN (by omega) (by omega) h11; omega) (by omega); rw [← nI_1] at ih2; exact ih2)
theorem xc_leastFree_vp {u : q_S} (hI : q_I u) (v1 : Int32) : vp_in (xc_leastFree u v1) 61 := by
  obtain ⟨N, hB, hN⟩ := q_I_nc hI
  exact xc_leastFree_l2_vp hB 200 1 v1 u hI hN (by omega) (by omega) (by omega)
theorem xh_isQueued_pp {u : q_S} (hI : q_I u) (v1 : Int32) (v2 : Int32) (e0 : vp_in v1 121) : xh_isQueued_p u v1 v2 := by
  unfold xh_isQueued_p
  exact e0
theorem xh_comesBefore_pp {u : q_S} (hI : q_I u) (v1 : Int32) (v2 : Int32) (e0 : vp_in v1 121) (e1 : vp_in v2 121) : xh_comesBefore_p u v1 v2 := by
  unfold xh_comesBefore_p
  exact ⟨e0, e1⟩
theorem xh_firstFitting_l6_pp {N : Nat} (hB : N ≤ 120) : ∀ (n k : Nat) (v1 : Int32) (v2 : Int64) (v4 : Int32) (u : q_S), q_I u → q_nh u = nI N → 1 ≤ k → k ≤ N + 1 → N + 1 < k + n → vp_in v4 121 → xh_firstFitting_l6_p n v1 v2 v4 (nI k) u := by
  intro n
  induction n with
  | zero => intro k v1 v2 v4 u hI hN h1 h2 h3; omega
  | succ n ih =>
    intro k v1 v2 v4 u hI hN h1 h2 h3 e4
    show xh_firstFitting_l6_pb (xh_firstFitting_l6_p n) v1 v2 v4 (nI k) u
    unfold xh_firstFitting_l6_pb
    exact ⟨fun _ => trivial, fun h1 => ⟨xh_isQueued_pp hI _ _ (q_lpv hN (by omega) (by omega) h1 (by omega) (by omega)), ⟨fun h2 => (by have ih2 := ih (k + 1) v1 v2 v4 u hI hN (by omega) (by have := q_lp hN (by omega) (by omega) h1; omega) (by omega) e4; rw [← nI_1] at ih2; exact ih2), fun h2 => ⟨(q_lpv hN (by omega) (by omega) h1 (by omega) (by omega)), ⟨fun _ => (by have ih2 := ih (k + 1) v1 v2 v4 u hI hN (by omega) (by have := q_lp hN (by omega) (by omega) h1; omega) (by omega) e4; rw [← nI_1] at ih2; exact ih2), fun _ => ⟨fun _ => (by have ih2 := ih (k + 1) v1 v2 (nI k) u hI hN (by omega) (by have := q_lp hN (by omega) (by omega) h1; omega) (by omega) (q_lpv hN (by omega) (by omega) h1 (by omega) (by omega)); rw [← nI_1] at ih2; exact ih2), fun _ => ⟨xh_comesBefore_pp hI _ _ (q_lpv hN (by omega) (by omega) h1 (by omega) (by omega)) e4, ⟨fun _ => (by have ih2 := ih (k + 1) v1 v2 v4 u hI hN (by omega) (by have := q_lp hN (by omega) (by omega) h1; omega) (by omega) e4; rw [← nI_1] at ih2; exact ih2), fun _ => (by have ih2 := ih (k + 1) v1 v2 (nI k) u hI hN (by omega) (by have := q_lp hN (by omega) (by omega) h1; omega) (by omega) (q_lpv hN (by omega) (by omega) h1 (by omega) (by omega)); rw [← nI_1] at ih2; exact ih2)⟩⟩⟩⟩⟩⟩⟩⟩
theorem xh_firstFitting_pp {u : q_S} (hI : q_I u) (v1 : Int32) (v2 : Int64) : xh_firstFitting_p u v1 v2 := by
  unfold xh_firstFitting_p
  exact (by obtain ⟨N, hB, hN⟩ := q_I_nh hI; exact xh_firstFitting_l6_pp hB 200 1 v1 v2 0 u hI hN (by omega) (by omega) (by omega) (q_0in 121 (by omega) (by omega)))
theorem xh_firstFitting_l6_vp {N : Nat} (hB : N ≤ 120) : ∀ (n k : Nat) (v1 : Int32) (v2 : Int64) (v4 : Int32) (u : q_S), q_I u → q_nh u = nI N → 1 ≤ k → k ≤ N + 1 → N + 1 < k + n → vp_in v4 121 → vp_in (xh_firstFitting_l6 n v1 v2 v4 (nI k) u) 121 := by
  intro n
  induction n with
  | zero => intro k v1 v2 v4 u hI hN h1 h2 h3; omega
  | succ n ih =>
    intro k v1 v2 v4 u hI hN h1 h2 h3 e4
    show vp_in (xh_firstFitting_l6_b (xh_firstFitting_l6 n) v1 v2 v4 (nI k) u) 121
    unfold xh_firstFitting_l6_b
    by_cases h11 : (q_nh u) < (nI k)
    · rw [if_pos h11]
      exact e4
    · rw [if_neg h11]
      by_cases h12 : (xh_isQueued u (nI k) v1) = 0
      · rw [if_pos h12]
        exact (by have ih2 := ih (k + 1) v1 v2 v4 u hI hN (by omega) (by have := q_lp hN (by omega) (by omega) h11; omega) (by omega) e4; rw [← nI_1] at ih2; exact ih2)
      · rw [if_neg h12]
        by_cases h13 : 0 < (lg_cmp (q_hu u (Int32.toNatClampNeg (nI k))) v2)
        · rw [if_pos h13]
          exact (by have ih2 := ih (k + 1) v1 v2 v4 u hI hN (by omega) (by have := q_lp hN (by omega) (by omega) h11; omega) (by omega) e4; rw [← nI_1] at ih2; exact ih2)
        · rw [if_neg h13]
          by_cases h14 : v4 = 0
          · rw [if_pos h14]
            exact (by have ih2 := ih (k + 1) v1 v2 (nI k) u hI hN (by omega) (by have := q_lp hN (by omega) (by omega) h11; omega) (by omega) (q_lpv hN (by omega) (by omega) h11 (by omega) (by omega)); rw [← nI_1] at ih2; exact ih2)
          · rw [if_neg h14]
            by_cases h15 : (xh_comesBefore u (nI k) v4) = 0
            · rw [if_pos h15]
              exact (by have ih2 := ih (k + 1) v1 v2 v4 u hI hN (by omega) (by have := q_lp hN (by omega) (by omega) h11; omega) (by omega) e4; rw [← nI_1] at ih2; exact ih2)
            · rw [if_neg h15]
              exact (by have ih2 := ih (k + 1) v1 v2 (nI k) u hI hN (by omega) (by have := q_lp hN (by omega) (by omega) h11; omega) (by omega) (q_lpv hN (by omega) (by omega) h11 (by omega) (by omega)); rw [← nI_1] at ih2; exact ih2)
theorem xh_firstFitting_vp {u : q_S} (hI : q_I u) (v1 : Int32) (v2 : Int64) : vp_in (xh_firstFitting u v1 v2) 121 := by
  obtain ⟨N, hB, hN⟩ := q_I_nh hI
  exact xh_firstFitting_l6_vp hB 200 1 v1 v2 0 u hI hN (by omega) (by omega) (by omega) (q_0in 121 (by omega) (by omega))
theorem x_layReady_pp {u : q_S} (hI : q_I u) (v1 : Int32) (v2 : Int32) (e0 : vp_in v1 61) (e1 : vp_in v2 121) : x_layReady_p u v1 v2 := by
  unfold x_layReady_p
  exact ⟨e0, e1⟩
theorem x_layReady_I {u : q_S} (hI : q_I u) (v1 : Int32) (v2 : Int32) (e0 : vp_in v1 61) (e1 : vp_in v2 121) : q_I (x_layReady u v1 v2) := by
  show q_I (x_layReady u v1 v2)
  unfold x_layReady
  exact (q_I_he_u (q_I_hs_u (q_I_cs_u hI _ _) _ _) _ _)
theorem x_send_pp {u : q_S} (hI : q_I u) (v1 : Int32) (v2 : Int32) (e0 : vp_in v1 61) (e1 : vp_in v2 121) : x_send_p u v1 v2 := by
  unfold x_send_p
  exact ⟨e0, e1⟩
theorem x_send_I {u : q_S} (hI : q_I u) (v1 : Int32) (v2 : Int32) (e0 : vp_in v1 61) (e1 : vp_in v2 121) : q_I (x_send u v1 v2) := by
  show q_I (x_send u v1 v2)
  unfold x_send
  exact (q_I_hs_u (q_I_cp_u (q_I_cs_u hI _ _) _ _) _ _)
theorem x_settle_pp {u : q_S} (hI : q_I u) (v1 : Int32) (e0 : vp_in v1 61) : x_settle_p u v1 := by
  unfold x_settle_p
  exact ⟨e0, ⟨xh_firstFitting_pp hI _ _, ⟨fun _ => trivial, fun _ => ⟨(xh_firstFitting_vp hI _ _), ⟨fun _ => x_layReady_pp (q_I_hy_u (q_I_ch_u hI _ _ (xh_firstFitting_vp hI _ _)) _ _ e0) _ _ e0 (xh_firstFitting_vp hI _ _), fun _ => x_send_pp (q_I_hy_u (q_I_ch_u hI _ _ (xh_firstFitting_vp hI _ _)) _ _ e0) _ _ e0 (xh_firstFitting_vp hI _ _)⟩⟩⟩⟩⟩
theorem x_settle_I {u : q_S} (hI : q_I u) (v1 : Int32) (e0 : vp_in v1 61) : q_I (x_settle_s u v1) := by
  show q_I ((x_settle u v1).2)
  unfold x_settle
  by_cases h1 : (xh_firstFitting u (q_cr u (Int32.toNatClampNeg v1)) (q_td u)) = 0
  · rw [if_pos h1]
    exact (q_I_cs_u hI _ _)
  · rw [if_neg h1]
    by_cases h2 : (q_cp u (Int32.toNatClampNeg v1)) = (q_hl u (Int32.toNatClampNeg (xh_firstFitting u (q_cr u (Int32.toNatClampNeg v1)) (q_td u))))
    · rw [if_pos h2]
      exact (x_layReady_I (q_I_hy_u (q_I_ch_u hI _ _ (xh_firstFitting_vp hI _ _)) _ _ e0) _ _ e0 (xh_firstFitting_vp hI _ _))
    · rw [if_neg h2]
      exact (x_send_I (q_I_hy_u (q_I_ch_u hI _ _ (xh_firstFitting_vp hI _ _)) _ _ e0) _ _ e0 (xh_firstFitting_vp hI _ _))
theorem x_hold_pp {u : q_S} (hI : q_I u) (v1 : Int32) (v2 : Int32) (v3 : Int32) (v4 : Int32) : x_hold_p u v1 v2 v3 v4 := by
  unfold x_hold_p
  exact ⟨fun _ => trivial, fun h1 => ⟨trivial, ⟨fun _ => trivial, fun h2 => ⟨fun _ => trivial, fun _ => ⟨(x_isRecord_vp hI h2), ⟨(q_I_kd hI _), ⟨fun _ => ⟨xh_hasOpen_pp hI _ _, ⟨fun _ => ⟨fun h6 => ⟨xh_countOpen_pp hI _, ⟨(x_isPerson_vp h1), ⟨fun _ => ⟨xh_add_pp hI _ _ _ _ (xh_areFull_lt h6), ⟨xc_leastFree_pp (xh_add_I hI _ _ _ _ (xh_areFull_lt h6)) _, ⟨fun _ => trivial, fun _ => x_settle_pp (xh_add_I hI _ _ _ _ (xh_areFull_lt h6)) _ (xc_leastFree_vp (xh_add_I hI _ _ _ _ (xh_areFull_lt h6)) _)⟩⟩⟩, fun _ => trivial⟩⟩⟩, fun _ => trivial⟩, fun _ => trivial⟩⟩, fun _ => trivial⟩⟩⟩⟩⟩⟩⟩
theorem x_hold_I {u : q_S} (hI : q_I u) (v1 : Int32) (v2 : Int32) (v3 : Int32) (v4 : Int32) : q_I (x_hold_s u v1 v2 v3 v4) := by
  show q_I ((x_hold u v1 v2 v3 v4).2)
  unfold x_hold
  by_cases h1 : (x_isPerson v1) = 0
  · rw [if_pos h1]
    exact hI
  · rw [if_neg h1]
    by_cases h2 : (x_isRecord u v2) = 0
    · rw [if_pos h2]
      exact hI
    · rw [if_neg h2]
      by_cases h3 : (x_isPlace v3) = 0
      · rw [if_pos h3]
        exact hI
      · rw [if_neg h3]
        by_cases h4 : (q_bd u (Int32.toNatClampNeg (q_kd u (Int32.toNatClampNeg v2)))) = 0
        · rw [if_pos h4]
          by_cases h5 : (xh_hasOpen u v1 v2) = 0
          · rw [if_pos h5]
            by_cases h6 : (xh_areFull u) = 0
            · rw [if_pos h6]
              by_cases h7 : (xh_countOpen u v1) < (q_mo u (Int32.toNatClampNeg v1))
              · rw [if_pos h7]
                by_cases h8 : (xc_leastFree (xh_add_s u v1 v2 v3 v4) v2) = 0
                · rw [if_pos h8]
                  exact (xh_add_I hI _ _ _ _ (xh_areFull_lt h6))
                · rw [if_neg h8]
                  exact (x_settle_I (xh_add_I hI _ _ _ _ (xh_areFull_lt h6)) _ (xc_leastFree_vp (xh_add_I hI _ _ _ _ (xh_areFull_lt h6)) _))
              · rw [if_neg h7]
                exact hI
            · rw [if_neg h6]
              exact hI
          · rw [if_neg h5]
            exact hI
        · rw [if_neg h4]
          exact hI
theorem x_most_pp {u : q_S} (hI : q_I u) (v1 : Int32) (v2 : Int32) : x_most_p u v1 v2 := by
  unfold x_most_p
  exact ⟨fun _ => trivial, fun h1 => ⟨fun _ => trivial, fun _ => ⟨fun _ => (x_isPerson_vp h1), fun _ => trivial⟩⟩⟩
theorem x_most_I {u : q_S} (hI : q_I u) (v1 : Int32) (v2 : Int32) : q_I (x_most_s u v1 v2) := by
  show q_I ((x_most u v1 v2).2)
  unfold x_most
  by_cases h1 : (x_isPerson v1) = 0
  · rw [if_pos h1]
    exact hI
  · rw [if_neg h1]
    by_cases h2 : v2 < 0
    · rw [if_pos h2]
      exact hI
    · rw [if_neg h2]
      by_cases h3 : v2 ≤ 20
      · rw [if_pos h3]
        exact (q_I_mo_u hI _ _)
      · rw [if_neg h3]
        exact hI
theorem x_suspend_pp {u : q_S} (hI : q_I u) (v1 : Int32) (v2 : Int64) : x_suspend_p u v1 v2 := by
  unfold x_suspend_p
  exact ⟨xh_isIn_pp hI _ _, ⟨fun _ => trivial, fun h1 => (xh_has_vp hI (xh_isIn_ne h1).1)⟩⟩
theorem x_suspend_I {u : q_S} (hI : q_I u) (v1 : Int32) (v2 : Int64) : q_I (x_suspend_s u v1 v2) := by
  show q_I ((x_suspend u v1 v2).2)
  unfold x_suspend
  by_cases h1 : (xh_isIn u v1 0) = 0
  · rw [if_pos h1]
    exact hI
  · rw [if_neg h1]
    exact (q_I_hu_u hI _ _)
theorem xc_isIn_pp {u : q_S} (hI : q_I u) (v1 : Int32) (v2 : Int32) : xc_isIn_p u v1 v2 := by
  unfold xc_isIn_p
  exact ⟨trivial, ⟨fun _ => trivial, fun h1 => (xc_has_vp hI h1)⟩⟩
theorem x_back_pp {u : q_S} (hI : q_I u) (v1 : Int32) (v2 : Int32) : x_back_p u v1 v2 := by
  unfold x_back_p
  exact ⟨xc_isIn_pp hI _ _, ⟨fun _ => trivial, fun h1 => ⟨fun _ => trivial, fun _ => ⟨(xc_has_vp hI (xc_isIn_ne h1).1), x_settle_pp (q_I_cp_u hI _ _) _ (xc_has_vp hI (xc_isIn_ne h1).1)⟩⟩⟩⟩
theorem x_back_I {u : q_S} (hI : q_I u) (v1 : Int32) (v2 : Int32) : q_I (x_back_s u v1 v2) := by
  show q_I ((x_back u v1 v2).2)
  unfold x_back
  by_cases h1 : (xc_isIn u v1 1) = 0
  · rw [if_pos h1]
    exact hI
  · rw [if_neg h1]
    by_cases h2 : (x_isPlace v2) = 0
    · rw [if_pos h2]
      exact hI
    · rw [if_neg h2]
      exact (x_settle_I (q_I_cp_u hI _ _) _ (xc_has_vp hI (xc_isIn_ne h1).1))
theorem x_untie_pp {u : q_S} (hI : q_I u) (v1 : Int32) (v2 : Int32) (e0 : vp_in v1 61) (e1 : vp_in v2 121) : x_untie_p u v1 v2 := by
  unfold x_untie_p
  exact ⟨e0, e1⟩
theorem x_untie_I {u : q_S} (hI : q_I u) (v1 : Int32) (v2 : Int32) (e0 : vp_in v1 61) (e1 : vp_in v2 121) : q_I (x_untie u v1 v2) := by
  show q_I (x_untie u v1 v2)
  unfold x_untie
  exact (q_I_hy_u (q_I_ch_u hI _ _ (q_0in 121 (by omega) (by omega))) _ _ (q_0in 61 (by omega) (by omega)))
theorem x_arrive_pp {u : q_S} (hI : q_I u) (v1 : Int32) : x_arrive_p u v1 := by
  unfold x_arrive_p
  exact ⟨xc_isIn_pp hI _ _, ⟨fun _ => trivial, fun h1 => ⟨(xc_has_vp hI (xc_isIn_ne h1).1), ⟨xh_isIn_pp hI _ _, ⟨fun _ => ⟨x_untie_pp hI _ _ (xc_has_vp hI (xc_isIn_ne h1).1) (q_I_ch hI _), x_settle_pp (x_untie_I hI _ _ (xc_has_vp hI (xc_isIn_ne h1).1) (q_I_ch hI _)) _ (xc_has_vp hI (xc_isIn_ne h1).1)⟩, fun _ => x_layReady_pp hI _ _ (xc_has_vp hI (xc_isIn_ne h1).1) (q_I_ch hI _)⟩⟩⟩⟩⟩
theorem x_arrive_I {u : q_S} (hI : q_I u) (v1 : Int32) : q_I (x_arrive_s u v1) := by
  show q_I ((x_arrive u v1).2)
  unfold x_arrive
  by_cases h1 : (xc_isIn u v1 2) = 0
  · rw [if_pos h1]
    exact hI
  · rw [if_neg h1]
    by_cases h2 : (xh_isIn u (q_ch u (Int32.toNatClampNeg v1)) 1) = 0
    · rw [if_pos h2]
      exact (x_settle_I (x_untie_I hI _ _ (xc_has_vp hI (xc_isIn_ne h1).1) (q_I_ch hI _)) _ (xc_has_vp hI (xc_isIn_ne h1).1))
    · rw [if_neg h2]
      exact (x_layReady_I hI _ _ (xc_has_vp hI (xc_isIn_ne h1).1) (q_I_ch hI _))
theorem x_pick_pp {u : q_S} (hI : q_I u) (v1 : Int32) : x_pick_p u v1 := by
  unfold x_pick_p
  exact ⟨xh_isIn_pp hI _ _, ⟨fun _ => trivial, fun h1 => ⟨(xh_has_vp hI (xh_isIn_ne h1).1), ⟨x_untie_pp (q_I_hs_u hI _ _) _ _ (q_I_hy hI _) (xh_has_vp hI (xh_isIn_ne h1).1), (q_I_hy hI _)⟩⟩⟩⟩
theorem x_pick_I {u : q_S} (hI : q_I u) (v1 : Int32) : q_I (x_pick_s u v1) := by
  show q_I ((x_pick u v1).2)
  unfold x_pick
  by_cases h1 : (xh_isIn u v1 2) = 0
  · rw [if_pos h1]
    exact hI
  · rw [if_neg h1]
    exact (q_I_cs_u (x_untie_I (q_I_hs_u hI _ _) _ _ (q_I_hy hI _) (xh_has_vp hI (xh_isIn_ne h1).1)) _ _)
theorem x_lend_pp {u : q_S} (hI : q_I u) (v1 : Int32) : x_lend_p u v1 := by
  unfold x_lend_p
  exact ⟨xc_isIn_pp hI _ _, ⟨fun _ => trivial, fun h1 => (xc_has_vp hI (xc_isIn_ne h1).1)⟩⟩
theorem x_lend_I {u : q_S} (hI : q_I u) (v1 : Int32) : q_I (x_lend_s u v1) := by
  show q_I ((x_lend u v1).2)
  unfold x_lend
  by_cases h1 : (xc_isIn u v1 0) = 0
  · rw [if_pos h1]
    exact hI
  · rw [if_neg h1]
    exact (q_I_cs_u hI _ _)
theorem x_letGo_pp {u : q_S} (hI : q_I u) (v1 : Int32) (e0 : vp_in v1 121) : x_letGo_p u v1 := by
  unfold x_letGo_p
  exact ⟨e0, ⟨x_untie_pp hI _ _ (q_I_hy hI _) e0, x_settle_pp (x_untie_I hI _ _ (q_I_hy hI _) e0) _ (q_I_hy hI _)⟩⟩
theorem x_letGo_I {u : q_S} (hI : q_I u) (v1 : Int32) (e0 : vp_in v1 121) : q_I (x_letGo u v1) := by
  show q_I (x_letGo u v1)
  unfold x_letGo
  exact (x_settle_I (x_untie_I hI _ _ (q_I_hy hI _) e0) _ (q_I_hy hI _))
theorem x_settle_nh (u : q_S) (c : Int32) : q_nh (x_settle_s u c) = q_nh u := by
  show q_nh (x_settle u c).2 = q_nh u
  unfold x_settle
  split
  · rfl
  · split
    · rfl
    · rfl
theorem x_letGo_nh (u : q_S) (h : Int32) : q_nh (x_letGo u h) = q_nh u := x_settle_nh _ _
theorem x_cancel_pp {u : q_S} (hI : q_I u) (v1 : Int32) : x_cancel_p u v1 := by
  unfold x_cancel_p
  exact ⟨xh_isOpen_pp hI _, ⟨fun _ => trivial, fun h1 => ⟨xh_isIn_pp hI _ _, ⟨(xh_has_vp hI (xh_isOpen_ne h1)), ⟨fun _ => trivial, fun _ => x_letGo_pp (q_I_hs_u hI _ _) _ (xh_has_vp hI (xh_isOpen_ne h1))⟩⟩⟩⟩⟩
theorem x_cancel_I {u : q_S} (hI : q_I u) (v1 : Int32) : q_I (x_cancel_s u v1) := by
  show q_I ((x_cancel u v1).2)
  unfold x_cancel
  by_cases h1 : (xh_isOpen u v1) = 0
  · rw [if_pos h1]
    exact hI
  · rw [if_neg h1]
    by_cases h2 : (xh_isIn u v1 2) = 0
    · rw [if_pos h2]
      exact (q_I_hs_u hI _ _)
    · rw [if_neg h2]
      exact (x_letGo_I (q_I_hs_u hI _ _) _ (xh_has_vp hI (xh_isOpen_ne h1)))
theorem x_tick_l29_pp {N : Nat} (hB : N ≤ 120) : ∀ (n k : Nat) (v1 : Int64) (v3 : Int32) (u : q_S), q_I u → q_nh u = nI N → 1 ≤ k → k ≤ N + 1 → N + 1 < k + n → x_tick_l29_p n v1 v3 (nI k) u := by
  intro n
  induction n with
  | zero => intro k v1 v3 u hI hN h1 h2 h3; omega
  | succ n ih =>
    intro k v1 v3 u hI hN h1 h2 h3
    show x_tick_l29_pb (x_tick_l29_p n) v1 v3 (nI k) u
    unfold x_tick_l29_pb
    exact ⟨fun _ => trivial, fun h1 => ⟨xh_isIn_pp hI _ _, ⟨fun h2 => (by have ih2 := ih (k + 1) v1 v3 u hI hN (by omega) (by have := q_lp hN (by omega) (by omega) h1; omega) (by omega); rw [← nI_1] at ih2; exact ih2), fun h2 => ⟨(q_lpv hN (by omega) (by omega) h1 (by omega) (by omega)), ⟨fun _ => (by have ih2 := ih (k + 1) v1 v3 u hI hN (by omega) (by have := q_lp hN (by omega) (by omega) h1; omega) (by omega); rw [← nI_1] at ih2; exact ih2), fun _ => ⟨x_letGo_pp (q_I_hs_u hI _ _) _ (q_lpv hN (by omega) (by omega) h1 (by omega) (by omega)), (by have ih2 := ih (k + 1) v1 (v3 + 1) (x_letGo (q_hs_u u (nI k) 4) (nI k)) (x_letGo_I (q_I_hs_u hI _ _) _ (q_lpv hN (by omega) (by omega) h1 (by omega) (by omega))) ((x_letGo_nh _ _).trans hN) (by omega) (by have := q_lp hN (by omega) (by omega) h1; omega) (by omega); rw [← nI_1] at ih2; exact ih2)⟩⟩⟩⟩⟩⟩
theorem x_tick_pp {u : q_S} (hI : q_I u) (v1 : Int64) : x_tick_p u v1 := by
  unfold x_tick_p
  exact ⟨fun _ => trivial, fun _ => ⟨fun _ => (by obtain ⟨N, hB, hN⟩ := q_I_nh hI; exact x_tick_l29_pp hB 200 1 v1 0 (q_td_s u v1) (q_I_td_s hI _) hN (by omega) (by omega) (by omega)), fun _ => trivial⟩⟩
theorem x_tick_l29_I {N : Nat} (hB : N ≤ 120) : ∀ (n k : Nat) (v1 : Int64) (v3 : Int32) (u : q_S), q_I u → q_nh u = nI N → 1 ≤ k → k ≤ N + 1 → q_I (x_tick_l29 n v1 v3 (nI k) u).2 := by
  intro n
  induction n with
  | zero => intro k v1 v3 u hI hN h1 h2; exact hI
  | succ n ih =>
    intro k v1 v3 u hI hN h1 h2
    show q_I (x_tick_l29_b (x_tick_l29 n) v1 v3 (nI k) u).2
    unfold x_tick_l29_b
    by_cases h11 : (q_nh u) < (nI k)
    · rw [if_pos h11]
      exact hI
    · rw [if_neg h11]
      by_cases h12 : (xh_isIn u (nI k) 2) = 0
      · rw [if_pos h12]
        exact (by have ih2 := ih (k + 1) v1 v3 u hI hN (by omega) (by have := q_lp hN (by omega) (by omega) h11; omega); rw [← nI_1] at ih2; exact ih2)
      · rw [if_neg h12]
        by_cases h13 : 0 ≤ (lg_cmp (q_he u (Int32.toNatClampNeg (nI k))) (q_td u))
        · rw [if_pos h13]
          exact (by have ih2 := ih (k + 1) v1 v3 u hI hN (by omega) (by have := q_lp hN (by omega) (by omega) h11; omega); rw [← nI_1] at ih2; exact ih2)
        · rw [if_neg h13]
          exact (by have ih2 := ih (k + 1) v1 (v3 + 1) (x_letGo (q_hs_u u (nI k) 4) (nI k)) (x_letGo_I (q_I_hs_u hI _ _) _ (q_lpv hN (by omega) (by omega) h11 (by omega) (by omega))) ((x_letGo_nh _ _).trans hN) (by omega) (by have := q_lp hN (by omega) (by omega) h11; omega); rw [← nI_1] at ih2; exact ih2)
theorem x_tick_I {u : q_S} (hI : q_I u) (v1 : Int64) : q_I (x_tick_s u v1) := by
  show q_I ((x_tick u v1).2)
  unfold x_tick
  by_cases h11 : (lg_cmp v1 (q_td u)) ≤ 0
  · rw [if_pos h11]
    exact hI
  · rw [if_neg h11]
    by_cases h12 : (lg_cmp v1 1000000000) ≤ 0
    · rw [if_pos h12]
      obtain ⟨N, hB, hN⟩ := q_I_nh hI
      exact x_tick_l29_I hB 200 1 v1 0 (q_td_s u v1) (q_I_td_s hI _) hN (by omega) (by omega)
    · rw [if_neg h12]
      exact hI
theorem x_span_I {u : q_S} (hI : q_I u) (v1 : Int32) : q_I (x_span_s u v1) := by
  show q_I ((x_span u v1).2)
  unfold x_span
  by_cases h1 : v1 < 1
  · rw [if_pos h1]
    exact hI
  · rw [if_neg h1]
    by_cases h2 : v1 ≤ 99
    · rw [if_pos h2]
      exact (q_I_sp_s hI _)
    · rw [if_neg h2]
      exact hI
theorem xh_placeInQueue_l4_pp {N : Nat} (hB : N ≤ 120) : ∀ (n k : Nat) (v1 : Int32) (v2 : Int32) (u : q_S), q_I u → q_nh u = nI N → 1 ≤ k → k ≤ N + 1 → N + 1 < k + n → vp_in v1 121 → xh_placeInQueue_l4_p n v1 v2 (nI k) u := by
  intro n
  induction n with
  | zero => intro k v1 v2 u hI hN h1 h2 h3; omega
  | succ n ih =>
    intro k v1 v2 u hI hN h1 h2 h3 e1
    show xh_placeInQueue_l4_pb (xh_placeInQueue_l4_p n) v1 v2 (nI k) u
    unfold xh_placeInQueue_l4_pb
    exact ⟨fun _ => trivial, fun h1 => ⟨e1, ⟨xh_isQueued_pp hI _ _ (q_lpv hN (by omega) (by omega) h1 (by omega) (by omega)), ⟨fun h2 => (by have ih2 := ih (k + 1) v1 v2 u hI hN (by omega) (by have := q_lp hN (by omega) (by omega) h1; omega) (by omega) e1; rw [← nI_1] at ih2; exact ih2), fun h2 => ⟨xh_comesBefore_pp hI _ _ (q_lpv hN (by omega) (by omega) h1 (by omega) (by omega)) e1, ⟨fun _ => (by have ih2 := ih (k + 1) v1 v2 u hI hN (by omega) (by have := q_lp hN (by omega) (by omega) h1; omega) (by omega) e1; rw [← nI_1] at ih2; exact ih2), fun _ => (by have ih2 := ih (k + 1) v1 (v2 + 1) u hI hN (by omega) (by have := q_lp hN (by omega) (by omega) h1; omega) (by omega) e1; rw [← nI_1] at ih2; exact ih2)⟩⟩⟩⟩⟩⟩
theorem xh_placeInQueue_pp {u : q_S} (hI : q_I u) (v1 : Int32) (e0 : vp_in v1 121) : xh_placeInQueue_p u v1 := by
  unfold xh_placeInQueue_p
  exact (by obtain ⟨N, hB, hN⟩ := q_I_nh hI; exact xh_placeInQueue_l4_pp hB 200 1 v1 0 u hI hN (by omega) (by omega) (by omega) e0)
theorem x_rank_pp {u : q_S} (hI : q_I u) (v1 : Int32) (v2 : Int32) : x_rank_p u v1 v2 := by
  unfold x_rank_p
  exact ⟨xh_isIn_pp hI _ _, ⟨fun _ => trivial, fun h1 => ⟨(xh_has_vp hI (xh_isIn_ne h1).1), xh_placeInQueue_pp (q_I_hk_u hI _ _) _ (xh_has_vp hI (xh_isIn_ne h1).1)⟩⟩⟩
theorem x_rank_I {u : q_S} (hI : q_I u) (v1 : Int32) (v2 : Int32) : q_I (x_rank_s u v1 v2) := by
  show q_I ((x_rank u v1 v2).2)
  unfold x_rank
  by_cases h1 : (xh_isIn u v1 0) = 0
  · rw [if_pos h1]
    exact hI
  · rw [if_neg h1]
    exact (q_I_hk_u hI _ _)
theorem xh_atPlaceInQueue_l2_pp {N : Nat} (hB : N ≤ 120) : ∀ (n k : Nat) (v1 : Int32) (v2 : Int32) (u : q_S), q_I u → q_nh u = nI N → 1 ≤ k → k ≤ N + 1 → N + 1 < k + n → xh_atPlaceInQueue_l2_p n v1 v2 (nI k) u := by
  intro n
  induction n with
  | zero => intro k v1 v2 u hI hN h1 h2 h3; omega
  | succ n ih =>
    intro k v1 v2 u hI hN h1 h2 h3
    show xh_atPlaceInQueue_l2_pb (xh_atPlaceInQueue_l2_p n) v1 v2 (nI k) u
    unfold xh_atPlaceInQueue_l2_pb
    exact ⟨fun _ => trivial, fun h1 => ⟨xh_isQueued_pp hI _ _ (q_lpv hN (by omega) (by omega) h1 (by omega) (by omega)), ⟨fun h2 => (by have ih2 := ih (k + 1) v1 v2 u hI hN (by omega) (by have := q_lp hN (by omega) (by omega) h1; omega) (by omega); rw [← nI_1] at ih2; exact ih2), fun h2 => ⟨xh_placeInQueue_pp hI _ (q_lpv hN (by omega) (by omega) h1 (by omega) (by omega)), ⟨fun _ => trivial, fun _ => (by have ih2 := ih (k + 1) v1 v2 u hI hN (by omega) (by have := q_lp hN (by omega) (by omega) h1; omega) (by omega); rw [← nI_1] at ih2; exact ih2)⟩⟩⟩⟩⟩
theorem xh_atPlaceInQueue_pp {u : q_S} (hI : q_I u) (v1 : Int32) (v2 : Int32) : xh_atPlaceInQueue_p u v1 v2 := by
  unfold xh_atPlaceInQueue_p
  exact (by obtain ⟨N, hB, hN⟩ := q_I_nh hI; exact xh_atPlaceInQueue_l2_pp hB 200 1 v1 v2 u hI hN (by omega) (by omega) (by omega))
theorem x_order_pp {u : q_S} (hI : q_I u) (v1 : Int32) (v2 : Int32) : x_order_p u v1 v2 := by
  unfold x_order_p
  exact ⟨trivial, ⟨fun _ => trivial, fun _ => xh_atPlaceInQueue_pp hI _ _⟩⟩
theorem x_state_pp {u : q_S} (hI : q_I u) (v1 : Int32) (v2 : Int32) : x_state_p u v1 v2 := by
  unfold x_state_p
  exact ⟨trivial, ⟨fun _ => trivial, fun h1 => ⟨fun _ => (xh_has_vp hI h1), fun _ => ⟨fun _ => (xh_has_vp hI h1), fun _ => ⟨fun _ => ⟨xh_isIn_pp hI _ _, ⟨fun _ => trivial, fun _ => xh_placeInQueue_pp hI _ (xh_has_vp hI h1)⟩⟩, fun _ => trivial⟩⟩⟩⟩⟩
theorem x_where_pp {u : q_S} (hI : q_I u) (v1 : Int32) (v2 : Int32) : x_where_p u v1 v2 := by
  unfold x_where_p
  exact ⟨trivial, ⟨fun _ => trivial, fun h1 => ⟨fun _ => (xc_has_vp hI h1), fun _ => ⟨fun _ => (xc_has_vp hI h1), fun _ => ⟨fun _ => (xc_has_vp hI h1), fun _ => trivial⟩⟩⟩⟩⟩
