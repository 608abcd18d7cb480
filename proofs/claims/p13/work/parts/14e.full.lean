theorem f_hs6 {hs hy cs ch : Nat → Int32} {N M : Nat} (T : q_T hs hy cs ch N M) (h : Nat) : hs h = 0 ∨ hs h = 1 ∨ hs h = 2 ∨ hs h = 3 ∨ hs h = 4 ∨ hs h = 5 := by
  rcases T.2.2.1 h with ⟨-, q⟩ | ⟨c, -, -, -, -, q⟩
  · rcases q with q | q | q | q
    · exact Or.inl q
    · exact Or.inr (Or.inr (Or.inr (Or.inl q)))
    · exact Or.inr (Or.inr (Or.inr (Or.inr (Or.inl q))))
    · exact Or.inr (Or.inr (Or.inr (Or.inr (Or.inr q))))
  · rcases q with q | q | q
    · exact Or.inr (Or.inl q.1)
    · exact Or.inr (Or.inr (Or.inl q.1))
    · exact Or.inr (Or.inr (Or.inr (Or.inr (Or.inr q.1))))
theorem f_open {u : q_S} {N M j : Nat} {hy cs ch : Nat → Int32} (T : q_T (q_hs u) hy cs ch N M) (eN : q_nh u = nI N) (j1 : 1 ≤ j) (j2 : j ≤ N) : xh_isOpen u (nI j) = if 2 < q_hs u j then 0 else 1 := by
  have hN := T.1.1
  have key : ∀ a : Int32, xh_isIn u (nI j) a = if q_hs u j = a then 1 else 0 := by
    intro a
    unfold xh_isIn
    rw [f_has hN eN j1 j2, if_neg q_10, nI_clamp (n := j) (by omega)]
  unfold xh_isOpen
  rw [key 0, key 1, key 2]
  rcases f_hs6 T j with h | h | h | h | h | h <;> rw [h] <;> decide +kernel
theorem k_cancel {u w : q_S} (K : q_K u w) (a : Int32) : x_cancel_r u a = m_cancel_r w a ∧ q_K (x_cancel_s u a) (m_cancel_s w a) := by
  have K0 := k_th K
  obtain ⟨th, ch, hy, hu, N, M, hw, eN, eM, R1, R2, R3, T, J⟩ := id K0
  unfold x_cancel_r m_cancel_r x_cancel_s m_cancel_s x_cancel m_cancel
  have e1 : m_isHold (q_th_s w 0) a = xh_has u a := by rw [hw]; rfl
  rw [e1]
  by_cases h1 : xh_has u a = 0
  · have e2 : xh_isOpen u a = 0 := by
      unfold xh_isOpen xh_isIn
      simp only [if_pos h1, ↓reduceIte]
    simp only [if_pos h1, if_pos e2]
    exact ⟨by first | rfl | trivial, K0⟩
  · simp only [if_neg h1]
    have hN := T.1.1
    have hM := T.1.2
    obtain ⟨j, j1, j2, rfl⟩ := q_has (u := 0) (show N < 1000 by omega) eN h1
    have ej : (nI j).toNatClampNeg = j := nI_clamp (by omega)
    have e3 : m_isOpen (q_th_s w 0) (nI j) = xh_isOpen u (nI j) := by
      rw [f_open T eN j1 j2]
      unfold m_isOpen
      rw [ej, hw]
      rfl
    rw [e3]
    by_cases h2 : xh_isOpen u (nI j) = 0
    · simp only [if_pos h2]
      exact ⟨by first | rfl | trivial, K0⟩
    · simp only [if_neg h2]
      have h3 : q_hs u j = 0 ∨ q_hs u j = 1 ∨ q_hs u j = 2 := by
        rw [f_open T eN j1 j2] at h2
        rcases f_hs6 T j with h | h | h | h | h | h
        · exact Or.inl h
        · exact Or.inr (Or.inl h)
        · exact Or.inr (Or.inr h)
        · rw [h] at h2; exact absurd (by decide +kernel) h2
        · rw [h] at h2; exact absurd (by decide +kernel) h2
        · rw [h] at h2; exact absurd (by decide +kernel) h2
      have ews : q_hs (q_th_s w 0) j = q_hs u j := by rw [hw]; rfl
      have ewy : ¬ q_hs u j = 5 → q_hy (q_th_s w 0) j = q_hy u j := by
        intro h5
        rw [hw]
        show hy j = _
        rw [R1 j, q_p5_n h5]
      rcases h3 with h | h | h
      · rw [f_isIn_n hN eN j1 j2 (show ¬ q_hs u j = 2 by rw [h]; decide)]
        have hyj : q_hy u j = 0 := by
          rcases T.2.2.1 j with q | ⟨c, q1, q2, q3, q4, q5⟩
          · exact q.1
          · rcases q5 with q | q | q <;> exact absurd (h.symm.trans q.1) (by decide)
        unfold m_ends
        rw [ej, ews, ewy (by rw [h]; decide), h, hyj]
        simp only [↓reduceIte, if_neg (show ¬ (0 : Int32) = 2 by decide), if_pos (show (0 : Int32) ≤ 0 by decide)]
        refine ⟨by first | rfl | trivial, th, ch, upd hy (nI j).toNatClampNeg 0, hu, N, M, by rw [hw]; rfl, eN, eM, ?_, ?_, R3, ?_, J⟩
        · intro k
          show upd hy (nI j).toNatClampNeg 0 k = q_p5 (upd (q_hs u) (nI j).toNatClampNeg 5 k) (q_hy u k)
          rw [ej]
          by_cases e : k = j
          · subst e
            rw [pk_us, pk_us, q_p5_y rfl]
          · rw [pk_un e, pk_un e, R1 k]
        · intro c
          rw [R2 c]
          show q_chv u c = q_p25 (q_cs u c) (upd (q_hs u) (nI j).toNatClampNeg 5 (Int32.toNatClampNeg (q_ch u c))) (q_ch u c)
          rw [ej]
          unfold q_chv
          by_cases e2 : q_cs u c = 2
          · obtain ⟨k, q1, q2, q3, q4, q5⟩ : ∃ k : Nat, 1 ≤ k ∧ k ≤ N ∧ q_ch u c = nI k ∧ q_hy u k = nI c ∧ q_tie (q_hs u k) (q_cs u c) := by
              rcases T.2.2.2 c with q | q
              · rcases q.2 with q | q <;> exact absurd (e2.symm.trans q) (by decide)
              · exact q
            have e3 : k ≠ j := by
              intro e3
              subst e3
              rcases q5 with q | q | q <;> exact absurd (h.symm.trans q.1) (by decide)
            rw [q3, nI_clamp (n := k) (by omega), pk_un e3]
          · rw [q_p25_1 e2, q_p25_1 e2]
        · show q_T (upd (q_hs u) (nI j).toNatClampNeg 5) (q_hy u) (q_cs u) (q_ch u) N M
          rw [ej]
          exact q_T_h T j1 j2 hyj (Or.inr (Or.inr (Or.inr rfl)))
      · rw [f_isIn_n hN eN j1 j2 (show ¬ q_hs u j = 2 by rw [h]; decide)]
        obtain ⟨c0, k1, k2, hyj, hcj, htie⟩ : ∃ c : Nat, 1 ≤ c ∧ c ≤ M ∧ q_hy u j = nI c ∧ q_ch u c = nI j ∧ q_tie (q_hs u j) (q_cs u c) := by
          rcases T.2.2.1 j with q | q
          · rcases q.2 with q | q | q | q <;> exact absurd (h.symm.trans q) (by decide)
          · exact q
        have hc2 : q_cs u c0 = 2 := by
          rcases htie with q | q | q
          · exact q.2
          · exact absurd (h.symm.trans q.1) (by decide)
          · exact absurd (h.symm.trans q.1) (by decide)
        have ec : (nI c0).toNatClampNeg = c0 := nI_clamp (by omega)
        unfold m_ends
        rw [ej, ews, ewy (by rw [h]; decide), h, hyj]
        simp only [↓reduceIte, if_neg (show ¬ (1 : Int32) = 2 by decide), if_neg (nI_nle k1 (show c0 < 2 ^ 31 by omega))]
        refine ⟨by first | rfl | trivial, th, upd ch (nI c0).toNatClampNeg 0, upd hy (nI j).toNatClampNeg 0, hu, N, M, by rw [hw]; rfl, eN, eM, ?_, ?_, R3, ?_, J⟩
        · intro k
          show upd hy (nI j).toNatClampNeg 0 k = q_p5 (upd (q_hs u) (nI j).toNatClampNeg 5 k) (q_hy u k)
          rw [ej]
          by_cases e : k = j
          · subst e
            rw [pk_us, pk_us, q_p5_y rfl]
          · rw [pk_un e, pk_un e, R1 k]
        · intro c
          show upd ch (nI c0).toNatClampNeg 0 c = q_p25 (q_cs u c) (upd (q_hs u) (nI j).toNatClampNeg 5 (Int32.toNatClampNeg (q_ch u c))) (q_ch u c)
          rw [ej, ec]
          by_cases e : c = c0
          · subst e
            rw [pk_us, hcj, ej, pk_us, q_p25_y hc2 rfl]
          · rw [pk_un e, R2 c]
            unfold q_chv
            by_cases e2 : q_cs u c = 2
            · obtain ⟨k, q1, q2, q3, q4, q5⟩ : ∃ k : Nat, 1 ≤ k ∧ k ≤ N ∧ q_ch u c = nI k ∧ q_hy u k = nI c ∧ q_tie (q_hs u k) (q_cs u c) := by
                rcases T.2.2.2 c with q | q
                · rcases q.2 with q | q <;> exact absurd (e2.symm.trans q) (by decide)
                · exact q
              have hcM : ¬ (c = 0 ∨ M < c) := fun hc => absurd (e2.symm.trans (T.2.1.2 c hc).1) (by decide)
              have e3 : k ≠ j := by
                intro e3
                subst e3
                exact e (q_nI_inj (by omega) (by omega) (q4.symm.trans hyj))
              rw [q3, nI_clamp (n := k) (by omega), pk_un e3]
            · rw [q_p25_1 e2, q_p25_1 e2]
        · show q_T (upd (q_hs u) (nI j).toNatClampNeg 5) (q_hy u) (q_cs u) (q_ch u) N M
          rw [ej]
          have t := q_T_upd T (h0 := j) (c0 := c0) (a := 5) (y := q_hy u j) (b := q_cs u c0) (z := q_ch u c0) j1 j2 k1 k2 (Or.inr hyj) (Or.inr hcj) (Or.inl ⟨hyj, hcj, Or.inr (Or.inr ⟨rfl, hc2⟩)⟩)
          rw [q_upd_self, q_upd_self, q_upd_self] at t
          exact t
      · rw [f_isIn_y hN eN j1 j2 h]
        simp only [if_neg q_10]
        exact ⟨by first | rfl | trivial, k_release K0 (Or.inr rfl) eN hN j1 j2 h⟩
theorem k_tick_l (d : Int64) : ∀ (n k : Nat) (cnt : Int32) (u w : q_S), q_K u w → 1 ≤ k → k ≤ 121 → (x_tick_l29 n d cnt (nI k) u).1 = (m_tick_l34 n d cnt (nI k) w).1 ∧ q_K (x_tick_l29 n d cnt (nI k) u).2 (m_tick_l34 n d cnt (nI k) w).2 := by
  intro n
  induction n with
  | zero => intro k cnt u w K _ _; exact ⟨rfl, K⟩
  | succ n ih =>
    intro k cnt u w K k1 k2
    obtain ⟨th, ch, hy, hu, N, M, hw, eN, eM, R1, R2, R3, T, J⟩ := id K
    have hN := T.1.1
    show (x_tick_l29_b (x_tick_l29 n) d cnt (nI k) u).1 = (m_tick_l34_b (m_tick_l34 n) d cnt (nI k) w).1 ∧ q_K (x_tick_l29_b (x_tick_l29 n) d cnt (nI k) u).2 (m_tick_l34_b (m_tick_l34 n) d cnt (nI k) w).2
    unfold x_tick_l29_b m_tick_l34_b
    rw [nI_1 k, nI_clamp (n := k) (by omega), show q_nh w = q_nh u from by rw [hw]; rfl, show q_hs w = q_hs u from by rw [hw]; rfl, show q_he w = q_he u from by rw [hw]; rfl, show q_td w = q_td u from by rw [hw]; rfl]
    by_cases h1 : q_nh u < nI k
    · simp only [if_pos h1]
      exact ⟨by first | rfl | trivial, K⟩
    · simp only [if_neg h1]
      have hk : k ≤ N := by
        rw [eN, nI_ltI (by omega) (by omega)] at h1
        omega
      by_cases h2 : q_hs u k = 2
      · rw [f_isIn_y hN eN k1 hk h2]
        simp only [if_neg q_10, if_pos h2]
        by_cases h3 : 0 ≤ lg_cmp (q_he u k) (q_td u)
        · simp only [if_pos h3]
          exact ih (k + 1) cnt u w K (by omega) (by omega)
        · simp only [if_neg h3]
          exact ih (k + 1) (cnt + 1) _ _ (k_release K (Or.inl rfl) eN hN k1 hk h2) (by omega) (by omega)
      · rw [f_isIn_n hN eN k1 hk h2]
        simp only [↓reduceIte, if_neg h2]
        exact ih (k + 1) cnt u w K (by omega) (by omega)
theorem k_tick {u w : q_S} (K : q_K u w) (a : Int64) : x_tick_r u a = m_tick_r w a ∧ q_K (x_tick_s u a) (m_tick_s w a) := by
  have K0 := k_th K
  obtain ⟨th, ch, hy, hu, N, M, hw, eN, eM, R1, R2, R3, T, J⟩ := id K0
  unfold x_tick_r m_tick_r x_tick_s m_tick_s x_tick m_tick
  rw [show q_td w = q_td u from by show q_td (q_th_s w 0) = _; rw [hw]; rfl]
  by_cases h1 : lg_cmp a (q_td u) ≤ 0
  · simp only [if_pos h1]
    exact ⟨by first | rfl | trivial, K0⟩
  · simp only [if_neg h1]
    by_cases h2 : lg_cmp a 1000000000 ≤ 0
    · simp only [if_pos h2]
      refine k_tick_l a 200 1 0 _ _ ⟨th, ch, hy, hu, N, M, by rw [hw]; rfl, eN, eM, R1, R2, R3, T, J.1, J.2.1, ?_⟩ (by omega) (by omega)
      rw [lg_cmp_le, Int64.le_iff_toInt_le] at h1
      have h3 := J.2.2
      show 0 ≤ a.toInt
      omega
    · simp only [if_neg h2]
      exact ⟨by first | rfl | trivial, K0⟩
theorem f_order_l (u : q_S) (th : Int32) (ch hy : Nat → Int32) (hu : Nat → Int64) : ∀ (n : Nat) (v1 v2 v3 : Int32), m_order_l7 n v1 v2 v3 (q_mix u th ch hy hu) = (xh_atPlaceInQueue_l2 n v1 v2 v3 u, q_mix u th ch hy hu) := by
  intro n
  induction n with
  | zero => intro v1 v2 v3; rfl
  | succ n ih =>
    intro v1 v2 v3
    show m_order_l7_b (m_order_l7 n) v1 v2 v3 (q_mix u th ch hy hu) = (xh_atPlaceInQueue_l2_b (xh_atPlaceInQueue_l2 n) v1 v2 v3 u, q_mix u th ch hy hu)
    unfold m_order_l7_b xh_atPlaceInQueue_l2_b xh_isQueued
    simp only [q_nh_mix, q_hs_mix, q_hr_mix, ih, f_place]
    by_cases h1 : q_nh u < v3
    · simp only [if_pos h1]
    · simp only [if_neg h1]
      by_cases h2 : q_hs u (Int32.toNatClampNeg v3) = 0
      · simp only [if_pos h2]
        by_cases h3 : q_hr u (Int32.toNatClampNeg v3) = v1
        · simp only [if_pos h3, if_neg q_10]
          by_cases h4 : xh_placeInQueue u v3 = v2
          · simp only [if_pos h4]
          · simp only [if_neg h4]
        · simp only [if_neg h3, ↓reduceIte]
      · simp only [if_neg h2]
        by_cases h3 : q_hr u (Int32.toNatClampNeg v3) = v1
        · simp only [if_pos h3, ↓reduceIte]
        · simp only [if_neg h3, ↓reduceIte]
theorem f_at_no (u : q_S) (r i : Int32) {N : Nat} (hN : N ≤ 120) (eN : q_nh u = nI N) (hno : ∀ h, 1 ≤ h → h ≤ N → ¬ q_hr u h = r) : ∀ (n k : Nat), 1 ≤ k → k ≤ 121 → xh_atPlaceInQueue_l2 n r i (nI k) u = 0 := by
  intro n
  induction n with
  | zero => intro k _ _; rfl
  | succ n ih =>
    intro k k1 k2
    show xh_atPlaceInQueue_l2_b (xh_atPlaceInQueue_l2 n) r i (nI k) u = 0
    unfold xh_atPlaceInQueue_l2_b xh_isQueued
    rw [nI_1 k, nI_clamp (n := k) (by omega)]
    by_cases h1 : q_nh u < nI k
    · simp only [if_pos h1]
    · simp only [if_neg h1]
      have hk : k ≤ N := by
        rw [eN, nI_ltI (by omega) (by omega)] at h1
        omega
      simp only [if_neg (hno k k1 hk), ↓reduceIte]
      exact ih (k + 1) (by omega) (by omega)
theorem k_order {u w : q_S} (K : q_K u w) (a b : Int32) : x_order u a b = m_order_r w a b ∧ q_K u (m_order_s w a b) := by
  have K0 := k_th K
  obtain ⟨th, ch, hy, hu, N, M, hw, eN, eM, R1, R2, R3, T, J⟩ := id K0
  have hN := T.1.1
  have e : m_order w a b = (xh_atPlaceInQueue u a b, q_th_s w 0) := by
    unfold m_order
    rw [hw]
    exact f_order_l u th ch hy hu 200 a b 1
  unfold m_order_r m_order_s x_order
  rw [e]
  refine ⟨?_, K0⟩
  by_cases h : x_isRecord u a = 0
  · rw [if_pos h]
    exact (f_at_no u a b hN eN (fun k k1 k2 q => J.2.1 k k1 k2 (by rw [q]; exact h)) 200 1 (by omega) (by omega)).symm
  · rw [if_neg h]
