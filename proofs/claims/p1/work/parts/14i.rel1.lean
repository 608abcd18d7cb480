/-! ONE CALL on a new object: every answer alike, state and where too -/
def q_Rel1 (u w : q_S) : Prop := u = q_new ∧ w = q_new
theorem rel1_new : q_Rel1 q_new q_new := ⟨rfl, rfl⟩
theorem has_new (v : Int32) : (if v < 1 then (0 : Int32) else (if (0 : Int32) < v then 0 else 1)) = 0 := by
  by_cases h : v < 1
  · rw [if_pos h]
  · rw [if_neg h, if_pos]
    rw [Int32.lt_iff_toInt_lt] at h ⊢
    have e1 : (1 : Int32).toInt = 1 := by decide +kernel
    have e0 : (0 : Int32).toInt = 0 := by decide +kernel
    omega
theorem new_state (a b : Int32) : x_state q_new a b = m_state_r q_new a b := by
  have h : xh_has q_new a = 0 := has_new a
  have h2 : m_isHold (q_th_s q_new 0) a = 0 := has_new a
  unfold x_state m_state_r m_state
  rw [if_pos h, if_pos h2]
theorem new_where (a b : Int32) : x_where q_new a b = m_where_r q_new a b := by
  have h : xc_has q_new a = 0 := has_new a
  have h2 : m_in a 1 (q_nc q_new) = 0 := has_new a
  unfold x_where m_where_r m_where
  rw [if_pos h, if_pos h2]
theorem rel1_record {u w : q_S} (hR : q_Rel1 u w) (a : Int32) : x_record_p u a ∧ m_record_p w a ∧ x_record_r u a = m_record_r w a ∧ True := by
  obtain ⟨rfl, rfl⟩ := hR
  exact ⟨x_record_pp q_I_new a, m_record_pp q_I_new a, (k_record q_I_new k_new a).1, trivial⟩
theorem rel1_copy {u w : q_S} (hR : q_Rel1 u w) (a : Int32) (b : Int32) : x_copy_p u a b ∧ m_copy_p w a b ∧ x_copy_r u a b = m_copy_r w a b ∧ True := by
  obtain ⟨rfl, rfl⟩ := hR
  exact ⟨x_copy_pp q_I_new a b, m_copy_pp q_I_new a b, (k_copy k_new a b).1, trivial⟩
theorem rel1_bar {u w : q_S} (hR : q_Rel1 u w) (a : Int32) (b : Int32) : x_bar_p u a b ∧ m_bar_p w a b ∧ x_bar_r u a b = m_bar_r w a b ∧ True := by
  obtain ⟨rfl, rfl⟩ := hR
  exact ⟨x_bar_pp q_I_new a b, m_bar_pp q_I_new a b, (k_bar k_new a b).1, trivial⟩
theorem rel1_hold {u w : q_S} (hR : q_Rel1 u w) (a : Int32) (b : Int32) (c : Int32) (d : Int32) : x_hold_p u a b c d ∧ m_hold_p w a b c d ∧ x_hold_r u a b c d = m_hold_r w a b c d ∧ True := by
  obtain ⟨rfl, rfl⟩ := hR
  exact ⟨x_hold_pp q_I_new a b c d, m_hold_pp q_I_new a b c d, (k_hold k_new a b c d).1, trivial⟩
theorem rel1_most {u w : q_S} (hR : q_Rel1 u w) (a : Int32) (b : Int32) : x_most_p u a b ∧ m_most_p w a b ∧ x_most_r u a b = m_most_r w a b ∧ True := by
  obtain ⟨rfl, rfl⟩ := hR
  exact ⟨x_most_pp q_I_new a b, m_most_pp q_I_new a b, (k_most k_new a b).1, trivial⟩
theorem rel1_suspend {u w : q_S} (hR : q_Rel1 u w) (a : Int32) (b : Int64) : x_suspend_p u a b ∧ m_suspend_p w a b ∧ x_suspend_r u a b = m_suspend_r w a b ∧ True := by
  obtain ⟨rfl, rfl⟩ := hR
  exact ⟨x_suspend_pp q_I_new a b, m_suspend_pp q_I_new a b, (k_suspend k_new a b).1, trivial⟩
theorem rel1_back {u w : q_S} (hR : q_Rel1 u w) (a : Int32) (b : Int32) : x_back_p u a b ∧ m_back_p w a b ∧ x_back_r u a b = m_back_r w a b ∧ True := by
  obtain ⟨rfl, rfl⟩ := hR
  exact ⟨x_back_pp q_I_new a b, m_back_pp q_I_new a b, (k_back k_new a b).1, trivial⟩
theorem rel1_arrive {u w : q_S} (hR : q_Rel1 u w) (a : Int32) : x_arrive_p u a ∧ m_arrive_p w a ∧ x_arrive_r u a = m_arrive_r w a ∧ True := by
  obtain ⟨rfl, rfl⟩ := hR
  exact ⟨x_arrive_pp q_I_new a, m_arrive_pp q_I_new a, (k_arrive k_new a).1, trivial⟩
theorem rel1_pick {u w : q_S} (hR : q_Rel1 u w) (a : Int32) : x_pick_p u a ∧ m_pick_p w a ∧ x_pick_r u a = m_pick_r w a ∧ True := by
  obtain ⟨rfl, rfl⟩ := hR
  exact ⟨x_pick_pp q_I_new a, m_pick_pp q_I_new a, (k_pick k_new a).1, trivial⟩
theorem rel1_lend {u w : q_S} (hR : q_Rel1 u w) (a : Int32) : x_lend_p u a ∧ m_lend_p w a ∧ x_lend_r u a = m_lend_r w a ∧ True := by
  obtain ⟨rfl, rfl⟩ := hR
  exact ⟨x_lend_pp q_I_new a, m_lend_pp q_I_new a, (k_lend k_new a).1, trivial⟩
theorem rel1_cancel {u w : q_S} (hR : q_Rel1 u w) (a : Int32) : x_cancel_p u a ∧ m_cancel_p w a ∧ x_cancel_r u a = m_cancel_r w a ∧ True := by
  obtain ⟨rfl, rfl⟩ := hR
  exact ⟨x_cancel_pp q_I_new a, m_cancel_pp q_I_new a, (k_cancel k_new a).1, trivial⟩
theorem rel1_tick {u w : q_S} (hR : q_Rel1 u w) (a : Int64) : x_tick_p u a ∧ m_tick_p w a ∧ x_tick_r u a = m_tick_r w a ∧ True := by
  obtain ⟨rfl, rfl⟩ := hR
  exact ⟨x_tick_pp q_I_new a, m_tick_pp q_I_new a, (k_tick k_new a).1, trivial⟩
theorem rel1_span {u w : q_S} (hR : q_Rel1 u w) (a : Int32) : x_span_p u a ∧ m_span_p w a ∧ x_span_r u a = m_span_r w a ∧ True := by
  obtain ⟨rfl, rfl⟩ := hR
  exact ⟨trivial, trivial, (k_span k_new a).1, trivial⟩
theorem rel1_rank {u w : q_S} (hR : q_Rel1 u w) (a : Int32) (b : Int32) : x_rank_p u a b ∧ m_rank_p w a b ∧ x_rank_r u a b = m_rank_r w a b ∧ True := by
  obtain ⟨rfl, rfl⟩ := hR
  exact ⟨x_rank_pp q_I_new a b, m_rank_pp q_I_new a b, (k_rank k_new a b).1, trivial⟩
theorem rel1_order {u w : q_S} (hR : q_Rel1 u w) (a : Int32) (b : Int32) : x_order_p u a b ∧ m_order_p w a b ∧ x_order u a b = m_order_r w a b ∧ True := by
  obtain ⟨rfl, rfl⟩ := hR
  exact ⟨x_order_pp q_I_new a b, m_order_pp q_I_new a b, (k_order k_new a b).1, trivial⟩
theorem rel1_state {u w : q_S} (hR : q_Rel1 u w) (a : Int32) (b : Int32) : x_state_p u a b ∧ m_state_p w a b ∧ x_state u a b = m_state_r w a b ∧ True := by
  obtain ⟨rfl, rfl⟩ := hR
  exact ⟨x_state_pp q_I_new a b, m_state_pp q_I_new a b, new_state a b, trivial⟩
theorem rel1_where {u w : q_S} (hR : q_Rel1 u w) (a : Int32) (b : Int32) : x_where_p u a b ∧ m_where_p w a b ∧ x_where u a b = m_where_r w a b ∧ True := by
  obtain ⟨rfl, rfl⟩ := hR
  exact ⟨x_where_pp q_I_new a b, m_where_pp q_I_new a b, new_where a b, trivial⟩
