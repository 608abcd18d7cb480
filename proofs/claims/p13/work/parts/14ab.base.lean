theorem q_in0 {A B : Int32} (h : A.toInt = B.toInt + 1) (v : Int32) : (if v < 0 then (0 : Int32) else (if A ≤ v then 0 else 1)) = m_in v 0 B := by
  unfold m_in
  by_cases h1 : v < 0
  · rw [if_pos h1, if_pos h1]
  · rw [if_neg h1, if_neg h1]
    have e : A ≤ v ↔ B < v := by
      rw [Int32.le_iff_toInt_le, Int32.lt_iff_toInt_lt]
      omega
    by_cases h2 : B < v
    · rw [if_pos h2, if_pos (e.mpr h2)]
    · rw [if_neg h2, if_neg (fun h3 => h2 (e.mp h3))]
theorem q_kind (v : Int32) : x_isKind v = m_in v 0 3 := q_in0 (by decide +kernel) v
theorem q_place (v : Int32) : x_isPlace v = m_in v 0 5 := q_in0 (by decide +kernel) v
theorem q_person (v : Int32) : x_isPerson v = m_in v 0 39 := q_in0 (by decide +kernel) v
theorem m_in_0 {v a b : Int32} (h : v < a) : m_in v a b = 0 := by
  unfold m_in
  rw [if_pos h]
theorem m_in_2 {v a b : Int32} (h : ¬ v ≤ b) : m_in v a b = 0 := by
  unfold m_in
  by_cases h1 : v < a
  · rw [if_pos h1]
  · rw [if_neg h1, if_pos (by rw [Int32.lt_iff_toInt_lt]; rw [Int32.le_iff_toInt_le] at h; omega)]
theorem m_in_1 {v a b : Int32} (h1 : ¬ v < a) (h : v ≤ b) : ¬ m_in v a b = 0 := by
  unfold m_in
  rw [if_neg h1, if_neg (by rw [Int32.lt_iff_toInt_lt]; rw [Int32.le_iff_toInt_le] at h; omega)]
  decide
theorem q_nlt {n : Nat} {N : Nat} {x : Int32} (e : x = nI n) (hn : n ≤ N) (hN : N < 1000) : (x < nI N ↔ ¬ x = nI N) := by
  rw [e, nI_ltI (by omega) (by omega), nI_eq (by omega) (by omega)]
  omega
theorem q_I_new : q_I q_new := ⟨⟨⟨0, by omega, by decide +kernel⟩, ⟨0, by omega, by decide +kernel⟩, ⟨0, by omega, by decide +kernel⟩⟩, fun _ => q_0in 4 (by omega) (by omega), fun _ => Or.inl rfl, fun _ => q_0in 61 (by omega) (by omega), fun _ => q_0in 121 (by omega) (by omega)⟩
