/-! TIES of holds and copies: hs, hy: a hold's state and copy; cs, ch: a copy's state and hold; N holds, M copies -/
def q_tie (a b : Int32) : Prop := (a = 1 ∧ b = 2) ∨ (a = 2 ∧ b = 3) ∨ (a = 5 ∧ b = 2)
def q_Th (hs hy cs ch : Nat → Int32) (M h : Nat) : Prop := (hy h = 0 ∧ (hs h = 0 ∨ hs h = 3 ∨ hs h = 4 ∨ hs h = 5)) ∨ ∃ c : Nat, 1 ≤ c ∧ c ≤ M ∧ hy h = nI c ∧ ch c = nI h ∧ q_tie (hs h) (cs c)
def q_Tc (hs hy cs ch : Nat → Int32) (N c : Nat) : Prop := (ch c = 0 ∧ (cs c = 0 ∨ cs c = 1)) ∨ ∃ h : Nat, 1 ≤ h ∧ h ≤ N ∧ ch c = nI h ∧ hy h = nI c ∧ q_tie (hs h) (cs c)
def q_T (hs hy cs ch : Nat → Int32) (N M : Nat) : Prop := (N ≤ 120 ∧ M ≤ 60) ∧ ((∀ h, h = 0 ∨ N < h → hs h = 0 ∧ hy h = 0) ∧ (∀ c, c = 0 ∨ M < c → cs c = 0 ∧ ch c = 0)) ∧ (∀ h, q_Th hs hy cs ch M h) ∧ ∀ c, q_Tc hs hy cs ch N c
theorem q_upd_self (f : Nat → Int32) (k : Nat) : upd f k (f k) = f := by
  funext i
  by_cases h : i = k
  · subst h; rw [pk_us]
  · rw [pk_un h]
theorem q_upd_upd (f : Nat → Int32) (k : Nat) (x y : Int32) : upd (upd f k x) k y = upd f k y := by
  funext i
  by_cases h : i = k
  · subst h; rw [pk_us, pk_us]
  · rw [pk_un h, pk_un h, pk_un h]
theorem q_upd_comm (f : Nat → Int32) {k j : Nat} (x y : Int32) (e : k ≠ j) : upd (upd f k x) j y = upd (upd f j y) k x := by
  funext i
  by_cases h : i = j
  · subst h; rw [pk_us, pk_un (Ne.symm e), pk_us]
  · rw [pk_un h]
    by_cases h2 : i = k
    · subst h2; rw [pk_us, pk_us]
    · rw [pk_un h2, pk_un h2, pk_un h]
theorem q_nI_inj {a b : Nat} (ha : a ≤ 1000) (hb : b ≤ 1000) (h : nI a = nI b) : a = b := (nI_eq (by omega) (by omega)).mp h
theorem q_nI_z {a : Nat} (ha : a ≤ 1000) (h1 : 1 ≤ a) : ¬ nI a = 0 := nI_ne0 h1 (by omega)
section QT
variable {hs hy cs ch : Nat → Int32} {N M : Nat}
/-- a change at one hold and one copy, which are tied to one another or to nothing, before and behind it -/
theorem q_T_upd (T : q_T hs hy cs ch N M) {h0 c0 : Nat} {a y b z : Int32} (k1 : 1 ≤ h0) (k2 : h0 ≤ N) (k3 : 1 ≤ c0) (k4 : c0 ≤ M) (p1 : hy h0 = 0 ∨ hy h0 = nI c0) (p2 : ch c0 = 0 ∨ ch c0 = nI h0)
    (po : (y = nI c0 ∧ z = nI h0 ∧ q_tie a b) ∨ (y = 0 ∧ z = 0 ∧ (a = 0 ∨ a = 3 ∨ a = 4 ∨ a = 5) ∧ (b = 0 ∨ b = 1))) : q_T (upd hs h0 a) (upd hy h0 y) (upd cs c0 b) (upd ch c0 z) N M := by
  obtain ⟨⟨hN, hM⟩, ⟨T1, T2⟩, T3, T4⟩ := T
  refine ⟨⟨hN, hM⟩, ⟨fun h hh => ?_, fun c hc => ?_⟩, fun h => ?_, fun c => ?_⟩
  · have e : h ≠ h0 := by omega
    rw [pk_un e, pk_un e]
    exact T1 h hh
  · have e : c ≠ c0 := by omega
    rw [pk_un e, pk_un e]
    exact T2 c hc
  · by_cases e : h = h0
    · subst e
      rcases po with ⟨q1, q2, q3⟩ | ⟨q1, q2, q3, q4⟩
      · refine Or.inr ⟨c0, k3, k4, ?_, ?_, ?_⟩
        · rw [pk_us]; exact q1
        · rw [pk_us]; exact q2
        · rw [pk_us, pk_us]; exact q3
      · refine Or.inl ⟨?_, ?_⟩
        · rw [pk_us]; exact q1
        · rw [pk_us]; exact q3
    · rcases T3 h with q | ⟨c, q1, q2, q3, q4, q5⟩
      · refine Or.inl ?_
        rw [pk_un e, pk_un e]
        exact q
      · have e2 : c ≠ c0 := by
          intro e2
          subst e2
          have hh : ¬ (h = 0 ∨ N < h) := fun hh => q_nI_z (by omega) q1 (q3.symm.trans (T1 h hh).2)
          rcases p2 with r | r
          · exact q_nI_z (by omega) (by omega) (q4.symm.trans r)
          · exact e (q_nI_inj (by omega) (by omega) (q4.symm.trans r))
        refine Or.inr ⟨c, q1, q2, ?_, ?_, ?_⟩
        · rw [pk_un e]; exact q3
        · rw [pk_un e2]; exact q4
        · rw [pk_un e, pk_un e2]; exact q5
  · by_cases e : c = c0
    · subst e
      rcases po with ⟨q1, q2, q3⟩ | ⟨q1, q2, q3, q4⟩
      · refine Or.inr ⟨h0, k1, k2, ?_, ?_, ?_⟩
        · rw [pk_us]; exact q2
        · rw [pk_us]; exact q1
        · rw [pk_us, pk_us]; exact q3
      · refine Or.inl ⟨?_, ?_⟩
        · rw [pk_us]; exact q2
        · rw [pk_us]; exact q4
    · rcases T4 c with q | ⟨h, q1, q2, q3, q4, q5⟩
      · refine Or.inl ?_
        rw [pk_un e, pk_un e]
        exact q
      · have e2 : h ≠ h0 := by
          intro e2
          subst e2
          have hc : ¬ (c = 0 ∨ M < c) := fun hc => q_nI_z (by omega) q1 (q3.symm.trans (T2 c hc).2)
          rcases p1 with r | r
          · exact q_nI_z (by omega) (by omega) (q4.symm.trans r)
          · exact e (q_nI_inj (by omega) (by omega) (q4.symm.trans r))
        refine Or.inr ⟨h, q1, q2, ?_, ?_, ?_⟩
        · rw [pk_un e]; exact q3
        · rw [pk_un e2]; exact q4
        · rw [pk_un e2, pk_un e]; exact q5
/-- a hold that is tied to nothing changes its state -/
theorem q_T_h (T : q_T hs hy cs ch N M) {h0 : Nat} {a : Int32} (k1 : 1 ≤ h0) (k2 : h0 ≤ N) (p1 : hy h0 = 0) (po : a = 0 ∨ a = 3 ∨ a = 4 ∨ a = 5) : q_T (upd hs h0 a) hy cs ch N M := by
  obtain ⟨⟨hN, hM⟩, ⟨T1, T2⟩, T3, T4⟩ := T
  refine ⟨⟨hN, hM⟩, ⟨fun h hh => ?_, T2⟩, fun h => ?_, fun c => ?_⟩
  · have e : h ≠ h0 := by omega
    rw [pk_un e]
    exact T1 h hh
  · by_cases e : h = h0
    · subst e
      exact Or.inl ⟨p1, by rw [pk_us]; exact po⟩
    · have t := T3 h
      unfold q_Th at t ⊢
      rw [pk_un e]
      exact t
  · rcases T4 c with q | ⟨h, q1, q2, q3, q4, q5⟩
    · exact Or.inl q
    · have e2 : h ≠ h0 := by
        intro e2
        subst e2
        have hc : ¬ (c = 0 ∨ M < c) := fun hc => q_nI_z (by omega) q1 (q3.symm.trans (T2 c hc).2)
        exact q_nI_z (by omega) (by omega) (q4.symm.trans p1)
      exact Or.inr ⟨h, q1, q2, q3, q4, by rw [pk_un e2]; exact q5⟩
/-- a copy that is tied to nothing changes its state -/
theorem q_T_c (T : q_T hs hy cs ch N M) {c0 : Nat} {b : Int32} (k1 : 1 ≤ c0) (k2 : c0 ≤ M) (p1 : ch c0 = 0) (po : b = 0 ∨ b = 1) : q_T hs hy (upd cs c0 b) ch N M := by
  obtain ⟨⟨hN, hM⟩, ⟨T1, T2⟩, T3, T4⟩ := T
  refine ⟨⟨hN, hM⟩, ⟨T1, fun c hc => ?_⟩, fun h => ?_, fun c => ?_⟩
  · have e : c ≠ c0 := by omega
    rw [pk_un e]
    exact T2 c hc
  · rcases T3 h with q | ⟨c, q1, q2, q3, q4, q5⟩
    · exact Or.inl q
    · have e2 : c ≠ c0 := by
        intro e2
        subst e2
        have hh : ¬ (h = 0 ∨ N < h) := fun hh => q_nI_z (by omega) q1 (q3.symm.trans (T1 h hh).2)
        exact q_nI_z (by omega) (by omega) (q4.symm.trans p1)
      exact Or.inr ⟨c, q1, q2, q3, q4, by rw [pk_un e2]; exact q5⟩
  · by_cases e : c = c0
    · subst e
      exact Or.inl ⟨p1, by rw [pk_us]; exact po⟩
    · have t := T4 c
      unfold q_Tc at t ⊢
      rw [pk_un e]
      exact t
/-- one hold more -/
theorem q_T_nh (T : q_T hs hy cs ch N M) (k : N + 1 ≤ 120) : q_T (upd hs (N + 1) 0) hy cs ch (N + 1) M := by
  obtain ⟨⟨hN, hM⟩, ⟨T1, T2⟩, T3, T4⟩ := T
  have e0 : upd hs (N + 1) 0 = hs := by
    have h := q_upd_self hs (N + 1)
    rw [(T1 (N + 1) (Or.inr (by omega))).1] at h
    exact h
  rw [e0]
  refine ⟨⟨k, hM⟩, ⟨fun h hh => T1 h (by omega), T2⟩, T3, fun c => ?_⟩
  rcases T4 c with q | ⟨h, q1, q2, q3⟩
  · exact Or.inl q
  · exact Or.inr ⟨h, q1, by omega, q3⟩
/-- one copy more -/
theorem q_T_nc (T : q_T hs hy cs ch N M) (k : M + 1 ≤ 60) : q_T hs hy (upd cs (M + 1) 1) ch N (M + 1) := by
  obtain ⟨⟨hN, hM⟩, ⟨T1, T2⟩, T3, T4⟩ := T
  have T' : q_T hs hy cs ch N (M + 1) := by
    refine ⟨⟨hN, k⟩, ⟨T1, fun c hc => T2 c (by omega)⟩, fun h => ?_, T4⟩
    rcases T3 h with q | ⟨c, q1, q2, q3⟩
    · exact Or.inl q
    · exact Or.inr ⟨c, q1, by omega, q3⟩
  exact q_T_c T' (by omega) (by omega) (T2 (M + 1) (Or.inr (by omega))).2 (Or.inr rfl)
theorem q_T_new : q_T (fun _ => 0) (fun _ => 0) (fun _ => 0) (fun _ => 0) 0 0 :=
  ⟨⟨by omega, by omega⟩, ⟨fun _ _ => ⟨rfl, rfl⟩, fun _ _ => ⟨rfl, rfl⟩⟩, fun _ => Or.inl ⟨rfl, Or.inl rfl⟩, fun _ => Or.inl ⟨rfl, Or.inl rfl⟩⟩
end QT
