/-- words that the law has: the tables' but for nest mates', and those of nest mates -/
theorem lw_gd_in : ∀ w ∈ lw_gd, w ∈ lw_tbl := fun w h => (List.mem_filter.mp h).1
theorem gz_nw_in : ∀ w ∈ gz_nw, w ∈ lw_tbl := by decide +kernel
set_option maxHeartbeats 8000000 in
set_option maxRecDepth 100000 in
/-- THE LAW, from its entry -/
theorem whole_start {p : Program} {e : Env} {s : State} {m : MethodId} {below : List Frame} {meth : Method} {c : Code} (l : Launch) {b L : Nat} {xs : Nat → Int32} (hL : L ≤ 2560) (C0 : lw_At p s m meth c b L xs) : W p l e room_1 s m #[Value.ref b] below meth c s.heap [] 0 0 (lw_Z below #[Value.ref b] s) (entryFrame m ([Value.ref b] : List Value).toArray 4) := by
  obtain ⟨hx, hb, hr, hml, hown, hts0, hX, hbl, hlocks, hgv⟩ := id C0
  have hts : ∀ w ∈ lw_gd, w.before #[Value.ref b] s = true := fun w h => hts0 w (lw_gd_in w h)
  have hN : gz_N s := fun w h => va_Nw.of (gz_isN_on (gz_nw_ok w h)) (hts0 w (gz_nw_in w h))
  have hA : ∀ q : Nat, s.heap.size ≤ q → (fun q : Nat => s.heap.size ≤ q) q := fun _ h => h
  obtain ⟨c0, iS0, hKn0⟩ := u_known (C := R_HoldQueue) (T := T_HoldQueue) (N := 8) (n := 8) hts _HoldQueue_in (hts (.instantiable R_HoldQueue 8) (by decide +kernel))
  obtain ⟨c1, iS1, hKn1⟩ := u_known (C := R_HoldQueue_Copies) (T := T_HoldQueue_Copies) (N := 5) (n := 5) hts _HoldQueue_Copies_in (hts (.instantiable R_HoldQueue_Copies 5) (by decide +kernel))
  obtain ⟨c2, iS2, hKn2⟩ := u_known (C := R_HoldQueue_Holds) (T := T_HoldQueue_Holds) (N := 9) (n := 9) hts _HoldQueue_Holds_in (hts (.instantiable R_HoldQueue_Holds 9) (by decide +kernel))
  obtain ⟨c3, iS3, hKn3⟩ := u_known (C := R_HoldQueueModel) (T := T_HoldQueueModel) (N := 21) (n := 21) hts _HoldQueueModel_in (hts (.instantiable R_HoldQueueModel 21) (by decide +kernel))
  obtain ⟨D, hKc⟩ : ∃ D : va_G, ∀ (k : Nat) (q : vw_C), q_cl[k]? = some q → u_Kn s q.1 q.2.1 q.2.2 (D.1 k) (D.2 k) := by
    refine ⟨(fun k => if k = 0 then c0 else if k = 1 then c1 else if k = 2 then c2 else c3, fun k => if k = 0 then iS0 else if k = 1 then iS1 else if k = 2 then iS2 else iS3), ?_⟩
    intro k q hq
    match k, hq with
    | 0, hq => cases hq; exact hKn0
    | 1, hq => cases hq; exact hKn1
    | 2, hq => cases hq; exact hKn2
    | 3, hq => cases hq; exact hKn3
    | k + 4, hq => simp [q_cl] at hq
  have hS : va_S (fun q : Nat => s.heap.size ≤ q) s.heap s.heap [] := va_S.rf
  have hK : va_K D q_cl [] s := ⟨hKc, fun k q h => by simp at h⟩
  have hP : va_P D q_cl [] s.heap := fun k q h => by simp at h
  have hD : va_D (fun q : Nat => s.heap.size ≤ q) [] := ⟨fun i j p q h => by simp at h, fun k q h => by simp at h⟩
  have hl := lv_entry ([.ref b]) (n := 4) (Nat.le_of_ble_eq_true rfl)
  rw [lg_entry_eq]
  generalize (lg_sl ([.ref b]) ++ List.replicate (4 - (lg_sl ([.ref b])).length) Slot.unset).toArray = ls at hl ⊢
  have hl : lv_has ls 4 [(0, .ref b)] := hl
  refine va_new (ci := 0) (fs := [.null, .int 0, .null, .null, .null, .null, .long 0, .int 0]) (C := R_HoldQueue) (T := T_HoldQueue) (N := 8) hx hb hts _HoldQueue_in ty_HoldQueue ty_HoldQueue_ok hown (hts (.classLink R_law 7 R_HoldQueue) (by decide +kernel)) (hts (.instantiable R_HoldQueue 8) (by decide +kernel)) (hts (.initialized R_HoldQueue) (by decide +kernel)) hK hP hD hS hA rfl (fun j hj => by rcases (show j = 0 ∨ j = 1 ∨ j = 2 ∨ j = 3 ∨ j = 4 ∨ j = 5 ∨ j = 6 ∨ j = 7 by omega) with rfl | rfl | rfl | rfl | rfl | rfl | rfl | rfl <;> rfl) (Nat.le_of_ble_eq_true rfl) (Nat.le_of_ble_eq_true rfl) d_HoldQueueLaw_law_0 (fun q0 H hP hD hS => ?_)
  have hP : va_P D q_cl [(q0, .inr (0, [.null, .int 0, .null, .null, .null, .null, .long 0, .int 0]))] H := hP
  have hD : va_D (fun q : Nat => s.heap.size ≤ q) [(q0, .inr (0, [.null, .int 0, .null, .null, .null, .null, .long 0, .int 0]))] := hD
  refine W.widen (k := 1) (n := 8) (by omega) (by omega) ?_
  refine lv_dup hx hb d_HoldQueueLaw_law_3 rfl ?_
  have hFc := va_free (wc := [(q0, .inr (0, [.null, .int 0, .null, .null, .null, .null, .long 0, .int 0]))]) hD hS hA [0] rfl
  refine va_callv (va_runI (As := []) (rest := [.ref q0]) ⟨hx, hb, hml, hown, hts⟩ (k__HoldQueue l D q0 H.size) (cwI 0 hts (gz_gN lw_good _HoldQueue_init_k) rfl rfl rfl (hts (.initialized R_HoldQueue) (by decide +kernel)) (hts (.methodLink R_law 9 y_HoldQueue_init) (by decide +kernel)) (hts (.instanceMethod y_HoldQueue_init) (by decide +kernel)) rfl (by decide +kernel) ⟨Nat.le_of_ble_eq_true rfl, Nat.le_of_ble_eq_true rfl⟩) (gz_pre (locs := []) gz_nw_ok hN ⟨hK, hP, hD, va_S.drop hS⟩) rfl rfl hl.1 rfl (lv_room (Nat.le_of_ble_eq_true rfl)) d_HoldQueueLaw_law_4 ⟨Nat.le_of_ble_eq_true rfl, Nat.le_of_ble_eq_true rfl⟩) hS (fun q _ h => hFc q h) hFc (fun u t H1 locs ht hvm hw hB hz1 hk1 hS => ?_)
  obtain ⟨ax, kx, rfl, hP1, hK1, hD1⟩ := hB
  rw [ht] at hP1
  have hK1 := va_K.moved hvm.symm hK1
  have hP := hP1
  have hD := gz_D (B := fun q : Nat => s.heap.size ≤ q) hD1 rfl (fun a ha => hFc a (gz_inA hD1 a ha))
  have hK := hK1
  generalize H1 = H at hP hS ⊢
  refine W.widen (k := 18) (n := 1309) (by omega) (by omega) ?_
  refine lv_astore_n (lv' := [(1, .ref (ax 0)), (0, .ref b)]) hx hb d_HoldQueueLaw_law_7 rfl hl (by decide) rfl (fun ls hl => ?_)
  refine va_new (ci := 3) (fs := [.int 0, .int 0, .int 0, .int 0, .null, .null, .null, .long 0, .int 0, .null, .null, .null, .null, .null, .null, .null, .null, .null, .null, .null, .null]) (C := R_HoldQueueModel) (T := T_HoldQueueModel) (N := 21) hx hb hts _HoldQueueModel_in ty_HoldQueueModel ty_HoldQueueModel_ok hown (hts (.classLink R_law 10 R_HoldQueueModel) (by decide +kernel)) (hts (.instantiable R_HoldQueueModel 21) (by decide +kernel)) (hts (.initialized R_HoldQueueModel) (by decide +kernel)) hK hP hD hS hA rfl (fun j hj => by rcases (show j = 0 ∨ j = 1 ∨ j = 2 ∨ j = 3 ∨ j = 4 ∨ j = 5 ∨ j = 6 ∨ j = 7 ∨ j = 8 ∨ j = 9 ∨ j = 10 ∨ j = 11 ∨ j = 12 ∨ j = 13 ∨ j = 14 ∨ j = 15 ∨ j = 16 ∨ j = 17 ∨ j = 18 ∨ j = 19 ∨ j = 20 by omega) with rfl | rfl | rfl | rfl | rfl | rfl | rfl | rfl | rfl | rfl | rfl | rfl | rfl | rfl | rfl | rfl | rfl | rfl | rfl | rfl | rfl <;> rfl) (Nat.le_of_ble_eq_true rfl) (Nat.le_of_ble_eq_true rfl) d_HoldQueueLaw_law_8 (fun q1 H hP hD hS => ?_)
  refine W.widen (k := 19) (n := 1330) (by omega) (by omega) ?_
  refine lv_dup hx hb d_HoldQueueLaw_law_11 rfl ?_
  have hFc := va_free (wc := [(q1, .inr (3, [.int 0, .int 0, .int 0, .int 0, .null, .null, .null, .long 0, .int 0, .null, .null, .null, .null, .null, .null, .null, .null, .null, .null, .null, .null]))]) hD hS hA [18] rfl
  have hPc := hP.sub (ws' := [(q1, .inr (3, [.int 0, .int 0, .int 0, .int 0, .null, .null, .null, .long 0, .int 0, .null, .null, .null, .null, .null, .null, .null, .null, .null, .null, .null, .null]))]) [18] rfl
  have hDc := hD.sub (ws' := [(q1, .inr (3, [.int 0, .int 0, .int 0, .int 0, .null, .null, .null, .long 0, .int 0, .null, .null, .null, .null, .null, .null, .null, .null, .null, .null, .null, .null]))]) [18] (by decide) rfl
  refine va_callv (va_runI (As := []) (rest := [.ref q1]) ⟨hx, hb, hml, hown, hts⟩ (k__HoldQueueModel l D q1 H.size) (cwI 0 hts (gz_gN lw_good _HoldQueueModel_init_k) rfl rfl rfl (hts (.initialized R_HoldQueueModel) (by decide +kernel)) (hts (.methodLink R_law 12 y_HoldQueueModel_init) (by decide +kernel)) (hts (.instanceMethod y_HoldQueueModel_init) (by decide +kernel)) rfl (by decide +kernel) ⟨Nat.le_of_ble_eq_true rfl, Nat.le_of_ble_eq_true rfl⟩) (gz_pre (locs := []) gz_nw_ok hN ⟨hK.sub (tys' := []) [] rfl, hPc, hDc, va_S.drop hS⟩) rfl rfl hl.1 rfl (lv_room (Nat.le_of_ble_eq_true rfl)) d_HoldQueueLaw_law_12 ⟨Nat.le_of_ble_eq_true rfl, Nat.le_of_ble_eq_true rfl⟩) hS (fun q _ h => hFc q h) hFc (fun u t H1 locs ht hvm hw hB hz1 hk1 hS => ?_)
  obtain ⟨am, km, rfl, hP1, hK1, hD1⟩ := hB
  rw [ht] at hP1
  have hK1 := va_K.moved hvm.symm hK1
  obtain ⟨hP, hD⟩ := va_join (wr := x_wf ax kx q_new) (w1 := m_wf am km q_new) hP hD [18] [0, 1, 2, 3, 4, 5, 6, 7, 8, 9, 10, 11, 12, 13, 14, 15, 16, 17] rfl rfl (by decide) (by decide) hk1 hFc hP1 hD1
  have hK := hK.app hK1
  generalize H1 = H at hP hS ⊢
  refine W.widen (k := 34) (n := 2617) (by omega) (by omega) ?_
  refine lv_astore_n (lv' := [(2, .ref (am 0)), (1, .ref (ax 0)), (0, .ref b)]) hx hb d_HoldQueueLaw_law_15 rfl hl (by decide) rfl (fun ls hl => ?_)
  refine lv_iconst (v := 0) hx hb d_HoldQueueLaw_law_16 (by decide) ?_
  refine lv_istore_n (lv' := [(3, .int 0), (2, .ref (am 0)), (1, .ref (ax 0)), (0, .ref b)]) hx hb d_HoldQueueLaw_law_17 rfl hl (by decide) rfl (fun ls hl => ?_)
  have F : gz_F p s m #[Value.ref b] meth c code 4 ret lw_gd R_law := ⟨hx, hb, hr, hml, hown, hts, hlocks, hN⟩
  exact l_d (gz_shut_Z (l_o (D := D) (kx := kx) (km := km) (ax := ax) (am := am) F hX hbl)) hL (fun _ => rfl) (L + 5) 0 (q_new, q_new) rel_new (by omega) (by omega) H _ ls (lv_sub hl [3, 2, 1, 0] rfl) ⟨hK, hP, hD, hS⟩
