-- HoldQueueModel.in(III)Z
def m_in  (v0 : Int32) (v1 : Int32) (v2 : Int32) : Int32 := (if v0 < v1 then 0 else (if v2 < v0 then 0 else 1))
def m_in_t : List (Nat × gz_T q_S) := [(0, gz_ldi 1 0), (1, gz_ldi 2 1), (2, gz_if2 5 14 (fun x y => x < y) (fun x y => ¬ x < y)), (5, gz_ldi 6 0), (6, gz_ldi 7 2), (7, gz_if2 10 14 (fun x y => y < x) (fun x y => ¬ y < x)), (10, gz_push 11 (gz_i 1)), (11, gz_goto 15), (14, gz_push 15 (gz_i 0)), (15, gz_zret)]
set_option maxRecDepth 100000 in
set_option maxHeartbeats 4000000 in
theorem m_in_d {Kr : Option Int32 → q_S → Prop} (u : q_S) (v0 : Int32) (v1 : Int32) (v2 : Int32) (hk : Kr (some (m_in v0 v1 v2)) u) : gz_does m_in_t Kr [(0, gz_i v0), (1, gz_i v1), (2, gz_i v2)] u := by
  intro Z hZ
  refine hZ.1 [] 500 0 _ _ _ ?_
  refine And.intro (fun (h1 : v0 < v1) => ?_) (fun (h1 : ¬ v0 < v1) => ?_)
  · refine And.intro (by decide +kernel) ?_
    rw [show m_in v0 v1 v2 = 0 from (by unfold m_in; rw [if_pos h1])] at hk
    exact hk
  · refine And.intro (fun (h2 : v2 < v0) => ?_) (fun (h2 : ¬ v2 < v0) => ?_)
    · refine And.intro (by decide +kernel) ?_
      rw [show m_in v0 v1 v2 = 0 from (by unfold m_in; rw [if_neg h1, if_pos h2])] at hk
      exact hk
    · refine And.intro (by decide +kernel) ?_
      rw [show m_in v0 v1 v2 = 1 from (by unfold m_in; rw [if_neg h1, if_neg h2])] at hk
      exact hk
-- HoldQueueModel.record(I)I
def m_record (u : q_S) (v1 : Int32) : Int32 × q_S := (if (m_in v1 0 3) = 0 then (0, (q_th_s u 0)) else (if (q_nr u) = 30 then (0, (q_th_s u 0)) else (((q_nr u) + 1), (q_kd_u (q_nr_s (q_th_s u 0) ((q_nr u) + 1)) ((q_nr u) + 1) v1))))
def m_record_r (u : q_S) (v1 : Int32) : Int32 := (m_record u v1).1
def m_record_s (u : q_S) (v1 : Int32) : q_S := (m_record u v1).2
def m_record_p (u : q_S) (v1 : Int32) : Prop := (((m_in v1 0 3) = 0 → True) ∧ (¬ (m_in v1 0 3) = 0 → (((q_nr u) = 30 → True) ∧ (¬ (q_nr u) = 30 → (vp_in ((q_nr u) + 1) 31)))))
def m_record_t : List (Nat × gz_T q_S) := [(0, gz_lda 1 0), (1, gz_push 2 (gz_i 0)), (2, gz_putI 5 0 q_th_s), (5, gz_ldi 6 1), (6, gz_push 7 (gz_i 0)), (7, gz_push 8 (gz_i 3)), (8, gz_s3P 11 m_in), (11, gz_if 14 23 (fun x => x = 0) (fun x => ¬ x = 0)), (14, gz_lda 15 0), (15, gz_getI 18 0 q_nr), (18, gz_push 20 (gz_i 30)), (20, gz_if2 23 25 (fun x y => ¬ x = y) (fun x y => x = y)), (23, gz_push 24 (gz_i 0)), (24, gz_iret), (25, gz_lda 26 0), (26, gz_dup 27), (27, gz_getI 30 0 q_nr), (30, gz_push 31 (gz_i 1)), (31, gz_iop 32 (fun x y => x + y)), (32, gz_putI 35 0 q_nr_s), (35, gz_lda 36 0), (36, gz_getR 39 0 1), (39, gz_lda 40 0), (40, gz_getI 43 0 q_nr), (43, gz_ldi 44 1), (44, gz_ist 45 m_ai), (45, gz_lda 46 0), (46, gz_getI 49 0 q_nr), (49, gz_iret)]
set_option maxRecDepth 100000 in
set_option maxHeartbeats 4000000 in
theorem m_record_d {Kr : Option Int32 → q_S → Prop} (u : q_S) (v1 : Int32) (hp : m_record_p u v1) (hk : Kr (some ((m_record u v1)).1) ((m_record u v1)).2) : gz_does m_record_t Kr [(0, gz_r 0), (1, gz_i v1)] u := by
  intro Z hZ
  refine hZ.1 [] 500 0 _ _ _ ?_
  unfold m_record_p at hp
  refine And.intro (fun (h1 : (m_in v1 0 3) = 0) => ?_) (fun (h1 : ¬ (m_in v1 0 3) = 0) => ?_)
  · rw [show m_record u v1 = (0, (q_th_s u 0)) from (by unfold m_record; rw [if_pos h1])] at hk
    exact hk
  · have hp := hp.2 h1
    refine And.intro (fun (h2 : ¬ (q_nr u) = 30) => ?_) (fun (h2 : (q_nr u) = 30) => ?_)
    · have hp := hp.2 h2
      have n3 := hp
      refine And.intro n3 ?_
      rw [show m_record u v1 = (((q_nr u) + 1), (q_kd_u (q_nr_s (q_th_s u 0) ((q_nr u) + 1)) ((q_nr u) + 1) v1)) from (by unfold m_record; rw [if_neg h1, if_neg h2])] at hk
      exact hk
    · rw [show m_record u v1 = (0, (q_th_s u 0)) from (by unfold m_record; rw [if_neg h1, if_pos h2])] at hk
      exact hk
-- HoldQueueModel.copy(II)I
def m_copy (u : q_S) (v1 : Int32) (v2 : Int32) : Int32 × q_S := (if (m_in v1 1 (q_nr u)) = 0 then (0, (q_th_s u 0)) else (if (m_in v2 0 5) = 0 then (0, (q_th_s u 0)) else (if (q_nc u) = 60 then (0, (q_th_s u 0)) else (((q_nc u) + 1), (q_ch_u (q_cp_u (q_cs_u (q_cr_u (q_nc_s (q_th_s u 0) ((q_nc u) + 1)) ((q_nc u) + 1) v1) ((q_nc u) + 1) 1) ((q_nc u) + 1) v2) ((q_nc u) + 1) 0)))))
def m_copy_r (u : q_S) (v1 : Int32) (v2 : Int32) : Int32 := (m_copy u v1 v2).1
def m_copy_s (u : q_S) (v1 : Int32) (v2 : Int32) : q_S := (m_copy u v1 v2).2
def m_copy_p (u : q_S) (v1 : Int32) (v2 : Int32) : Prop := (((m_in v1 1 (q_nr u)) = 0 → True) ∧ (¬ (m_in v1 1 (q_nr u)) = 0 → (((m_in v2 0 5) = 0 → True) ∧ (¬ (m_in v2 0 5) = 0 → (((q_nc u) = 60 → True) ∧ (¬ (q_nc u) = 60 → (vp_in ((q_nc u) + 1) 61)))))))
def m_copy_t : List (Nat × gz_T q_S) := [(0, gz_lda 1 0), (1, gz_push 2 (gz_i 0)), (2, gz_putI 5 0 q_th_s), (5, gz_ldi 6 1), (6, gz_push 7 (gz_i 1)), (7, gz_lda 8 0), (8, gz_getI 11 0 q_nr), (11, gz_s3P 14 m_in), (14, gz_if 17 35 (fun x => x = 0) (fun x => ¬ x = 0)), (17, gz_ldi 18 2), (18, gz_push 19 (gz_i 0)), (19, gz_push 20 (gz_i 5)), (20, gz_s3P 23 m_in), (23, gz_if 26 35 (fun x => x = 0) (fun x => ¬ x = 0)), (26, gz_lda 27 0), (27, gz_getI 30 0 q_nc), (30, gz_push 32 (gz_i 60)), (32, gz_if2 35 37 (fun x y => ¬ x = y) (fun x y => x = y)), (35, gz_push 36 (gz_i 0)), (36, gz_iret), (37, gz_lda 38 0), (38, gz_dup 39), (39, gz_getI 42 0 q_nc), (42, gz_push 43 (gz_i 1)), (43, gz_iop 44 (fun x y => x + y)), (44, gz_putI 47 0 q_nc_s), (47, gz_lda 48 0), (48, gz_getR 51 0 4), (51, gz_lda 52 0), (52, gz_getI 55 0 q_nc), (55, gz_ldi 56 1), (56, gz_ist 57 m_ai), (57, gz_lda 58 0), (58, gz_getR 61 0 5), (61, gz_lda 62 0), (62, gz_getI 65 0 q_nc), (65, gz_push 66 (gz_i 1)), (66, gz_ist 67 m_ai), (67, gz_lda 68 0), (68, gz_getR 71 0 6), (71, gz_lda 72 0), (72, gz_getI 75 0 q_nc), (75, gz_ldi 76 2), (76, gz_ist 77 m_ai), (77, gz_lda 78 0), (78, gz_getR 81 0 7), (81, gz_lda 82 0), (82, gz_getI 85 0 q_nc), (85, gz_push 86 (gz_i 0)), (86, gz_ist 87 m_ai), (87, gz_lda 88 0), (88, gz_getI 91 0 q_nc), (91, gz_iret)]
set_option maxRecDepth 100000 in
set_option maxHeartbeats 4000000 in
theorem m_copy_d {Kr : Option Int32 → q_S → Prop} (u : q_S) (v1 : Int32) (v2 : Int32) (hp : m_copy_p u v1 v2) (hk : Kr (some ((m_copy u v1 v2)).1) ((m_copy u v1 v2)).2) : gz_does m_copy_t Kr [(0, gz_r 0), (1, gz_i v1), (2, gz_i v2)] u := by
  intro Z hZ
  refine hZ.1 [] 500 0 _ _ _ ?_
  unfold m_copy_p at hp
  refine And.intro (fun (h1 : (m_in v1 1 (q_nr u)) = 0) => ?_) (fun (h1 : ¬ (m_in v1 1 (q_nr u)) = 0) => ?_)
  · rw [show m_copy u v1 v2 = (0, (q_th_s u 0)) from (by unfold m_copy; rw [if_pos h1])] at hk
    exact hk
  · have hp := hp.2 h1
    refine And.intro (fun (h2 : (m_in v2 0 5) = 0) => ?_) (fun (h2 : ¬ (m_in v2 0 5) = 0) => ?_)
    · rw [show m_copy u v1 v2 = (0, (q_th_s u 0)) from (by unfold m_copy; rw [if_neg h1, if_pos h2])] at hk
      exact hk
    · have hp := hp.2 h2
      refine And.intro (fun (h3 : ¬ (q_nc u) = 60) => ?_) (fun (h3 : (q_nc u) = 60) => ?_)
      · have hp := hp.2 h3
        have n4 := hp
        refine And.intro n4 ?_
        refine And.intro n4 ?_
        refine And.intro n4 ?_
        refine And.intro n4 ?_
        rw [show m_copy u v1 v2 = (((q_nc u) + 1), (q_ch_u (q_cp_u (q_cs_u (q_cr_u (q_nc_s (q_th_s u 0) ((q_nc u) + 1)) ((q_nc u) + 1) v1) ((q_nc u) + 1) 1) ((q_nc u) + 1) v2) ((q_nc u) + 1) 0)) from (by unfold m_copy; rw [if_neg h1, if_neg h2, if_neg h3])] at hk
        exact hk
      · rw [show m_copy u v1 v2 = (0, (q_th_s u 0)) from (by unfold m_copy; rw [if_neg h1, if_neg h2, if_pos h3])] at hk
        exact hk
-- HoldQueueModel.bar(IZ)Z
def m_bar (u : q_S) (v1 : Int32) (v2 : Int32) : Int32 × q_S := (if (m_in v1 0 3) = 0 then (0, (q_th_s u 0)) else ((q_bd u (Int32.toNatClampNeg v1)), (q_bd_u (q_th_s u 0) v1 (vp_nar .boolean v2))))
def m_bar_r (u : q_S) (v1 : Int32) (v2 : Int32) : Int32 := (m_bar u v1 v2).1
def m_bar_s (u : q_S) (v1 : Int32) (v2 : Int32) : q_S := (m_bar u v1 v2).2
def m_bar_p (u : q_S) (v1 : Int32) (v2 : Int32) : Prop := (((m_in v1 0 3) = 0 → True) ∧ (¬ (m_in v1 0 3) = 0 → (vp_in v1 4 ∧ (narrow .boolean (.int (q_bd u (Int32.toNatClampNeg v1))) = .int (q_bd u (Int32.toNatClampNeg v1))))))
def m_bar_t : List (Nat × gz_T q_S) := [(0, gz_lda 1 0), (1, gz_push 2 (gz_i 0)), (2, gz_putI 5 0 q_th_s), (5, gz_ldi 6 1), (6, gz_push 7 (gz_i 0)), (7, gz_push 8 (gz_i 3)), (8, gz_s3P 11 m_in), (11, gz_if 14 16 (fun x => ¬ x = 0) (fun x => x = 0)), (14, gz_push 15 (gz_i 0)), (15, gz_zret), (16, gz_lda 17 0), (17, gz_getR 20 0 2), (20, gz_ldi 21 1), (21, gz_ild 22 m_az), (22, gz_stor 23 3), (23, gz_lda 24 0), (24, gz_getR 27 0 2), (27, gz_ldi 28 1), (28, gz_ldi 29 2), (29, gz_zst 30 m_az), (30, gz_ldi 31 3), (31, gz_zret)]
set_option maxRecDepth 100000 in
set_option maxHeartbeats 4000000 in
theorem m_bar_d {Kr : Option Int32 → q_S → Prop} (u : q_S) (v1 : Int32) (v2 : Int32) (hp : m_bar_p u v1 v2) (hk : Kr (some ((m_bar u v1 v2)).1) ((m_bar u v1 v2)).2) : gz_does m_bar_t Kr [(0, gz_r 0), (1, gz_i v1), (2, gz_i v2)] u := by
  intro Z hZ
  refine hZ.1 [] 500 0 _ _ _ ?_
  unfold m_bar_p at hp
  refine And.intro (fun (h1 : ¬ (m_in v1 0 3) = 0) => ?_) (fun (h1 : (m_in v1 0 3) = 0) => ?_)
  · have hp := hp.2 h1
    have n2 := hp.1
    refine And.intro n2 ?_
    have hp := hp.2
    refine And.intro n2 ?_
    have n3 := hp
    refine And.intro n3 ?_
    rw [show m_bar u v1 v2 = ((q_bd u (Int32.toNatClampNeg v1)), (q_bd_u (q_th_s u 0) v1 (vp_nar .boolean v2))) from (by unfold m_bar; rw [if_neg h1])] at hk
    exact hk
  · refine And.intro (by decide +kernel) ?_
    rw [show m_bar u v1 v2 = (0, (q_th_s u 0)) from (by unfold m_bar; rw [if_pos h1])] at hk
    exact hk
-- HoldQueueModel.isOpen(I)Z
def m_isOpen (u : q_S) (v1 : Int32) : Int32 := (if 2 < (q_hs u (Int32.toNatClampNeg v1)) then 0 else 1)
def m_isOpen_p (u : q_S) (v1 : Int32) : Prop := (vp_in v1 121)
def m_isOpen_t : List (Nat × gz_T q_S) := [(0, gz_lda 1 0), (1, gz_getR 4 0 12), (4, gz_ldi 5 1), (5, gz_ild 6 m_ai), (6, gz_push 7 (gz_i 2)), (7, gz_if2 10 14 (fun x y => y < x) (fun x y => ¬ y < x)), (10, gz_push 11 (gz_i 1)), (11, gz_goto 15), (14, gz_push 15 (gz_i 0)), (15, gz_zret)]
set_option maxRecDepth 100000 in
set_option maxHeartbeats 4000000 in
theorem m_isOpen_d {Kr : Option Int32 → q_S → Prop} (u : q_S) (v1 : Int32) (hp : m_isOpen_p u v1) (hk : Kr (some (m_isOpen u v1)) u) : gz_does m_isOpen_t Kr [(0, gz_r 0), (1, gz_i v1)] u := by
  intro Z hZ
  refine hZ.1 [] 500 0 _ _ _ ?_
  unfold m_isOpen_p at hp
  have n1 := hp
  refine And.intro n1 ?_
  refine And.intro (fun (h2 : 2 < (q_hs u (Int32.toNatClampNeg v1))) => ?_) (fun (h2 : ¬ 2 < (q_hs u (Int32.toNatClampNeg v1))) => ?_)
  · refine And.intro (by decide +kernel) ?_
    rw [show m_isOpen u v1 = 0 from (by unfold m_isOpen; rw [if_pos h2])] at hk
    exact hk
  · refine And.intro (by decide +kernel) ?_
    rw [show m_isOpen u v1 = 1 from (by unfold m_isOpen; rw [if_neg h2])] at hk
    exact hk
-- HoldQueueModel.isAhead(II)Z
def m_isAhead (u : q_S) (v1 : Int32) (v2 : Int32) : Int32 := (if (q_hk u (Int32.toNatClampNeg v1)) < (q_hk u (Int32.toNatClampNeg v2)) then 1 else (if (q_hk u (Int32.toNatClampNeg v1)) = (q_hk u (Int32.toNatClampNeg v2)) then (if v2 ≤ v1 then 0 else 1) else 0))
def m_isAhead_p (u : q_S) (v1 : Int32) (v2 : Int32) : Prop := (vp_in v1 121 ∧ (vp_in v2 121))
def m_isAhead_t : List (Nat × gz_T q_S) := [(0, gz_lda 1 0), (1, gz_getR 4 0 11), (4, gz_ldi 5 1), (5, gz_ild 6 m_ai), (6, gz_lda 7 0), (7, gz_getR 10 0 11), (10, gz_ldi 11 2), (11, gz_ild 12 m_ai), (12, gz_if2 15 35 (fun x y => x < y) (fun x y => ¬ x < y)), (15, gz_lda 16 0), (16, gz_getR 19 0 11), (19, gz_ldi 20 1), (20, gz_ild 21 m_ai), (21, gz_lda 22 0), (22, gz_getR 25 0 11), (25, gz_ldi 26 2), (26, gz_ild 27 m_ai), (27, gz_if2 30 39 (fun x y => ¬ x = y) (fun x y => x = y)), (30, gz_ldi 31 1), (31, gz_ldi 32 2), (32, gz_if2 35 39 (fun x y => y ≤ x) (fun x y => ¬ y ≤ x)), (35, gz_push 36 (gz_i 1)), (36, gz_goto 40), (39, gz_push 40 (gz_i 0)), (40, gz_zret)]
set_option maxRecDepth 100000 in
set_option maxHeartbeats 4000000 in
theorem m_isAhead_d {Kr : Option Int32 → q_S → Prop} (u : q_S) (v1 : Int32) (v2 : Int32) (hp : m_isAhead_p u v1 v2) (hk : Kr (some (m_isAhead u v1 v2)) u) : gz_does m_isAhead_t Kr [(0, gz_r 0), (1, gz_i v1), (2, gz_i v2)] u := by
  intro Z hZ
  refine hZ.1 [] 500 0 _ _ _ ?_
  unfold m_isAhead_p at hp
  have n1 := hp.1
  refine And.intro n1 ?_
  have hp := hp.2
  have n2 := hp
  refine And.intro n2 ?_
  refine And.intro (fun (h3 : (q_hk u (Int32.toNatClampNeg v1)) < (q_hk u (Int32.toNatClampNeg v2))) => ?_) (fun (h3 : ¬ (q_hk u (Int32.toNatClampNeg v1)) < (q_hk u (Int32.toNatClampNeg v2))) => ?_)
  · refine And.intro (by decide +kernel) ?_
    rw [show m_isAhead u v1 v2 = 1 from (by unfold m_isAhead; rw [if_pos h3])] at hk
    exact hk
  · refine And.intro n1 ?_
    refine And.intro n2 ?_
    refine And.intro (fun (h4 : ¬ (q_hk u (Int32.toNatClampNeg v1)) = (q_hk u (Int32.toNatClampNeg v2))) => ?_) (fun (h4 : (q_hk u (Int32.toNatClampNeg v1)) = (q_hk u (Int32.toNatClampNeg v2))) => ?_)
    · refine And.intro (by decide +kernel) ?_
      rw [show m_isAhead u v1 v2 = 0 from (by unfold m_isAhead; rw [if_neg h3, if_neg h4])] at hk
      exact hk
    · refine And.intro (fun (h5 : v2 ≤ v1) => ?_) (fun (h5 : ¬ v2 ≤ v1) => ?_)
      · refine And.intro (by decide +kernel) ?_
        rw [show m_isAhead u v1 v2 = 0 from (by unfold m_isAhead; rw [if_neg h3, if_pos h4, if_pos h5])] at hk
        exact hk
      · refine And.intro (by decide +kernel) ?_
        rw [show m_isAhead u v1 v2 = 1 from (by unfold m_isAhead; rw [if_neg h3, if_pos h4, if_neg h5])] at hk
        exact hk
-- HoldQueueModel.placeOf(I)I
def m_placeOf_l4_b (rec : Int32 → Int32 → Int32 → q_S → Int32) (v1 : Int32) (v2 : Int32) (v3 : Int32) (u : q_S) : Int32 := (if (q_nh u) < v3 then v2 else (if (q_hs u (Int32.toNatClampNeg v3)) = 0 then (if (q_hr u (Int32.toNatClampNeg v3)) = (q_hr u (Int32.toNatClampNeg v1)) then (if (m_isAhead u v3 v1) = 0 then (rec v1 (v2 + 0) (v3 + 1) u) else (rec v1 (v2 + 1) (v3 + 1) u)) else (rec v1 (v2 + 0) (v3 + 1) u)) else (rec v1 (v2 + 0) (v3 + 1) u)))
def m_placeOf_l4 : Nat → Int32 → Int32 → Int32 → q_S → Int32
  | 0, _, _, _, _ => 0
  | n + 1, v1, v2, v3, u => m_placeOf_l4_b (m_placeOf_l4 n) v1 v2 v3 u
def m_placeOf_l4_pb (rec : Int32 → Int32 → Int32 → q_S → Prop) (v1 : Int32) (v2 : Int32) (v3 : Int32) (u : q_S) : Prop := (((q_nh u) < v3 → True) ∧ (¬ (q_nh u) < v3 → (vp_in v3 121 ∧ (((q_hs u (Int32.toNatClampNeg v3)) = 0 → (vp_in v1 121 ∧ (((q_hr u (Int32.toNatClampNeg v3)) = (q_hr u (Int32.toNatClampNeg v1)) → (m_isAhead_p u v3 v1 ∧ (((m_isAhead u v3 v1) = 0 → (rec v1 (v2 + 0) (v3 + 1) u)) ∧ (¬ (m_isAhead u v3 v1) = 0 → (rec v1 (v2 + 1) (v3 + 1) u))))) ∧ (¬ (q_hr u (Int32.toNatClampNeg v3)) = (q_hr u (Int32.toNatClampNeg v1)) → (rec v1 (v2 + 0) (v3 + 1) u))))) ∧ (¬ (q_hs u (Int32.toNatClampNeg v3)) = 0 → (rec v1 (v2 + 0) (v3 + 1) u))))))
def m_placeOf_l4_p : Nat → Int32 → Int32 → Int32 → q_S → Prop
  | 0, _, _, _, _ => False
  | n + 1, v1, v2, v3, u => m_placeOf_l4_pb (m_placeOf_l4_p n) v1 v2 v3 u
def m_placeOf (u : q_S) (v1 : Int32) : Int32 := (m_placeOf_l4 200 v1 0 1 u)
def m_placeOf_p (u : q_S) (v1 : Int32) : Prop := (m_placeOf_l4_p 200 v1 0 1 u)
def m_placeOf_t : List (Nat × gz_T q_S) := [(0, gz_push 1 (gz_i 0)), (1, gz_stor 2 2), (2, gz_push 3 (gz_i 1)), (3, gz_stor 4 3), (4, gz_ldi 5 3), (5, gz_lda 6 0), (6, gz_getI 9 0 q_nh), (9, gz_if2 12 59 (fun x y => y < x) (fun x y => ¬ y < x)), (12, gz_ldi 13 2), (13, gz_lda 14 0), (14, gz_getR 17 0 12), (17, gz_ldi 18 3), (18, gz_ild 19 m_ai), (19, gz_if 22 50 (fun x => ¬ x = 0) (fun x => x = 0)), (22, gz_lda 23 0), (23, gz_getR 26 0 9), (26, gz_ldi 27 3), (27, gz_ild 28 m_ai), (28, gz_lda 29 0), (29, gz_getR 32 0 9), (32, gz_ldi 33 1), (33, gz_ild 34 m_ai), (34, gz_if2 37 50 (fun x y => ¬ x = y) (fun x y => x = y)), (37, gz_lda 38 0), (38, gz_ldi 39 3), (39, gz_ldi 40 1), (40, gz_c2P 43 0 m_isAhead_p m_isAhead), (43, gz_if 46 50 (fun x => x = 0) (fun x => ¬ x = 0)), (46, gz_push 47 (gz_i 1)), (47, gz_goto 51), (50, gz_push 51 (gz_i 0)), (51, gz_iop 52 (fun x y => x + y)), (52, gz_stor 53 2), (53, gz_iinc 56 3 1), (56, gz_goto 4), (59, gz_ldi 60 2), (60, gz_iret)]
set_option maxRecDepth 100000 in
set_option maxHeartbeats 4000000 in
theorem m_placeOf_l4_d {Kr : Option Int32 → q_S → Prop} {Z : gz_K q_S} (hZ : gz_shut m_placeOf_t Kr Z) : ∀ (n : Nat) (v1 : Int32) (v2 : Int32) (v3 : Int32) (u : q_S), m_placeOf_l4_p n v1 v2 v3 u → Kr (some (m_placeOf_l4 n v1 v2 v3 u)) u → Z 4 [(0, gz_r 0), (1, gz_i v1), (2, gz_i v2), (3, gz_i v3)] [] u := by
  intro n
  induction n with
  | zero => intro v1 v2 v3 u hp _; exact False.elim hp
  | succ n ih =>
  intro v1 v2 v3 u hp hk
  refine hZ.1 [4] 500 4 _ _ _ ?_
  have hp : m_placeOf_l4_pb (m_placeOf_l4_p n) v1 v2 v3 u := hp
  refine And.intro (fun (h1 : (q_nh u) < v3) => ?_) (fun (h1 : ¬ (q_nh u) < v3) => ?_)
  · rw [show m_placeOf_l4 (n + 1) v1 v2 v3 u = v2 from (by unfold m_placeOf_l4_b; rw [if_pos h1] : m_placeOf_l4_b (m_placeOf_l4 n) v1 v2 v3 u = v2)] at hk
    exact hk
  · have hp := hp.2 h1
    have n2 := hp.1
    refine And.intro n2 ?_
    have hp := hp.2
    refine And.intro (fun (h3 : ¬ (q_hs u (Int32.toNatClampNeg v3)) = 0) => ?_) (fun (h3 : (q_hs u (Int32.toNatClampNeg v3)) = 0) => ?_)
    · have hp := hp.2 h3
      rw [show m_placeOf_l4 (n + 1) v1 v2 v3 u = (m_placeOf_l4 n v1 (v2 + 0) (v3 + 1) u) from (by unfold m_placeOf_l4_b; rw [if_neg h1, if_neg h3] : m_placeOf_l4_b (m_placeOf_l4 n) v1 v2 v3 u = (m_placeOf_l4 n v1 (v2 + 0) (v3 + 1) u))] at hk
      exact ih v1 (v2 + 0) (v3 + 1) u hp hk
    · have hp := hp.1 h3
      refine And.intro n2 ?_
      have n4 := hp.1
      refine And.intro n4 ?_
      have hp := hp.2
      refine And.intro (fun (h5 : ¬ (q_hr u (Int32.toNatClampNeg v3)) = (q_hr u (Int32.toNatClampNeg v1))) => ?_) (fun (h5 : (q_hr u (Int32.toNatClampNeg v3)) = (q_hr u (Int32.toNatClampNeg v1))) => ?_)
      · have hp := hp.2 h5
        rw [show m_placeOf_l4 (n + 1) v1 v2 v3 u = (m_placeOf_l4 n v1 (v2 + 0) (v3 + 1) u) from (by unfold m_placeOf_l4_b; rw [if_neg h1, if_pos h3, if_neg h5] : m_placeOf_l4_b (m_placeOf_l4 n) v1 v2 v3 u = (m_placeOf_l4 n v1 (v2 + 0) (v3 + 1) u))] at hk
        exact ih v1 (v2 + 0) (v3 + 1) u hp hk
      · have hp := hp.1 h5
        have n6 := hp.1
        refine And.intro n6 ?_
        have hp := hp.2
        refine And.intro (fun (h7 : (m_isAhead u v3 v1) = 0) => ?_) (fun (h7 : ¬ (m_isAhead u v3 v1) = 0) => ?_)
        · have hp := hp.1 h7
          rw [show m_placeOf_l4 (n + 1) v1 v2 v3 u = (m_placeOf_l4 n v1 (v2 + 0) (v3 + 1) u) from (by unfold m_placeOf_l4_b; rw [if_neg h1, if_pos h3, if_pos h5, if_pos h7] : m_placeOf_l4_b (m_placeOf_l4 n) v1 v2 v3 u = (m_placeOf_l4 n v1 (v2 + 0) (v3 + 1) u))] at hk
          exact ih v1 (v2 + 0) (v3 + 1) u hp hk
        · have hp := hp.2 h7
          rw [show m_placeOf_l4 (n + 1) v1 v2 v3 u = (m_placeOf_l4 n v1 (v2 + 1) (v3 + 1) u) from (by unfold m_placeOf_l4_b; rw [if_neg h1, if_pos h3, if_pos h5, if_neg h7] : m_placeOf_l4_b (m_placeOf_l4 n) v1 v2 v3 u = (m_placeOf_l4 n v1 (v2 + 1) (v3 + 1) u))] at hk
          exact ih v1 (v2 + 1) (v3 + 1) u hp hk
set_option maxRecDepth 100000 in
set_option maxHeartbeats 4000000 in
theorem m_placeOf_d {Kr : Option Int32 → q_S → Prop} (u : q_S) (v1 : Int32) (hp : m_placeOf_p u v1) (hk : Kr (some (m_placeOf u v1)) u) : gz_does m_placeOf_t Kr [(0, gz_r 0), (1, gz_i v1)] u := by
  intro Z hZ
  refine hZ.1 [4] 500 0 _ _ _ ?_
  unfold m_placeOf_p at hp
  rw [show m_placeOf u v1 = (m_placeOf_l4 200 v1 0 1 u) from rfl] at hk
  exact m_placeOf_l4_d hZ 200 v1 0 1 u hp hk
-- HoldQueueModel.fits(I)I
def m_fits_l4_b (rec : Int32 → Int32 → Int32 → q_S → Int32) (v1 : Int32) (v2 : Int32) (v3 : Int32) (u : q_S) : Int32 := (if (q_nh u) < v3 then v2 else (if (q_hs u (Int32.toNatClampNeg v3)) = 0 then (if (q_hr u (Int32.toNatClampNeg v3)) = v1 then (if 0 < (lg_cmp (q_hu u (Int32.toNatClampNeg v3)) (q_td u)) then (rec v1 v2 (v3 + 1) u) else (if v2 = 0 then (rec v1 v3 (v3 + 1) u) else (if (m_isAhead u v3 v2) = 0 then (rec v1 v2 (v3 + 1) u) else (rec v1 v3 (v3 + 1) u)))) else (rec v1 v2 (v3 + 1) u)) else (rec v1 v2 (v3 + 1) u)))
def m_fits_l4 : Nat → Int32 → Int32 → Int32 → q_S → Int32
  | 0, _, _, _, _ => 0
  | n + 1, v1, v2, v3, u => m_fits_l4_b (m_fits_l4 n) v1 v2 v3 u
def m_fits_l4_pb (rec : Int32 → Int32 → Int32 → q_S → Prop) (v1 : Int32) (v2 : Int32) (v3 : Int32) (u : q_S) : Prop := (((q_nh u) < v3 → True) ∧ (¬ (q_nh u) < v3 → (vp_in v3 121 ∧ (((q_hs u (Int32.toNatClampNeg v3)) = 0 → (((q_hr u (Int32.toNatClampNeg v3)) = v1 → ((0 < (lg_cmp (q_hu u (Int32.toNatClampNeg v3)) (q_td u)) → (rec v1 v2 (v3 + 1) u)) ∧ (¬ 0 < (lg_cmp (q_hu u (Int32.toNatClampNeg v3)) (q_td u)) → ((v2 = 0 → (rec v1 v3 (v3 + 1) u)) ∧ (¬ v2 = 0 → (m_isAhead_p u v3 v2 ∧ (((m_isAhead u v3 v2) = 0 → (rec v1 v2 (v3 + 1) u)) ∧ (¬ (m_isAhead u v3 v2) = 0 → (rec v1 v3 (v3 + 1) u))))))))) ∧ (¬ (q_hr u (Int32.toNatClampNeg v3)) = v1 → (rec v1 v2 (v3 + 1) u)))) ∧ (¬ (q_hs u (Int32.toNatClampNeg v3)) = 0 → (rec v1 v2 (v3 + 1) u))))))
def m_fits_l4_p : Nat → Int32 → Int32 → Int32 → q_S → Prop
  | 0, _, _, _, _ => False
  | n + 1, v1, v2, v3, u => m_fits_l4_pb (m_fits_l4_p n) v1 v2 v3 u
def m_fits (u : q_S) (v1 : Int32) : Int32 := (m_fits_l4 200 v1 0 1 u)
def m_fits_p (u : q_S) (v1 : Int32) : Prop := (m_fits_l4_p 200 v1 0 1 u)
def m_fits_t : List (Nat × gz_T q_S) := [(0, gz_push 1 (gz_i 0)), (1, gz_stor 2 2), (2, gz_push 3 (gz_i 1)), (3, gz_stor 4 3), (4, gz_ldi 5 3), (5, gz_lda 6 0), (6, gz_getI 9 0 q_nh), (9, gz_if2 12 82 (fun x y => y < x) (fun x y => ¬ y < x)), (12, gz_lda 13 0), (13, gz_getR 16 0 12), (16, gz_ldi 17 3), (17, gz_ild 18 m_ai), (18, gz_if 21 49 (fun x => ¬ x = 0) (fun x => x = 0)), (21, gz_lda 22 0), (22, gz_getR 25 0 9), (25, gz_ldi 26 3), (26, gz_ild 27 m_ai), (27, gz_ldi 28 1), (28, gz_if2 31 49 (fun x y => ¬ x = y) (fun x y => x = y)), (31, gz_lda 32 0), (32, gz_getR 35 0 14), (35, gz_ldi 36 3), (36, gz_lld 37 m_al), (37, gz_lda 38 0), (38, gz_getL 41 0 q_td), (41, gz_lcmp 42), (42, gz_if 45 49 (fun x => 0 < x) (fun x => ¬ 0 < x)), (45, gz_push 46 (gz_i 1)), (46, gz_goto 50), (49, gz_push 50 (gz_i 0)), (50, gz_stor 52 4), (52, gz_ldi 54 4), (54, gz_if 57 74 (fun x => x = 0) (fun x => ¬ x = 0)), (57, gz_ldi 58 2), (58, gz_if 61 70 (fun x => x = 0) (fun x => ¬ x = 0)), (61, gz_lda 62 0), (62, gz_ldi 63 3), (63, gz_ldi 64 2), (64, gz_c2P 67 0 m_isAhead_p m_isAhead), (67, gz_if 70 74 (fun x => x = 0) (fun x => ¬ x = 0)), (70, gz_ldi 71 3), (71, gz_goto 75), (74, gz_ldi 75 2), (75, gz_stor 76 2), (76, gz_iinc 79 3 1), (79, gz_goto 4), (82, gz_ldi 83 2), (83, gz_iret)]
set_option maxRecDepth 100000 in
set_option maxHeartbeats 4000000 in
theorem m_fits_l4_d {Kr : Option Int32 → q_S → Prop} {Z : gz_K q_S} (hZ : gz_shut m_fits_t Kr Z) : ∀ (n : Nat) (v1 : Int32) (v2 : Int32) (v3 : Int32) (u : q_S), m_fits_l4_p n v1 v2 v3 u → Kr (some (m_fits_l4 n v1 v2 v3 u)) u → Z 4 [(0, gz_r 0), (1, gz_i v1), (2, gz_i v2), (3, gz_i v3)] [] u := by
  intro n
  induction n with
  | zero => intro v1 v2 v3 u hp _; exact False.elim hp
  | succ n ih =>
  intro v1 v2 v3 u hp hk
  refine hZ.1 [4] 500 4 _ _ _ ?_
  have hp : m_fits_l4_pb (m_fits_l4_p n) v1 v2 v3 u := hp
  refine And.intro (fun (h1 : (q_nh u) < v3) => ?_) (fun (h1 : ¬ (q_nh u) < v3) => ?_)
  · rw [show m_fits_l4 (n + 1) v1 v2 v3 u = v2 from (by unfold m_fits_l4_b; rw [if_pos h1] : m_fits_l4_b (m_fits_l4 n) v1 v2 v3 u = v2)] at hk
    exact hk
  · have hp := hp.2 h1
    have n2 := hp.1
    refine And.intro n2 ?_
    have hp := hp.2
    refine And.intro (fun (h3 : ¬ (q_hs u (Int32.toNatClampNeg v3)) = 0) => ?_) (fun (h3 : (q_hs u (Int32.toNatClampNeg v3)) = 0) => ?_)
    · have hp := hp.2 h3
      refine And.intro (fun _ => ?_) (fun (h : ¬ (0 : Int32) = 0) => absurd h (by decide +kernel))
      rw [show m_fits_l4 (n + 1) v1 v2 v3 u = (m_fits_l4 n v1 v2 (v3 + 1) u) from (by unfold m_fits_l4_b; rw [if_neg h1, if_neg h3] : m_fits_l4_b (m_fits_l4 n) v1 v2 v3 u = (m_fits_l4 n v1 v2 (v3 + 1) u))] at hk
      refine hZ.2 [0, 1, 2, 3] 4 _ _ _ ?_
      exact ih v1 v2 (v3 + 1) u hp hk
    · have hp := hp.1 h3
      refine And.intro n2 ?_
      refine And.intro (fun (h4 : ¬ (q_hr u (Int32.toNatClampNeg v3)) = v1) => ?_) (fun (h4 : (q_hr u (Int32.toNatClampNeg v3)) = v1) => ?_)
      · have hp := hp.2 h4
        refine And.intro (fun _ => ?_) (fun (h : ¬ (0 : Int32) = 0) => absurd h (by decide +kernel))
        rw [show m_fits_l4 (n + 1) v1 v2 v3 u = (m_fits_l4 n v1 v2 (v3 + 1) u) from (by unfold m_fits_l4_b; rw [if_neg h1, if_pos h3, if_neg h4] : m_fits_l4_b (m_fits_l4 n) v1 v2 v3 u = (m_fits_l4 n v1 v2 (v3 + 1) u))] at hk
        refine hZ.2 [0, 1, 2, 3] 4 _ _ _ ?_
        exact ih v1 v2 (v3 + 1) u hp hk
      · have hp := hp.1 h4
        refine And.intro n2 ?_
        refine And.intro (fun (h5 : 0 < (lg_cmp (q_hu u (Int32.toNatClampNeg v3)) (q_td u))) => ?_) (fun (h5 : ¬ 0 < (lg_cmp (q_hu u (Int32.toNatClampNeg v3)) (q_td u))) => ?_)
        · have hp := hp.1 h5
          refine And.intro (fun _ => ?_) (fun (h : ¬ (0 : Int32) = 0) => absurd h (by decide +kernel))
          rw [show m_fits_l4 (n + 1) v1 v2 v3 u = (m_fits_l4 n v1 v2 (v3 + 1) u) from (by unfold m_fits_l4_b; rw [if_neg h1, if_pos h3, if_pos h4, if_pos h5] : m_fits_l4_b (m_fits_l4 n) v1 v2 v3 u = (m_fits_l4 n v1 v2 (v3 + 1) u))] at hk
          refine hZ.2 [0, 1, 2, 3] 4 _ _ _ ?_
          exact ih v1 v2 (v3 + 1) u hp hk
        · have hp := hp.2 h5
          refine And.intro (fun (h : (1 : Int32) = 0) => absurd h (by decide +kernel)) (fun _ => ?_)
          refine And.intro (fun (h6 : v2 = 0) => ?_) (fun (h6 : ¬ v2 = 0) => ?_)
          · have hp := hp.1 h6
            rw [show m_fits_l4 (n + 1) v1 v2 v3 u = (m_fits_l4 n v1 v3 (v3 + 1) u) from (by unfold m_fits_l4_b; rw [if_neg h1, if_pos h3, if_pos h4, if_neg h5, if_pos h6] : m_fits_l4_b (m_fits_l4 n) v1 v2 v3 u = (m_fits_l4 n v1 v3 (v3 + 1) u))] at hk
            refine hZ.2 [0, 1, 2, 3] 4 _ _ _ ?_
            exact ih v1 v3 (v3 + 1) u hp hk
          · have hp := hp.2 h6
            have n7 := hp.1
            refine And.intro n7 ?_
            have hp := hp.2
            refine And.intro (fun (h8 : (m_isAhead u v3 v2) = 0) => ?_) (fun (h8 : ¬ (m_isAhead u v3 v2) = 0) => ?_)
            · have hp := hp.1 h8
              rw [show m_fits_l4 (n + 1) v1 v2 v3 u = (m_fits_l4 n v1 v2 (v3 + 1) u) from (by unfold m_fits_l4_b; rw [if_neg h1, if_pos h3, if_pos h4, if_neg h5, if_neg h6, if_pos h8] : m_fits_l4_b (m_fits_l4 n) v1 v2 v3 u = (m_fits_l4 n v1 v2 (v3 + 1) u))] at hk
              refine hZ.2 [0, 1, 2, 3] 4 _ _ _ ?_
              exact ih v1 v2 (v3 + 1) u hp hk
            · have hp := hp.2 h8
              rw [show m_fits_l4 (n + 1) v1 v2 v3 u = (m_fits_l4 n v1 v3 (v3 + 1) u) from (by unfold m_fits_l4_b; rw [if_neg h1, if_pos h3, if_pos h4, if_neg h5, if_neg h6, if_neg h8] : m_fits_l4_b (m_fits_l4 n) v1 v2 v3 u = (m_fits_l4 n v1 v3 (v3 + 1) u))] at hk
              refine hZ.2 [0, 1, 2, 3] 4 _ _ _ ?_
              exact ih v1 v3 (v3 + 1) u hp hk
set_option maxRecDepth 100000 in
set_option maxHeartbeats 4000000 in
theorem m_fits_d {Kr : Option Int32 → q_S → Prop} (u : q_S) (v1 : Int32) (hp : m_fits_p u v1) (hk : Kr (some (m_fits u v1)) u) : gz_does m_fits_t Kr [(0, gz_r 0), (1, gz_i v1)] u := by
  intro Z hZ
  refine hZ.1 [4] 500 0 _ _ _ ?_
  unfold m_fits_p at hp
  rw [show m_fits u v1 = (m_fits_l4 200 v1 0 1 u) from rfl] at hk
  exact m_fits_l4_d hZ 200 v1 0 1 u hp hk
-- HoldQueueModel.lies(II)V
def m_lies (u : q_S) (v1 : Int32) (v2 : Int32) : q_S := (q_cs_u (q_he_u (q_hs_u u v2 2) v2 ((q_td u) + (Int32.toInt64 (q_sp u)))) v1 3)
def m_lies_p (u : q_S) (v1 : Int32) (v2 : Int32) : Prop := (vp_in v2 121 ∧ (vp_in v1 61))
def m_lies_t : List (Nat × gz_T q_S) := [(0, gz_lda 1 0), (1, gz_getR 4 0 12), (4, gz_ldi 5 2), (5, gz_push 6 (gz_i 2)), (6, gz_ist 7 m_ai), (7, gz_lda 8 0), (8, gz_getR 11 0 15), (11, gz_ldi 12 2), (12, gz_lda 13 0), (13, gz_getL 16 0 q_td), (16, gz_lda 17 0), (17, gz_getI 20 0 q_sp), (20, gz_itol 21), (21, gz_lop 22 (fun x y => x + y)), (22, gz_lst 23 m_al), (23, gz_lda 24 0), (24, gz_getR 27 0 5), (27, gz_ldi 28 1), (28, gz_push 29 (gz_i 3)), (29, gz_ist 30 m_ai), (30, gz_vret)]
set_option maxRecDepth 100000 in
set_option maxHeartbeats 4000000 in
theorem m_lies_d {Kr : Option Int32 → q_S → Prop} (u : q_S) (v1 : Int32) (v2 : Int32) (hp : m_lies_p u v1 v2) (hk : Kr none (m_lies u v1 v2)) : gz_does m_lies_t Kr [(0, gz_r 0), (1, gz_i v1), (2, gz_i v2)] u := by
  intro Z hZ
  refine hZ.1 [] 500 0 _ _ _ ?_
  unfold m_lies_p at hp
  have n1 := hp.1
  refine And.intro n1 ?_
  have hp := hp.2
  refine And.intro n1 ?_
  have n2 := hp
  refine And.intro n2 ?_
  rw [show m_lies u v1 v2 = (q_cs_u (q_he_u (q_hs_u u v2 2) v2 ((q_td u) + (Int32.toInt64 (q_sp u)))) v1 3) from rfl] at hk
  exact hk
-- HoldQueueModel.goes(I)I
def m_goes (u : q_S) (v1 : Int32) : Int32 × q_S := (if (m_fits u (q_cr u (Int32.toNatClampNeg v1))) = 0 then (0, (q_cs_u (q_ch_u u v1 (m_fits u (q_cr u (Int32.toNatClampNeg v1)))) v1 0)) else (if (q_cp u (Int32.toNatClampNeg v1)) = (q_hl u (Int32.toNatClampNeg (m_fits u (q_cr u (Int32.toNatClampNeg v1))))) then ((m_fits u (q_cr u (Int32.toNatClampNeg v1))), (m_lies (q_hy_u (q_cs_u (q_ch_u u v1 (m_fits u (q_cr u (Int32.toNatClampNeg v1)))) v1 0) (m_fits u (q_cr u (Int32.toNatClampNeg v1))) v1) v1 (m_fits u (q_cr u (Int32.toNatClampNeg v1))))) else ((m_fits u (q_cr u (Int32.toNatClampNeg v1))), (q_cp_u (q_cs_u (q_hs_u (q_hy_u (q_cs_u (q_ch_u u v1 (m_fits u (q_cr u (Int32.toNatClampNeg v1)))) v1 0) (m_fits u (q_cr u (Int32.toNatClampNeg v1))) v1) (m_fits u (q_cr u (Int32.toNatClampNeg v1))) 1) v1 2) v1 (q_hl u (Int32.toNatClampNeg (m_fits u (q_cr u (Int32.toNatClampNeg v1)))))))))
def m_goes_r (u : q_S) (v1 : Int32) : Int32 := (m_goes u v1).1
def m_goes_s (u : q_S) (v1 : Int32) : q_S := (m_goes u v1).2
def m_goes_p (u : q_S) (v1 : Int32) : Prop := (vp_in v1 61 ∧ (m_fits_p u (q_cr u (Int32.toNatClampNeg v1)) ∧ (((m_fits u (q_cr u (Int32.toNatClampNeg v1))) = 0 → True) ∧ (¬ (m_fits u (q_cr u (Int32.toNatClampNeg v1))) = 0 → (vp_in (m_fits u (q_cr u (Int32.toNatClampNeg v1))) 121 ∧ (((q_cp u (Int32.toNatClampNeg v1)) = (q_hl u (Int32.toNatClampNeg (m_fits u (q_cr u (Int32.toNatClampNeg v1))))) → (m_lies_p (q_hy_u (q_cs_u (q_ch_u u v1 (m_fits u (q_cr u (Int32.toNatClampNeg v1)))) v1 0) (m_fits u (q_cr u (Int32.toNatClampNeg v1))) v1) v1 (m_fits u (q_cr u (Int32.toNatClampNeg v1))))) ∧ (¬ (q_cp u (Int32.toNatClampNeg v1)) = (q_hl u (Int32.toNatClampNeg (m_fits u (q_cr u (Int32.toNatClampNeg v1))))) → True)))))))
def m_goes_t : List (Nat × gz_T q_S) := [(0, gz_lda 1 0), (1, gz_lda 2 0), (2, gz_getR 5 0 4), (5, gz_ldi 6 1), (6, gz_ild 7 m_ai), (7, gz_c1P 10 0 m_fits_p m_fits), (10, gz_stor 11 2), (11, gz_lda 12 0), (12, gz_getR 15 0 7), (15, gz_ldi 16 1), (16, gz_ldi 17 2), (17, gz_ist 18 m_ai), (18, gz_lda 19 0), (19, gz_getR 22 0 5), (22, gz_ldi 23 1), (23, gz_push 24 (gz_i 0)), (24, gz_ist 25 m_ai), (25, gz_ldi 26 2), (26, gz_if 29 31 (fun x => ¬ x = 0) (fun x => x = 0)), (29, gz_push 30 (gz_i 0)), (30, gz_iret), (31, gz_lda 32 0), (32, gz_getR 35 0 13), (35, gz_ldi 36 2), (36, gz_ldi 37 1), (37, gz_ist 38 m_ai), (38, gz_lda 39 0), (39, gz_getR 42 0 6), (42, gz_ldi 43 1), (43, gz_ild 44 m_ai), (44, gz_lda 45 0), (45, gz_getR 48 0 10), (48, gz_ldi 49 2), (49, gz_ild 50 m_ai), (50, gz_if2 53 62 (fun x y => ¬ x = y) (fun x y => x = y)), (53, gz_lda 54 0), (54, gz_ldi 55 1), (55, gz_ldi 56 2), (56, gz_c2V 59 0 m_lies_p m_lies), (59, gz_goto 88), (62, gz_lda 63 0), (63, gz_getR 66 0 12), (66, gz_ldi 67 2), (67, gz_push 68 (gz_i 1)), (68, gz_ist 69 m_ai), (69, gz_lda 70 0), (70, gz_getR 73 0 5), (73, gz_ldi 74 1), (74, gz_push 75 (gz_i 2)), (75, gz_ist 76 m_ai), (76, gz_lda 77 0), (77, gz_getR 80 0 6), (80, gz_ldi 81 1), (81, gz_lda 82 0), (82, gz_getR 85 0 10), (85, gz_ldi 86 2), (86, gz_ild 87 m_ai), (87, gz_ist 88 m_ai), (88, gz_ldi 89 2), (89, gz_iret)]
set_option maxRecDepth 100000 in
set_option maxHeartbeats 4000000 in
theorem m_goes_d {Kr : Option Int32 → q_S → Prop} (u : q_S) (v1 : Int32) (hp : m_goes_p u v1) (hk : Kr (some ((m_goes u v1)).1) ((m_goes u v1)).2) : gz_does m_goes_t Kr [(0, gz_r 0), (1, gz_i v1)] u := by
  intro Z hZ
  refine hZ.1 [] 500 0 _ _ _ ?_
  unfold m_goes_p at hp
  have n1 := hp.1
  refine And.intro n1 ?_
  have hp := hp.2
  have n2 := hp.1
  refine And.intro n2 ?_
  have hp := hp.2
  refine And.intro n1 ?_
  refine And.intro n1 ?_
  refine And.intro (fun (h3 : ¬ (m_fits u (q_cr u (Int32.toNatClampNeg v1))) = 0) => ?_) (fun (h3 : (m_fits u (q_cr u (Int32.toNatClampNeg v1))) = 0) => ?_)
  · have hp := hp.2 h3
    have n4 := hp.1
    refine And.intro n4 ?_
    have hp := hp.2
    refine And.intro n1 ?_
    refine And.intro n4 ?_
    refine And.intro (fun (h5 : ¬ (q_cp u (Int32.toNatClampNeg v1)) = (q_hl u (Int32.toNatClampNeg (m_fits u (q_cr u (Int32.toNatClampNeg v1)))))) => ?_) (fun (h5 : (q_cp u (Int32.toNatClampNeg v1)) = (q_hl u (Int32.toNatClampNeg (m_fits u (q_cr u (Int32.toNatClampNeg v1)))))) => ?_)
    · refine And.intro n4 ?_
      refine And.intro n1 ?_
      refine And.intro n4 ?_
      refine And.intro n1 ?_
      rw [show m_goes u v1 = ((m_fits u (q_cr u (Int32.toNatClampNeg v1))), (q_cp_u (q_cs_u (q_hs_u (q_hy_u (q_cs_u (q_ch_u u v1 (m_fits u (q_cr u (Int32.toNatClampNeg v1)))) v1 0) (m_fits u (q_cr u (Int32.toNatClampNeg v1))) v1) (m_fits u (q_cr u (Int32.toNatClampNeg v1))) 1) v1 2) v1 (q_hl u (Int32.toNatClampNeg (m_fits u (q_cr u (Int32.toNatClampNeg v1))))))) from (by unfold m_goes; rw [if_neg h3, if_neg h5])] at hk
      exact hk
    · have hp := hp.1 h5
      have n6 := hp
      refine And.intro n6 ?_
      rw [show m_goes u v1 = ((m_fits u (q_cr u (Int32.toNatClampNeg v1))), (m_lies (q_hy_u (q_cs_u (q_ch_u u v1 (m_fits u (q_cr u (Int32.toNatClampNeg v1)))) v1 0) (m_fits u (q_cr u (Int32.toNatClampNeg v1))) v1) v1 (m_fits u (q_cr u (Int32.toNatClampNeg v1))))) from (by unfold m_goes; rw [if_neg h3, if_pos h5])] at hk
      exact hk
  · rw [show m_goes u v1 = (0, (q_cs_u (q_ch_u u v1 (m_fits u (q_cr u (Int32.toNatClampNeg v1)))) v1 0)) from (by unfold m_goes; rw [if_pos h3])] at hk
    exact hk
-- HoldQueueModel.hold(IIII)I
def m_hold_l232_b (rec : Int32 → Int32 → Int32 → Int32 → Int32 → Int32 → Int32 → Int32 → q_S → Int32 × q_S) (v1 : Int32) (v2 : Int32) (v3 : Int32) (v4 : Int32) (v5 : Int32) (v6 : Int32) (v7 : Int32) (v8 : Int32) (u : q_S) : Int32 × q_S := (if v8 ≤ 0 then (if v7 ≤ 0 then (v6, u) else (v6, (m_goes_s u v7))) else (if (q_cr u (Int32.toNatClampNeg v8)) = v2 then (if (q_cs u (Int32.toNatClampNeg v8)) = 0 then (rec v1 v2 v3 v4 v5 v6 v8 (v8 + (-1)) u) else (rec v1 v2 v3 v4 v5 v6 v7 (v8 + (-1)) u)) else (rec v1 v2 v3 v4 v5 v6 v7 (v8 + (-1)) u)))
def m_hold_l232 : Nat → Int32 → Int32 → Int32 → Int32 → Int32 → Int32 → Int32 → Int32 → q_S → Int32 × q_S
  | 0, _, _, _, _, _, _, _, _, u => (0, u)
  | n + 1, v1, v2, v3, v4, v5, v6, v7, v8, u => m_hold_l232_b (m_hold_l232 n) v1 v2 v3 v4 v5 v6 v7 v8 u
def m_hold_l232_pb (rec : Int32 → Int32 → Int32 → Int32 → Int32 → Int32 → Int32 → Int32 → q_S → Prop) (v1 : Int32) (v2 : Int32) (v3 : Int32) (v4 : Int32) (v5 : Int32) (v6 : Int32) (v7 : Int32) (v8 : Int32) (u : q_S) : Prop := ((v8 ≤ 0 → ((v7 ≤ 0 → True) ∧ (¬ v7 ≤ 0 → (m_goes_p u v7)))) ∧ (¬ v8 ≤ 0 → (vp_in v8 61 ∧ (((q_cr u (Int32.toNatClampNeg v8)) = v2 → (((q_cs u (Int32.toNatClampNeg v8)) = 0 → (rec v1 v2 v3 v4 v5 v6 v8 (v8 + (-1)) u)) ∧ (¬ (q_cs u (Int32.toNatClampNeg v8)) = 0 → (rec v1 v2 v3 v4 v5 v6 v7 (v8 + (-1)) u)))) ∧ (¬ (q_cr u (Int32.toNatClampNeg v8)) = v2 → (rec v1 v2 v3 v4 v5 v6 v7 (v8 + (-1)) u))))))
def m_hold_l232_p : Nat → Int32 → Int32 → Int32 → Int32 → Int32 → Int32 → Int32 → Int32 → q_S → Prop
  | 0, _, _, _, _, _, _, _, _, _ => False
  | n + 1, v1, v2, v3, v4, v5, v6, v7, v8, u => m_hold_l232_pb (m_hold_l232_p n) v1 v2 v3 v4 v5 v6 v7 v8 u
def m_hold_l67_b (rec : Int32 → Int32 → Int32 → Int32 → Int32 → Int32 → q_S → Int32 × q_S) (v1 : Int32) (v2 : Int32) (v3 : Int32) (v4 : Int32) (v5 : Int32) (v6 : Int32) (u : q_S) : Int32 × q_S := (if (q_nh u) < v6 then (if v5 < (q_mo u (Int32.toNatClampNeg v1)) then (m_hold_l232 200 v1 v2 v3 v4 v5 ((q_nh u) + 1) 0 (q_nc u) (q_hu_u (q_hy_u (q_hs_u (q_hk_u (q_hl_u (q_hr_u (q_hp_u (q_nh_s u ((q_nh u) + 1)) ((q_nh u) + 1) v1) ((q_nh u) + 1) v2) ((q_nh u) + 1) v3) ((q_nh u) + 1) v4) ((q_nh u) + 1) 0) ((q_nh u) + 1) 0) ((q_nh u) + 1) (-9223372036854775807))) else ((-1), u)) else (if (q_hp u (Int32.toNatClampNeg v6)) = v1 then (if (m_isOpen u v6) = 0 then (rec v1 v2 v3 v4 v5 (v6 + 1) u) else (if (q_hr u (Int32.toNatClampNeg v6)) = v2 then (0, u) else (rec v1 v2 v3 v4 (v5 + 1) (v6 + 1) u))) else (rec v1 v2 v3 v4 v5 (v6 + 1) u)))
def m_hold_l67 : Nat → Int32 → Int32 → Int32 → Int32 → Int32 → Int32 → q_S → Int32 × q_S
  | 0, _, _, _, _, _, _, u => (0, u)
  | n + 1, v1, v2, v3, v4, v5, v6, u => m_hold_l67_b (m_hold_l67 n) v1 v2 v3 v4 v5 v6 u
def m_hold_l67_pb (rec : Int32 → Int32 → Int32 → Int32 → Int32 → Int32 → q_S → Prop) (v1 : Int32) (v2 : Int32) (v3 : Int32) (v4 : Int32) (v5 : Int32) (v6 : Int32) (u : q_S) : Prop := (((q_nh u) < v6 → (vp_in v1 40 ∧ ((v5 < (q_mo u (Int32.toNatClampNeg v1)) → (vp_in ((q_nh u) + 1) 121 ∧ (m_hold_l232_p 200 v1 v2 v3 v4 v5 ((q_nh u) + 1) 0 (q_nc u) (q_hu_u (q_hy_u (q_hs_u (q_hk_u (q_hl_u (q_hr_u (q_hp_u (q_nh_s u ((q_nh u) + 1)) ((q_nh u) + 1) v1) ((q_nh u) + 1) v2) ((q_nh u) + 1) v3) ((q_nh u) + 1) v4) ((q_nh u) + 1) 0) ((q_nh u) + 1) 0) ((q_nh u) + 1) (-9223372036854775807))))) ∧ (¬ v5 < (q_mo u (Int32.toNatClampNeg v1)) → True)))) ∧ (¬ (q_nh u) < v6 → (vp_in v6 121 ∧ (((q_hp u (Int32.toNatClampNeg v6)) = v1 → (m_isOpen_p u v6 ∧ (((m_isOpen u v6) = 0 → (rec v1 v2 v3 v4 v5 (v6 + 1) u)) ∧ (¬ (m_isOpen u v6) = 0 → (((q_hr u (Int32.toNatClampNeg v6)) = v2 → True) ∧ (¬ (q_hr u (Int32.toNatClampNeg v6)) = v2 → (rec v1 v2 v3 v4 (v5 + 1) (v6 + 1) u))))))) ∧ (¬ (q_hp u (Int32.toNatClampNeg v6)) = v1 → (rec v1 v2 v3 v4 v5 (v6 + 1) u))))))
def m_hold_l67_p : Nat → Int32 → Int32 → Int32 → Int32 → Int32 → Int32 → q_S → Prop
  | 0, _, _, _, _, _, _, _ => False
  | n + 1, v1, v2, v3, v4, v5, v6, u => m_hold_l67_pb (m_hold_l67_p n) v1 v2 v3 v4 v5 v6 u
def m_hold (u : q_S) (v1 : Int32) (v2 : Int32) (v3 : Int32) (v4 : Int32) : Int32 × q_S := (if (m_in v1 0 39) = 0 then (0, (q_th_s u 0)) else (if (m_in v2 1 (q_nr u)) = 0 then (0, (q_th_s u 0)) else (if (m_in v3 0 5) = 0 then (0, (q_th_s u 0)) else (if (q_bd u (Int32.toNatClampNeg (q_kd u (Int32.toNatClampNeg v2)))) = 0 then (if (q_nh u) = 120 then (0, (q_th_s u 0)) else (m_hold_l67 200 v1 v2 v3 v4 0 1 (q_th_s u 0))) else (0, (q_th_s u 0))))))
def m_hold_r (u : q_S) (v1 : Int32) (v2 : Int32) (v3 : Int32) (v4 : Int32) : Int32 := (m_hold u v1 v2 v3 v4).1
def m_hold_s (u : q_S) (v1 : Int32) (v2 : Int32) (v3 : Int32) (v4 : Int32) : q_S := (m_hold u v1 v2 v3 v4).2
def m_hold_p (u : q_S) (v1 : Int32) (v2 : Int32) (v3 : Int32) (v4 : Int32) : Prop := (((m_in v1 0 39) = 0 → True) ∧ (¬ (m_in v1 0 39) = 0 → (((m_in v2 1 (q_nr u)) = 0 → True) ∧ (¬ (m_in v2 1 (q_nr u)) = 0 → (((m_in v3 0 5) = 0 → True) ∧ (¬ (m_in v3 0 5) = 0 → (vp_in v2 31 ∧ (vp_in (q_kd u (Int32.toNatClampNeg v2)) 4 ∧ (((q_bd u (Int32.toNatClampNeg (q_kd u (Int32.toNatClampNeg v2)))) = 0 → (((q_nh u) = 120 → True) ∧ (¬ (q_nh u) = 120 → (m_hold_l67_p 200 v1 v2 v3 v4 0 1 (q_th_s u 0))))) ∧ (¬ (q_bd u (Int32.toNatClampNeg (q_kd u (Int32.toNatClampNeg v2)))) = 0 → True))))))))))
def m_hold_t : List (Nat × gz_T q_S) := [(0, gz_lda 1 0), (1, gz_push 2 (gz_i 0)), (2, gz_putI 5 0 q_th_s), (5, gz_ldi 6 1), (6, gz_push 7 (gz_i 0)), (7, gz_push 9 (gz_i 39)), (9, gz_s3P 12 m_in), (12, gz_if 15 59 (fun x => x = 0) (fun x => ¬ x = 0)), (15, gz_ldi 16 2), (16, gz_push 17 (gz_i 1)), (17, gz_lda 18 0), (18, gz_getI 21 0 q_nr), (21, gz_s3P 24 m_in), (24, gz_if 27 59 (fun x => x = 0) (fun x => ¬ x = 0)), (27, gz_ldi 28 3), (28, gz_push 29 (gz_i 0)), (29, gz_push 30 (gz_i 5)), (30, gz_s3P 33 m_in), (33, gz_if 36 59 (fun x => x = 0) (fun x => ¬ x = 0)), (36, gz_lda 37 0), (37, gz_getR 40 0 2), (40, gz_lda 41 0), (41, gz_getR 44 0 1), (44, gz_ldi 45 2), (45, gz_ild 46 m_ai), (46, gz_ild 47 m_az), (47, gz_if 50 59 (fun x => ¬ x = 0) (fun x => x = 0)), (50, gz_lda 51 0), (51, gz_getI 54 0 q_nh), (54, gz_push 56 (gz_i 120)), (56, gz_if2 59 61 (fun x y => ¬ x = y) (fun x y => x = y)), (59, gz_push 60 (gz_i 0)), (60, gz_iret), (61, gz_push 62 (gz_i 0)), (62, gz_stor 64 5), (64, gz_push 65 (gz_i 1)), (65, gz_stor 67 6), (67, gz_ldi 69 6), (69, gz_lda 70 0), (70, gz_getI 73 0 q_nh), (73, gz_if2 76 121 (fun x y => y < x) (fun x y => ¬ y < x)), (76, gz_lda 77 0), (77, gz_getR 80 0 8), (80, gz_ldi 82 6), (82, gz_ild 83 m_ai), (83, gz_ldi 84 1), (84, gz_if2 87 115 (fun x y => ¬ x = y) (fun x y => x = y)), (87, gz_lda 88 0), (88, gz_ldi 90 6), (90, gz_c1P 93 0 m_isOpen_p m_isOpen), (93, gz_if 96 99 (fun x => ¬ x = 0) (fun x => x = 0)), (96, gz_goto 115), (99, gz_lda 100 0), (100, gz_getR 103 0 9), (103, gz_ldi 105 6), (105, gz_ild 106 m_ai), (106, gz_ldi 107 2), (107, gz_if2 110 112 (fun x y => ¬ x = y) (fun x y => x = y)), (110, gz_push 111 (gz_i 0)), (111, gz_iret), (112, gz_iinc 115 5 1), (115, gz_iinc 118 6 1), (118, gz_goto 67), (121, gz_ldi 123 5), (123, gz_lda 124 0), (124, gz_getR 127 0 3), (127, gz_ldi 128 1), (128, gz_ild 129 m_ai), (129, gz_if2 132 134 (fun x y => x < y) (fun x y => ¬ x < y)), (132, gz_push 133 (gz_i (-1))), (133, gz_iret), (134, gz_lda 135 0), (135, gz_dup 136), (136, gz_getI 139 0 q_nh), (139, gz_push 140 (gz_i 1)), (140, gz_iop 141 (fun x y => x + y)), (141, gz_putI 144 0 q_nh_s), (144, gz_lda 145 0), (145, gz_getR 148 0 8), (148, gz_lda 149 0), (149, gz_getI 152 0 q_nh), (152, gz_ldi 153 1), (153, gz_ist 154 m_ai), (154, gz_lda 155 0), (155, gz_getR 158 0 9), (158, gz_lda 159 0), (159, gz_getI 162 0 q_nh), (162, gz_ldi 163 2), (163, gz_ist 164 m_ai), (164, gz_lda 165 0), (165, gz_getR 168 0 10), (168, gz_lda 169 0), (169, gz_getI 172 0 q_nh), (172, gz_ldi 173 3), (173, gz_ist 174 m_ai), (174, gz_lda 175 0), (175, gz_getR 178 0 11), (178, gz_lda 179 0), (179, gz_getI 182 0 q_nh), (182, gz_ldi 184 4), (184, gz_ist 185 m_ai), (185, gz_lda 186 0), (186, gz_getR 189 0 12), (189, gz_lda 190 0), (190, gz_getI 193 0 q_nh), (193, gz_push 194 (gz_i 0)), (194, gz_ist 195 m_ai), (195, gz_lda 196 0), (196, gz_getR 199 0 13), (199, gz_lda 200 0), (200, gz_getI 203 0 q_nh), (203, gz_push 204 (gz_i 0)), (204, gz_ist 205 m_ai), (205, gz_lda 206 0), (206, gz_getR 209 0 14), (209, gz_lda 210 0), (210, gz_getI 213 0 q_nh), (213, gz_push 216 (gz_l (-9223372036854775807))), (216, gz_lst 217 m_al), (217, gz_lda 218 0), (218, gz_getI 221 0 q_nh), (221, gz_stor 223 6), (223, gz_push 224 (gz_i 0)), (224, gz_stor 226 7), (226, gz_lda 227 0), (227, gz_getI 230 0 q_nc), (230, gz_stor 232 8), (232, gz_ldi 234 8), (234, gz_if 237 273 (fun x => x ≤ 0) (fun x => ¬ x ≤ 0)), (237, gz_lda 238 0), (238, gz_getR 241 0 4), (241, gz_ldi 243 8), (243, gz_ild 244 m_ai), (244, gz_ldi 245 2), (245, gz_if2 248 263 (fun x y => ¬ x = y) (fun x y => x = y)), (248, gz_lda 249 0), (249, gz_getR 252 0 5), (252, gz_ldi 254 8), (254, gz_ild 255 m_ai), (255, gz_if 258 263 (fun x => ¬ x = 0) (fun x => x = 0)), (258, gz_ldi 260 8), (260, gz_goto 265), (263, gz_ldi 265 7), (265, gz_stor 267 7), (267, gz_iinc 270 8 (-1)), (270, gz_goto 232), (273, gz_ldi 275 7), (275, gz_if 278 285 (fun x => x ≤ 0) (fun x => ¬ x ≤ 0)), (278, gz_lda 279 0), (279, gz_ldi 281 7), (281, gz_c1I 284 0 m_goes_p m_goes_r m_goes_s), (284, gz_pop 285), (285, gz_ldi 287 6), (287, gz_iret)]
set_option maxRecDepth 100000 in
set_option maxHeartbeats 4000000 in
theorem m_hold_l232_d {Kr : Option Int32 → q_S → Prop} {Z : gz_K q_S} (hZ : gz_shut m_hold_t Kr Z) : ∀ (n : Nat) (v1 : Int32) (v2 : Int32) (v3 : Int32) (v4 : Int32) (v5 : Int32) (v6 : Int32) (v7 : Int32) (v8 : Int32) (u : q_S), m_hold_l232_p n v1 v2 v3 v4 v5 v6 v7 v8 u → Kr (some ((m_hold_l232 n v1 v2 v3 v4 v5 v6 v7 v8 u)).1) ((m_hold_l232 n v1 v2 v3 v4 v5 v6 v7 v8 u)).2 → Z 232 [(0, gz_r 0), (1, gz_i v1), (2, gz_i v2), (3, gz_i v3), (4, gz_i v4), (5, gz_i v5), (6, gz_i v6), (7, gz_i v7), (8, gz_i v8)] [] u := by
  intro n
  induction n with
  | zero => intro v1 v2 v3 v4 v5 v6 v7 v8 u hp _; exact False.elim hp
  | succ n ih =>
  intro v1 v2 v3 v4 v5 v6 v7 v8 u hp hk
  refine hZ.1 [67, 232] 500 232 _ _ _ ?_
  have hp : m_hold_l232_pb (m_hold_l232_p n) v1 v2 v3 v4 v5 v6 v7 v8 u := hp
  refine And.intro (fun (h1 : v8 ≤ 0) => ?_) (fun (h1 : ¬ v8 ≤ 0) => ?_)
  · have hp := hp.1 h1
    refine And.intro (fun (h2 : v7 ≤ 0) => ?_) (fun (h2 : ¬ v7 ≤ 0) => ?_)
    · rw [show m_hold_l232 (n + 1) v1 v2 v3 v4 v5 v6 v7 v8 u = (v6, u) from (by unfold m_hold_l232_b; rw [if_pos h1, if_pos h2] : m_hold_l232_b (m_hold_l232 n) v1 v2 v3 v4 v5 v6 v7 v8 u = (v6, u))] at hk
      exact hk
    · have hp := hp.2 h2
      have n3 := hp
      refine And.intro n3 ?_
      rw [show m_hold_l232 (n + 1) v1 v2 v3 v4 v5 v6 v7 v8 u = (v6, (m_goes_s u v7)) from (by unfold m_hold_l232_b; rw [if_pos h1, if_neg h2] : m_hold_l232_b (m_hold_l232 n) v1 v2 v3 v4 v5 v6 v7 v8 u = (v6, (m_goes_s u v7)))] at hk
      exact hk
  · have hp := hp.2 h1
    have n4 := hp.1
    refine And.intro n4 ?_
    have hp := hp.2
    refine And.intro (fun (h5 : ¬ (q_cr u (Int32.toNatClampNeg v8)) = v2) => ?_) (fun (h5 : (q_cr u (Int32.toNatClampNeg v8)) = v2) => ?_)
    · have hp := hp.2 h5
      rw [show m_hold_l232 (n + 1) v1 v2 v3 v4 v5 v6 v7 v8 u = (m_hold_l232 n v1 v2 v3 v4 v5 v6 v7 (v8 + (-1)) u) from (by unfold m_hold_l232_b; rw [if_neg h1, if_neg h5] : m_hold_l232_b (m_hold_l232 n) v1 v2 v3 v4 v5 v6 v7 v8 u = (m_hold_l232 n v1 v2 v3 v4 v5 v6 v7 (v8 + (-1)) u))] at hk
      exact ih v1 v2 v3 v4 v5 v6 v7 (v8 + (-1)) u hp hk
    · have hp := hp.1 h5
      refine And.intro n4 ?_
      refine And.intro (fun (h6 : ¬ (q_cs u (Int32.toNatClampNeg v8)) = 0) => ?_) (fun (h6 : (q_cs u (Int32.toNatClampNeg v8)) = 0) => ?_)
      · have hp := hp.2 h6
        rw [show m_hold_l232 (n + 1) v1 v2 v3 v4 v5 v6 v7 v8 u = (m_hold_l232 n v1 v2 v3 v4 v5 v6 v7 (v8 + (-1)) u) from (by unfold m_hold_l232_b; rw [if_neg h1, if_pos h5, if_neg h6] : m_hold_l232_b (m_hold_l232 n) v1 v2 v3 v4 v5 v6 v7 v8 u = (m_hold_l232 n v1 v2 v3 v4 v5 v6 v7 (v8 + (-1)) u))] at hk
        exact ih v1 v2 v3 v4 v5 v6 v7 (v8 + (-1)) u hp hk
      · have hp := hp.1 h6
        rw [show m_hold_l232 (n + 1) v1 v2 v3 v4 v5 v6 v7 v8 u = (m_hold_l232 n v1 v2 v3 v4 v5 v6 v8 (v8 + (-1)) u) from (by unfold m_hold_l232_b; rw [if_neg h1, if_pos h5, if_pos h6] : m_hold_l232_b (m_hold_l232 n) v1 v2 v3 v4 v5 v6 v7 v8 u = (m_hold_l232 n v1 v2 v3 v4 v5 v6 v8 (v8 + (-1)) u))] at hk
        exact ih v1 v2 v3 v4 v5 v6 v8 (v8 + (-1)) u hp hk
set_option maxRecDepth 100000 in
set_option maxHeartbeats 4000000 in
theorem m_hold_l67_d {Kr : Option Int32 → q_S → Prop} {Z : gz_K q_S} (hZ : gz_shut m_hold_t Kr Z) : ∀ (n : Nat) (v1 : Int32) (v2 : Int32) (v3 : Int32) (v4 : Int32) (v5 : Int32) (v6 : Int32) (u : q_S), m_hold_l67_p n v1 v2 v3 v4 v5 v6 u → Kr (some ((m_hold_l67 n v1 v2 v3 v4 v5 v6 u)).1) ((m_hold_l67 n v1 v2 v3 v4 v5 v6 u)).2 → Z 67 [(0, gz_r 0), (1, gz_i v1), (2, gz_i v2), (3, gz_i v3), (4, gz_i v4), (5, gz_i v5), (6, gz_i v6)] [] u := by
  intro n
  induction n with
  | zero => intro v1 v2 v3 v4 v5 v6 u hp _; exact False.elim hp
  | succ n ih =>
  intro v1 v2 v3 v4 v5 v6 u hp hk
  refine hZ.1 [67, 232] 500 67 _ _ _ ?_
  have hp : m_hold_l67_pb (m_hold_l67_p n) v1 v2 v3 v4 v5 v6 u := hp
  refine And.intro (fun (h1 : (q_nh u) < v6) => ?_) (fun (h1 : ¬ (q_nh u) < v6) => ?_)
  · have hp := hp.1 h1
    have n2 := hp.1
    refine And.intro n2 ?_
    have hp := hp.2
    refine And.intro (fun (h3 : v5 < (q_mo u (Int32.toNatClampNeg v1))) => ?_) (fun (h3 : ¬ v5 < (q_mo u (Int32.toNatClampNeg v1))) => ?_)
    · have hp := hp.1 h3
      have n4 := hp.1
      refine And.intro n4 ?_
      have hp := hp.2
      refine And.intro n4 ?_
      refine And.intro n4 ?_
      refine And.intro n4 ?_
      refine And.intro n4 ?_
      refine And.intro n4 ?_
      refine And.intro n4 ?_
      rw [show m_hold_l67 (n + 1) v1 v2 v3 v4 v5 v6 u = (m_hold_l232 200 v1 v2 v3 v4 v5 ((q_nh u) + 1) 0 (q_nc u) (q_hu_u (q_hy_u (q_hs_u (q_hk_u (q_hl_u (q_hr_u (q_hp_u (q_nh_s u ((q_nh u) + 1)) ((q_nh u) + 1) v1) ((q_nh u) + 1) v2) ((q_nh u) + 1) v3) ((q_nh u) + 1) v4) ((q_nh u) + 1) 0) ((q_nh u) + 1) 0) ((q_nh u) + 1) (-9223372036854775807))) from (by unfold m_hold_l67_b; rw [if_pos h1, if_pos h3] : m_hold_l67_b (m_hold_l67 n) v1 v2 v3 v4 v5 v6 u = (m_hold_l232 200 v1 v2 v3 v4 v5 ((q_nh u) + 1) 0 (q_nc u) (q_hu_u (q_hy_u (q_hs_u (q_hk_u (q_hl_u (q_hr_u (q_hp_u (q_nh_s u ((q_nh u) + 1)) ((q_nh u) + 1) v1) ((q_nh u) + 1) v2) ((q_nh u) + 1) v3) ((q_nh u) + 1) v4) ((q_nh u) + 1) 0) ((q_nh u) + 1) 0) ((q_nh u) + 1) (-9223372036854775807))))] at hk
      exact m_hold_l232_d hZ 200 v1 v2 v3 v4 v5 ((q_nh u) + 1) 0 (q_nc u) (q_hu_u (q_hy_u (q_hs_u (q_hk_u (q_hl_u (q_hr_u (q_hp_u (q_nh_s u ((q_nh u) + 1)) ((q_nh u) + 1) v1) ((q_nh u) + 1) v2) ((q_nh u) + 1) v3) ((q_nh u) + 1) v4) ((q_nh u) + 1) 0) ((q_nh u) + 1) 0) ((q_nh u) + 1) (-9223372036854775807)) hp hk
    · rw [show m_hold_l67 (n + 1) v1 v2 v3 v4 v5 v6 u = ((-1), u) from (by unfold m_hold_l67_b; rw [if_pos h1, if_neg h3] : m_hold_l67_b (m_hold_l67 n) v1 v2 v3 v4 v5 v6 u = ((-1), u))] at hk
      exact hk
  · have hp := hp.2 h1
    have n5 := hp.1
    refine And.intro n5 ?_
    have hp := hp.2
    refine And.intro (fun (h6 : ¬ (q_hp u (Int32.toNatClampNeg v6)) = v1) => ?_) (fun (h6 : (q_hp u (Int32.toNatClampNeg v6)) = v1) => ?_)
    · have hp := hp.2 h6
      rw [show m_hold_l67 (n + 1) v1 v2 v3 v4 v5 v6 u = (m_hold_l67 n v1 v2 v3 v4 v5 (v6 + 1) u) from (by unfold m_hold_l67_b; rw [if_neg h1, if_neg h6] : m_hold_l67_b (m_hold_l67 n) v1 v2 v3 v4 v5 v6 u = (m_hold_l67 n v1 v2 v3 v4 v5 (v6 + 1) u))] at hk
      exact ih v1 v2 v3 v4 v5 (v6 + 1) u hp hk
    · have hp := hp.1 h6
      have n7 := hp.1
      refine And.intro n7 ?_
      have hp := hp.2
      refine And.intro (fun (h8 : ¬ (m_isOpen u v6) = 0) => ?_) (fun (h8 : (m_isOpen u v6) = 0) => ?_)
      · have hp := hp.2 h8
        refine And.intro n5 ?_
        refine And.intro (fun (h9 : ¬ (q_hr u (Int32.toNatClampNeg v6)) = v2) => ?_) (fun (h9 : (q_hr u (Int32.toNatClampNeg v6)) = v2) => ?_)
        · have hp := hp.2 h9
          rw [show m_hold_l67 (n + 1) v1 v2 v3 v4 v5 v6 u = (m_hold_l67 n v1 v2 v3 v4 (v5 + 1) (v6 + 1) u) from (by unfold m_hold_l67_b; rw [if_neg h1, if_pos h6, if_neg h8, if_neg h9] : m_hold_l67_b (m_hold_l67 n) v1 v2 v3 v4 v5 v6 u = (m_hold_l67 n v1 v2 v3 v4 (v5 + 1) (v6 + 1) u))] at hk
          exact ih v1 v2 v3 v4 (v5 + 1) (v6 + 1) u hp hk
        · rw [show m_hold_l67 (n + 1) v1 v2 v3 v4 v5 v6 u = (0, u) from (by unfold m_hold_l67_b; rw [if_neg h1, if_pos h6, if_neg h8, if_pos h9] : m_hold_l67_b (m_hold_l67 n) v1 v2 v3 v4 v5 v6 u = (0, u))] at hk
          exact hk
      · have hp := hp.1 h8
        rw [show m_hold_l67 (n + 1) v1 v2 v3 v4 v5 v6 u = (m_hold_l67 n v1 v2 v3 v4 v5 (v6 + 1) u) from (by unfold m_hold_l67_b; rw [if_neg h1, if_pos h6, if_pos h8] : m_hold_l67_b (m_hold_l67 n) v1 v2 v3 v4 v5 v6 u = (m_hold_l67 n v1 v2 v3 v4 v5 (v6 + 1) u))] at hk
        exact ih v1 v2 v3 v4 v5 (v6 + 1) u hp hk
set_option maxRecDepth 100000 in
set_option maxHeartbeats 4000000 in
theorem m_hold_d {Kr : Option Int32 → q_S → Prop} (u : q_S) (v1 : Int32) (v2 : Int32) (v3 : Int32) (v4 : Int32) (hp : m_hold_p u v1 v2 v3 v4) (hk : Kr (some ((m_hold u v1 v2 v3 v4)).1) ((m_hold u v1 v2 v3 v4)).2) : gz_does m_hold_t Kr [(0, gz_r 0), (1, gz_i v1), (2, gz_i v2), (3, gz_i v3), (4, gz_i v4)] u := by
  intro Z hZ
  refine hZ.1 [67, 232] 500 0 _ _ _ ?_
  unfold m_hold_p at hp
  refine And.intro (fun (h1 : (m_in v1 0 39) = 0) => ?_) (fun (h1 : ¬ (m_in v1 0 39) = 0) => ?_)
  · rw [show m_hold u v1 v2 v3 v4 = (0, (q_th_s u 0)) from (by unfold m_hold; rw [if_pos h1])] at hk
    exact hk
  · have hp := hp.2 h1
    refine And.intro (fun (h2 : (m_in v2 1 (q_nr u)) = 0) => ?_) (fun (h2 : ¬ (m_in v2 1 (q_nr u)) = 0) => ?_)
    · rw [show m_hold u v1 v2 v3 v4 = (0, (q_th_s u 0)) from (by unfold m_hold; rw [if_neg h1, if_pos h2])] at hk
      exact hk
    · have hp := hp.2 h2
      refine And.intro (fun (h3 : (m_in v3 0 5) = 0) => ?_) (fun (h3 : ¬ (m_in v3 0 5) = 0) => ?_)
      · rw [show m_hold u v1 v2 v3 v4 = (0, (q_th_s u 0)) from (by unfold m_hold; rw [if_neg h1, if_neg h2, if_pos h3])] at hk
        exact hk
      · have hp := hp.2 h3
        have n4 := hp.1
        refine And.intro n4 ?_
        have hp := hp.2
        have n5 := hp.1
        refine And.intro n5 ?_
        have hp := hp.2
        refine And.intro (fun (h6 : ¬ (q_bd u (Int32.toNatClampNeg (q_kd u (Int32.toNatClampNeg v2)))) = 0) => ?_) (fun (h6 : (q_bd u (Int32.toNatClampNeg (q_kd u (Int32.toNatClampNeg v2)))) = 0) => ?_)
        · rw [show m_hold u v1 v2 v3 v4 = (0, (q_th_s u 0)) from (by unfold m_hold; rw [if_neg h1, if_neg h2, if_neg h3, if_neg h6])] at hk
          exact hk
        · have hp := hp.1 h6
          refine And.intro (fun (h7 : ¬ (q_nh u) = 120) => ?_) (fun (h7 : (q_nh u) = 120) => ?_)
          · have hp := hp.2 h7
            rw [show m_hold u v1 v2 v3 v4 = (m_hold_l67 200 v1 v2 v3 v4 0 1 (q_th_s u 0)) from (by unfold m_hold; rw [if_neg h1, if_neg h2, if_neg h3, if_pos h6, if_neg h7])] at hk
            exact m_hold_l67_d hZ 200 v1 v2 v3 v4 0 1 (q_th_s u 0) hp hk
          · rw [show m_hold u v1 v2 v3 v4 = (0, (q_th_s u 0)) from (by unfold m_hold; rw [if_neg h1, if_neg h2, if_neg h3, if_pos h6, if_pos h7])] at hk
            exact hk
-- HoldQueueModel.most(II)I
def m_most (u : q_S) (v1 : Int32) (v2 : Int32) : Int32 × q_S := (if (m_in v1 0 39) = 0 then ((-1), (q_th_s u 0)) else (if (m_in v2 0 20) = 0 then ((-1), (q_th_s u 0)) else ((q_mo u (Int32.toNatClampNeg v1)), (q_mo_u (q_th_s u 0) v1 v2))))
def m_most_r (u : q_S) (v1 : Int32) (v2 : Int32) : Int32 := (m_most u v1 v2).1
def m_most_s (u : q_S) (v1 : Int32) (v2 : Int32) : q_S := (m_most u v1 v2).2
def m_most_p (u : q_S) (v1 : Int32) (v2 : Int32) : Prop := (((m_in v1 0 39) = 0 → True) ∧ (¬ (m_in v1 0 39) = 0 → (((m_in v2 0 20) = 0 → True) ∧ (¬ (m_in v2 0 20) = 0 → (vp_in v1 40)))))
def m_most_t : List (Nat × gz_T q_S) := [(0, gz_lda 1 0), (1, gz_push 2 (gz_i 0)), (2, gz_putI 5 0 q_th_s), (5, gz_ldi 6 1), (6, gz_push 7 (gz_i 0)), (7, gz_push 9 (gz_i 39)), (9, gz_s3P 12 m_in), (12, gz_if 15 25 (fun x => x = 0) (fun x => ¬ x = 0)), (15, gz_ldi 16 2), (16, gz_push 17 (gz_i 0)), (17, gz_push 19 (gz_i 20)), (19, gz_s3P 22 m_in), (22, gz_if 25 27 (fun x => ¬ x = 0) (fun x => x = 0)), (25, gz_push 26 (gz_i (-1))), (26, gz_iret), (27, gz_lda 28 0), (28, gz_getR 31 0 3), (31, gz_ldi 32 1), (32, gz_ild 33 m_ai), (33, gz_stor 34 3), (34, gz_lda 35 0), (35, gz_getR 38 0 3), (38, gz_ldi 39 1), (39, gz_ldi 40 2), (40, gz_ist 41 m_ai), (41, gz_ldi 42 3), (42, gz_iret)]
set_option maxRecDepth 100000 in
set_option maxHeartbeats 4000000 in
theorem m_most_d {Kr : Option Int32 → q_S → Prop} (u : q_S) (v1 : Int32) (v2 : Int32) (hp : m_most_p u v1 v2) (hk : Kr (some ((m_most u v1 v2)).1) ((m_most u v1 v2)).2) : gz_does m_most_t Kr [(0, gz_r 0), (1, gz_i v1), (2, gz_i v2)] u := by
  intro Z hZ
  refine hZ.1 [] 500 0 _ _ _ ?_
  unfold m_most_p at hp
  refine And.intro (fun (h1 : (m_in v1 0 39) = 0) => ?_) (fun (h1 : ¬ (m_in v1 0 39) = 0) => ?_)
  · rw [show m_most u v1 v2 = ((-1), (q_th_s u 0)) from (by unfold m_most; rw [if_pos h1])] at hk
    exact hk
  · have hp := hp.2 h1
    refine And.intro (fun (h2 : ¬ (m_in v2 0 20) = 0) => ?_) (fun (h2 : (m_in v2 0 20) = 0) => ?_)
    · have hp := hp.2 h2
      have n3 := hp
      refine And.intro n3 ?_
      refine And.intro n3 ?_
      rw [show m_most u v1 v2 = ((q_mo u (Int32.toNatClampNeg v1)), (q_mo_u (q_th_s u 0) v1 v2)) from (by unfold m_most; rw [if_neg h1, if_neg h2])] at hk
      exact hk
    · rw [show m_most u v1 v2 = ((-1), (q_th_s u 0)) from (by unfold m_most; rw [if_neg h1, if_pos h2])] at hk
      exact hk
-- HoldQueueModel.isHold(I)Z
def m_isHold (u : q_S) (v1 : Int32) : Int32 := (m_in v1 1 (q_nh u))
def m_isHold_p (u : q_S) (v1 : Int32) : Prop := (narrow .boolean (.int (m_in v1 1 (q_nh u))) = .int (m_in v1 1 (q_nh u)))
def m_isHold_t : List (Nat × gz_T q_S) := [(0, gz_ldi 1 1), (1, gz_push 2 (gz_i 1)), (2, gz_lda 3 0), (3, gz_getI 6 0 q_nh), (6, gz_s3P 9 m_in), (9, gz_zret)]
set_option maxRecDepth 100000 in
set_option maxHeartbeats 4000000 in
theorem m_isHold_d {Kr : Option Int32 → q_S → Prop} (u : q_S) (v1 : Int32) (hp : m_isHold_p u v1) (hk : Kr (some (m_isHold u v1)) u) : gz_does m_isHold_t Kr [(0, gz_r 0), (1, gz_i v1)] u := by
  intro Z hZ
  refine hZ.1 [] 500 0 _ _ _ ?_
  unfold m_isHold_p at hp
  have n1 := hp
  refine And.intro n1 ?_
  rw [show m_isHold u v1 = (m_in v1 1 (q_nh u)) from rfl] at hk
  exact hk
-- HoldQueueModel.isWaiting(I)Z
def m_isWaiting (u : q_S) (v1 : Int32) : Int32 := (if (m_isHold u v1) = 0 then 0 else (if (q_hs u (Int32.toNatClampNeg v1)) = 0 then 1 else 0))
def m_isWaiting_p (u : q_S) (v1 : Int32) : Prop := (m_isHold_p u v1 ∧ (((m_isHold u v1) = 0 → True) ∧ (¬ (m_isHold u v1) = 0 → (vp_in v1 121))))
def m_isWaiting_t : List (Nat × gz_T q_S) := [(0, gz_lda 1 0), (1, gz_ldi 2 1), (2, gz_c1P 5 0 m_isHold_p m_isHold), (5, gz_if 8 21 (fun x => x = 0) (fun x => ¬ x = 0)), (8, gz_lda 9 0), (9, gz_getR 12 0 12), (12, gz_ldi 13 1), (13, gz_ild 14 m_ai), (14, gz_if 17 21 (fun x => ¬ x = 0) (fun x => x = 0)), (17, gz_push 18 (gz_i 1)), (18, gz_goto 22), (21, gz_push 22 (gz_i 0)), (22, gz_zret)]
set_option maxRecDepth 100000 in
set_option maxHeartbeats 4000000 in
theorem m_isWaiting_d {Kr : Option Int32 → q_S → Prop} (u : q_S) (v1 : Int32) (hp : m_isWaiting_p u v1) (hk : Kr (some (m_isWaiting u v1)) u) : gz_does m_isWaiting_t Kr [(0, gz_r 0), (1, gz_i v1)] u := by
  intro Z hZ
  refine hZ.1 [] 500 0 _ _ _ ?_
  unfold m_isWaiting_p at hp
  have n1 := hp.1
  refine And.intro n1 ?_
  have hp := hp.2
  refine And.intro (fun (h2 : (m_isHold u v1) = 0) => ?_) (fun (h2 : ¬ (m_isHold u v1) = 0) => ?_)
  · refine And.intro (by decide +kernel) ?_
    rw [show m_isWaiting u v1 = 0 from (by unfold m_isWaiting; rw [if_pos h2])] at hk
    exact hk
  · have hp := hp.2 h2
    have n3 := hp
    refine And.intro n3 ?_
    refine And.intro (fun (h4 : ¬ (q_hs u (Int32.toNatClampNeg v1)) = 0) => ?_) (fun (h4 : (q_hs u (Int32.toNatClampNeg v1)) = 0) => ?_)
    · refine And.intro (by decide +kernel) ?_
      rw [show m_isWaiting u v1 = 0 from (by unfold m_isWaiting; rw [if_neg h2, if_neg h4])] at hk
      exact hk
    · refine And.intro (by decide +kernel) ?_
      rw [show m_isWaiting u v1 = 1 from (by unfold m_isWaiting; rw [if_neg h2, if_pos h4])] at hk
      exact hk
-- HoldQueueModel.suspend(IJ)I
def m_suspend (u : q_S) (v1 : Int32) (v2 : Int64) : Int32 × q_S := (if (m_isWaiting (q_th_s u 0) v1) = 0 then (0, (q_th_s u 0)) else (1, (q_hu_u (q_th_s u 0) v1 v2)))
def m_suspend_r (u : q_S) (v1 : Int32) (v2 : Int64) : Int32 := (m_suspend u v1 v2).1
def m_suspend_s (u : q_S) (v1 : Int32) (v2 : Int64) : q_S := (m_suspend u v1 v2).2
def m_suspend_p (u : q_S) (v1 : Int32) (v2 : Int64) : Prop := (m_isWaiting_p (q_th_s u 0) v1 ∧ (((m_isWaiting (q_th_s u 0) v1) = 0 → True) ∧ (¬ (m_isWaiting (q_th_s u 0) v1) = 0 → (vp_in v1 121))))
def m_suspend_t : List (Nat × gz_T q_S) := [(0, gz_lda 1 0), (1, gz_push 2 (gz_i 0)), (2, gz_putI 5 0 q_th_s), (5, gz_lda 6 0), (6, gz_ldi 7 1), (7, gz_c1P 10 0 m_isWaiting_p m_isWaiting), (10, gz_if 13 15 (fun x => ¬ x = 0) (fun x => x = 0)), (13, gz_push 14 (gz_i 0)), (14, gz_iret), (15, gz_lda 16 0), (16, gz_getR 19 0 14), (19, gz_ldi 20 1), (20, gz_ldl 21 2), (21, gz_lst 22 m_al), (22, gz_push 23 (gz_i 1)), (23, gz_iret)]
set_option maxRecDepth 100000 in
set_option maxHeartbeats 4000000 in
theorem m_suspend_d {Kr : Option Int32 → q_S → Prop} (u : q_S) (v1 : Int32) (v2 : Int64) (hp : m_suspend_p u v1 v2) (hk : Kr (some ((m_suspend u v1 v2)).1) ((m_suspend u v1 v2)).2) : gz_does m_suspend_t Kr [(0, gz_r 0), (1, gz_i v1), (2, gz_l v2)] u := by
  intro Z hZ
  refine hZ.1 [] 500 0 _ _ _ ?_
  unfold m_suspend_p at hp
  have n1 := hp.1
  refine And.intro n1 ?_
  have hp := hp.2
  refine And.intro (fun (h2 : ¬ (m_isWaiting (q_th_s u 0) v1) = 0) => ?_) (fun (h2 : (m_isWaiting (q_th_s u 0) v1) = 0) => ?_)
  · have hp := hp.2 h2
    have n3 := hp
    refine And.intro n3 ?_
    rw [show m_suspend u v1 v2 = (1, (q_hu_u (q_th_s u 0) v1 v2)) from (by unfold m_suspend; rw [if_neg h2])] at hk
    exact hk
  · rw [show m_suspend u v1 v2 = (0, (q_th_s u 0)) from (by unfold m_suspend; rw [if_pos h2])] at hk
    exact hk
-- HoldQueueModel.isCopy(II)Z
def m_isCopy (u : q_S) (v1 : Int32) (v2 : Int32) : Int32 := (if (m_in v1 1 (q_nc u)) = 0 then 0 else (if (q_cs u (Int32.toNatClampNeg v1)) = v2 then 1 else 0))
def m_isCopy_p (u : q_S) (v1 : Int32) (v2 : Int32) : Prop := (((m_in v1 1 (q_nc u)) = 0 → True) ∧ (¬ (m_in v1 1 (q_nc u)) = 0 → (vp_in v1 61)))
def m_isCopy_t : List (Nat × gz_T q_S) := [(0, gz_ldi 1 1), (1, gz_push 2 (gz_i 1)), (2, gz_lda 3 0), (3, gz_getI 6 0 q_nc), (6, gz_s3P 9 m_in), (9, gz_if 12 26 (fun x => x = 0) (fun x => ¬ x = 0)), (12, gz_lda 13 0), (13, gz_getR 16 0 5), (16, gz_ldi 17 1), (17, gz_ild 18 m_ai), (18, gz_ldi 19 2), (19, gz_if2 22 26 (fun x y => ¬ x = y) (fun x y => x = y)), (22, gz_push 23 (gz_i 1)), (23, gz_goto 27), (26, gz_push 27 (gz_i 0)), (27, gz_zret)]
set_option maxRecDepth 100000 in
set_option maxHeartbeats 4000000 in
theorem m_isCopy_d {Kr : Option Int32 → q_S → Prop} (u : q_S) (v1 : Int32) (v2 : Int32) (hp : m_isCopy_p u v1 v2) (hk : Kr (some (m_isCopy u v1 v2)) u) : gz_does m_isCopy_t Kr [(0, gz_r 0), (1, gz_i v1), (2, gz_i v2)] u := by
  intro Z hZ
  refine hZ.1 [] 500 0 _ _ _ ?_
  unfold m_isCopy_p at hp
  refine And.intro (fun (h1 : (m_in v1 1 (q_nc u)) = 0) => ?_) (fun (h1 : ¬ (m_in v1 1 (q_nc u)) = 0) => ?_)
  · refine And.intro (by decide +kernel) ?_
    rw [show m_isCopy u v1 v2 = 0 from (by unfold m_isCopy; rw [if_pos h1])] at hk
    exact hk
  · have hp := hp.2 h1
    have n2 := hp
    refine And.intro n2 ?_
    refine And.intro (fun (h3 : ¬ (q_cs u (Int32.toNatClampNeg v1)) = v2) => ?_) (fun (h3 : (q_cs u (Int32.toNatClampNeg v1)) = v2) => ?_)
    · refine And.intro (by decide +kernel) ?_
      rw [show m_isCopy u v1 v2 = 0 from (by unfold m_isCopy; rw [if_neg h1, if_neg h3])] at hk
      exact hk
    · refine And.intro (by decide +kernel) ?_
      rw [show m_isCopy u v1 v2 = 1 from (by unfold m_isCopy; rw [if_neg h1, if_pos h3])] at hk
      exact hk
-- HoldQueueModel.back(II)I
def m_back (u : q_S) (v1 : Int32) (v2 : Int32) : Int32 × q_S := (if (m_isCopy (q_th_s u 0) v1 1) = 0 then ((-1), (q_th_s u 0)) else (if (m_in v2 0 5) = 0 then ((-1), (q_th_s u 0)) else ((m_goes_r (q_cp_u (q_th_s u 0) v1 v2) v1), (m_goes_s (q_cp_u (q_th_s u 0) v1 v2) v1))))
def m_back_r (u : q_S) (v1 : Int32) (v2 : Int32) : Int32 := (m_back u v1 v2).1
def m_back_s (u : q_S) (v1 : Int32) (v2 : Int32) : q_S := (m_back u v1 v2).2
def m_back_p (u : q_S) (v1 : Int32) (v2 : Int32) : Prop := (m_isCopy_p (q_th_s u 0) v1 1 ∧ (((m_isCopy (q_th_s u 0) v1 1) = 0 → True) ∧ (¬ (m_isCopy (q_th_s u 0) v1 1) = 0 → (((m_in v2 0 5) = 0 → True) ∧ (¬ (m_in v2 0 5) = 0 → (vp_in v1 61 ∧ (m_goes_p (q_cp_u (q_th_s u 0) v1 v2) v1)))))))
def m_back_t : List (Nat × gz_T q_S) := [(0, gz_lda 1 0), (1, gz_push 2 (gz_i 0)), (2, gz_putI 5 0 q_th_s), (5, gz_lda 6 0), (6, gz_ldi 7 1), (7, gz_push 8 (gz_i 1)), (8, gz_c2P 11 0 m_isCopy_p m_isCopy), (11, gz_if 14 23 (fun x => x = 0) (fun x => ¬ x = 0)), (14, gz_ldi 15 2), (15, gz_push 16 (gz_i 0)), (16, gz_push 17 (gz_i 5)), (17, gz_s3P 20 m_in), (20, gz_if 23 25 (fun x => ¬ x = 0) (fun x => x = 0)), (23, gz_push 24 (gz_i (-1))), (24, gz_iret), (25, gz_lda 26 0), (26, gz_getR 29 0 6), (29, gz_ldi 30 1), (30, gz_ldi 31 2), (31, gz_ist 32 m_ai), (32, gz_lda 33 0), (33, gz_ldi 34 1), (34, gz_c1I 37 0 m_goes_p m_goes_r m_goes_s), (37, gz_iret)]
set_option maxRecDepth 100000 in
set_option maxHeartbeats 4000000 in
theorem m_back_d {Kr : Option Int32 → q_S → Prop} (u : q_S) (v1 : Int32) (v2 : Int32) (hp : m_back_p u v1 v2) (hk : Kr (some ((m_back u v1 v2)).1) ((m_back u v1 v2)).2) : gz_does m_back_t Kr [(0, gz_r 0), (1, gz_i v1), (2, gz_i v2)] u := by
  intro Z hZ
  refine hZ.1 [] 500 0 _ _ _ ?_
  unfold m_back_p at hp
  have n1 := hp.1
  refine And.intro n1 ?_
  have hp := hp.2
  refine And.intro (fun (h2 : (m_isCopy (q_th_s u 0) v1 1) = 0) => ?_) (fun (h2 : ¬ (m_isCopy (q_th_s u 0) v1 1) = 0) => ?_)
  · rw [show m_back u v1 v2 = ((-1), (q_th_s u 0)) from (by unfold m_back; rw [if_pos h2])] at hk
    exact hk
  · have hp := hp.2 h2
    refine And.intro (fun (h3 : ¬ (m_in v2 0 5) = 0) => ?_) (fun (h3 : (m_in v2 0 5) = 0) => ?_)
    · have hp := hp.2 h3
      have n4 := hp.1
      refine And.intro n4 ?_
      have hp := hp.2
      have n5 := hp
      refine And.intro n5 ?_
      rw [show m_back u v1 v2 = ((m_goes_r (q_cp_u (q_th_s u 0) v1 v2) v1), (m_goes_s (q_cp_u (q_th_s u 0) v1 v2) v1)) from (by unfold m_back; rw [if_neg h2, if_neg h3])] at hk
      exact hk
    · rw [show m_back u v1 v2 = ((-1), (q_th_s u 0)) from (by unfold m_back; rw [if_neg h2, if_pos h3])] at hk
      exact hk
-- HoldQueueModel.arrive(I)I
def m_arrive (u : q_S) (v1 : Int32) : Int32 × q_S := (if (m_isCopy (q_th_s u 0) v1 2) = 0 then ((-1), (q_th_s u 0)) else (if (q_ch u (Int32.toNatClampNeg v1)) ≤ 0 then (0, (m_goes_s (q_th_s u 0) v1)) else (1, (m_lies (q_th_s u 0) v1 (q_ch u (Int32.toNatClampNeg v1))))))
def m_arrive_r (u : q_S) (v1 : Int32) : Int32 := (m_arrive u v1).1
def m_arrive_s (u : q_S) (v1 : Int32) : q_S := (m_arrive u v1).2
def m_arrive_p (u : q_S) (v1 : Int32) : Prop := (m_isCopy_p (q_th_s u 0) v1 2 ∧ (((m_isCopy (q_th_s u 0) v1 2) = 0 → True) ∧ (¬ (m_isCopy (q_th_s u 0) v1 2) = 0 → (vp_in v1 61 ∧ (((q_ch u (Int32.toNatClampNeg v1)) ≤ 0 → (m_goes_p (q_th_s u 0) v1)) ∧ (¬ (q_ch u (Int32.toNatClampNeg v1)) ≤ 0 → (m_lies_p (q_th_s u 0) v1 (q_ch u (Int32.toNatClampNeg v1)))))))))
def m_arrive_t : List (Nat × gz_T q_S) := [(0, gz_lda 1 0), (1, gz_push 2 (gz_i 0)), (2, gz_putI 5 0 q_th_s), (5, gz_lda 6 0), (6, gz_ldi 7 1), (7, gz_push 8 (gz_i 2)), (8, gz_c2P 11 0 m_isCopy_p m_isCopy), (11, gz_if 14 16 (fun x => ¬ x = 0) (fun x => x = 0)), (14, gz_push 15 (gz_i (-1))), (15, gz_iret), (16, gz_lda 17 0), (17, gz_getR 20 0 7), (20, gz_ldi 21 1), (21, gz_ild 22 m_ai), (22, gz_stor 23 2), (23, gz_ldi 24 2), (24, gz_if 27 35 (fun x => x ≤ 0) (fun x => ¬ x ≤ 0)), (27, gz_lda 28 0), (28, gz_ldi 29 1), (29, gz_ldi 30 2), (30, gz_c2V 33 0 m_lies_p m_lies), (33, gz_push 34 (gz_i 1)), (34, gz_iret), (35, gz_lda 36 0), (36, gz_ldi 37 1), (37, gz_c1I 40 0 m_goes_p m_goes_r m_goes_s), (40, gz_pop 41), (41, gz_push 42 (gz_i 0)), (42, gz_iret)]
set_option maxRecDepth 100000 in
set_option maxHeartbeats 4000000 in
theorem m_arrive_d {Kr : Option Int32 → q_S → Prop} (u : q_S) (v1 : Int32) (hp : m_arrive_p u v1) (hk : Kr (some ((m_arrive u v1)).1) ((m_arrive u v1)).2) : gz_does m_arrive_t Kr [(0, gz_r 0), (1, gz_i v1)] u := by
  intro Z hZ
  refine hZ.1 [] 500 0 _ _ _ ?_
  unfold m_arrive_p at hp
  have n1 := hp.1
  refine And.intro n1 ?_
  have hp := hp.2
  refine And.intro (fun (h2 : ¬ (m_isCopy (q_th_s u 0) v1 2) = 0) => ?_) (fun (h2 : (m_isCopy (q_th_s u 0) v1 2) = 0) => ?_)
  · have hp := hp.2 h2
    have n3 := hp.1
    refine And.intro n3 ?_
    have hp := hp.2
    refine And.intro (fun (h4 : (q_ch u (Int32.toNatClampNeg v1)) ≤ 0) => ?_) (fun (h4 : ¬ (q_ch u (Int32.toNatClampNeg v1)) ≤ 0) => ?_)
    · have hp := hp.1 h4
      have n5 := hp
      refine And.intro n5 ?_
      rw [show m_arrive u v1 = (0, (m_goes_s (q_th_s u 0) v1)) from (by unfold m_arrive; rw [if_neg h2, if_pos h4])] at hk
      exact hk
    · have hp := hp.2 h4
      have n6 := hp
      refine And.intro n6 ?_
      rw [show m_arrive u v1 = (1, (m_lies (q_th_s u 0) v1 (q_ch u (Int32.toNatClampNeg v1)))) from (by unfold m_arrive; rw [if_neg h2, if_neg h4])] at hk
      exact hk
  · rw [show m_arrive u v1 = ((-1), (q_th_s u 0)) from (by unfold m_arrive; rw [if_pos h2])] at hk
    exact hk
-- HoldQueueModel.pick(I)I
def m_pick (u : q_S) (v1 : Int32) : Int32 × q_S := (if (m_isHold (q_th_s u 0) v1) = 0 then (0, (q_th_s u 0)) else (if (q_hs u (Int32.toNatClampNeg v1)) = 2 then ((q_hy u (Int32.toNatClampNeg v1)), (q_ch_u (q_cs_u (q_hy_u (q_hs_u (q_th_s u 0) v1 3) v1 0) (q_hy u (Int32.toNatClampNeg v1)) 1) (q_hy u (Int32.toNatClampNeg v1)) 0)) else (0, (q_th_s u 0))))
def m_pick_r (u : q_S) (v1 : Int32) : Int32 := (m_pick u v1).1
def m_pick_s (u : q_S) (v1 : Int32) : q_S := (m_pick u v1).2
def m_pick_p (u : q_S) (v1 : Int32) : Prop := (m_isHold_p (q_th_s u 0) v1 ∧ (((m_isHold (q_th_s u 0) v1) = 0 → True) ∧ (¬ (m_isHold (q_th_s u 0) v1) = 0 → (vp_in v1 121 ∧ (((q_hs u (Int32.toNatClampNeg v1)) = 2 → (vp_in (q_hy u (Int32.toNatClampNeg v1)) 61)) ∧ (¬ (q_hs u (Int32.toNatClampNeg v1)) = 2 → True))))))
def m_pick_t : List (Nat × gz_T q_S) := [(0, gz_lda 1 0), (1, gz_push 2 (gz_i 0)), (2, gz_putI 5 0 q_th_s), (5, gz_lda 6 0), (6, gz_ldi 7 1), (7, gz_c1P 10 0 m_isHold_p m_isHold), (10, gz_if 13 23 (fun x => x = 0) (fun x => ¬ x = 0)), (13, gz_lda 14 0), (14, gz_getR 17 0 12), (17, gz_ldi 18 1), (18, gz_ild 19 m_ai), (19, gz_push 20 (gz_i 2)), (20, gz_if2 23 25 (fun x y => x = y) (fun x y => ¬ x = y)), (23, gz_push 24 (gz_i 0)), (24, gz_iret), (25, gz_lda 26 0), (26, gz_getR 29 0 13), (29, gz_ldi 30 1), (30, gz_ild 31 m_ai), (31, gz_stor 32 2), (32, gz_lda 33 0), (33, gz_getR 36 0 12), (36, gz_ldi 37 1), (37, gz_push 38 (gz_i 3)), (38, gz_ist 39 m_ai), (39, gz_lda 40 0), (40, gz_getR 43 0 13), (43, gz_ldi 44 1), (44, gz_push 45 (gz_i 0)), (45, gz_ist 46 m_ai), (46, gz_lda 47 0), (47, gz_getR 50 0 5), (50, gz_ldi 51 2), (51, gz_push 52 (gz_i 1)), (52, gz_ist 53 m_ai), (53, gz_lda 54 0), (54, gz_getR 57 0 7), (57, gz_ldi 58 2), (58, gz_push 59 (gz_i 0)), (59, gz_ist 60 m_ai), (60, gz_ldi 61 2), (61, gz_iret)]
set_option maxRecDepth 100000 in
set_option maxHeartbeats 4000000 in
theorem m_pick_d {Kr : Option Int32 → q_S → Prop} (u : q_S) (v1 : Int32) (hp : m_pick_p u v1) (hk : Kr (some ((m_pick u v1)).1) ((m_pick u v1)).2) : gz_does m_pick_t Kr [(0, gz_r 0), (1, gz_i v1)] u := by
  intro Z hZ
  refine hZ.1 [] 500 0 _ _ _ ?_
  unfold m_pick_p at hp
  have n1 := hp.1
  refine And.intro n1 ?_
  have hp := hp.2
  refine And.intro (fun (h2 : (m_isHold (q_th_s u 0) v1) = 0) => ?_) (fun (h2 : ¬ (m_isHold (q_th_s u 0) v1) = 0) => ?_)
  · rw [show m_pick u v1 = (0, (q_th_s u 0)) from (by unfold m_pick; rw [if_pos h2])] at hk
    exact hk
  · have hp := hp.2 h2
    have n3 := hp.1
    refine And.intro n3 ?_
    have hp := hp.2
    refine And.intro (fun (h4 : (q_hs u (Int32.toNatClampNeg v1)) = 2) => ?_) (fun (h4 : ¬ (q_hs u (Int32.toNatClampNeg v1)) = 2) => ?_)
    · have hp := hp.1 h4
      refine And.intro n3 ?_
      refine And.intro n3 ?_
      refine And.intro n3 ?_
      have n5 := hp
      refine And.intro n5 ?_
      refine And.intro n5 ?_
      rw [show m_pick u v1 = ((q_hy u (Int32.toNatClampNeg v1)), (q_ch_u (q_cs_u (q_hy_u (q_hs_u (q_th_s u 0) v1 3) v1 0) (q_hy u (Int32.toNatClampNeg v1)) 1) (q_hy u (Int32.toNatClampNeg v1)) 0)) from (by unfold m_pick; rw [if_neg h2, if_pos h4])] at hk
      exact hk
    · rw [show m_pick u v1 = (0, (q_th_s u 0)) from (by unfold m_pick; rw [if_neg h2, if_neg h4])] at hk
      exact hk
-- HoldQueueModel.lend(I)I
def m_lend (u : q_S) (v1 : Int32) : Int32 × q_S := (if (m_isCopy (q_th_s u 0) v1 0) = 0 then (0, (q_th_s u 0)) else (1, (q_cs_u (q_th_s u 0) v1 1)))
def m_lend_r (u : q_S) (v1 : Int32) : Int32 := (m_lend u v1).1
def m_lend_s (u : q_S) (v1 : Int32) : q_S := (m_lend u v1).2
def m_lend_p (u : q_S) (v1 : Int32) : Prop := (m_isCopy_p (q_th_s u 0) v1 0 ∧ (((m_isCopy (q_th_s u 0) v1 0) = 0 → True) ∧ (¬ (m_isCopy (q_th_s u 0) v1 0) = 0 → (vp_in v1 61))))
def m_lend_t : List (Nat × gz_T q_S) := [(0, gz_lda 1 0), (1, gz_push 2 (gz_i 0)), (2, gz_putI 5 0 q_th_s), (5, gz_lda 6 0), (6, gz_ldi 7 1), (7, gz_push 8 (gz_i 0)), (8, gz_c2P 11 0 m_isCopy_p m_isCopy), (11, gz_if 14 16 (fun x => ¬ x = 0) (fun x => x = 0)), (14, gz_push 15 (gz_i 0)), (15, gz_iret), (16, gz_lda 17 0), (17, gz_getR 20 0 5), (20, gz_ldi 21 1), (21, gz_push 22 (gz_i 1)), (22, gz_ist 23 m_ai), (23, gz_push 24 (gz_i 1)), (24, gz_iret)]
set_option maxRecDepth 100000 in
set_option maxHeartbeats 4000000 in
theorem m_lend_d {Kr : Option Int32 → q_S → Prop} (u : q_S) (v1 : Int32) (hp : m_lend_p u v1) (hk : Kr (some ((m_lend u v1)).1) ((m_lend u v1)).2) : gz_does m_lend_t Kr [(0, gz_r 0), (1, gz_i v1)] u := by
  intro Z hZ
  refine hZ.1 [] 500 0 _ _ _ ?_
  unfold m_lend_p at hp
  have n1 := hp.1
  refine And.intro n1 ?_
  have hp := hp.2
  refine And.intro (fun (h2 : ¬ (m_isCopy (q_th_s u 0) v1 0) = 0) => ?_) (fun (h2 : (m_isCopy (q_th_s u 0) v1 0) = 0) => ?_)
  · have hp := hp.2 h2
    have n3 := hp
    refine And.intro n3 ?_
    rw [show m_lend u v1 = (1, (q_cs_u (q_th_s u 0) v1 1)) from (by unfold m_lend; rw [if_neg h2])] at hk
    exact hk
  · rw [show m_lend u v1 = (0, (q_th_s u 0)) from (by unfold m_lend; rw [if_pos h2])] at hk
    exact hk
-- HoldQueueModel.ends(II)V
def m_ends (u : q_S) (v1 : Int32) (v2 : Int32) : q_S := (if (q_hs u (Int32.toNatClampNeg v1)) = 2 then (if (q_hy u (Int32.toNatClampNeg v1)) ≤ 0 then (m_goes_s (q_hy_u (q_hs_u u v1 v2) v1 0) (q_hy u (Int32.toNatClampNeg v1))) else (m_goes_s (q_ch_u (q_hy_u (q_hs_u u v1 v2) v1 0) (q_hy u (Int32.toNatClampNeg v1)) 0) (q_hy u (Int32.toNatClampNeg v1)))) else (if (q_hy u (Int32.toNatClampNeg v1)) ≤ 0 then (q_hy_u (q_hs_u u v1 v2) v1 0) else (q_ch_u (q_hy_u (q_hs_u u v1 v2) v1 0) (q_hy u (Int32.toNatClampNeg v1)) 0)))
def m_ends_p (u : q_S) (v1 : Int32) (v2 : Int32) : Prop := (vp_in v1 121 ∧ (((q_hs u (Int32.toNatClampNeg v1)) = 2 → (((q_hy u (Int32.toNatClampNeg v1)) ≤ 0 → (m_goes_p (q_hy_u (q_hs_u u v1 v2) v1 0) (q_hy u (Int32.toNatClampNeg v1)))) ∧ (¬ (q_hy u (Int32.toNatClampNeg v1)) ≤ 0 → (vp_in (q_hy u (Int32.toNatClampNeg v1)) 61 ∧ (m_goes_p (q_ch_u (q_hy_u (q_hs_u u v1 v2) v1 0) (q_hy u (Int32.toNatClampNeg v1)) 0) (q_hy u (Int32.toNatClampNeg v1))))))) ∧ (¬ (q_hs u (Int32.toNatClampNeg v1)) = 2 → (((q_hy u (Int32.toNatClampNeg v1)) ≤ 0 → True) ∧ (¬ (q_hy u (Int32.toNatClampNeg v1)) ≤ 0 → (vp_in (q_hy u (Int32.toNatClampNeg v1)) 61))))))
def m_ends_t : List (Nat × gz_T q_S) := [(0, gz_lda 1 0), (1, gz_getR 4 0 13), (4, gz_ldi 5 1), (5, gz_ild 6 m_ai), (6, gz_stor 7 3), (7, gz_lda 8 0), (8, gz_getR 11 0 12), (11, gz_ldi 12 1), (12, gz_ild 13 m_ai), (13, gz_push 14 (gz_i 2)), (14, gz_if2 17 21 (fun x y => ¬ x = y) (fun x y => x = y)), (17, gz_push 18 (gz_i 1)), (18, gz_goto 22), (21, gz_push 22 (gz_i 0)), (22, gz_stor 24 4), (24, gz_lda 25 0), (25, gz_getR 28 0 12), (28, gz_ldi 29 1), (29, gz_ldi 30 2), (30, gz_ist 31 m_ai), (31, gz_lda 32 0), (32, gz_getR 35 0 13), (35, gz_ldi 36 1), (36, gz_push 37 (gz_i 0)), (37, gz_ist 38 m_ai), (38, gz_ldi 39 3), (39, gz_if 42 49 (fun x => x ≤ 0) (fun x => ¬ x ≤ 0)), (42, gz_lda 43 0), (43, gz_getR 46 0 7), (46, gz_ldi 47 3), (47, gz_push 48 (gz_i 0)), (48, gz_ist 49 m_ai), (49, gz_ldi 51 4), (51, gz_if 54 60 (fun x => x = 0) (fun x => ¬ x = 0)), (54, gz_lda 55 0), (55, gz_ldi 56 3), (56, gz_c1I 59 0 m_goes_p m_goes_r m_goes_s), (59, gz_pop 60), (60, gz_vret)]
set_option maxRecDepth 100000 in
set_option maxHeartbeats 4000000 in
theorem m_ends_d {Kr : Option Int32 → q_S → Prop} (u : q_S) (v1 : Int32) (v2 : Int32) (hp : m_ends_p u v1 v2) (hk : Kr none (m_ends u v1 v2)) : gz_does m_ends_t Kr [(0, gz_r 0), (1, gz_i v1), (2, gz_i v2)] u := by
  intro Z hZ
  refine hZ.1 [] 500 0 _ _ _ ?_
  unfold m_ends_p at hp
  have n1 := hp.1
  refine And.intro n1 ?_
  have hp := hp.2
  refine And.intro n1 ?_
  refine And.intro (fun (h2 : ¬ (q_hs u (Int32.toNatClampNeg v1)) = 2) => ?_) (fun (h2 : (q_hs u (Int32.toNatClampNeg v1)) = 2) => ?_)
  · have hp := hp.2 h2
    refine And.intro n1 ?_
    refine And.intro n1 ?_
    refine And.intro (fun (h3 : (q_hy u (Int32.toNatClampNeg v1)) ≤ 0) => ?_) (fun (h3 : ¬ (q_hy u (Int32.toNatClampNeg v1)) ≤ 0) => ?_)
    · refine And.intro (fun _ => ?_) (fun (h : ¬ (0 : Int32) = 0) => absurd h (by decide +kernel))
      rw [show m_ends u v1 v2 = (q_hy_u (q_hs_u u v1 v2) v1 0) from (by unfold m_ends; rw [if_neg h2, if_pos h3])] at hk
      exact hk
    · have hp := hp.2 h3
      have n4 := hp
      refine And.intro n4 ?_
      refine And.intro (fun _ => ?_) (fun (h : ¬ (0 : Int32) = 0) => absurd h (by decide +kernel))
      rw [show m_ends u v1 v2 = (q_ch_u (q_hy_u (q_hs_u u v1 v2) v1 0) (q_hy u (Int32.toNatClampNeg v1)) 0) from (by unfold m_ends; rw [if_neg h2, if_neg h3])] at hk
      exact hk
  · have hp := hp.1 h2
    refine And.intro n1 ?_
    refine And.intro n1 ?_
    refine And.intro (fun (h5 : (q_hy u (Int32.toNatClampNeg v1)) ≤ 0) => ?_) (fun (h5 : ¬ (q_hy u (Int32.toNatClampNeg v1)) ≤ 0) => ?_)
    · have hp := hp.1 h5
      refine And.intro (fun (h : (1 : Int32) = 0) => absurd h (by decide +kernel)) (fun _ => ?_)
      have n6 := hp
      refine And.intro n6 ?_
      rw [show m_ends u v1 v2 = (m_goes_s (q_hy_u (q_hs_u u v1 v2) v1 0) (q_hy u (Int32.toNatClampNeg v1))) from (by unfold m_ends; rw [if_pos h2, if_pos h5])] at hk
      exact hk
    · have hp := hp.2 h5
      have n7 := hp.1
      refine And.intro n7 ?_
      have hp := hp.2
      refine And.intro (fun (h : (1 : Int32) = 0) => absurd h (by decide +kernel)) (fun _ => ?_)
      have n8 := hp
      refine And.intro n8 ?_
      rw [show m_ends u v1 v2 = (m_goes_s (q_ch_u (q_hy_u (q_hs_u u v1 v2) v1 0) (q_hy u (Int32.toNatClampNeg v1)) 0) (q_hy u (Int32.toNatClampNeg v1))) from (by unfold m_ends; rw [if_pos h2, if_neg h5])] at hk
      exact hk
-- HoldQueueModel.cancel(I)I
def m_cancel (u : q_S) (v1 : Int32) : Int32 × q_S := (if (m_isHold (q_th_s u 0) v1) = 0 then (0, (q_th_s u 0)) else (if (m_isOpen (q_th_s u 0) v1) = 0 then (0, (q_th_s u 0)) else (1, (m_ends (q_th_s u 0) v1 5))))
def m_cancel_r (u : q_S) (v1 : Int32) : Int32 := (m_cancel u v1).1
def m_cancel_s (u : q_S) (v1 : Int32) : q_S := (m_cancel u v1).2
def m_cancel_p (u : q_S) (v1 : Int32) : Prop := (m_isHold_p (q_th_s u 0) v1 ∧ (((m_isHold (q_th_s u 0) v1) = 0 → True) ∧ (¬ (m_isHold (q_th_s u 0) v1) = 0 → (m_isOpen_p (q_th_s u 0) v1 ∧ (((m_isOpen (q_th_s u 0) v1) = 0 → True) ∧ (¬ (m_isOpen (q_th_s u 0) v1) = 0 → (m_ends_p (q_th_s u 0) v1 5)))))))
def m_cancel_t : List (Nat × gz_T q_S) := [(0, gz_lda 1 0), (1, gz_push 2 (gz_i 0)), (2, gz_putI 5 0 q_th_s), (5, gz_lda 6 0), (6, gz_ldi 7 1), (7, gz_c1P 10 0 m_isHold_p m_isHold), (10, gz_if 13 21 (fun x => x = 0) (fun x => ¬ x = 0)), (13, gz_lda 14 0), (14, gz_ldi 15 1), (15, gz_c1P 18 0 m_isOpen_p m_isOpen), (18, gz_if 21 23 (fun x => ¬ x = 0) (fun x => x = 0)), (21, gz_push 22 (gz_i 0)), (22, gz_iret), (23, gz_lda 24 0), (24, gz_ldi 25 1), (25, gz_push 26 (gz_i 5)), (26, gz_c2V 29 0 m_ends_p m_ends), (29, gz_push 30 (gz_i 1)), (30, gz_iret)]
set_option maxRecDepth 100000 in
set_option maxHeartbeats 4000000 in
theorem m_cancel_d {Kr : Option Int32 → q_S → Prop} (u : q_S) (v1 : Int32) (hp : m_cancel_p u v1) (hk : Kr (some ((m_cancel u v1)).1) ((m_cancel u v1)).2) : gz_does m_cancel_t Kr [(0, gz_r 0), (1, gz_i v1)] u := by
  intro Z hZ
  refine hZ.1 [] 500 0 _ _ _ ?_
  unfold m_cancel_p at hp
  have n1 := hp.1
  refine And.intro n1 ?_
  have hp := hp.2
  refine And.intro (fun (h2 : (m_isHold (q_th_s u 0) v1) = 0) => ?_) (fun (h2 : ¬ (m_isHold (q_th_s u 0) v1) = 0) => ?_)
  · rw [show m_cancel u v1 = (0, (q_th_s u 0)) from (by unfold m_cancel; rw [if_pos h2])] at hk
    exact hk
  · have hp := hp.2 h2
    have n3 := hp.1
    refine And.intro n3 ?_
    have hp := hp.2
    refine And.intro (fun (h4 : ¬ (m_isOpen (q_th_s u 0) v1) = 0) => ?_) (fun (h4 : (m_isOpen (q_th_s u 0) v1) = 0) => ?_)
    · have hp := hp.2 h4
      have n5 := hp
      refine And.intro n5 ?_
      rw [show m_cancel u v1 = (1, (m_ends (q_th_s u 0) v1 5)) from (by unfold m_cancel; rw [if_neg h2, if_neg h4])] at hk
      exact hk
    · rw [show m_cancel u v1 = (0, (q_th_s u 0)) from (by unfold m_cancel; rw [if_neg h2, if_pos h4])] at hk
      exact hk
-- HoldQueueModel.tick(J)I
def m_tick_l34_b (rec : Int64 → Int32 → Int32 → q_S → Int32 × q_S) (v1 : Int64) (v3 : Int32) (v4 : Int32) (u : q_S) : Int32 × q_S := (if (q_nh u) < v4 then (v3, u) else (if (q_hs u (Int32.toNatClampNeg v4)) = 2 then (if 0 ≤ (lg_cmp (q_he u (Int32.toNatClampNeg v4)) (q_td u)) then (rec v1 v3 (v4 + 1) u) else (rec v1 (v3 + 1) (v4 + 1) (m_ends u v4 4))) else (rec v1 v3 (v4 + 1) u)))
def m_tick_l34 : Nat → Int64 → Int32 → Int32 → q_S → Int32 × q_S
  | 0, _, _, _, u => (0, u)
  | n + 1, v1, v3, v4, u => m_tick_l34_b (m_tick_l34 n) v1 v3 v4 u
def m_tick_l34_pb (rec : Int64 → Int32 → Int32 → q_S → Prop) (v1 : Int64) (v3 : Int32) (v4 : Int32) (u : q_S) : Prop := (((q_nh u) < v4 → True) ∧ (¬ (q_nh u) < v4 → (vp_in v4 121 ∧ (((q_hs u (Int32.toNatClampNeg v4)) = 2 → ((0 ≤ (lg_cmp (q_he u (Int32.toNatClampNeg v4)) (q_td u)) → (rec v1 v3 (v4 + 1) u)) ∧ (¬ 0 ≤ (lg_cmp (q_he u (Int32.toNatClampNeg v4)) (q_td u)) → (m_ends_p u v4 4 ∧ (rec v1 (v3 + 1) (v4 + 1) (m_ends u v4 4)))))) ∧ (¬ (q_hs u (Int32.toNatClampNeg v4)) = 2 → (rec v1 v3 (v4 + 1) u))))))
def m_tick_l34_p : Nat → Int64 → Int32 → Int32 → q_S → Prop
  | 0, _, _, _, _ => False
  | n + 1, v1, v3, v4, u => m_tick_l34_pb (m_tick_l34_p n) v1 v3 v4 u
def m_tick (u : q_S) (v1 : Int64) : Int32 × q_S := (if (lg_cmp v1 (q_td u)) ≤ 0 then ((-1), (q_th_s u 0)) else (if (lg_cmp v1 1000000000) ≤ 0 then (m_tick_l34 200 v1 0 1 (q_td_s (q_th_s u 0) v1)) else ((-1), (q_th_s u 0))))
def m_tick_r (u : q_S) (v1 : Int64) : Int32 := (m_tick u v1).1
def m_tick_s (u : q_S) (v1 : Int64) : q_S := (m_tick u v1).2
def m_tick_p (u : q_S) (v1 : Int64) : Prop := (((lg_cmp v1 (q_td u)) ≤ 0 → True) ∧ (¬ (lg_cmp v1 (q_td u)) ≤ 0 → (((lg_cmp v1 1000000000) ≤ 0 → (m_tick_l34_p 200 v1 0 1 (q_td_s (q_th_s u 0) v1))) ∧ (¬ (lg_cmp v1 1000000000) ≤ 0 → True))))
def m_tick_t : List (Nat × gz_T q_S) := [(0, gz_lda 1 0), (1, gz_push 2 (gz_i 0)), (2, gz_putI 5 0 q_th_s), (5, gz_ldl 6 1), (6, gz_lda 7 0), (7, gz_getL 10 0 q_td), (10, gz_lcmp 11), (11, gz_if 14 22 (fun x => x ≤ 0) (fun x => ¬ x ≤ 0)), (14, gz_ldl 15 1), (15, gz_push 18 (gz_l 1000000000)), (18, gz_lcmp 19), (19, gz_if 22 24 (fun x => x ≤ 0) (fun x => ¬ x ≤ 0)), (22, gz_push 23 (gz_i (-1))), (23, gz_iret), (24, gz_lda 25 0), (25, gz_ldl 26 1), (26, gz_putL 29 0 q_td_s), (29, gz_push 30 (gz_i 0)), (30, gz_stor 31 3), (31, gz_push 32 (gz_i 1)), (32, gz_stor 34 4), (34, gz_ldi 36 4), (36, gz_lda 37 0), (37, gz_getI 40 0 q_nh), (40, gz_if2 43 85 (fun x y => y < x) (fun x y => ¬ y < x)), (43, gz_lda 44 0), (44, gz_getR 47 0 12), (47, gz_ldi 49 4), (49, gz_ild 50 m_ai), (50, gz_push 51 (gz_i 2)), (51, gz_if2 54 79 (fun x y => ¬ x = y) (fun x y => x = y)), (54, gz_lda 55 0), (55, gz_getR 58 0 15), (58, gz_ldi 60 4), (60, gz_lld 61 m_al), (61, gz_lda 62 0), (62, gz_getL 65 0 q_td), (65, gz_lcmp 66), (66, gz_if 69 79 (fun x => 0 ≤ x) (fun x => ¬ 0 ≤ x)), (69, gz_lda 70 0), (70, gz_ldi 72 4), (72, gz_push 73 (gz_i 4)), (73, gz_c2V 76 0 m_ends_p m_ends), (76, gz_iinc 79 3 1), (79, gz_iinc 82 4 1), (82, gz_goto 34), (85, gz_ldi 86 3), (86, gz_iret)]
set_option maxRecDepth 100000 in
set_option maxHeartbeats 4000000 in
theorem m_tick_l34_d {Kr : Option Int32 → q_S → Prop} {Z : gz_K q_S} (hZ : gz_shut m_tick_t Kr Z) : ∀ (n : Nat) (v1 : Int64) (v3 : Int32) (v4 : Int32) (u : q_S), m_tick_l34_p n v1 v3 v4 u → Kr (some ((m_tick_l34 n v1 v3 v4 u)).1) ((m_tick_l34 n v1 v3 v4 u)).2 → Z 34 [(0, gz_r 0), (1, gz_l v1), (3, gz_i v3), (4, gz_i v4)] [] u := by
  intro n
  induction n with
  | zero => intro v1 v3 v4 u hp _; exact False.elim hp
  | succ n ih =>
  intro v1 v3 v4 u hp hk
  refine hZ.1 [34] 500 34 _ _ _ ?_
  have hp : m_tick_l34_pb (m_tick_l34_p n) v1 v3 v4 u := hp
  refine And.intro (fun (h1 : (q_nh u) < v4) => ?_) (fun (h1 : ¬ (q_nh u) < v4) => ?_)
  · rw [show m_tick_l34 (n + 1) v1 v3 v4 u = (v3, u) from (by unfold m_tick_l34_b; rw [if_pos h1] : m_tick_l34_b (m_tick_l34 n) v1 v3 v4 u = (v3, u))] at hk
    exact hk
  · have hp := hp.2 h1
    have n2 := hp.1
    refine And.intro n2 ?_
    have hp := hp.2
    refine And.intro (fun (h3 : ¬ (q_hs u (Int32.toNatClampNeg v4)) = 2) => ?_) (fun (h3 : (q_hs u (Int32.toNatClampNeg v4)) = 2) => ?_)
    · have hp := hp.2 h3
      rw [show m_tick_l34 (n + 1) v1 v3 v4 u = (m_tick_l34 n v1 v3 (v4 + 1) u) from (by unfold m_tick_l34_b; rw [if_neg h1, if_neg h3] : m_tick_l34_b (m_tick_l34 n) v1 v3 v4 u = (m_tick_l34 n v1 v3 (v4 + 1) u))] at hk
      exact ih v1 v3 (v4 + 1) u hp hk
    · have hp := hp.1 h3
      refine And.intro n2 ?_
      refine And.intro (fun (h4 : 0 ≤ (lg_cmp (q_he u (Int32.toNatClampNeg v4)) (q_td u))) => ?_) (fun (h4 : ¬ 0 ≤ (lg_cmp (q_he u (Int32.toNatClampNeg v4)) (q_td u))) => ?_)
      · have hp := hp.1 h4
        rw [show m_tick_l34 (n + 1) v1 v3 v4 u = (m_tick_l34 n v1 v3 (v4 + 1) u) from (by unfold m_tick_l34_b; rw [if_neg h1, if_pos h3, if_pos h4] : m_tick_l34_b (m_tick_l34 n) v1 v3 v4 u = (m_tick_l34 n v1 v3 (v4 + 1) u))] at hk
        exact ih v1 v3 (v4 + 1) u hp hk
      · have hp := hp.2 h4
        have n5 := hp.1
        refine And.intro n5 ?_
        have hp := hp.2
        rw [show m_tick_l34 (n + 1) v1 v3 v4 u = (m_tick_l34 n v1 (v3 + 1) (v4 + 1) (m_ends u v4 4)) from (by unfold m_tick_l34_b; rw [if_neg h1, if_pos h3, if_neg h4] : m_tick_l34_b (m_tick_l34 n) v1 v3 v4 u = (m_tick_l34 n v1 (v3 + 1) (v4 + 1) (m_ends u v4 4)))] at hk
        exact ih v1 (v3 + 1) (v4 + 1) (m_ends u v4 4) hp hk
set_option maxRecDepth 100000 in
set_option maxHeartbeats 4000000 in
theorem m_tick_d {Kr : Option Int32 → q_S → Prop} (u : q_S) (v1 : Int64) (hp : m_tick_p u v1) (hk : Kr (some ((m_tick u v1)).1) ((m_tick u v1)).2) : gz_does m_tick_t Kr [(0, gz_r 0), (1, gz_l v1)] u := by
  intro Z hZ
  refine hZ.1 [34] 500 0 _ _ _ ?_
  unfold m_tick_p at hp
  refine And.intro (fun (h1 : (lg_cmp v1 (q_td u)) ≤ 0) => ?_) (fun (h1 : ¬ (lg_cmp v1 (q_td u)) ≤ 0) => ?_)
  · rw [show m_tick u v1 = ((-1), (q_th_s u 0)) from (by unfold m_tick; rw [if_pos h1])] at hk
    exact hk
  · have hp := hp.2 h1
    refine And.intro (fun (h2 : (lg_cmp v1 1000000000) ≤ 0) => ?_) (fun (h2 : ¬ (lg_cmp v1 1000000000) ≤ 0) => ?_)
    · have hp := hp.1 h2
      rw [show m_tick u v1 = (m_tick_l34 200 v1 0 1 (q_td_s (q_th_s u 0) v1)) from (by unfold m_tick; rw [if_neg h1, if_pos h2])] at hk
      exact m_tick_l34_d hZ 200 v1 0 1 (q_td_s (q_th_s u 0) v1) hp hk
    · rw [show m_tick u v1 = ((-1), (q_th_s u 0)) from (by unfold m_tick; rw [if_neg h1, if_neg h2])] at hk
      exact hk
-- HoldQueueModel.span(I)I
def m_span (u : q_S) (v1 : Int32) : Int32 × q_S := (if (m_in v1 1 99) = 0 then ((-1), (q_th_s u 0)) else ((q_sp u), (q_sp_s (q_th_s u 0) v1)))
def m_span_r (u : q_S) (v1 : Int32) : Int32 := (m_span u v1).1
def m_span_s (u : q_S) (v1 : Int32) : q_S := (m_span u v1).2
def m_span_p (u : q_S) (v1 : Int32) : Prop := True
def m_span_t : List (Nat × gz_T q_S) := [(0, gz_lda 1 0), (1, gz_push 2 (gz_i 0)), (2, gz_putI 5 0 q_th_s), (5, gz_ldi 6 1), (6, gz_push 7 (gz_i 1)), (7, gz_push 9 (gz_i 99)), (9, gz_s3P 12 m_in), (12, gz_if 15 17 (fun x => ¬ x = 0) (fun x => x = 0)), (15, gz_push 16 (gz_i (-1))), (16, gz_iret), (17, gz_lda 18 0), (18, gz_getI 21 0 q_sp), (21, gz_stor 22 2), (22, gz_lda 23 0), (23, gz_ldi 24 1), (24, gz_putI 27 0 q_sp_s), (27, gz_ldi 28 2), (28, gz_iret)]
set_option maxRecDepth 100000 in
set_option maxHeartbeats 4000000 in
theorem m_span_d {Kr : Option Int32 → q_S → Prop} (u : q_S) (v1 : Int32) (hk : Kr (some ((m_span u v1)).1) ((m_span u v1)).2) : gz_does m_span_t Kr [(0, gz_r 0), (1, gz_i v1)] u := by
  intro Z hZ
  refine hZ.1 [] 500 0 _ _ _ ?_
  refine And.intro (fun (h1 : ¬ (m_in v1 1 99) = 0) => ?_) (fun (h1 : (m_in v1 1 99) = 0) => ?_)
  · rw [show m_span u v1 = ((q_sp u), (q_sp_s (q_th_s u 0) v1)) from (by unfold m_span; rw [if_neg h1])] at hk
    exact hk
  · rw [show m_span u v1 = ((-1), (q_th_s u 0)) from (by unfold m_span; rw [if_pos h1])] at hk
    exact hk
-- HoldQueueModel.rank(II)I
def m_rank (u : q_S) (v1 : Int32) (v2 : Int32) : Int32 × q_S := (if (m_isWaiting (q_th_s u 0) v1) = 0 then ((-1), (q_th_s u 0)) else ((m_placeOf (q_hk_u (q_th_s u 0) v1 v2) v1), (q_hk_u (q_th_s u 0) v1 v2)))
def m_rank_r (u : q_S) (v1 : Int32) (v2 : Int32) : Int32 := (m_rank u v1 v2).1
def m_rank_s (u : q_S) (v1 : Int32) (v2 : Int32) : q_S := (m_rank u v1 v2).2
def m_rank_p (u : q_S) (v1 : Int32) (v2 : Int32) : Prop := (m_isWaiting_p (q_th_s u 0) v1 ∧ (((m_isWaiting (q_th_s u 0) v1) = 0 → True) ∧ (¬ (m_isWaiting (q_th_s u 0) v1) = 0 → (vp_in v1 121 ∧ (m_placeOf_p (q_hk_u (q_th_s u 0) v1 v2) v1)))))
def m_rank_t : List (Nat × gz_T q_S) := [(0, gz_lda 1 0), (1, gz_push 2 (gz_i 0)), (2, gz_putI 5 0 q_th_s), (5, gz_lda 6 0), (6, gz_ldi 7 1), (7, gz_c1P 10 0 m_isWaiting_p m_isWaiting), (10, gz_if 13 15 (fun x => ¬ x = 0) (fun x => x = 0)), (13, gz_push 14 (gz_i (-1))), (14, gz_iret), (15, gz_lda 16 0), (16, gz_getR 19 0 11), (19, gz_ldi 20 1), (20, gz_ldi 21 2), (21, gz_ist 22 m_ai), (22, gz_lda 23 0), (23, gz_ldi 24 1), (24, gz_c1P 27 0 m_placeOf_p m_placeOf), (27, gz_iret)]
set_option maxRecDepth 100000 in
set_option maxHeartbeats 4000000 in
theorem m_rank_d {Kr : Option Int32 → q_S → Prop} (u : q_S) (v1 : Int32) (v2 : Int32) (hp : m_rank_p u v1 v2) (hk : Kr (some ((m_rank u v1 v2)).1) ((m_rank u v1 v2)).2) : gz_does m_rank_t Kr [(0, gz_r 0), (1, gz_i v1), (2, gz_i v2)] u := by
  intro Z hZ
  refine hZ.1 [] 500 0 _ _ _ ?_
  unfold m_rank_p at hp
  have n1 := hp.1
  refine And.intro n1 ?_
  have hp := hp.2
  refine And.intro (fun (h2 : ¬ (m_isWaiting (q_th_s u 0) v1) = 0) => ?_) (fun (h2 : (m_isWaiting (q_th_s u 0) v1) = 0) => ?_)
  · have hp := hp.2 h2
    have n3 := hp.1
    refine And.intro n3 ?_
    have hp := hp.2
    have n4 := hp
    refine And.intro n4 ?_
    rw [show m_rank u v1 v2 = ((m_placeOf (q_hk_u (q_th_s u 0) v1 v2) v1), (q_hk_u (q_th_s u 0) v1 v2)) from (by unfold m_rank; rw [if_neg h2])] at hk
    exact hk
  · rw [show m_rank u v1 v2 = ((-1), (q_th_s u 0)) from (by unfold m_rank; rw [if_pos h2])] at hk
    exact hk
-- HoldQueueModel.order(II)I
def m_order_l7_b (rec : Int32 → Int32 → Int32 → q_S → Int32 × q_S) (v1 : Int32) (v2 : Int32) (v3 : Int32) (u : q_S) : Int32 × q_S := (if (q_nh u) < v3 then (0, u) else (if (q_hs u (Int32.toNatClampNeg v3)) = 0 then (if (q_hr u (Int32.toNatClampNeg v3)) = v1 then (if (m_placeOf u v3) = v2 then (v3, u) else (rec v1 v2 (v3 + 1) u)) else (rec v1 v2 (v3 + 1) u)) else (rec v1 v2 (v3 + 1) u)))
def m_order_l7 : Nat → Int32 → Int32 → Int32 → q_S → Int32 × q_S
  | 0, _, _, _, u => (0, u)
  | n + 1, v1, v2, v3, u => m_order_l7_b (m_order_l7 n) v1 v2 v3 u
def m_order_l7_pb (rec : Int32 → Int32 → Int32 → q_S → Prop) (v1 : Int32) (v2 : Int32) (v3 : Int32) (u : q_S) : Prop := (((q_nh u) < v3 → True) ∧ (¬ (q_nh u) < v3 → (vp_in v3 121 ∧ (((q_hs u (Int32.toNatClampNeg v3)) = 0 → (((q_hr u (Int32.toNatClampNeg v3)) = v1 → (m_placeOf_p u v3 ∧ (((m_placeOf u v3) = v2 → True) ∧ (¬ (m_placeOf u v3) = v2 → (rec v1 v2 (v3 + 1) u))))) ∧ (¬ (q_hr u (Int32.toNatClampNeg v3)) = v1 → (rec v1 v2 (v3 + 1) u)))) ∧ (¬ (q_hs u (Int32.toNatClampNeg v3)) = 0 → (rec v1 v2 (v3 + 1) u))))))
def m_order_l7_p : Nat → Int32 → Int32 → Int32 → q_S → Prop
  | 0, _, _, _, _ => False
  | n + 1, v1, v2, v3, u => m_order_l7_pb (m_order_l7_p n) v1 v2 v3 u
def m_order (u : q_S) (v1 : Int32) (v2 : Int32) : Int32 × q_S := (m_order_l7 200 v1 v2 1 (q_th_s u 0))
def m_order_r (u : q_S) (v1 : Int32) (v2 : Int32) : Int32 := (m_order u v1 v2).1
def m_order_s (u : q_S) (v1 : Int32) (v2 : Int32) : q_S := (m_order u v1 v2).2
def m_order_p (u : q_S) (v1 : Int32) (v2 : Int32) : Prop := (m_order_l7_p 200 v1 v2 1 (q_th_s u 0))
def m_order_t : List (Nat × gz_T q_S) := [(0, gz_lda 1 0), (1, gz_push 2 (gz_i 0)), (2, gz_putI 5 0 q_th_s), (5, gz_push 6 (gz_i 1)), (6, gz_stor 7 3), (7, gz_ldi 8 3), (8, gz_lda 9 0), (9, gz_getI 12 0 q_nh), (12, gz_if2 15 51 (fun x y => y < x) (fun x y => ¬ y < x)), (15, gz_lda 16 0), (16, gz_getR 19 0 12), (19, gz_ldi 20 3), (20, gz_ild 21 m_ai), (21, gz_if 24 45 (fun x => ¬ x = 0) (fun x => x = 0)), (24, gz_lda 25 0), (25, gz_getR 28 0 9), (28, gz_ldi 29 3), (29, gz_ild 30 m_ai), (30, gz_ldi 31 1), (31, gz_if2 34 45 (fun x y => ¬ x = y) (fun x y => x = y)), (34, gz_lda 35 0), (35, gz_ldi 36 3), (36, gz_c1P 39 0 m_placeOf_p m_placeOf), (39, gz_ldi 40 2), (40, gz_if2 43 45 (fun x y => ¬ x = y) (fun x y => x = y)), (43, gz_ldi 44 3), (44, gz_iret), (45, gz_iinc 48 3 1), (48, gz_goto 7), (51, gz_push 52 (gz_i 0)), (52, gz_iret)]
set_option maxRecDepth 100000 in
set_option maxHeartbeats 4000000 in
theorem m_order_l7_d {Kr : Option Int32 → q_S → Prop} {Z : gz_K q_S} (hZ : gz_shut m_order_t Kr Z) : ∀ (n : Nat) (v1 : Int32) (v2 : Int32) (v3 : Int32) (u : q_S), m_order_l7_p n v1 v2 v3 u → Kr (some ((m_order_l7 n v1 v2 v3 u)).1) ((m_order_l7 n v1 v2 v3 u)).2 → Z 7 [(0, gz_r 0), (1, gz_i v1), (2, gz_i v2), (3, gz_i v3)] [] u := by
  intro n
  induction n with
  | zero => intro v1 v2 v3 u hp _; exact False.elim hp
  | succ n ih =>
  intro v1 v2 v3 u hp hk
  refine hZ.1 [7] 500 7 _ _ _ ?_
  have hp : m_order_l7_pb (m_order_l7_p n) v1 v2 v3 u := hp
  refine And.intro (fun (h1 : (q_nh u) < v3) => ?_) (fun (h1 : ¬ (q_nh u) < v3) => ?_)
  · rw [show m_order_l7 (n + 1) v1 v2 v3 u = (0, u) from (by unfold m_order_l7_b; rw [if_pos h1] : m_order_l7_b (m_order_l7 n) v1 v2 v3 u = (0, u))] at hk
    exact hk
  · have hp := hp.2 h1
    have n2 := hp.1
    refine And.intro n2 ?_
    have hp := hp.2
    refine And.intro (fun (h3 : ¬ (q_hs u (Int32.toNatClampNeg v3)) = 0) => ?_) (fun (h3 : (q_hs u (Int32.toNatClampNeg v3)) = 0) => ?_)
    · have hp := hp.2 h3
      rw [show m_order_l7 (n + 1) v1 v2 v3 u = (m_order_l7 n v1 v2 (v3 + 1) u) from (by unfold m_order_l7_b; rw [if_neg h1, if_neg h3] : m_order_l7_b (m_order_l7 n) v1 v2 v3 u = (m_order_l7 n v1 v2 (v3 + 1) u))] at hk
      exact ih v1 v2 (v3 + 1) u hp hk
    · have hp := hp.1 h3
      refine And.intro n2 ?_
      refine And.intro (fun (h4 : ¬ (q_hr u (Int32.toNatClampNeg v3)) = v1) => ?_) (fun (h4 : (q_hr u (Int32.toNatClampNeg v3)) = v1) => ?_)
      · have hp := hp.2 h4
        rw [show m_order_l7 (n + 1) v1 v2 v3 u = (m_order_l7 n v1 v2 (v3 + 1) u) from (by unfold m_order_l7_b; rw [if_neg h1, if_pos h3, if_neg h4] : m_order_l7_b (m_order_l7 n) v1 v2 v3 u = (m_order_l7 n v1 v2 (v3 + 1) u))] at hk
        exact ih v1 v2 (v3 + 1) u hp hk
      · have hp := hp.1 h4
        have n5 := hp.1
        refine And.intro n5 ?_
        have hp := hp.2
        refine And.intro (fun (h6 : ¬ (m_placeOf u v3) = v2) => ?_) (fun (h6 : (m_placeOf u v3) = v2) => ?_)
        · have hp := hp.2 h6
          rw [show m_order_l7 (n + 1) v1 v2 v3 u = (m_order_l7 n v1 v2 (v3 + 1) u) from (by unfold m_order_l7_b; rw [if_neg h1, if_pos h3, if_pos h4, if_neg h6] : m_order_l7_b (m_order_l7 n) v1 v2 v3 u = (m_order_l7 n v1 v2 (v3 + 1) u))] at hk
          exact ih v1 v2 (v3 + 1) u hp hk
        · rw [show m_order_l7 (n + 1) v1 v2 v3 u = (v3, u) from (by unfold m_order_l7_b; rw [if_neg h1, if_pos h3, if_pos h4, if_pos h6] : m_order_l7_b (m_order_l7 n) v1 v2 v3 u = (v3, u))] at hk
          exact hk
set_option maxRecDepth 100000 in
set_option maxHeartbeats 4000000 in
theorem m_order_d {Kr : Option Int32 → q_S → Prop} (u : q_S) (v1 : Int32) (v2 : Int32) (hp : m_order_p u v1 v2) (hk : Kr (some ((m_order u v1 v2)).1) ((m_order u v1 v2)).2) : gz_does m_order_t Kr [(0, gz_r 0), (1, gz_i v1), (2, gz_i v2)] u := by
  intro Z hZ
  refine hZ.1 [7] 500 0 _ _ _ ?_
  unfold m_order_p at hp
  rw [show m_order u v1 v2 = (m_order_l7 200 v1 v2 1 (q_th_s u 0)) from rfl] at hk
  exact m_order_l7_d hZ 200 v1 v2 1 (q_th_s u 0) hp hk
-- HoldQueueModel.state(II)I
def m_state (u : q_S) (v1 : Int32) (v2 : Int32) : Int32 × q_S := (if (m_isHold (q_th_s u 0) v1) = 0 then ((-1), (q_th_s u 0)) else (if v2 = 0 then ((q_hs u (Int32.toNatClampNeg v1)), (q_th_s u 0)) else (if v2 = 1 then ((q_hy u (Int32.toNatClampNeg v1)), (q_th_s u 0)) else (if v2 = 2 then (if (q_hs u (Int32.toNatClampNeg v1)) = 0 then ((m_placeOf (q_th_s u 0) v1), (q_th_s u 0)) else ((-1), (q_th_s u 0))) else ((-1), (q_th_s u 0))))))
def m_state_r (u : q_S) (v1 : Int32) (v2 : Int32) : Int32 := (m_state u v1 v2).1
def m_state_s (u : q_S) (v1 : Int32) (v2 : Int32) : q_S := (m_state u v1 v2).2
def m_state_p (u : q_S) (v1 : Int32) (v2 : Int32) : Prop := (m_isHold_p (q_th_s u 0) v1 ∧ (((m_isHold (q_th_s u 0) v1) = 0 → True) ∧ (¬ (m_isHold (q_th_s u 0) v1) = 0 → ((v2 = 0 → (vp_in v1 121)) ∧ (¬ v2 = 0 → ((v2 = 1 → (vp_in v1 121)) ∧ (¬ v2 = 1 → ((v2 = 2 → (vp_in v1 121 ∧ (((q_hs u (Int32.toNatClampNeg v1)) = 0 → (m_placeOf_p (q_th_s u 0) v1)) ∧ (¬ (q_hs u (Int32.toNatClampNeg v1)) = 0 → True)))) ∧ (¬ v2 = 2 → True)))))))))
def m_state_t : List (Nat × gz_T q_S) := [(0, gz_lda 1 0), (1, gz_push 2 (gz_i 0)), (2, gz_putI 5 0 q_th_s), (5, gz_lda 6 0), (6, gz_ldi 7 1), (7, gz_c1P 10 0 m_isHold_p m_isHold), (10, gz_if 13 15 (fun x => ¬ x = 0) (fun x => x = 0)), (13, gz_push 14 (gz_i (-1))), (14, gz_iret), (15, gz_ldi 16 2), (16, gz_sw [(0, 44), (1, 51), (2, 58)] 77), (44, gz_lda 45 0), (45, gz_getR 48 0 12), (48, gz_ldi 49 1), (49, gz_ild 50 m_ai), (50, gz_iret), (51, gz_lda 52 0), (52, gz_getR 55 0 13), (55, gz_ldi 56 1), (56, gz_ild 57 m_ai), (57, gz_iret), (58, gz_lda 59 0), (59, gz_getR 62 0 12), (62, gz_ldi 63 1), (63, gz_ild 64 m_ai), (64, gz_if 67 75 (fun x => ¬ x = 0) (fun x => x = 0)), (67, gz_lda 68 0), (68, gz_ldi 69 1), (69, gz_c1P 72 0 m_placeOf_p m_placeOf), (72, gz_goto 76), (75, gz_push 76 (gz_i (-1))), (76, gz_iret), (77, gz_push 78 (gz_i (-1))), (78, gz_iret)]
set_option maxRecDepth 100000 in
set_option maxHeartbeats 4000000 in
theorem m_state_d {Kr : Option Int32 → q_S → Prop} (u : q_S) (v1 : Int32) (v2 : Int32) (hp : m_state_p u v1 v2) (hk : Kr (some ((m_state u v1 v2)).1) ((m_state u v1 v2)).2) : gz_does m_state_t Kr [(0, gz_r 0), (1, gz_i v1), (2, gz_i v2)] u := by
  intro Z hZ
  refine hZ.1 [] 500 0 _ _ _ ?_
  unfold m_state_p at hp
  have n1 := hp.1
  refine And.intro n1 ?_
  have hp := hp.2
  refine And.intro (fun (h2 : ¬ (m_isHold (q_th_s u 0) v1) = 0) => ?_) (fun (h2 : (m_isHold (q_th_s u 0) v1) = 0) => ?_)
  · have hp := hp.2 h2
    refine And.intro (fun (h3 : v2 = 0) => ?_) (fun (h3 : ¬ v2 = 0) => ?_)
    · have hp := hp.1 h3
      have n4 := hp
      refine And.intro n4 ?_
      rw [show m_state u v1 v2 = ((q_hs u (Int32.toNatClampNeg v1)), (q_th_s u 0)) from (by unfold m_state; rw [if_neg h2, if_pos h3])] at hk
      exact hk
    · have hp := hp.2 h3
      refine And.intro (fun (h5 : v2 = 1) => ?_) (fun (h5 : ¬ v2 = 1) => ?_)
      · have hp := hp.1 h5
        have n6 := hp
        refine And.intro n6 ?_
        rw [show m_state u v1 v2 = ((q_hy u (Int32.toNatClampNeg v1)), (q_th_s u 0)) from (by unfold m_state; rw [if_neg h2, if_neg h3, if_pos h5])] at hk
        exact hk
      · have hp := hp.2 h5
        refine And.intro (fun (h7 : v2 = 2) => ?_) (fun (h7 : ¬ v2 = 2) => ?_)
        · have hp := hp.1 h7
          have n8 := hp.1
          refine And.intro n8 ?_
          have hp := hp.2
          refine And.intro (fun (h9 : ¬ (q_hs u (Int32.toNatClampNeg v1)) = 0) => ?_) (fun (h9 : (q_hs u (Int32.toNatClampNeg v1)) = 0) => ?_)
          · rw [show m_state u v1 v2 = ((-1), (q_th_s u 0)) from (by unfold m_state; rw [if_neg h2, if_neg h3, if_neg h5, if_pos h7, if_neg h9])] at hk
            exact hk
          · have hp := hp.1 h9
            have n10 := hp
            refine And.intro n10 ?_
            rw [show m_state u v1 v2 = ((m_placeOf (q_th_s u 0) v1), (q_th_s u 0)) from (by unfold m_state; rw [if_neg h2, if_neg h3, if_neg h5, if_pos h7, if_pos h9])] at hk
            exact hk
        · rw [show m_state u v1 v2 = ((-1), (q_th_s u 0)) from (by unfold m_state; rw [if_neg h2, if_neg h3, if_neg h5, if_neg h7])] at hk
          exact hk
  · rw [show m_state u v1 v2 = ((-1), (q_th_s u 0)) from (by unfold m_state; rw [if_pos h2])] at hk
    exact hk
-- HoldQueueModel.where(II)I
def m_where (u : q_S) (v1 : Int32) (v2 : Int32) : Int32 × q_S := (if (m_in v1 1 (q_nc u)) = 0 then ((-1), (q_th_s u 0)) else (if v2 = 0 then ((q_cs u (Int32.toNatClampNeg v1)), (q_th_s u 0)) else (if v2 = 1 then ((q_cp u (Int32.toNatClampNeg v1)), (q_th_s u 0)) else (if v2 = 2 then ((q_ch u (Int32.toNatClampNeg v1)), (q_th_s u 0)) else ((-1), (q_th_s u 0))))))
def m_where_r (u : q_S) (v1 : Int32) (v2 : Int32) : Int32 := (m_where u v1 v2).1
def m_where_s (u : q_S) (v1 : Int32) (v2 : Int32) : q_S := (m_where u v1 v2).2
def m_where_p (u : q_S) (v1 : Int32) (v2 : Int32) : Prop := (((m_in v1 1 (q_nc u)) = 0 → True) ∧ (¬ (m_in v1 1 (q_nc u)) = 0 → ((v2 = 0 → (vp_in v1 61)) ∧ (¬ v2 = 0 → ((v2 = 1 → (vp_in v1 61)) ∧ (¬ v2 = 1 → ((v2 = 2 → (vp_in v1 61)) ∧ (¬ v2 = 2 → True))))))))
def m_where_t : List (Nat × gz_T q_S) := [(0, gz_lda 1 0), (1, gz_push 2 (gz_i 0)), (2, gz_putI 5 0 q_th_s), (5, gz_ldi 6 1), (6, gz_push 7 (gz_i 1)), (7, gz_lda 8 0), (8, gz_getI 11 0 q_nc), (11, gz_s3P 14 m_in), (14, gz_if 17 19 (fun x => ¬ x = 0) (fun x => x = 0)), (17, gz_push 18 (gz_i (-1))), (18, gz_iret), (19, gz_ldi 20 2), (20, gz_sw [(0, 48), (1, 55), (2, 62)] 69), (48, gz_lda 49 0), (49, gz_getR 52 0 5), (52, gz_ldi 53 1), (53, gz_ild 54 m_ai), (54, gz_iret), (55, gz_lda 56 0), (56, gz_getR 59 0 6), (59, gz_ldi 60 1), (60, gz_ild 61 m_ai), (61, gz_iret), (62, gz_lda 63 0), (63, gz_getR 66 0 7), (66, gz_ldi 67 1), (67, gz_ild 68 m_ai), (68, gz_iret), (69, gz_push 70 (gz_i (-1))), (70, gz_iret)]
set_option maxRecDepth 100000 in
set_option maxHeartbeats 4000000 in
theorem m_where_d {Kr : Option Int32 → q_S → Prop} (u : q_S) (v1 : Int32) (v2 : Int32) (hp : m_where_p u v1 v2) (hk : Kr (some ((m_where u v1 v2)).1) ((m_where u v1 v2)).2) : gz_does m_where_t Kr [(0, gz_r 0), (1, gz_i v1), (2, gz_i v2)] u := by
  intro Z hZ
  refine hZ.1 [] 500 0 _ _ _ ?_
  unfold m_where_p at hp
  refine And.intro (fun (h1 : ¬ (m_in v1 1 (q_nc u)) = 0) => ?_) (fun (h1 : (m_in v1 1 (q_nc u)) = 0) => ?_)
  · have hp := hp.2 h1
    refine And.intro (fun (h2 : v2 = 0) => ?_) (fun (h2 : ¬ v2 = 0) => ?_)
    · have hp := hp.1 h2
      have n3 := hp
      refine And.intro n3 ?_
      rw [show m_where u v1 v2 = ((q_cs u (Int32.toNatClampNeg v1)), (q_th_s u 0)) from (by unfold m_where; rw [if_neg h1, if_pos h2])] at hk
      exact hk
    · have hp := hp.2 h2
      refine And.intro (fun (h4 : v2 = 1) => ?_) (fun (h4 : ¬ v2 = 1) => ?_)
      · have hp := hp.1 h4
        have n5 := hp
        refine And.intro n5 ?_
        rw [show m_where u v1 v2 = ((q_cp u (Int32.toNatClampNeg v1)), (q_th_s u 0)) from (by unfold m_where; rw [if_neg h1, if_neg h2, if_pos h4])] at hk
        exact hk
      · have hp := hp.2 h4
        refine And.intro (fun (h6 : v2 = 2) => ?_) (fun (h6 : ¬ v2 = 2) => ?_)
        · have hp := hp.1 h6
          have n7 := hp
          refine And.intro n7 ?_
          rw [show m_where u v1 v2 = ((q_ch u (Int32.toNatClampNeg v1)), (q_th_s u 0)) from (by unfold m_where; rw [if_neg h1, if_neg h2, if_neg h4, if_pos h6])] at hk
          exact hk
        · rw [show m_where u v1 v2 = ((-1), (q_th_s u 0)) from (by unfold m_where; rw [if_neg h1, if_neg h2, if_neg h4, if_neg h6])] at hk
          exact hk
  · rw [show m_where u v1 v2 = ((-1), (q_th_s u 0)) from (by unfold m_where; rw [if_pos h1])] at hk
    exact hk
