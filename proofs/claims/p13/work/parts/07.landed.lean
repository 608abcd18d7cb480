-- HoldQueue.isKind(I)Z
def x_isKind  (v0 : Int32) : Int32 := (if v0 < 0 then 0 else (if 4 ≤ v0 then 0 else 1))
def x_isKind_t : List (Nat × gz_T q_S) := [(0, gz_ldi 1 0), (1, gz_if 4 13 (fun x => x < 0) (fun x => ¬ x < 0)), (4, gz_ldi 5 0), (5, gz_push 6 (gz_i 4)), (6, gz_if2 9 13 (fun x y => y ≤ x) (fun x y => ¬ y ≤ x)), (9, gz_push 10 (gz_i 1)), (10, gz_goto 14), (13, gz_push 14 (gz_i 0)), (14, gz_zret)]
set_option maxRecDepth 100000 in
set_option maxHeartbeats 4000000 in
theorem x_isKind_d {Kr : Option Int32 → q_S → Prop} (u : q_S) (v0 : Int32) (hk : Kr (some (x_isKind v0)) u) : gz_does x_isKind_t Kr [(0, gz_i v0)] u := by
  intro Z hZ
  refine hZ.1 [] 500 0 _ _ _ ?_
  refine And.intro (fun (h1 : v0 < 0) => ?_) (fun (h1 : ¬ v0 < 0) => ?_)
  · refine And.intro (by decide +kernel) ?_
    rw [show x_isKind v0 = 0 from (by unfold x_isKind; rw [if_pos h1])] at hk
    exact hk
  · refine And.intro (fun (h2 : 4 ≤ v0) => ?_) (fun (h2 : ¬ 4 ≤ v0) => ?_)
    · refine And.intro (by decide +kernel) ?_
      rw [show x_isKind v0 = 0 from (by unfold x_isKind; rw [if_neg h1, if_pos h2])] at hk
      exact hk
    · refine And.intro (by decide +kernel) ?_
      rw [show x_isKind v0 = 1 from (by unfold x_isKind; rw [if_neg h1, if_neg h2])] at hk
      exact hk
-- HoldQueue.record(I)I
def x_record (u : q_S) (v1 : Int32) : Int32 × q_S := (if (x_isKind v1) = 0 then (0, u) else (if (q_nr u) < 30 then (((q_nr u) + 1), (q_kd_u (q_nr_s u ((q_nr u) + 1)) ((q_nr u) + 1) v1)) else (0, u)))
def x_record_r (u : q_S) (v1 : Int32) : Int32 := (x_record u v1).1
def x_record_s (u : q_S) (v1 : Int32) : q_S := (x_record u v1).2
def x_record_p (u : q_S) (v1 : Int32) : Prop := (((x_isKind v1) = 0 → True) ∧ (¬ (x_isKind v1) = 0 → (((q_nr u) < 30 → (vp_in ((q_nr u) + 1) 31)) ∧ (¬ (q_nr u) < 30 → True))))
def x_record_t : List (Nat × gz_T q_S) := [(0, gz_ldi 1 1), (1, gz_s1P 4 x_isKind), (4, gz_if 7 16 (fun x => x = 0) (fun x => ¬ x = 0)), (7, gz_lda 8 0), (8, gz_getI 11 0 q_nr), (11, gz_push 13 (gz_i 30)), (13, gz_if2 16 18 (fun x y => x < y) (fun x y => ¬ x < y)), (16, gz_push 17 (gz_i 0)), (17, gz_iret), (18, gz_lda 19 0), (19, gz_dup 20), (20, gz_getI 23 0 q_nr), (23, gz_push 24 (gz_i 1)), (24, gz_iop 25 (fun x y => x + y)), (25, gz_putI 28 0 q_nr_s), (28, gz_lda 29 0), (29, gz_getR 32 0 3), (32, gz_lda 33 0), (33, gz_getI 36 0 q_nr), (36, gz_ldi 37 1), (37, gz_ist 38 x_ai), (38, gz_lda 39 0), (39, gz_getI 42 0 q_nr), (42, gz_iret)]
set_option maxRecDepth 100000 in
set_option maxHeartbeats 4000000 in
theorem x_record_d {Kr : Option Int32 → q_S → Prop} (u : q_S) (v1 : Int32) (hp : x_record_p u v1) (hk : Kr (some ((x_record u v1)).1) ((x_record u v1)).2) : gz_does x_record_t Kr [(0, gz_r 0), (1, gz_i v1)] u := by
  intro Z hZ
  refine hZ.1 [] 500 0 _ _ _ ?_
  unfold x_record_p at hp
  refine And.intro (fun (h1 : (x_isKind v1) = 0) => ?_) (fun (h1 : ¬ (x_isKind v1) = 0) => ?_)
  · rw [show x_record u v1 = (0, u) from (by unfold x_record; rw [if_pos h1])] at hk
    exact hk
  · have hp := hp.2 h1
    refine And.intro (fun (h2 : (q_nr u) < 30) => ?_) (fun (h2 : ¬ (q_nr u) < 30) => ?_)
    · have hp := hp.1 h2
      have n3 := hp
      refine And.intro n3 ?_
      rw [show x_record u v1 = (((q_nr u) + 1), (q_kd_u (q_nr_s u ((q_nr u) + 1)) ((q_nr u) + 1) v1)) from (by unfold x_record; rw [if_neg h1, if_pos h2])] at hk
      exact hk
    · rw [show x_record u v1 = (0, u) from (by unfold x_record; rw [if_neg h1, if_neg h2])] at hk
      exact hk
-- HoldQueue.isRecord(I)Z
def x_isRecord (u : q_S) (v1 : Int32) : Int32 := (if v1 < 1 then 0 else (if (q_nr u) < v1 then 0 else 1))
def x_isRecord_p (u : q_S) (v1 : Int32) : Prop := True
def x_isRecord_t : List (Nat × gz_T q_S) := [(0, gz_ldi 1 1), (1, gz_push 2 (gz_i 1)), (2, gz_if2 5 17 (fun x y => x < y) (fun x y => ¬ x < y)), (5, gz_ldi 6 1), (6, gz_lda 7 0), (7, gz_getI 10 0 q_nr), (10, gz_if2 13 17 (fun x y => y < x) (fun x y => ¬ y < x)), (13, gz_push 14 (gz_i 1)), (14, gz_goto 18), (17, gz_push 18 (gz_i 0)), (18, gz_zret)]
set_option maxRecDepth 100000 in
set_option maxHeartbeats 4000000 in
theorem x_isRecord_d {Kr : Option Int32 → q_S → Prop} (u : q_S) (v1 : Int32) (hk : Kr (some (x_isRecord u v1)) u) : gz_does x_isRecord_t Kr [(0, gz_r 0), (1, gz_i v1)] u := by
  intro Z hZ
  refine hZ.1 [] 500 0 _ _ _ ?_
  refine And.intro (fun (h1 : v1 < 1) => ?_) (fun (h1 : ¬ v1 < 1) => ?_)
  · refine And.intro (by decide +kernel) ?_
    rw [show x_isRecord u v1 = 0 from (by unfold x_isRecord; rw [if_pos h1])] at hk
    exact hk
  · refine And.intro (fun (h2 : (q_nr u) < v1) => ?_) (fun (h2 : ¬ (q_nr u) < v1) => ?_)
    · refine And.intro (by decide +kernel) ?_
      rw [show x_isRecord u v1 = 0 from (by unfold x_isRecord; rw [if_neg h1, if_pos h2])] at hk
      exact hk
    · refine And.intro (by decide +kernel) ?_
      rw [show x_isRecord u v1 = 1 from (by unfold x_isRecord; rw [if_neg h1, if_neg h2])] at hk
      exact hk
-- HoldQueue.isPlace(I)Z
def x_isPlace  (v0 : Int32) : Int32 := (if v0 < 0 then 0 else (if 6 ≤ v0 then 0 else 1))
def x_isPlace_t : List (Nat × gz_T q_S) := [(0, gz_ldi 1 0), (1, gz_if 4 14 (fun x => x < 0) (fun x => ¬ x < 0)), (4, gz_ldi 5 0), (5, gz_push 7 (gz_i 6)), (7, gz_if2 10 14 (fun x y => y ≤ x) (fun x y => ¬ y ≤ x)), (10, gz_push 11 (gz_i 1)), (11, gz_goto 15), (14, gz_push 15 (gz_i 0)), (15, gz_zret)]
set_option maxRecDepth 100000 in
set_option maxHeartbeats 4000000 in
theorem x_isPlace_d {Kr : Option Int32 → q_S → Prop} (u : q_S) (v0 : Int32) (hk : Kr (some (x_isPlace v0)) u) : gz_does x_isPlace_t Kr [(0, gz_i v0)] u := by
  intro Z hZ
  refine hZ.1 [] 500 0 _ _ _ ?_
  refine And.intro (fun (h1 : v0 < 0) => ?_) (fun (h1 : ¬ v0 < 0) => ?_)
  · refine And.intro (by decide +kernel) ?_
    rw [show x_isPlace v0 = 0 from (by unfold x_isPlace; rw [if_pos h1])] at hk
    exact hk
  · refine And.intro (fun (h2 : 6 ≤ v0) => ?_) (fun (h2 : ¬ 6 ≤ v0) => ?_)
    · refine And.intro (by decide +kernel) ?_
      rw [show x_isPlace v0 = 0 from (by unfold x_isPlace; rw [if_neg h1, if_pos h2])] at hk
      exact hk
    · refine And.intro (by decide +kernel) ?_
      rw [show x_isPlace v0 = 1 from (by unfold x_isPlace; rw [if_neg h1, if_neg h2])] at hk
      exact hk
-- HoldQueue$Copies.areFull()Z
def xc_areFull (u : q_S) : Int32 := (if (q_nc u) < 60 then 0 else 1)
def xc_areFull_p (u : q_S) : Prop := True
def xc_areFull_t : List (Nat × gz_T q_S) := [(0, gz_lda 1 0), (1, gz_getI 4 1 q_nc), (4, gz_push 6 (gz_i 60)), (6, gz_if2 9 13 (fun x y => x < y) (fun x y => ¬ x < y)), (9, gz_push 10 (gz_i 1)), (10, gz_goto 14), (13, gz_push 14 (gz_i 0)), (14, gz_zret)]
set_option maxRecDepth 100000 in
set_option maxHeartbeats 4000000 in
theorem xc_areFull_d {Kr : Option Int32 → q_S → Prop} (u : q_S) (hk : Kr (some (xc_areFull u)) u) : gz_does xc_areFull_t Kr [(0, gz_r 1)] u := by
  intro Z hZ
  refine hZ.1 [] 500 0 _ _ _ ?_
  refine And.intro (fun (h1 : (q_nc u) < 60) => ?_) (fun (h1 : ¬ (q_nc u) < 60) => ?_)
  · refine And.intro (by decide +kernel) ?_
    rw [show xc_areFull u = 0 from (by unfold xc_areFull; rw [if_pos h1])] at hk
    exact hk
  · refine And.intro (by decide +kernel) ?_
    rw [show xc_areFull u = 1 from (by unfold xc_areFull; rw [if_neg h1])] at hk
    exact hk
-- HoldQueue$Copies.add(II)I
def xc_add (u : q_S) (v1 : Int32) (v2 : Int32) : Int32 × q_S := (((q_nc u) + 1), (q_cs_u (q_cp_u (q_cr_u (q_nc_s u ((q_nc u) + 1)) ((q_nc u) + 1) v1) ((q_nc u) + 1) v2) ((q_nc u) + 1) 1))
def xc_add_r (u : q_S) (v1 : Int32) (v2 : Int32) : Int32 := (xc_add u v1 v2).1
def xc_add_s (u : q_S) (v1 : Int32) (v2 : Int32) : q_S := (xc_add u v1 v2).2
def xc_add_p (u : q_S) (v1 : Int32) (v2 : Int32) : Prop := (vp_in ((q_nc u) + 1) 61)
def xc_add_t : List (Nat × gz_T q_S) := [(0, gz_lda 1 0), (1, gz_dup 2), (2, gz_getI 5 1 q_nc), (5, gz_push 6 (gz_i 1)), (6, gz_iop 7 (fun x y => x + y)), (7, gz_putI 10 1 q_nc_s), (10, gz_lda 11 0), (11, gz_getR 14 1 6), (14, gz_lda 15 0), (15, gz_getI 18 1 q_nc), (18, gz_ldi 19 1), (19, gz_ist 20 x_ai), (20, gz_lda 21 0), (21, gz_getR 24 1 7), (24, gz_lda 25 0), (25, gz_getI 28 1 q_nc), (28, gz_ldi 29 2), (29, gz_ist 30 x_ai), (30, gz_lda 31 0), (31, gz_getR 34 1 8), (34, gz_lda 35 0), (35, gz_getI 38 1 q_nc), (38, gz_push 39 (gz_i 1)), (39, gz_ist 40 x_ai), (40, gz_lda 41 0), (41, gz_getI 44 1 q_nc), (44, gz_iret)]
set_option maxRecDepth 100000 in
set_option maxHeartbeats 4000000 in
theorem xc_add_d {Kr : Option Int32 → q_S → Prop} (u : q_S) (v1 : Int32) (v2 : Int32) (hp : xc_add_p u v1 v2) (hk : Kr (some ((xc_add u v1 v2)).1) ((xc_add u v1 v2)).2) : gz_does xc_add_t Kr [(0, gz_r 1), (1, gz_i v1), (2, gz_i v2)] u := by
  intro Z hZ
  refine hZ.1 [] 500 0 _ _ _ ?_
  unfold xc_add_p at hp
  have n1 := hp
  refine And.intro n1 ?_
  refine And.intro n1 ?_
  refine And.intro n1 ?_
  rw [show xc_add u v1 v2 = (((q_nc u) + 1), (q_cs_u (q_cp_u (q_cr_u (q_nc_s u ((q_nc u) + 1)) ((q_nc u) + 1) v1) ((q_nc u) + 1) v2) ((q_nc u) + 1) 1)) from rfl] at hk
  exact hk
-- HoldQueue.copy(II)I
def x_copy (u : q_S) (v1 : Int32) (v2 : Int32) : Int32 × q_S := (if (x_isRecord u v1) = 0 then (0, u) else (if (x_isPlace v2) = 0 then (0, u) else (if (xc_areFull u) = 0 then ((xc_add_r u v1 v2), (xc_add_s u v1 v2)) else (0, u))))
def x_copy_r (u : q_S) (v1 : Int32) (v2 : Int32) : Int32 := (x_copy u v1 v2).1
def x_copy_s (u : q_S) (v1 : Int32) (v2 : Int32) : q_S := (x_copy u v1 v2).2
def x_copy_p (u : q_S) (v1 : Int32) (v2 : Int32) : Prop := (x_isRecord_p u v1 ∧ (((x_isRecord u v1) = 0 → True) ∧ (¬ (x_isRecord u v1) = 0 → (((x_isPlace v2) = 0 → True) ∧ (¬ (x_isPlace v2) = 0 → (((xc_areFull u) = 0 → (xc_add_p u v1 v2)) ∧ (¬ (xc_areFull u) = 0 → True)))))))
def x_copy_t : List (Nat × gz_T q_S) := [(0, gz_lda 1 0), (1, gz_ldi 2 1), (2, gz_c1P 5 0 x_isRecord_p x_isRecord), (5, gz_if 8 25 (fun x => x = 0) (fun x => ¬ x = 0)), (8, gz_ldi 9 2), (9, gz_s1P 12 x_isPlace), (12, gz_if 15 25 (fun x => x = 0) (fun x => ¬ x = 0)), (15, gz_lda 16 0), (16, gz_getR 19 0 1), (19, gz_c0P 22 1 xc_areFull), (22, gz_if 25 27 (fun x => x = 0) (fun x => ¬ x = 0)), (25, gz_push 26 (gz_i 0)), (26, gz_iret), (27, gz_lda 28 0), (28, gz_getR 31 0 1), (31, gz_ldi 32 1), (32, gz_ldi 33 2), (33, gz_c2I 36 1 xc_add_p xc_add_r xc_add_s), (36, gz_iret)]
set_option maxRecDepth 100000 in
set_option maxHeartbeats 4000000 in
theorem x_copy_d {Kr : Option Int32 → q_S → Prop} (u : q_S) (v1 : Int32) (v2 : Int32) (hp : x_copy_p u v1 v2) (hk : Kr (some ((x_copy u v1 v2)).1) ((x_copy u v1 v2)).2) : gz_does x_copy_t Kr [(0, gz_r 0), (1, gz_i v1), (2, gz_i v2)] u := by
  intro Z hZ
  refine hZ.1 [] 500 0 _ _ _ ?_
  unfold x_copy_p at hp
  have n1 := hp.1
  refine And.intro n1 ?_
  have hp := hp.2
  refine And.intro (fun (h2 : (x_isRecord u v1) = 0) => ?_) (fun (h2 : ¬ (x_isRecord u v1) = 0) => ?_)
  · rw [show x_copy u v1 v2 = (0, u) from (by unfold x_copy; rw [if_pos h2])] at hk
    exact hk
  · have hp := hp.2 h2
    refine And.intro (fun (h3 : (x_isPlace v2) = 0) => ?_) (fun (h3 : ¬ (x_isPlace v2) = 0) => ?_)
    · rw [show x_copy u v1 v2 = (0, u) from (by unfold x_copy; rw [if_neg h2, if_pos h3])] at hk
      exact hk
    · have hp := hp.2 h3
      refine And.intro (fun (h4 : (xc_areFull u) = 0) => ?_) (fun (h4 : ¬ (xc_areFull u) = 0) => ?_)
      · have hp := hp.1 h4
        have n5 := hp
        refine And.intro n5 ?_
        rw [show x_copy u v1 v2 = ((xc_add_r u v1 v2), (xc_add_s u v1 v2)) from (by unfold x_copy; rw [if_neg h2, if_neg h3, if_pos h4])] at hk
        exact hk
      · rw [show x_copy u v1 v2 = (0, u) from (by unfold x_copy; rw [if_neg h2, if_neg h3, if_neg h4])] at hk
        exact hk
-- HoldQueue.bar(IZ)Z
def x_bar (u : q_S) (v1 : Int32) (v2 : Int32) : Int32 × q_S := (if (x_isKind v1) = 0 then (0, u) else ((q_bd u (Int32.toNatClampNeg v1)), (q_bd_u u v1 (vp_nar .boolean v2))))
def x_bar_r (u : q_S) (v1 : Int32) (v2 : Int32) : Int32 := (x_bar u v1 v2).1
def x_bar_s (u : q_S) (v1 : Int32) (v2 : Int32) : q_S := (x_bar u v1 v2).2
def x_bar_p (u : q_S) (v1 : Int32) (v2 : Int32) : Prop := (((x_isKind v1) = 0 → True) ∧ (¬ (x_isKind v1) = 0 → (vp_in v1 4 ∧ (narrow .boolean (.int (q_bd u (Int32.toNatClampNeg v1))) = .int (q_bd u (Int32.toNatClampNeg v1))))))
def x_bar_t : List (Nat × gz_T q_S) := [(0, gz_ldi 1 1), (1, gz_s1P 4 x_isKind), (4, gz_if 7 9 (fun x => ¬ x = 0) (fun x => x = 0)), (7, gz_push 8 (gz_i 0)), (8, gz_zret), (9, gz_lda 10 0), (10, gz_getR 13 0 4), (13, gz_ldi 14 1), (14, gz_ild 15 x_az), (15, gz_stor 16 3), (16, gz_lda 17 0), (17, gz_getR 20 0 4), (20, gz_ldi 21 1), (21, gz_ldi 22 2), (22, gz_zst 23 x_az), (23, gz_ldi 24 3), (24, gz_zret)]
set_option maxRecDepth 100000 in
set_option maxHeartbeats 4000000 in
theorem x_bar_d {Kr : Option Int32 → q_S → Prop} (u : q_S) (v1 : Int32) (v2 : Int32) (hp : x_bar_p u v1 v2) (hk : Kr (some ((x_bar u v1 v2)).1) ((x_bar u v1 v2)).2) : gz_does x_bar_t Kr [(0, gz_r 0), (1, gz_i v1), (2, gz_i v2)] u := by
  intro Z hZ
  refine hZ.1 [] 500 0 _ _ _ ?_
  unfold x_bar_p at hp
  refine And.intro (fun (h1 : ¬ (x_isKind v1) = 0) => ?_) (fun (h1 : (x_isKind v1) = 0) => ?_)
  · have hp := hp.2 h1
    have n2 := hp.1
    refine And.intro n2 ?_
    have hp := hp.2
    refine And.intro n2 ?_
    have n3 := hp
    refine And.intro n3 ?_
    rw [show x_bar u v1 v2 = ((q_bd u (Int32.toNatClampNeg v1)), (q_bd_u u v1 (vp_nar .boolean v2))) from (by unfold x_bar; rw [if_neg h1])] at hk
    exact hk
  · refine And.intro (by decide +kernel) ?_
    rw [show x_bar u v1 v2 = (0, u) from (by unfold x_bar; rw [if_pos h1])] at hk
    exact hk
-- HoldQueue.isPerson(I)Z
def x_isPerson  (v0 : Int32) : Int32 := (if v0 < 0 then 0 else (if 40 ≤ v0 then 0 else 1))
def x_isPerson_t : List (Nat × gz_T q_S) := [(0, gz_ldi 1 0), (1, gz_if 4 14 (fun x => x < 0) (fun x => ¬ x < 0)), (4, gz_ldi 5 0), (5, gz_push 7 (gz_i 40)), (7, gz_if2 10 14 (fun x y => y ≤ x) (fun x y => ¬ y ≤ x)), (10, gz_push 11 (gz_i 1)), (11, gz_goto 15), (14, gz_push 15 (gz_i 0)), (15, gz_zret)]
set_option maxRecDepth 100000 in
set_option maxHeartbeats 4000000 in
theorem x_isPerson_d {Kr : Option Int32 → q_S → Prop} (u : q_S) (v0 : Int32) (hk : Kr (some (x_isPerson v0)) u) : gz_does x_isPerson_t Kr [(0, gz_i v0)] u := by
  intro Z hZ
  refine hZ.1 [] 500 0 _ _ _ ?_
  refine And.intro (fun (h1 : v0 < 0) => ?_) (fun (h1 : ¬ v0 < 0) => ?_)
  · refine And.intro (by decide +kernel) ?_
    rw [show x_isPerson v0 = 0 from (by unfold x_isPerson; rw [if_pos h1])] at hk
    exact hk
  · refine And.intro (fun (h2 : 40 ≤ v0) => ?_) (fun (h2 : ¬ 40 ≤ v0) => ?_)
    · refine And.intro (by decide +kernel) ?_
      rw [show x_isPerson v0 = 0 from (by unfold x_isPerson; rw [if_neg h1, if_pos h2])] at hk
      exact hk
    · refine And.intro (by decide +kernel) ?_
      rw [show x_isPerson v0 = 1 from (by unfold x_isPerson; rw [if_neg h1, if_neg h2])] at hk
      exact hk
-- HoldQueue$Holds.has(I)Z
def xh_has (u : q_S) (v1 : Int32) : Int32 := (if v1 < 1 then 0 else (if (q_nh u) < v1 then 0 else 1))
def xh_has_p (u : q_S) (v1 : Int32) : Prop := True
def xh_has_t : List (Nat × gz_T q_S) := [(0, gz_ldi 1 1), (1, gz_push 2 (gz_i 1)), (2, gz_if2 5 17 (fun x y => x < y) (fun x y => ¬ x < y)), (5, gz_ldi 6 1), (6, gz_lda 7 0), (7, gz_getI 10 2 q_nh), (10, gz_if2 13 17 (fun x y => y < x) (fun x y => ¬ y < x)), (13, gz_push 14 (gz_i 1)), (14, gz_goto 18), (17, gz_push 18 (gz_i 0)), (18, gz_zret)]
set_option maxRecDepth 100000 in
set_option maxHeartbeats 4000000 in
theorem xh_has_d {Kr : Option Int32 → q_S → Prop} (u : q_S) (v1 : Int32) (hk : Kr (some (xh_has u v1)) u) : gz_does xh_has_t Kr [(0, gz_r 2), (1, gz_i v1)] u := by
  intro Z hZ
  refine hZ.1 [] 500 0 _ _ _ ?_
  refine And.intro (fun (h1 : v1 < 1) => ?_) (fun (h1 : ¬ v1 < 1) => ?_)
  · refine And.intro (by decide +kernel) ?_
    rw [show xh_has u v1 = 0 from (by unfold xh_has; rw [if_pos h1])] at hk
    exact hk
  · refine And.intro (fun (h2 : (q_nh u) < v1) => ?_) (fun (h2 : ¬ (q_nh u) < v1) => ?_)
    · refine And.intro (by decide +kernel) ?_
      rw [show xh_has u v1 = 0 from (by unfold xh_has; rw [if_neg h1, if_pos h2])] at hk
      exact hk
    · refine And.intro (by decide +kernel) ?_
      rw [show xh_has u v1 = 1 from (by unfold xh_has; rw [if_neg h1, if_neg h2])] at hk
      exact hk
-- HoldQueue$Holds.isIn(II)Z
def xh_isIn (u : q_S) (v1 : Int32) (v2 : Int32) : Int32 := (if (xh_has u v1) = 0 then 0 else (if (q_hs u (Int32.toNatClampNeg v1)) = v2 then 1 else 0))
def xh_isIn_p (u : q_S) (v1 : Int32) (v2 : Int32) : Prop := (xh_has_p u v1 ∧ (((xh_has u v1) = 0 → True) ∧ (¬ (xh_has u v1) = 0 → (vp_in v1 121))))
def xh_isIn_t : List (Nat × gz_T q_S) := [(0, gz_lda 1 0), (1, gz_ldi 2 1), (2, gz_c1P 5 2 xh_has_p xh_has), (5, gz_if 8 22 (fun x => x = 0) (fun x => ¬ x = 0)), (8, gz_lda 9 0), (9, gz_getR 12 2 14), (12, gz_ldi 13 1), (13, gz_ild 14 x_ai), (14, gz_ldi 15 2), (15, gz_if2 18 22 (fun x y => ¬ x = y) (fun x y => x = y)), (18, gz_push 19 (gz_i 1)), (19, gz_goto 23), (22, gz_push 23 (gz_i 0)), (23, gz_zret)]
set_option maxRecDepth 100000 in
set_option maxHeartbeats 4000000 in
theorem xh_isIn_d {Kr : Option Int32 → q_S → Prop} (u : q_S) (v1 : Int32) (v2 : Int32) (hp : xh_isIn_p u v1 v2) (hk : Kr (some (xh_isIn u v1 v2)) u) : gz_does xh_isIn_t Kr [(0, gz_r 2), (1, gz_i v1), (2, gz_i v2)] u := by
  intro Z hZ
  refine hZ.1 [] 500 0 _ _ _ ?_
  unfold xh_isIn_p at hp
  have n1 := hp.1
  refine And.intro n1 ?_
  have hp := hp.2
  refine And.intro (fun (h2 : (xh_has u v1) = 0) => ?_) (fun (h2 : ¬ (xh_has u v1) = 0) => ?_)
  · refine And.intro (by decide +kernel) ?_
    rw [show xh_isIn u v1 v2 = 0 from (by unfold xh_isIn; rw [if_pos h2])] at hk
    exact hk
  · have hp := hp.2 h2
    have n3 := hp
    refine And.intro n3 ?_
    refine And.intro (fun (h4 : ¬ (q_hs u (Int32.toNatClampNeg v1)) = v2) => ?_) (fun (h4 : (q_hs u (Int32.toNatClampNeg v1)) = v2) => ?_)
    · refine And.intro (by decide +kernel) ?_
      rw [show xh_isIn u v1 v2 = 0 from (by unfold xh_isIn; rw [if_neg h2, if_neg h4])] at hk
      exact hk
    · refine And.intro (by decide +kernel) ?_
      rw [show xh_isIn u v1 v2 = 1 from (by unfold xh_isIn; rw [if_neg h2, if_pos h4])] at hk
      exact hk
-- HoldQueue$Holds.isOpen(I)Z
def xh_isOpen (u : q_S) (v1 : Int32) : Int32 := (if (xh_isIn u v1 0) = 0 then (if (xh_isIn u v1 1) = 0 then (if (xh_isIn u v1 2) = 0 then 0 else 1) else 1) else 1)
def xh_isOpen_p (u : q_S) (v1 : Int32) : Prop := (xh_isIn_p u v1 0 ∧ (((xh_isIn u v1 0) = 0 → (xh_isIn_p u v1 1 ∧ (((xh_isIn u v1 1) = 0 → (xh_isIn_p u v1 2)) ∧ (¬ (xh_isIn u v1 1) = 0 → True)))) ∧ (¬ (xh_isIn u v1 0) = 0 → True)))
def xh_isOpen_t : List (Nat × gz_T q_S) := [(0, gz_lda 1 0), (1, gz_ldi 2 1), (2, gz_push 3 (gz_i 0)), (3, gz_c2P 6 2 xh_isIn_p xh_isIn), (6, gz_if 9 27 (fun x => ¬ x = 0) (fun x => x = 0)), (9, gz_lda 10 0), (10, gz_ldi 11 1), (11, gz_push 12 (gz_i 1)), (12, gz_c2P 15 2 xh_isIn_p xh_isIn), (15, gz_if 18 27 (fun x => ¬ x = 0) (fun x => x = 0)), (18, gz_lda 19 0), (19, gz_ldi 20 1), (20, gz_push 21 (gz_i 2)), (21, gz_c2P 24 2 xh_isIn_p xh_isIn), (24, gz_if 27 31 (fun x => x = 0) (fun x => ¬ x = 0)), (27, gz_push 28 (gz_i 1)), (28, gz_goto 32), (31, gz_push 32 (gz_i 0)), (32, gz_zret)]
set_option maxRecDepth 100000 in
set_option maxHeartbeats 4000000 in
theorem xh_isOpen_d {Kr : Option Int32 → q_S → Prop} (u : q_S) (v1 : Int32) (hp : xh_isOpen_p u v1) (hk : Kr (some (xh_isOpen u v1)) u) : gz_does xh_isOpen_t Kr [(0, gz_r 2), (1, gz_i v1)] u := by
  intro Z hZ
  refine hZ.1 [] 500 0 _ _ _ ?_
  unfold xh_isOpen_p at hp
  have n1 := hp.1
  refine And.intro n1 ?_
  have hp := hp.2
  refine And.intro (fun (h2 : ¬ (xh_isIn u v1 0) = 0) => ?_) (fun (h2 : (xh_isIn u v1 0) = 0) => ?_)
  · refine And.intro (by decide +kernel) ?_
    rw [show xh_isOpen u v1 = 1 from (by unfold xh_isOpen; rw [if_neg h2])] at hk
    exact hk
  · have hp := hp.1 h2
    have n3 := hp.1
    refine And.intro n3 ?_
    have hp := hp.2
    refine And.intro (fun (h4 : ¬ (xh_isIn u v1 1) = 0) => ?_) (fun (h4 : (xh_isIn u v1 1) = 0) => ?_)
    · refine And.intro (by decide +kernel) ?_
      rw [show xh_isOpen u v1 = 1 from (by unfold xh_isOpen; rw [if_pos h2, if_neg h4])] at hk
      exact hk
    · have hp := hp.1 h4
      have n5 := hp
      refine And.intro n5 ?_
      refine And.intro (fun (h6 : (xh_isIn u v1 2) = 0) => ?_) (fun (h6 : ¬ (xh_isIn u v1 2) = 0) => ?_)
      · refine And.intro (by decide +kernel) ?_
        rw [show xh_isOpen u v1 = 0 from (by unfold xh_isOpen; rw [if_pos h2, if_pos h4, if_pos h6])] at hk
        exact hk
      · refine And.intro (by decide +kernel) ?_
        rw [show xh_isOpen u v1 = 1 from (by unfold xh_isOpen; rw [if_pos h2, if_pos h4, if_neg h6])] at hk
        exact hk
-- HoldQueue$Holds.hasOpen(II)Z
def xh_hasOpen_l2_b (rec : Int32 → Int32 → Int32 → q_S → Int32) (v1 : Int32) (v2 : Int32) (v3 : Int32) (u : q_S) : Int32 := (if (q_nh u) < v3 then 0 else (if (q_hp u (Int32.toNatClampNeg v3)) = v1 then (if (q_hr u (Int32.toNatClampNeg v3)) = v2 then (if (xh_isOpen u v3) = 0 then (rec v1 v2 (v3 + 1) u) else 1) else (rec v1 v2 (v3 + 1) u)) else (rec v1 v2 (v3 + 1) u)))
def xh_hasOpen_l2 : Nat → Int32 → Int32 → Int32 → q_S → Int32
  | 0, _, _, _, _ => 0
  | n + 1, v1, v2, v3, u => xh_hasOpen_l2_b (xh_hasOpen_l2 n) v1 v2 v3 u
def xh_hasOpen_l2_pb (rec : Int32 → Int32 → Int32 → q_S → Prop) (v1 : Int32) (v2 : Int32) (v3 : Int32) (u : q_S) : Prop := (((q_nh u) < v3 → True) ∧ (¬ (q_nh u) < v3 → (vp_in v3 121 ∧ (((q_hp u (Int32.toNatClampNeg v3)) = v1 → (((q_hr u (Int32.toNatClampNeg v3)) = v2 → (xh_isOpen_p u v3 ∧ (((xh_isOpen u v3) = 0 → (rec v1 v2 (v3 + 1) u)) ∧ (¬ (xh_isOpen u v3) = 0 → True)))) ∧ (¬ (q_hr u (Int32.toNatClampNeg v3)) = v2 → (rec v1 v2 (v3 + 1) u)))) ∧ (¬ (q_hp u (Int32.toNatClampNeg v3)) = v1 → (rec v1 v2 (v3 + 1) u))))))
def xh_hasOpen_l2_p : Nat → Int32 → Int32 → Int32 → q_S → Prop
  | 0, _, _, _, _ => False
  | n + 1, v1, v2, v3, u => xh_hasOpen_l2_pb (xh_hasOpen_l2_p n) v1 v2 v3 u
def xh_hasOpen (u : q_S) (v1 : Int32) (v2 : Int32) : Int32 := (xh_hasOpen_l2 200 v1 v2 1 u)
def xh_hasOpen_p (u : q_S) (v1 : Int32) (v2 : Int32) : Prop := (xh_hasOpen_l2_p 200 v1 v2 1 u)
def xh_hasOpen_t : List (Nat × gz_T q_S) := [(0, gz_push 1 (gz_i 1)), (1, gz_stor 2 3), (2, gz_ldi 3 3), (3, gz_lda 4 0), (4, gz_getI 7 2 q_nh), (7, gz_if2 10 46 (fun x y => y < x) (fun x y => ¬ y < x)), (10, gz_lda 11 0), (11, gz_getR 14 2 10), (14, gz_ldi 15 3), (15, gz_ild 16 x_ai), (16, gz_ldi 17 1), (17, gz_if2 20 40 (fun x y => ¬ x = y) (fun x y => x = y)), (20, gz_lda 21 0), (21, gz_getR 24 2 11), (24, gz_ldi 25 3), (25, gz_ild 26 x_ai), (26, gz_ldi 27 2), (27, gz_if2 30 40 (fun x y => ¬ x = y) (fun x y => x = y)), (30, gz_lda 31 0), (31, gz_ldi 32 3), (32, gz_c1P 35 2 xh_isOpen_p xh_isOpen), (35, gz_if 38 40 (fun x => x = 0) (fun x => ¬ x = 0)), (38, gz_push 39 (gz_i 1)), (39, gz_zret), (40, gz_iinc 43 3 1), (43, gz_goto 2), (46, gz_push 47 (gz_i 0)), (47, gz_zret)]
set_option maxRecDepth 100000 in
set_option maxHeartbeats 4000000 in
theorem xh_hasOpen_l2_d {Kr : Option Int32 → q_S → Prop} {Z : gz_K q_S} (hZ : gz_shut xh_hasOpen_t Kr Z) : ∀ (n : Nat) (v1 : Int32) (v2 : Int32) (v3 : Int32) (u : q_S), xh_hasOpen_l2_p n v1 v2 v3 u → Kr (some (xh_hasOpen_l2 n v1 v2 v3 u)) u → Z 2 [(0, gz_r 2), (1, gz_i v1), (2, gz_i v2), (3, gz_i v3)] [] u := by
  intro n
  induction n with
  | zero => intro v1 v2 v3 u hp _; exact False.elim hp
  | succ n ih =>
  intro v1 v2 v3 u hp hk
  refine hZ.1 [2] 500 2 _ _ _ ?_
  have hp : xh_hasOpen_l2_pb (xh_hasOpen_l2_p n) v1 v2 v3 u := hp
  refine And.intro (fun (h1 : (q_nh u) < v3) => ?_) (fun (h1 : ¬ (q_nh u) < v3) => ?_)
  · refine And.intro (by decide +kernel) ?_
    rw [show xh_hasOpen_l2 (n + 1) v1 v2 v3 u = 0 from (by unfold xh_hasOpen_l2_b; rw [if_pos h1] : xh_hasOpen_l2_b (xh_hasOpen_l2 n) v1 v2 v3 u = 0)] at hk
    exact hk
  · have hp := hp.2 h1
    have n2 := hp.1
    refine And.intro n2 ?_
    have hp := hp.2
    refine And.intro (fun (h3 : ¬ (q_hp u (Int32.toNatClampNeg v3)) = v1) => ?_) (fun (h3 : (q_hp u (Int32.toNatClampNeg v3)) = v1) => ?_)
    · have hp := hp.2 h3
      rw [show xh_hasOpen_l2 (n + 1) v1 v2 v3 u = (xh_hasOpen_l2 n v1 v2 (v3 + 1) u) from (by unfold xh_hasOpen_l2_b; rw [if_neg h1, if_neg h3] : xh_hasOpen_l2_b (xh_hasOpen_l2 n) v1 v2 v3 u = (xh_hasOpen_l2 n v1 v2 (v3 + 1) u))] at hk
      exact ih v1 v2 (v3 + 1) u hp hk
    · have hp := hp.1 h3
      refine And.intro n2 ?_
      refine And.intro (fun (h4 : ¬ (q_hr u (Int32.toNatClampNeg v3)) = v2) => ?_) (fun (h4 : (q_hr u (Int32.toNatClampNeg v3)) = v2) => ?_)
      · have hp := hp.2 h4
        rw [show xh_hasOpen_l2 (n + 1) v1 v2 v3 u = (xh_hasOpen_l2 n v1 v2 (v3 + 1) u) from (by unfold xh_hasOpen_l2_b; rw [if_neg h1, if_pos h3, if_neg h4] : xh_hasOpen_l2_b (xh_hasOpen_l2 n) v1 v2 v3 u = (xh_hasOpen_l2 n v1 v2 (v3 + 1) u))] at hk
        exact ih v1 v2 (v3 + 1) u hp hk
      · have hp := hp.1 h4
        have n5 := hp.1
        refine And.intro n5 ?_
        have hp := hp.2
        refine And.intro (fun (h6 : (xh_isOpen u v3) = 0) => ?_) (fun (h6 : ¬ (xh_isOpen u v3) = 0) => ?_)
        · have hp := hp.1 h6
          rw [show xh_hasOpen_l2 (n + 1) v1 v2 v3 u = (xh_hasOpen_l2 n v1 v2 (v3 + 1) u) from (by unfold xh_hasOpen_l2_b; rw [if_neg h1, if_pos h3, if_pos h4, if_pos h6] : xh_hasOpen_l2_b (xh_hasOpen_l2 n) v1 v2 v3 u = (xh_hasOpen_l2 n v1 v2 (v3 + 1) u))] at hk
          exact ih v1 v2 (v3 + 1) u hp hk
        · refine And.intro (by decide +kernel) ?_
          rw [show xh_hasOpen_l2 (n + 1) v1 v2 v3 u = 1 from (by unfold xh_hasOpen_l2_b; rw [if_neg h1, if_pos h3, if_pos h4, if_neg h6] : xh_hasOpen_l2_b (xh_hasOpen_l2 n) v1 v2 v3 u = 1)] at hk
          exact hk
set_option maxRecDepth 100000 in
set_option maxHeartbeats 4000000 in
theorem xh_hasOpen_d {Kr : Option Int32 → q_S → Prop} (u : q_S) (v1 : Int32) (v2 : Int32) (hp : xh_hasOpen_p u v1 v2) (hk : Kr (some (xh_hasOpen u v1 v2)) u) : gz_does xh_hasOpen_t Kr [(0, gz_r 2), (1, gz_i v1), (2, gz_i v2)] u := by
  intro Z hZ
  refine hZ.1 [2] 500 0 _ _ _ ?_
  unfold xh_hasOpen_p at hp
  rw [show xh_hasOpen u v1 v2 = (xh_hasOpen_l2 200 v1 v2 1 u) from rfl] at hk
  exact xh_hasOpen_l2_d hZ 200 v1 v2 1 u hp hk
-- HoldQueue$Holds.areFull()Z
def xh_areFull (u : q_S) : Int32 := (if (q_nh u) < 120 then 0 else 1)
def xh_areFull_p (u : q_S) : Prop := True
def xh_areFull_t : List (Nat × gz_T q_S) := [(0, gz_lda 1 0), (1, gz_getI 4 2 q_nh), (4, gz_push 6 (gz_i 120)), (6, gz_if2 9 13 (fun x y => x < y) (fun x y => ¬ x < y)), (9, gz_push 10 (gz_i 1)), (10, gz_goto 14), (13, gz_push 14 (gz_i 0)), (14, gz_zret)]
set_option maxRecDepth 100000 in
set_option maxHeartbeats 4000000 in
theorem xh_areFull_d {Kr : Option Int32 → q_S → Prop} (u : q_S) (hk : Kr (some (xh_areFull u)) u) : gz_does xh_areFull_t Kr [(0, gz_r 2)] u := by
  intro Z hZ
  refine hZ.1 [] 500 0 _ _ _ ?_
  refine And.intro (fun (h1 : (q_nh u) < 120) => ?_) (fun (h1 : ¬ (q_nh u) < 120) => ?_)
  · refine And.intro (by decide +kernel) ?_
    rw [show xh_areFull u = 0 from (by unfold xh_areFull; rw [if_pos h1])] at hk
    exact hk
  · refine And.intro (by decide +kernel) ?_
    rw [show xh_areFull u = 1 from (by unfold xh_areFull; rw [if_neg h1])] at hk
    exact hk
-- HoldQueue$Holds.countOpen(I)I
def xh_countOpen_l4_b (rec : Int32 → Int32 → Int32 → q_S → Int32) (v1 : Int32) (v2 : Int32) (v3 : Int32) (u : q_S) : Int32 := (if (q_nh u) < v3 then v2 else (if (q_hp u (Int32.toNatClampNeg v3)) = v1 then (if (xh_isOpen u v3) = 0 then (rec v1 v2 (v3 + 1) u) else (rec v1 (v2 + 1) (v3 + 1) u)) else (rec v1 v2 (v3 + 1) u)))
def xh_countOpen_l4 : Nat → Int32 → Int32 → Int32 → q_S → Int32
  | 0, _, _, _, _ => 0
  | n + 1, v1, v2, v3, u => xh_countOpen_l4_b (xh_countOpen_l4 n) v1 v2 v3 u
def xh_countOpen_l4_pb (rec : Int32 → Int32 → Int32 → q_S → Prop) (v1 : Int32) (v2 : Int32) (v3 : Int32) (u : q_S) : Prop := (((q_nh u) < v3 → True) ∧ (¬ (q_nh u) < v3 → (vp_in v3 121 ∧ (((q_hp u (Int32.toNatClampNeg v3)) = v1 → (xh_isOpen_p u v3 ∧ (((xh_isOpen u v3) = 0 → (rec v1 v2 (v3 + 1) u)) ∧ (¬ (xh_isOpen u v3) = 0 → (rec v1 (v2 + 1) (v3 + 1) u))))) ∧ (¬ (q_hp u (Int32.toNatClampNeg v3)) = v1 → (rec v1 v2 (v3 + 1) u))))))
def xh_countOpen_l4_p : Nat → Int32 → Int32 → Int32 → q_S → Prop
  | 0, _, _, _, _ => False
  | n + 1, v1, v2, v3, u => xh_countOpen_l4_pb (xh_countOpen_l4_p n) v1 v2 v3 u
def xh_countOpen (u : q_S) (v1 : Int32) : Int32 := (xh_countOpen_l4 200 v1 0 1 u)
def xh_countOpen_p (u : q_S) (v1 : Int32) : Prop := (xh_countOpen_l4_p 200 v1 0 1 u)
def xh_countOpen_t : List (Nat × gz_T q_S) := [(0, gz_push 1 (gz_i 0)), (1, gz_stor 2 2), (2, gz_push 3 (gz_i 1)), (3, gz_stor 4 3), (4, gz_ldi 5 3), (5, gz_lda 6 0), (6, gz_getI 9 2 q_nh), (9, gz_if2 12 39 (fun x y => y < x) (fun x y => ¬ y < x)), (12, gz_lda 13 0), (13, gz_getR 16 2 10), (16, gz_ldi 17 3), (17, gz_ild 18 x_ai), (18, gz_ldi 19 1), (19, gz_if2 22 33 (fun x y => ¬ x = y) (fun x y => x = y)), (22, gz_lda 23 0), (23, gz_ldi 24 3), (24, gz_c1P 27 2 xh_isOpen_p xh_isOpen), (27, gz_if 30 33 (fun x => x = 0) (fun x => ¬ x = 0)), (30, gz_iinc 33 2 1), (33, gz_iinc 36 3 1), (36, gz_goto 4), (39, gz_ldi 40 2), (40, gz_iret)]
set_option maxRecDepth 100000 in
set_option maxHeartbeats 4000000 in
theorem xh_countOpen_l4_d {Kr : Option Int32 → q_S → Prop} {Z : gz_K q_S} (hZ : gz_shut xh_countOpen_t Kr Z) : ∀ (n : Nat) (v1 : Int32) (v2 : Int32) (v3 : Int32) (u : q_S), xh_countOpen_l4_p n v1 v2 v3 u → Kr (some (xh_countOpen_l4 n v1 v2 v3 u)) u → Z 4 [(0, gz_r 2), (1, gz_i v1), (2, gz_i v2), (3, gz_i v3)] [] u := by
  intro n
  induction n with
  | zero => intro v1 v2 v3 u hp _; exact False.elim hp
  | succ n ih =>
  intro v1 v2 v3 u hp hk
  refine hZ.1 [4] 500 4 _ _ _ ?_
  have hp : xh_countOpen_l4_pb (xh_countOpen_l4_p n) v1 v2 v3 u := hp
  refine And.intro (fun (h1 : (q_nh u) < v3) => ?_) (fun (h1 : ¬ (q_nh u) < v3) => ?_)
  · rw [show xh_countOpen_l4 (n + 1) v1 v2 v3 u = v2 from (by unfold xh_countOpen_l4_b; rw [if_pos h1] : xh_countOpen_l4_b (xh_countOpen_l4 n) v1 v2 v3 u = v2)] at hk
    exact hk
  · have hp := hp.2 h1
    have n2 := hp.1
    refine And.intro n2 ?_
    have hp := hp.2
    refine And.intro (fun (h3 : ¬ (q_hp u (Int32.toNatClampNeg v3)) = v1) => ?_) (fun (h3 : (q_hp u (Int32.toNatClampNeg v3)) = v1) => ?_)
    · have hp := hp.2 h3
      rw [show xh_countOpen_l4 (n + 1) v1 v2 v3 u = (xh_countOpen_l4 n v1 v2 (v3 + 1) u) from (by unfold xh_countOpen_l4_b; rw [if_neg h1, if_neg h3] : xh_countOpen_l4_b (xh_countOpen_l4 n) v1 v2 v3 u = (xh_countOpen_l4 n v1 v2 (v3 + 1) u))] at hk
      exact ih v1 v2 (v3 + 1) u hp hk
    · have hp := hp.1 h3
      have n4 := hp.1
      refine And.intro n4 ?_
      have hp := hp.2
      refine And.intro (fun (h5 : (xh_isOpen u v3) = 0) => ?_) (fun (h5 : ¬ (xh_isOpen u v3) = 0) => ?_)
      · have hp := hp.1 h5
        rw [show xh_countOpen_l4 (n + 1) v1 v2 v3 u = (xh_countOpen_l4 n v1 v2 (v3 + 1) u) from (by unfold xh_countOpen_l4_b; rw [if_neg h1, if_pos h3, if_pos h5] : xh_countOpen_l4_b (xh_countOpen_l4 n) v1 v2 v3 u = (xh_countOpen_l4 n v1 v2 (v3 + 1) u))] at hk
        exact ih v1 v2 (v3 + 1) u hp hk
      · have hp := hp.2 h5
        rw [show xh_countOpen_l4 (n + 1) v1 v2 v3 u = (xh_countOpen_l4 n v1 (v2 + 1) (v3 + 1) u) from (by unfold xh_countOpen_l4_b; rw [if_neg h1, if_pos h3, if_neg h5] : xh_countOpen_l4_b (xh_countOpen_l4 n) v1 v2 v3 u = (xh_countOpen_l4 n v1 (v2 + 1) (v3 + 1) u))] at hk
        exact ih v1 (v2 + 1) (v3 + 1) u hp hk
set_option maxRecDepth 100000 in
set_option maxHeartbeats 4000000 in
theorem xh_countOpen_d {Kr : Option Int32 → q_S → Prop} (u : q_S) (v1 : Int32) (hp : xh_countOpen_p u v1) (hk : Kr (some (xh_countOpen u v1)) u) : gz_does xh_countOpen_t Kr [(0, gz_r 2), (1, gz_i v1)] u := by
  intro Z hZ
  refine hZ.1 [4] 500 0 _ _ _ ?_
  unfold xh_countOpen_p at hp
  rw [show xh_countOpen u v1 = (xh_countOpen_l4 200 v1 0 1 u) from rfl] at hk
  exact xh_countOpen_l4_d hZ 200 v1 0 1 u hp hk
-- HoldQueue$Holds.add(IIII)I
def xh_add (u : q_S) (v1 : Int32) (v2 : Int32) (v3 : Int32) (v4 : Int32) : Int32 × q_S := (((q_nh u) + 1), (q_hs_u (q_hk_u (q_hl_u (q_hr_u (q_hp_u (q_nh_s u ((q_nh u) + 1)) ((q_nh u) + 1) v1) ((q_nh u) + 1) v2) ((q_nh u) + 1) v3) ((q_nh u) + 1) v4) ((q_nh u) + 1) 0))
def xh_add_r (u : q_S) (v1 : Int32) (v2 : Int32) (v3 : Int32) (v4 : Int32) : Int32 := (xh_add u v1 v2 v3 v4).1
def xh_add_s (u : q_S) (v1 : Int32) (v2 : Int32) (v3 : Int32) (v4 : Int32) : q_S := (xh_add u v1 v2 v3 v4).2
def xh_add_p (u : q_S) (v1 : Int32) (v2 : Int32) (v3 : Int32) (v4 : Int32) : Prop := (vp_in ((q_nh u) + 1) 121)
def xh_add_t : List (Nat × gz_T q_S) := [(0, gz_lda 1 0), (1, gz_dup 2), (2, gz_getI 5 2 q_nh), (5, gz_push 6 (gz_i 1)), (6, gz_iop 7 (fun x y => x + y)), (7, gz_putI 10 2 q_nh_s), (10, gz_lda 11 0), (11, gz_getR 14 2 10), (14, gz_lda 15 0), (15, gz_getI 18 2 q_nh), (18, gz_ldi 19 1), (19, gz_ist 20 x_ai), (20, gz_lda 21 0), (21, gz_getR 24 2 11), (24, gz_lda 25 0), (25, gz_getI 28 2 q_nh), (28, gz_ldi 29 2), (29, gz_ist 30 x_ai), (30, gz_lda 31 0), (31, gz_getR 34 2 12), (34, gz_lda 35 0), (35, gz_getI 38 2 q_nh), (38, gz_ldi 39 3), (39, gz_ist 40 x_ai), (40, gz_lda 41 0), (41, gz_getR 44 2 13), (44, gz_lda 45 0), (45, gz_getI 48 2 q_nh), (48, gz_ldi 50 4), (50, gz_ist 51 x_ai), (51, gz_lda 52 0), (52, gz_getR 55 2 14), (55, gz_lda 56 0), (56, gz_getI 59 2 q_nh), (59, gz_push 60 (gz_i 0)), (60, gz_ist 61 x_ai), (61, gz_lda 62 0), (62, gz_getI 65 2 q_nh), (65, gz_iret)]
set_option maxRecDepth 100000 in
set_option maxHeartbeats 4000000 in
theorem xh_add_d {Kr : Option Int32 → q_S → Prop} (u : q_S) (v1 : Int32) (v2 : Int32) (v3 : Int32) (v4 : Int32) (hp : xh_add_p u v1 v2 v3 v4) (hk : Kr (some ((xh_add u v1 v2 v3 v4)).1) ((xh_add u v1 v2 v3 v4)).2) : gz_does xh_add_t Kr [(0, gz_r 2), (1, gz_i v1), (2, gz_i v2), (3, gz_i v3), (4, gz_i v4)] u := by
  intro Z hZ
  refine hZ.1 [] 500 0 _ _ _ ?_
  unfold xh_add_p at hp
  have n1 := hp
  refine And.intro n1 ?_
  refine And.intro n1 ?_
  refine And.intro n1 ?_
  refine And.intro n1 ?_
  refine And.intro n1 ?_
  rw [show xh_add u v1 v2 v3 v4 = (((q_nh u) + 1), (q_hs_u (q_hk_u (q_hl_u (q_hr_u (q_hp_u (q_nh_s u ((q_nh u) + 1)) ((q_nh u) + 1) v1) ((q_nh u) + 1) v2) ((q_nh u) + 1) v3) ((q_nh u) + 1) v4) ((q_nh u) + 1) 0)) from rfl] at hk
  exact hk
-- HoldQueue$Copies.leastFree(I)I
def xc_leastFree_l2_b (rec : Int32 → Int32 → q_S → Int32) (v1 : Int32) (v2 : Int32) (u : q_S) : Int32 := (if (q_nc u) < v2 then 0 else (if (q_cr u (Int32.toNatClampNeg v2)) = v1 then (if (q_cs u (Int32.toNatClampNeg v2)) = 0 then v2 else (rec v1 (v2 + 1) u)) else (rec v1 (v2 + 1) u)))
def xc_leastFree_l2 : Nat → Int32 → Int32 → q_S → Int32
  | 0, _, _, _ => 0
  | n + 1, v1, v2, u => xc_leastFree_l2_b (xc_leastFree_l2 n) v1 v2 u
def xc_leastFree_l2_pb (rec : Int32 → Int32 → q_S → Prop) (v1 : Int32) (v2 : Int32) (u : q_S) : Prop := (((q_nc u) < v2 → True) ∧ (¬ (q_nc u) < v2 → (vp_in v2 61 ∧ (((q_cr u (Int32.toNatClampNeg v2)) = v1 → (((q_cs u (Int32.toNatClampNeg v2)) = 0 → True) ∧ (¬ (q_cs u (Int32.toNatClampNeg v2)) = 0 → (rec v1 (v2 + 1) u)))) ∧ (¬ (q_cr u (Int32.toNatClampNeg v2)) = v1 → (rec v1 (v2 + 1) u))))))
def xc_leastFree_l2_p : Nat → Int32 → Int32 → q_S → Prop
  | 0, _, _, _ => False
  | n + 1, v1, v2, u => xc_leastFree_l2_pb (xc_leastFree_l2_p n) v1 v2 u
def xc_leastFree (u : q_S) (v1 : Int32) : Int32 := (xc_leastFree_l2 200 v1 1 u)
def xc_leastFree_p (u : q_S) (v1 : Int32) : Prop := (xc_leastFree_l2_p 200 v1 1 u)
def xc_leastFree_t : List (Nat × gz_T q_S) := [(0, gz_push 1 (gz_i 1)), (1, gz_stor 2 2), (2, gz_ldi 3 2), (3, gz_lda 4 0), (4, gz_getI 7 1 q_nc), (7, gz_if2 10 37 (fun x y => y < x) (fun x y => ¬ y < x)), (10, gz_lda 11 0), (11, gz_getR 14 1 6), (14, gz_ldi 15 2), (15, gz_ild 16 x_ai), (16, gz_ldi 17 1), (17, gz_if2 20 31 (fun x y => ¬ x = y) (fun x y => x = y)), (20, gz_lda 21 0), (21, gz_getR 24 1 8), (24, gz_ldi 25 2), (25, gz_ild 26 x_ai), (26, gz_if 29 31 (fun x => ¬ x = 0) (fun x => x = 0)), (29, gz_ldi 30 2), (30, gz_iret), (31, gz_iinc 34 2 1), (34, gz_goto 2), (37, gz_push 38 (gz_i 0)), (38, gz_iret)]
set_option maxRecDepth 100000 in
set_option maxHeartbeats 4000000 in
theorem xc_leastFree_l2_d {Kr : Option Int32 → q_S → Prop} {Z : gz_K q_S} (hZ : gz_shut xc_leastFree_t Kr Z) : ∀ (n : Nat) (v1 : Int32) (v2 : Int32) (u : q_S), xc_leastFree_l2_p n v1 v2 u → Kr (some (xc_leastFree_l2 n v1 v2 u)) u → Z 2 [(0, gz_r 1), (1, gz_i v1), (2, gz_i v2)] [] u := by
  intro n
  induction n with
  | zero => intro v1 v2 u hp _; exact False.elim hp
  | succ n ih =>
  intro v1 v2 u hp hk
  refine hZ.1 [2] 500 2 _ _ _ ?_
  have hp : xc_leastFree_l2_pb (xc_leastFree_l2_p n) v1 v2 u := hp
  refine And.intro (fun (h1 : (q_nc u) < v2) => ?_) (fun (h1 : ¬ (q_nc u) < v2) => ?_)
  · rw [show xc_leastFree_l2 (n + 1) v1 v2 u = 0 from (by unfold xc_leastFree_l2_b; rw [if_pos h1] : xc_leastFree_l2_b (xc_leastFree_l2 n) v1 v2 u = 0)] at hk
    exact hk
  · have hp := hp.2 h1
    have n2 := hp.1
    refine And.intro n2 ?_
    have hp := hp.2
    refine And.intro (fun (h3 : ¬ (q_cr u (Int32.toNatClampNeg v2)) = v1) => ?_) (fun (h3 : (q_cr u (Int32.toNatClampNeg v2)) = v1) => ?_)
    · have hp := hp.2 h3
      rw [show xc_leastFree_l2 (n + 1) v1 v2 u = (xc_leastFree_l2 n v1 (v2 + 1) u) from (by unfold xc_leastFree_l2_b; rw [if_neg h1, if_neg h3] : xc_leastFree_l2_b (xc_leastFree_l2 n) v1 v2 u = (xc_leastFree_l2 n v1 (v2 + 1) u))] at hk
      exact ih v1 (v2 + 1) u hp hk
    · have hp := hp.1 h3
      refine And.intro n2 ?_
      refine And.intro (fun (h4 : ¬ (q_cs u (Int32.toNatClampNeg v2)) = 0) => ?_) (fun (h4 : (q_cs u (Int32.toNatClampNeg v2)) = 0) => ?_)
      · have hp := hp.2 h4
        rw [show xc_leastFree_l2 (n + 1) v1 v2 u = (xc_leastFree_l2 n v1 (v2 + 1) u) from (by unfold xc_leastFree_l2_b; rw [if_neg h1, if_pos h3, if_neg h4] : xc_leastFree_l2_b (xc_leastFree_l2 n) v1 v2 u = (xc_leastFree_l2 n v1 (v2 + 1) u))] at hk
        exact ih v1 (v2 + 1) u hp hk
      · rw [show xc_leastFree_l2 (n + 1) v1 v2 u = v2 from (by unfold xc_leastFree_l2_b; rw [if_neg h1, if_pos h3, if_pos h4] : xc_leastFree_l2_b (xc_leastFree_l2 n) v1 v2 u = v2)] at hk
        exact hk
set_option maxRecDepth 100000 in
set_option maxHeartbeats 4000000 in
theorem xc_leastFree_d {Kr : Option Int32 → q_S → Prop} (u : q_S) (v1 : Int32) (hp : xc_leastFree_p u v1) (hk : Kr (some (xc_leastFree u v1)) u) : gz_does xc_leastFree_t Kr [(0, gz_r 1), (1, gz_i v1)] u := by
  intro Z hZ
  refine hZ.1 [2] 500 0 _ _ _ ?_
  unfold xc_leastFree_p at hp
  rw [show xc_leastFree u v1 = (xc_leastFree_l2 200 v1 1 u) from rfl] at hk
  exact xc_leastFree_l2_d hZ 200 v1 1 u hp hk
-- HoldQueue$Holds.isQueued(II)Z
def xh_isQueued (u : q_S) (v1 : Int32) (v2 : Int32) : Int32 := (if (q_hr u (Int32.toNatClampNeg v1)) = v2 then (if (q_hs u (Int32.toNatClampNeg v1)) = 0 then 1 else 0) else 0)
def xh_isQueued_p (u : q_S) (v1 : Int32) (v2 : Int32) : Prop := (vp_in v1 121)
def xh_isQueued_t : List (Nat × gz_T q_S) := [(0, gz_lda 1 0), (1, gz_getR 4 2 11), (4, gz_ldi 5 1), (5, gz_ild 6 x_ai), (6, gz_ldi 7 2), (7, gz_if2 10 23 (fun x y => ¬ x = y) (fun x y => x = y)), (10, gz_lda 11 0), (11, gz_getR 14 2 14), (14, gz_ldi 15 1), (15, gz_ild 16 x_ai), (16, gz_if 19 23 (fun x => ¬ x = 0) (fun x => x = 0)), (19, gz_push 20 (gz_i 1)), (20, gz_goto 24), (23, gz_push 24 (gz_i 0)), (24, gz_zret)]
set_option maxRecDepth 100000 in
set_option maxHeartbeats 4000000 in
theorem xh_isQueued_d {Kr : Option Int32 → q_S → Prop} (u : q_S) (v1 : Int32) (v2 : Int32) (hp : xh_isQueued_p u v1 v2) (hk : Kr (some (xh_isQueued u v1 v2)) u) : gz_does xh_isQueued_t Kr [(0, gz_r 2), (1, gz_i v1), (2, gz_i v2)] u := by
  intro Z hZ
  refine hZ.1 [] 500 0 _ _ _ ?_
  unfold xh_isQueued_p at hp
  have n1 := hp
  refine And.intro n1 ?_
  refine And.intro (fun (h2 : ¬ (q_hr u (Int32.toNatClampNeg v1)) = v2) => ?_) (fun (h2 : (q_hr u (Int32.toNatClampNeg v1)) = v2) => ?_)
  · refine And.intro (by decide +kernel) ?_
    rw [show xh_isQueued u v1 v2 = 0 from (by unfold xh_isQueued; rw [if_neg h2])] at hk
    exact hk
  · refine And.intro n1 ?_
    refine And.intro (fun (h3 : ¬ (q_hs u (Int32.toNatClampNeg v1)) = 0) => ?_) (fun (h3 : (q_hs u (Int32.toNatClampNeg v1)) = 0) => ?_)
    · refine And.intro (by decide +kernel) ?_
      rw [show xh_isQueued u v1 v2 = 0 from (by unfold xh_isQueued; rw [if_pos h2, if_neg h3])] at hk
      exact hk
    · refine And.intro (by decide +kernel) ?_
      rw [show xh_isQueued u v1 v2 = 1 from (by unfold xh_isQueued; rw [if_pos h2, if_pos h3])] at hk
      exact hk
-- HoldQueue$Holds.comesBefore(II)Z
def xh_comesBefore (u : q_S) (v1 : Int32) (v2 : Int32) : Int32 := (if (q_hk u (Int32.toNatClampNeg v1)) < (q_hk u (Int32.toNatClampNeg v2)) then 1 else (if (q_hk u (Int32.toNatClampNeg v1)) = (q_hk u (Int32.toNatClampNeg v2)) then (if v2 ≤ v1 then 0 else 1) else 0))
def xh_comesBefore_p (u : q_S) (v1 : Int32) (v2 : Int32) : Prop := (vp_in v1 121 ∧ (vp_in v2 121))
def xh_comesBefore_t : List (Nat × gz_T q_S) := [(0, gz_lda 1 0), (1, gz_getR 4 2 13), (4, gz_ldi 5 1), (5, gz_ild 6 x_ai), (6, gz_lda 7 0), (7, gz_getR 10 2 13), (10, gz_ldi 11 2), (11, gz_ild 12 x_ai), (12, gz_if2 15 35 (fun x y => x < y) (fun x y => ¬ x < y)), (15, gz_lda 16 0), (16, gz_getR 19 2 13), (19, gz_ldi 20 1), (20, gz_ild 21 x_ai), (21, gz_lda 22 0), (22, gz_getR 25 2 13), (25, gz_ldi 26 2), (26, gz_ild 27 x_ai), (27, gz_if2 30 39 (fun x y => ¬ x = y) (fun x y => x = y)), (30, gz_ldi 31 1), (31, gz_ldi 32 2), (32, gz_if2 35 39 (fun x y => y ≤ x) (fun x y => ¬ y ≤ x)), (35, gz_push 36 (gz_i 1)), (36, gz_goto 40), (39, gz_push 40 (gz_i 0)), (40, gz_zret)]
set_option maxRecDepth 100000 in
set_option maxHeartbeats 4000000 in
theorem xh_comesBefore_d {Kr : Option Int32 → q_S → Prop} (u : q_S) (v1 : Int32) (v2 : Int32) (hp : xh_comesBefore_p u v1 v2) (hk : Kr (some (xh_comesBefore u v1 v2)) u) : gz_does xh_comesBefore_t Kr [(0, gz_r 2), (1, gz_i v1), (2, gz_i v2)] u := by
  intro Z hZ
  refine hZ.1 [] 500 0 _ _ _ ?_
  unfold xh_comesBefore_p at hp
  have n1 := hp.1
  refine And.intro n1 ?_
  have hp := hp.2
  have n2 := hp
  refine And.intro n2 ?_
  refine And.intro (fun (h3 : (q_hk u (Int32.toNatClampNeg v1)) < (q_hk u (Int32.toNatClampNeg v2))) => ?_) (fun (h3 : ¬ (q_hk u (Int32.toNatClampNeg v1)) < (q_hk u (Int32.toNatClampNeg v2))) => ?_)
  · refine And.intro (by decide +kernel) ?_
    rw [show xh_comesBefore u v1 v2 = 1 from (by unfold xh_comesBefore; rw [if_pos h3])] at hk
    exact hk
  · refine And.intro n1 ?_
    refine And.intro n2 ?_
    refine And.intro (fun (h4 : ¬ (q_hk u (Int32.toNatClampNeg v1)) = (q_hk u (Int32.toNatClampNeg v2))) => ?_) (fun (h4 : (q_hk u (Int32.toNatClampNeg v1)) = (q_hk u (Int32.toNatClampNeg v2))) => ?_)
    · refine And.intro (by decide +kernel) ?_
      rw [show xh_comesBefore u v1 v2 = 0 from (by unfold xh_comesBefore; rw [if_neg h3, if_neg h4])] at hk
      exact hk
    · refine And.intro (fun (h5 : v2 ≤ v1) => ?_) (fun (h5 : ¬ v2 ≤ v1) => ?_)
      · refine And.intro (by decide +kernel) ?_
        rw [show xh_comesBefore u v1 v2 = 0 from (by unfold xh_comesBefore; rw [if_neg h3, if_pos h4, if_pos h5])] at hk
        exact hk
      · refine And.intro (by decide +kernel) ?_
        rw [show xh_comesBefore u v1 v2 = 1 from (by unfold xh_comesBefore; rw [if_neg h3, if_pos h4, if_neg h5])] at hk
        exact hk
-- HoldQueue$Holds.firstFitting(IJ)I
def xh_firstFitting_l6_b (rec : Int32 → Int64 → Int32 → Int32 → q_S → Int32) (v1 : Int32) (v2 : Int64) (v4 : Int32) (v5 : Int32) (u : q_S) : Int32 := (if (q_nh u) < v5 then v4 else (if (xh_isQueued u v5 v1) = 0 then (rec v1 v2 v4 (v5 + 1) u) else (if 0 < (lg_cmp (q_hu u (Int32.toNatClampNeg v5)) v2) then (rec v1 v2 v4 (v5 + 1) u) else (if v4 = 0 then (rec v1 v2 v5 (v5 + 1) u) else (if (xh_comesBefore u v5 v4) = 0 then (rec v1 v2 v4 (v5 + 1) u) else (rec v1 v2 v5 (v5 + 1) u))))))
def xh_firstFitting_l6 : Nat → Int32 → Int64 → Int32 → Int32 → q_S → Int32
  | 0, _, _, _, _, _ => 0
  | n + 1, v1, v2, v4, v5, u => xh_firstFitting_l6_b (xh_firstFitting_l6 n) v1 v2 v4 v5 u
def xh_firstFitting_l6_pb (rec : Int32 → Int64 → Int32 → Int32 → q_S → Prop) (v1 : Int32) (v2 : Int64) (v4 : Int32) (v5 : Int32) (u : q_S) : Prop := (((q_nh u) < v5 → True) ∧ (¬ (q_nh u) < v5 → (xh_isQueued_p u v5 v1 ∧ (((xh_isQueued u v5 v1) = 0 → (rec v1 v2 v4 (v5 + 1) u)) ∧ (¬ (xh_isQueued u v5 v1) = 0 → (vp_in v5 121 ∧ ((0 < (lg_cmp (q_hu u (Int32.toNatClampNeg v5)) v2) → (rec v1 v2 v4 (v5 + 1) u)) ∧ (¬ 0 < (lg_cmp (q_hu u (Int32.toNatClampNeg v5)) v2) → ((v4 = 0 → (rec v1 v2 v5 (v5 + 1) u)) ∧ (¬ v4 = 0 → (xh_comesBefore_p u v5 v4 ∧ (((xh_comesBefore u v5 v4) = 0 → (rec v1 v2 v4 (v5 + 1) u)) ∧ (¬ (xh_comesBefore u v5 v4) = 0 → (rec v1 v2 v5 (v5 + 1) u))))))))))))))
def xh_firstFitting_l6_p : Nat → Int32 → Int64 → Int32 → Int32 → q_S → Prop
  | 0, _, _, _, _, _ => False
  | n + 1, v1, v2, v4, v5, u => xh_firstFitting_l6_pb (xh_firstFitting_l6_p n) v1 v2 v4 v5 u
def xh_firstFitting (u : q_S) (v1 : Int32) (v2 : Int64) : Int32 := (xh_firstFitting_l6 200 v1 v2 0 1 u)
def xh_firstFitting_p (u : q_S) (v1 : Int32) (v2 : Int64) : Prop := (xh_firstFitting_l6_p 200 v1 v2 0 1 u)
def xh_firstFitting_t : List (Nat × gz_T q_S) := [(0, gz_push 1 (gz_i 0)), (1, gz_stor 3 4), (3, gz_push 4 (gz_i 1)), (4, gz_stor 6 5), (6, gz_ldi 8 5), (8, gz_lda 9 0), (9, gz_getI 12 2 q_nh), (12, gz_if2 15 63 (fun x y => y < x) (fun x y => ¬ y < x)), (15, gz_lda 16 0), (16, gz_ldi 18 5), (18, gz_ldi 19 1), (19, gz_c2P 22 2 xh_isQueued_p xh_isQueued), (22, gz_if 25 57 (fun x => x = 0) (fun x => ¬ x = 0)), (25, gz_lda 26 0), (26, gz_getR 29 2 16), (29, gz_ldi 31 5), (31, gz_lld 32 x_al), (32, gz_ldl 33 2), (33, gz_lcmp 34), (34, gz_if 37 57 (fun x => 0 < x) (fun x => ¬ 0 < x)), (37, gz_ldi 39 4), (39, gz_if 42 53 (fun x => x = 0) (fun x => ¬ x = 0)), (42, gz_lda 43 0), (43, gz_ldi 45 5), (45, gz_ldi 47 4), (47, gz_c2P 50 2 xh_comesBefore_p xh_comesBefore), (50, gz_if 53 57 (fun x => x = 0) (fun x => ¬ x = 0)), (53, gz_ldi 55 5), (55, gz_stor 57 4), (57, gz_iinc 60 5 1), (60, gz_goto 6), (63, gz_ldi 65 4), (65, gz_iret)]
set_option maxRecDepth 100000 in
set_option maxHeartbeats 4000000 in
theorem xh_firstFitting_l6_d {Kr : Option Int32 → q_S → Prop} {Z : gz_K q_S} (hZ : gz_shut xh_firstFitting_t Kr Z) : ∀ (n : Nat) (v1 : Int32) (v2 : Int64) (v4 : Int32) (v5 : Int32) (u : q_S), xh_firstFitting_l6_p n v1 v2 v4 v5 u → Kr (some (xh_firstFitting_l6 n v1 v2 v4 v5 u)) u → Z 6 [(0, gz_r 2), (1, gz_i v1), (2, gz_l v2), (4, gz_i v4), (5, gz_i v5)] [] u := by
  intro n
  induction n with
  | zero => intro v1 v2 v4 v5 u hp _; exact False.elim hp
  | succ n ih =>
  intro v1 v2 v4 v5 u hp hk
  refine hZ.1 [6] 500 6 _ _ _ ?_
  have hp : xh_firstFitting_l6_pb (xh_firstFitting_l6_p n) v1 v2 v4 v5 u := hp
  refine And.intro (fun (h1 : (q_nh u) < v5) => ?_) (fun (h1 : ¬ (q_nh u) < v5) => ?_)
  · rw [show xh_firstFitting_l6 (n + 1) v1 v2 v4 v5 u = v4 from (by unfold xh_firstFitting_l6_b; rw [if_pos h1] : xh_firstFitting_l6_b (xh_firstFitting_l6 n) v1 v2 v4 v5 u = v4)] at hk
    exact hk
  · have hp := hp.2 h1
    have n2 := hp.1
    refine And.intro n2 ?_
    have hp := hp.2
    refine And.intro (fun (h3 : (xh_isQueued u v5 v1) = 0) => ?_) (fun (h3 : ¬ (xh_isQueued u v5 v1) = 0) => ?_)
    · have hp := hp.1 h3
      rw [show xh_firstFitting_l6 (n + 1) v1 v2 v4 v5 u = (xh_firstFitting_l6 n v1 v2 v4 (v5 + 1) u) from (by unfold xh_firstFitting_l6_b; rw [if_neg h1, if_pos h3] : xh_firstFitting_l6_b (xh_firstFitting_l6 n) v1 v2 v4 v5 u = (xh_firstFitting_l6 n v1 v2 v4 (v5 + 1) u))] at hk
      exact ih v1 v2 v4 (v5 + 1) u hp hk
    · have hp := hp.2 h3
      have n4 := hp.1
      refine And.intro n4 ?_
      have hp := hp.2
      refine And.intro (fun (h5 : 0 < (lg_cmp (q_hu u (Int32.toNatClampNeg v5)) v2)) => ?_) (fun (h5 : ¬ 0 < (lg_cmp (q_hu u (Int32.toNatClampNeg v5)) v2)) => ?_)
      · have hp := hp.1 h5
        rw [show xh_firstFitting_l6 (n + 1) v1 v2 v4 v5 u = (xh_firstFitting_l6 n v1 v2 v4 (v5 + 1) u) from (by unfold xh_firstFitting_l6_b; rw [if_neg h1, if_neg h3, if_pos h5] : xh_firstFitting_l6_b (xh_firstFitting_l6 n) v1 v2 v4 v5 u = (xh_firstFitting_l6 n v1 v2 v4 (v5 + 1) u))] at hk
        exact ih v1 v2 v4 (v5 + 1) u hp hk
      · have hp := hp.2 h5
        refine And.intro (fun (h6 : v4 = 0) => ?_) (fun (h6 : ¬ v4 = 0) => ?_)
        · have hp := hp.1 h6
          rw [show xh_firstFitting_l6 (n + 1) v1 v2 v4 v5 u = (xh_firstFitting_l6 n v1 v2 v5 (v5 + 1) u) from (by unfold xh_firstFitting_l6_b; rw [if_neg h1, if_neg h3, if_neg h5, if_pos h6] : xh_firstFitting_l6_b (xh_firstFitting_l6 n) v1 v2 v4 v5 u = (xh_firstFitting_l6 n v1 v2 v5 (v5 + 1) u))] at hk
          exact ih v1 v2 v5 (v5 + 1) u hp hk
        · have hp := hp.2 h6
          have n7 := hp.1
          refine And.intro n7 ?_
          have hp := hp.2
          refine And.intro (fun (h8 : (xh_comesBefore u v5 v4) = 0) => ?_) (fun (h8 : ¬ (xh_comesBefore u v5 v4) = 0) => ?_)
          · have hp := hp.1 h8
            rw [show xh_firstFitting_l6 (n + 1) v1 v2 v4 v5 u = (xh_firstFitting_l6 n v1 v2 v4 (v5 + 1) u) from (by unfold xh_firstFitting_l6_b; rw [if_neg h1, if_neg h3, if_neg h5, if_neg h6, if_pos h8] : xh_firstFitting_l6_b (xh_firstFitting_l6 n) v1 v2 v4 v5 u = (xh_firstFitting_l6 n v1 v2 v4 (v5 + 1) u))] at hk
            exact ih v1 v2 v4 (v5 + 1) u hp hk
          · have hp := hp.2 h8
            rw [show xh_firstFitting_l6 (n + 1) v1 v2 v4 v5 u = (xh_firstFitting_l6 n v1 v2 v5 (v5 + 1) u) from (by unfold xh_firstFitting_l6_b; rw [if_neg h1, if_neg h3, if_neg h5, if_neg h6, if_neg h8] : xh_firstFitting_l6_b (xh_firstFitting_l6 n) v1 v2 v4 v5 u = (xh_firstFitting_l6 n v1 v2 v5 (v5 + 1) u))] at hk
            exact ih v1 v2 v5 (v5 + 1) u hp hk
set_option maxRecDepth 100000 in
set_option maxHeartbeats 4000000 in
theorem xh_firstFitting_d {Kr : Option Int32 → q_S → Prop} (u : q_S) (v1 : Int32) (v2 : Int64) (hp : xh_firstFitting_p u v1 v2) (hk : Kr (some (xh_firstFitting u v1 v2)) u) : gz_does xh_firstFitting_t Kr [(0, gz_r 2), (1, gz_i v1), (2, gz_l v2)] u := by
  intro Z hZ
  refine hZ.1 [6] 500 0 _ _ _ ?_
  unfold xh_firstFitting_p at hp
  rw [show xh_firstFitting u v1 v2 = (xh_firstFitting_l6 200 v1 v2 0 1 u) from rfl] at hk
  exact xh_firstFitting_l6_d hZ 200 v1 v2 0 1 u hp hk
-- HoldQueue.layReady(II)V
def x_layReady (u : q_S) (v1 : Int32) (v2 : Int32) : q_S := (q_he_u (q_hs_u (q_cs_u u v1 3) v2 2) v2 ((q_td u) + (Int32.toInt64 (q_sp u))))
def x_layReady_p (u : q_S) (v1 : Int32) (v2 : Int32) : Prop := (vp_in v1 61 ∧ (vp_in v2 121))
def x_layReady_t : List (Nat × gz_T q_S) := [(0, gz_lda 1 0), (1, gz_getR 4 0 1), (4, gz_getR 7 1 8), (7, gz_ldi 8 1), (8, gz_push 9 (gz_i 3)), (9, gz_ist 10 x_ai), (10, gz_lda 11 0), (11, gz_getR 14 0 2), (14, gz_getR 17 2 14), (17, gz_ldi 18 2), (18, gz_push 19 (gz_i 2)), (19, gz_ist 20 x_ai), (20, gz_lda 21 0), (21, gz_getR 24 0 2), (24, gz_getR 27 2 17), (27, gz_ldi 28 2), (28, gz_lda 29 0), (29, gz_getL 32 0 q_td), (32, gz_lda 33 0), (33, gz_getI 36 0 q_sp), (36, gz_itol 37), (37, gz_lop 38 (fun x y => x + y)), (38, gz_lst 39 x_al), (39, gz_vret)]
set_option maxRecDepth 100000 in
set_option maxHeartbeats 4000000 in
theorem x_layReady_d {Kr : Option Int32 → q_S → Prop} (u : q_S) (v1 : Int32) (v2 : Int32) (hp : x_layReady_p u v1 v2) (hk : Kr none (x_layReady u v1 v2)) : gz_does x_layReady_t Kr [(0, gz_r 0), (1, gz_i v1), (2, gz_i v2)] u := by
  intro Z hZ
  refine hZ.1 [] 500 0 _ _ _ ?_
  unfold x_layReady_p at hp
  have n1 := hp.1
  refine And.intro n1 ?_
  have hp := hp.2
  have n2 := hp
  refine And.intro n2 ?_
  refine And.intro n2 ?_
  rw [show x_layReady u v1 v2 = (q_he_u (q_hs_u (q_cs_u u v1 3) v2 2) v2 ((q_td u) + (Int32.toInt64 (q_sp u)))) from rfl] at hk
  exact hk
-- HoldQueue.send(II)V
def x_send (u : q_S) (v1 : Int32) (v2 : Int32) : q_S := (q_hs_u (q_cp_u (q_cs_u u v1 2) v1 (q_hl u (Int32.toNatClampNeg v2))) v2 1)
def x_send_p (u : q_S) (v1 : Int32) (v2 : Int32) : Prop := (vp_in v1 61 ∧ (vp_in v2 121))
def x_send_t : List (Nat × gz_T q_S) := [(0, gz_lda 1 0), (1, gz_getR 4 0 1), (4, gz_getR 7 1 8), (7, gz_ldi 8 1), (8, gz_push 9 (gz_i 2)), (9, gz_ist 10 x_ai), (10, gz_lda 11 0), (11, gz_getR 14 0 1), (14, gz_getR 17 1 7), (17, gz_ldi 18 1), (18, gz_lda 19 0), (19, gz_getR 22 0 2), (22, gz_getR 25 2 12), (25, gz_ldi 26 2), (26, gz_ild 27 x_ai), (27, gz_ist 28 x_ai), (28, gz_lda 29 0), (29, gz_getR 32 0 2), (32, gz_getR 35 2 14), (35, gz_ldi 36 2), (36, gz_push 37 (gz_i 1)), (37, gz_ist 38 x_ai), (38, gz_vret)]
set_option maxRecDepth 100000 in
set_option maxHeartbeats 4000000 in
theorem x_send_d {Kr : Option Int32 → q_S → Prop} (u : q_S) (v1 : Int32) (v2 : Int32) (hp : x_send_p u v1 v2) (hk : Kr none (x_send u v1 v2)) : gz_does x_send_t Kr [(0, gz_r 0), (1, gz_i v1), (2, gz_i v2)] u := by
  intro Z hZ
  refine hZ.1 [] 500 0 _ _ _ ?_
  unfold x_send_p at hp
  have n1 := hp.1
  refine And.intro n1 ?_
  have hp := hp.2
  have n2 := hp
  refine And.intro n2 ?_
  refine And.intro n1 ?_
  refine And.intro n2 ?_
  rw [show x_send u v1 v2 = (q_hs_u (q_cp_u (q_cs_u u v1 2) v1 (q_hl u (Int32.toNatClampNeg v2))) v2 1) from rfl] at hk
  exact hk
-- HoldQueue.settle(I)I
def x_settle (u : q_S) (v1 : Int32) : Int32 × q_S := (if (xh_firstFitting u (q_cr u (Int32.toNatClampNeg v1)) (q_td u)) = 0 then (0, (q_cs_u u v1 0)) else (if (q_cp u (Int32.toNatClampNeg v1)) = (q_hl u (Int32.toNatClampNeg (xh_firstFitting u (q_cr u (Int32.toNatClampNeg v1)) (q_td u)))) then ((xh_firstFitting u (q_cr u (Int32.toNatClampNeg v1)) (q_td u)), (x_layReady (q_hy_u (q_ch_u u v1 (xh_firstFitting u (q_cr u (Int32.toNatClampNeg v1)) (q_td u))) (xh_firstFitting u (q_cr u (Int32.toNatClampNeg v1)) (q_td u)) v1) v1 (xh_firstFitting u (q_cr u (Int32.toNatClampNeg v1)) (q_td u)))) else ((xh_firstFitting u (q_cr u (Int32.toNatClampNeg v1)) (q_td u)), (x_send (q_hy_u (q_ch_u u v1 (xh_firstFitting u (q_cr u (Int32.toNatClampNeg v1)) (q_td u))) (xh_firstFitting u (q_cr u (Int32.toNatClampNeg v1)) (q_td u)) v1) v1 (xh_firstFitting u (q_cr u (Int32.toNatClampNeg v1)) (q_td u))))))
def x_settle_r (u : q_S) (v1 : Int32) : Int32 := (x_settle u v1).1
def x_settle_s (u : q_S) (v1 : Int32) : q_S := (x_settle u v1).2
def x_settle_p (u : q_S) (v1 : Int32) : Prop := (vp_in v1 61 ∧ (xh_firstFitting_p u (q_cr u (Int32.toNatClampNeg v1)) (q_td u) ∧ (((xh_firstFitting u (q_cr u (Int32.toNatClampNeg v1)) (q_td u)) = 0 → True) ∧ (¬ (xh_firstFitting u (q_cr u (Int32.toNatClampNeg v1)) (q_td u)) = 0 → (vp_in (xh_firstFitting u (q_cr u (Int32.toNatClampNeg v1)) (q_td u)) 121 ∧ (((q_cp u (Int32.toNatClampNeg v1)) = (q_hl u (Int32.toNatClampNeg (xh_firstFitting u (q_cr u (Int32.toNatClampNeg v1)) (q_td u)))) → (x_layReady_p (q_hy_u (q_ch_u u v1 (xh_firstFitting u (q_cr u (Int32.toNatClampNeg v1)) (q_td u))) (xh_firstFitting u (q_cr u (Int32.toNatClampNeg v1)) (q_td u)) v1) v1 (xh_firstFitting u (q_cr u (Int32.toNatClampNeg v1)) (q_td u)))) ∧ (¬ (q_cp u (Int32.toNatClampNeg v1)) = (q_hl u (Int32.toNatClampNeg (xh_firstFitting u (q_cr u (Int32.toNatClampNeg v1)) (q_td u)))) → (x_send_p (q_hy_u (q_ch_u u v1 (xh_firstFitting u (q_cr u (Int32.toNatClampNeg v1)) (q_td u))) (xh_firstFitting u (q_cr u (Int32.toNatClampNeg v1)) (q_td u)) v1) v1 (xh_firstFitting u (q_cr u (Int32.toNatClampNeg v1)) (q_td u))))))))))
def x_settle_t : List (Nat × gz_T q_S) := [(0, gz_lda 1 0), (1, gz_getR 4 0 2), (4, gz_lda 5 0), (5, gz_getR 8 0 1), (8, gz_getR 11 1 6), (11, gz_ldi 12 1), (12, gz_ild 13 x_ai), (13, gz_lda 14 0), (14, gz_getL 17 0 q_td), (17, gz_c1lP 20 2 xh_firstFitting_p xh_firstFitting), (20, gz_stor 21 2), (21, gz_ldi 22 2), (22, gz_if 25 37 (fun x => ¬ x = 0) (fun x => x = 0)), (25, gz_lda 26 0), (26, gz_getR 29 0 1), (29, gz_getR 32 1 8), (32, gz_ldi 33 1), (33, gz_push 34 (gz_i 0)), (34, gz_ist 35 x_ai), (35, gz_push 36 (gz_i 0)), (36, gz_iret), (37, gz_lda 38 0), (38, gz_getR 41 0 1), (41, gz_getR 44 1 9), (44, gz_ldi 45 1), (45, gz_ldi 46 2), (46, gz_ist 47 x_ai), (47, gz_lda 48 0), (48, gz_getR 51 0 2), (51, gz_getR 54 2 15), (54, gz_ldi 55 2), (55, gz_ldi 56 1), (56, gz_ist 57 x_ai), (57, gz_lda 58 0), (58, gz_getR 61 0 1), (61, gz_getR 64 1 7), (64, gz_ldi 65 1), (65, gz_ild 66 x_ai), (66, gz_lda 67 0), (67, gz_getR 70 0 2), (70, gz_getR 73 2 12), (73, gz_ldi 74 2), (74, gz_ild 75 x_ai), (75, gz_if2 78 87 (fun x y => ¬ x = y) (fun x y => x = y)), (78, gz_lda 79 0), (79, gz_ldi 80 1), (80, gz_ldi 81 2), (81, gz_c2V 84 0 x_layReady_p x_layReady), (84, gz_goto 93), (87, gz_lda 88 0), (88, gz_ldi 89 1), (89, gz_ldi 90 2), (90, gz_c2V 93 0 x_send_p x_send), (93, gz_ldi 94 2), (94, gz_iret)]
set_option maxRecDepth 100000 in
set_option maxHeartbeats 4000000 in
theorem x_settle_d {Kr : Option Int32 → q_S → Prop} (u : q_S) (v1 : Int32) (hp : x_settle_p u v1) (hk : Kr (some ((x_settle u v1)).1) ((x_settle u v1)).2) : gz_does x_settle_t Kr [(0, gz_r 0), (1, gz_i v1)] u := by
  intro Z hZ
  refine hZ.1 [] 500 0 _ _ _ ?_
  unfold x_settle_p at hp
  have n1 := hp.1
  refine And.intro n1 ?_
  have hp := hp.2
  have n2 := hp.1
  refine And.intro n2 ?_
  have hp := hp.2
  refine And.intro (fun (h3 : ¬ (xh_firstFitting u (q_cr u (Int32.toNatClampNeg v1)) (q_td u)) = 0) => ?_) (fun (h3 : (xh_firstFitting u (q_cr u (Int32.toNatClampNeg v1)) (q_td u)) = 0) => ?_)
  · have hp := hp.2 h3
    refine And.intro n1 ?_
    have n4 := hp.1
    refine And.intro n4 ?_
    have hp := hp.2
    refine And.intro n1 ?_
    refine And.intro n4 ?_
    refine And.intro (fun (h5 : ¬ (q_cp u (Int32.toNatClampNeg v1)) = (q_hl u (Int32.toNatClampNeg (xh_firstFitting u (q_cr u (Int32.toNatClampNeg v1)) (q_td u))))) => ?_) (fun (h5 : (q_cp u (Int32.toNatClampNeg v1)) = (q_hl u (Int32.toNatClampNeg (xh_firstFitting u (q_cr u (Int32.toNatClampNeg v1)) (q_td u))))) => ?_)
    · have hp := hp.2 h5
      have n6 := hp
      refine And.intro n6 ?_
      rw [show x_settle u v1 = ((xh_firstFitting u (q_cr u (Int32.toNatClampNeg v1)) (q_td u)), (x_send (q_hy_u (q_ch_u u v1 (xh_firstFitting u (q_cr u (Int32.toNatClampNeg v1)) (q_td u))) (xh_firstFitting u (q_cr u (Int32.toNatClampNeg v1)) (q_td u)) v1) v1 (xh_firstFitting u (q_cr u (Int32.toNatClampNeg v1)) (q_td u)))) from (by unfold x_settle; rw [if_neg h3, if_neg h5])] at hk
      exact hk
    · have hp := hp.1 h5
      have n7 := hp
      refine And.intro n7 ?_
      rw [show x_settle u v1 = ((xh_firstFitting u (q_cr u (Int32.toNatClampNeg v1)) (q_td u)), (x_layReady (q_hy_u (q_ch_u u v1 (xh_firstFitting u (q_cr u (Int32.toNatClampNeg v1)) (q_td u))) (xh_firstFitting u (q_cr u (Int32.toNatClampNeg v1)) (q_td u)) v1) v1 (xh_firstFitting u (q_cr u (Int32.toNatClampNeg v1)) (q_td u)))) from (by unfold x_settle; rw [if_neg h3, if_pos h5])] at hk
      exact hk
  · refine And.intro n1 ?_
    rw [show x_settle u v1 = (0, (q_cs_u u v1 0)) from (by unfold x_settle; rw [if_pos h3])] at hk
    exact hk
-- HoldQueue.hold(IIII)I
def x_hold (u : q_S) (v1 : Int32) (v2 : Int32) (v3 : Int32) (v4 : Int32) : Int32 × q_S := (if (x_isPerson v1) = 0 then (0, u) else (if (x_isRecord u v2) = 0 then (0, u) else (if (x_isPlace v3) = 0 then (0, u) else (if (q_bd u (Int32.toNatClampNeg (q_kd u (Int32.toNatClampNeg v2)))) = 0 then (if (xh_hasOpen u v1 v2) = 0 then (if (xh_areFull u) = 0 then (if (xh_countOpen u v1) < (q_mo u (Int32.toNatClampNeg v1)) then (if (xc_leastFree (xh_add_s u v1 v2 v3 v4) v2) = 0 then ((xh_add_r u v1 v2 v3 v4), (xh_add_s u v1 v2 v3 v4)) else ((xh_add_r u v1 v2 v3 v4), (x_settle_s (xh_add_s u v1 v2 v3 v4) (xc_leastFree (xh_add_s u v1 v2 v3 v4) v2)))) else ((-1), u)) else (0, u)) else (0, u)) else (0, u)))))
def x_hold_r (u : q_S) (v1 : Int32) (v2 : Int32) (v3 : Int32) (v4 : Int32) : Int32 := (x_hold u v1 v2 v3 v4).1
def x_hold_s (u : q_S) (v1 : Int32) (v2 : Int32) (v3 : Int32) (v4 : Int32) : q_S := (x_hold u v1 v2 v3 v4).2
def x_hold_p (u : q_S) (v1 : Int32) (v2 : Int32) (v3 : Int32) (v4 : Int32) : Prop := (((x_isPerson v1) = 0 → True) ∧ (¬ (x_isPerson v1) = 0 → (x_isRecord_p u v2 ∧ (((x_isRecord u v2) = 0 → True) ∧ (¬ (x_isRecord u v2) = 0 → (((x_isPlace v3) = 0 → True) ∧ (¬ (x_isPlace v3) = 0 → (vp_in v2 31 ∧ (vp_in (q_kd u (Int32.toNatClampNeg v2)) 4 ∧ (((q_bd u (Int32.toNatClampNeg (q_kd u (Int32.toNatClampNeg v2)))) = 0 → (xh_hasOpen_p u v1 v2 ∧ (((xh_hasOpen u v1 v2) = 0 → (((xh_areFull u) = 0 → (xh_countOpen_p u v1 ∧ (vp_in v1 40 ∧ (((xh_countOpen u v1) < (q_mo u (Int32.toNatClampNeg v1)) → (xh_add_p u v1 v2 v3 v4 ∧ (xc_leastFree_p (xh_add_s u v1 v2 v3 v4) v2 ∧ (((xc_leastFree (xh_add_s u v1 v2 v3 v4) v2) = 0 → True) ∧ (¬ (xc_leastFree (xh_add_s u v1 v2 v3 v4) v2) = 0 → (x_settle_p (xh_add_s u v1 v2 v3 v4) (xc_leastFree (xh_add_s u v1 v2 v3 v4) v2))))))) ∧ (¬ (xh_countOpen u v1) < (q_mo u (Int32.toNatClampNeg v1)) → True))))) ∧ (¬ (xh_areFull u) = 0 → True))) ∧ (¬ (xh_hasOpen u v1 v2) = 0 → True)))) ∧ (¬ (q_bd u (Int32.toNatClampNeg (q_kd u (Int32.toNatClampNeg v2)))) = 0 → True)))))))))))
def x_hold_t : List (Nat × gz_T q_S) := [(0, gz_ldi 1 1), (1, gz_s1P 4 x_isPerson), (4, gz_if 7 22 (fun x => x = 0) (fun x => ¬ x = 0)), (7, gz_lda 8 0), (8, gz_ldi 9 2), (9, gz_c1P 12 0 x_isRecord_p x_isRecord), (12, gz_if 15 22 (fun x => x = 0) (fun x => ¬ x = 0)), (15, gz_ldi 16 3), (16, gz_s1P 19 x_isPlace), (19, gz_if 22 24 (fun x => ¬ x = 0) (fun x => x = 0)), (22, gz_push 23 (gz_i 0)), (23, gz_iret), (24, gz_lda 25 0), (25, gz_getR 28 0 4), (28, gz_lda 29 0), (29, gz_getR 32 0 3), (32, gz_ldi 33 2), (33, gz_ild 34 x_ai), (34, gz_ild 35 x_az), (35, gz_if 38 60 (fun x => ¬ x = 0) (fun x => x = 0)), (38, gz_lda 39 0), (39, gz_getR 42 0 2), (42, gz_ldi 43 1), (43, gz_ldi 44 2), (44, gz_c2P 47 2 xh_hasOpen_p xh_hasOpen), (47, gz_if 50 60 (fun x => ¬ x = 0) (fun x => x = 0)), (50, gz_lda 51 0), (51, gz_getR 54 0 2), (54, gz_c0P 57 2 xh_areFull), (57, gz_if 60 62 (fun x => x = 0) (fun x => ¬ x = 0)), (60, gz_push 61 (gz_i 0)), (61, gz_iret), (62, gz_lda 63 0), (63, gz_getR 66 0 2), (66, gz_ldi 67 1), (67, gz_c1P 70 2 xh_countOpen_p xh_countOpen), (70, gz_lda 71 0), (71, gz_getR 74 0 5), (74, gz_ldi 75 1), (75, gz_ild 76 x_ai), (76, gz_if2 79 81 (fun x y => x < y) (fun x y => ¬ x < y)), (79, gz_push 80 (gz_i (-1))), (80, gz_iret), (81, gz_lda 82 0), (82, gz_getR 85 0 2), (85, gz_ldi 86 1), (86, gz_ldi 87 2), (87, gz_ldi 88 3), (88, gz_ldi 90 4), (90, gz_c4I 93 2 xh_add_p xh_add_r xh_add_s), (93, gz_stor 95 5), (95, gz_lda 96 0), (96, gz_getR 99 0 1), (99, gz_ldi 100 2), (100, gz_c1P 103 1 xc_leastFree_p xc_leastFree), (103, gz_stor 105 6), (105, gz_ldi 107 6), (107, gz_if 110 117 (fun x => x = 0) (fun x => ¬ x = 0)), (110, gz_lda 111 0), (111, gz_ldi 113 6), (113, gz_c1I 116 0 x_settle_p x_settle_r x_settle_s), (116, gz_pop 117), (117, gz_ldi 119 5), (119, gz_iret)]
set_option maxRecDepth 100000 in
set_option maxHeartbeats 4000000 in
theorem x_hold_d {Kr : Option Int32 → q_S → Prop} (u : q_S) (v1 : Int32) (v2 : Int32) (v3 : Int32) (v4 : Int32) (hp : x_hold_p u v1 v2 v3 v4) (hk : Kr (some ((x_hold u v1 v2 v3 v4)).1) ((x_hold u v1 v2 v3 v4)).2) : gz_does x_hold_t Kr [(0, gz_r 0), (1, gz_i v1), (2, gz_i v2), (3, gz_i v3), (4, gz_i v4)] u := by
  intro Z hZ
  refine hZ.1 [] 500 0 _ _ _ ?_
  unfold x_hold_p at hp
  refine And.intro (fun (h1 : (x_isPerson v1) = 0) => ?_) (fun (h1 : ¬ (x_isPerson v1) = 0) => ?_)
  · rw [show x_hold u v1 v2 v3 v4 = (0, u) from (by unfold x_hold; rw [if_pos h1])] at hk
    exact hk
  · have hp := hp.2 h1
    have n2 := hp.1
    refine And.intro n2 ?_
    have hp := hp.2
    refine And.intro (fun (h3 : (x_isRecord u v2) = 0) => ?_) (fun (h3 : ¬ (x_isRecord u v2) = 0) => ?_)
    · rw [show x_hold u v1 v2 v3 v4 = (0, u) from (by unfold x_hold; rw [if_neg h1, if_pos h3])] at hk
      exact hk
    · have hp := hp.2 h3
      refine And.intro (fun (h4 : ¬ (x_isPlace v3) = 0) => ?_) (fun (h4 : (x_isPlace v3) = 0) => ?_)
      · have hp := hp.2 h4
        have n5 := hp.1
        refine And.intro n5 ?_
        have hp := hp.2
        have n6 := hp.1
        refine And.intro n6 ?_
        have hp := hp.2
        refine And.intro (fun (h7 : ¬ (q_bd u (Int32.toNatClampNeg (q_kd u (Int32.toNatClampNeg v2)))) = 0) => ?_) (fun (h7 : (q_bd u (Int32.toNatClampNeg (q_kd u (Int32.toNatClampNeg v2)))) = 0) => ?_)
        · rw [show x_hold u v1 v2 v3 v4 = (0, u) from (by unfold x_hold; rw [if_neg h1, if_neg h3, if_neg h4, if_neg h7])] at hk
          exact hk
        · have hp := hp.1 h7
          have n8 := hp.1
          refine And.intro n8 ?_
          have hp := hp.2
          refine And.intro (fun (h9 : ¬ (xh_hasOpen u v1 v2) = 0) => ?_) (fun (h9 : (xh_hasOpen u v1 v2) = 0) => ?_)
          · rw [show x_hold u v1 v2 v3 v4 = (0, u) from (by unfold x_hold; rw [if_neg h1, if_neg h3, if_neg h4, if_pos h7, if_neg h9])] at hk
            exact hk
          · have hp := hp.1 h9
            refine And.intro (fun (h10 : (xh_areFull u) = 0) => ?_) (fun (h10 : ¬ (xh_areFull u) = 0) => ?_)
            · have hp := hp.1 h10
              have n11 := hp.1
              refine And.intro n11 ?_
              have hp := hp.2
              have n12 := hp.1
              refine And.intro n12 ?_
              have hp := hp.2
              refine And.intro (fun (h13 : (xh_countOpen u v1) < (q_mo u (Int32.toNatClampNeg v1))) => ?_) (fun (h13 : ¬ (xh_countOpen u v1) < (q_mo u (Int32.toNatClampNeg v1))) => ?_)
              · have hp := hp.1 h13
                have n14 := hp.1
                refine And.intro n14 ?_
                have hp := hp.2
                have n15 := hp.1
                refine And.intro n15 ?_
                have hp := hp.2
                refine And.intro (fun (h16 : (xc_leastFree (xh_add_s u v1 v2 v3 v4) v2) = 0) => ?_) (fun (h16 : ¬ (xc_leastFree (xh_add_s u v1 v2 v3 v4) v2) = 0) => ?_)
                · rw [show x_hold u v1 v2 v3 v4 = ((xh_add_r u v1 v2 v3 v4), (xh_add_s u v1 v2 v3 v4)) from (by unfold x_hold; rw [if_neg h1, if_neg h3, if_neg h4, if_pos h7, if_pos h9, if_pos h10, if_pos h13, if_pos h16])] at hk
                  exact hk
                · have hp := hp.2 h16
                  have n17 := hp
                  refine And.intro n17 ?_
                  rw [show x_hold u v1 v2 v3 v4 = ((xh_add_r u v1 v2 v3 v4), (x_settle_s (xh_add_s u v1 v2 v3 v4) (xc_leastFree (xh_add_s u v1 v2 v3 v4) v2))) from (by unfold x_hold; rw [if_neg h1, if_neg h3, if_neg h4, if_pos h7, if_pos h9, if_pos h10, if_pos h13, if_neg h16])] at hk
                  exact hk
              · rw [show x_hold u v1 v2 v3 v4 = ((-1), u) from (by unfold x_hold; rw [if_neg h1, if_neg h3, if_neg h4, if_pos h7, if_pos h9, if_pos h10, if_neg h13])] at hk
                exact hk
            · rw [show x_hold u v1 v2 v3 v4 = (0, u) from (by unfold x_hold; rw [if_neg h1, if_neg h3, if_neg h4, if_pos h7, if_pos h9, if_neg h10])] at hk
              exact hk
      · rw [show x_hold u v1 v2 v3 v4 = (0, u) from (by unfold x_hold; rw [if_neg h1, if_neg h3, if_pos h4])] at hk
        exact hk
-- HoldQueue.most(II)I
def x_most (u : q_S) (v1 : Int32) (v2 : Int32) : Int32 × q_S := (if (x_isPerson v1) = 0 then ((-1), u) else (if v2 < 0 then ((-1), u) else (if v2 ≤ 20 then ((q_mo u (Int32.toNatClampNeg v1)), (q_mo_u u v1 v2)) else ((-1), u))))
def x_most_r (u : q_S) (v1 : Int32) (v2 : Int32) : Int32 := (x_most u v1 v2).1
def x_most_s (u : q_S) (v1 : Int32) (v2 : Int32) : q_S := (x_most u v1 v2).2
def x_most_p (u : q_S) (v1 : Int32) (v2 : Int32) : Prop := (((x_isPerson v1) = 0 → True) ∧ (¬ (x_isPerson v1) = 0 → ((v2 < 0 → True) ∧ (¬ v2 < 0 → ((v2 ≤ 20 → (vp_in v1 40)) ∧ (¬ v2 ≤ 20 → True))))))
def x_most_t : List (Nat × gz_T q_S) := [(0, gz_ldi 1 1), (1, gz_s1P 4 x_isPerson), (4, gz_if 7 17 (fun x => x = 0) (fun x => ¬ x = 0)), (7, gz_ldi 8 2), (8, gz_if 11 17 (fun x => x < 0) (fun x => ¬ x < 0)), (11, gz_ldi 12 2), (12, gz_push 14 (gz_i 20)), (14, gz_if2 17 19 (fun x y => x ≤ y) (fun x y => ¬ x ≤ y)), (17, gz_push 18 (gz_i (-1))), (18, gz_iret), (19, gz_lda 20 0), (20, gz_getR 23 0 5), (23, gz_ldi 24 1), (24, gz_ild 25 x_ai), (25, gz_stor 26 3), (26, gz_lda 27 0), (27, gz_getR 30 0 5), (30, gz_ldi 31 1), (31, gz_ldi 32 2), (32, gz_ist 33 x_ai), (33, gz_ldi 34 3), (34, gz_iret)]
set_option maxRecDepth 100000 in
set_option maxHeartbeats 4000000 in
theorem x_most_d {Kr : Option Int32 → q_S → Prop} (u : q_S) (v1 : Int32) (v2 : Int32) (hp : x_most_p u v1 v2) (hk : Kr (some ((x_most u v1 v2)).1) ((x_most u v1 v2)).2) : gz_does x_most_t Kr [(0, gz_r 0), (1, gz_i v1), (2, gz_i v2)] u := by
  intro Z hZ
  refine hZ.1 [] 500 0 _ _ _ ?_
  unfold x_most_p at hp
  refine And.intro (fun (h1 : (x_isPerson v1) = 0) => ?_) (fun (h1 : ¬ (x_isPerson v1) = 0) => ?_)
  · rw [show x_most u v1 v2 = ((-1), u) from (by unfold x_most; rw [if_pos h1])] at hk
    exact hk
  · have hp := hp.2 h1
    refine And.intro (fun (h2 : v2 < 0) => ?_) (fun (h2 : ¬ v2 < 0) => ?_)
    · rw [show x_most u v1 v2 = ((-1), u) from (by unfold x_most; rw [if_neg h1, if_pos h2])] at hk
      exact hk
    · have hp := hp.2 h2
      refine And.intro (fun (h3 : v2 ≤ 20) => ?_) (fun (h3 : ¬ v2 ≤ 20) => ?_)
      · have hp := hp.1 h3
        have n4 := hp
        refine And.intro n4 ?_
        refine And.intro n4 ?_
        rw [show x_most u v1 v2 = ((q_mo u (Int32.toNatClampNeg v1)), (q_mo_u u v1 v2)) from (by unfold x_most; rw [if_neg h1, if_neg h2, if_pos h3])] at hk
        exact hk
      · rw [show x_most u v1 v2 = ((-1), u) from (by unfold x_most; rw [if_neg h1, if_neg h2, if_neg h3])] at hk
        exact hk
-- HoldQueue.suspend(IJ)I
def x_suspend (u : q_S) (v1 : Int32) (v2 : Int64) : Int32 × q_S := (if (xh_isIn u v1 0) = 0 then (0, u) else (1, (q_hu_u u v1 v2)))
def x_suspend_r (u : q_S) (v1 : Int32) (v2 : Int64) : Int32 := (x_suspend u v1 v2).1
def x_suspend_s (u : q_S) (v1 : Int32) (v2 : Int64) : q_S := (x_suspend u v1 v2).2
def x_suspend_p (u : q_S) (v1 : Int32) (v2 : Int64) : Prop := (xh_isIn_p u v1 0 ∧ (((xh_isIn u v1 0) = 0 → True) ∧ (¬ (xh_isIn u v1 0) = 0 → (vp_in v1 121))))
def x_suspend_t : List (Nat × gz_T q_S) := [(0, gz_lda 1 0), (1, gz_getR 4 0 2), (4, gz_ldi 5 1), (5, gz_push 6 (gz_i 0)), (6, gz_c2P 9 2 xh_isIn_p xh_isIn), (9, gz_if 12 14 (fun x => ¬ x = 0) (fun x => x = 0)), (12, gz_push 13 (gz_i 0)), (13, gz_iret), (14, gz_lda 15 0), (15, gz_getR 18 0 2), (18, gz_getR 21 2 16), (21, gz_ldi 22 1), (22, gz_ldl 23 2), (23, gz_lst 24 x_al), (24, gz_push 25 (gz_i 1)), (25, gz_iret)]
set_option maxRecDepth 100000 in
set_option maxHeartbeats 4000000 in
theorem x_suspend_d {Kr : Option Int32 → q_S → Prop} (u : q_S) (v1 : Int32) (v2 : Int64) (hp : x_suspend_p u v1 v2) (hk : Kr (some ((x_suspend u v1 v2)).1) ((x_suspend u v1 v2)).2) : gz_does x_suspend_t Kr [(0, gz_r 0), (1, gz_i v1), (2, gz_l v2)] u := by
  intro Z hZ
  refine hZ.1 [] 500 0 _ _ _ ?_
  unfold x_suspend_p at hp
  have n1 := hp.1
  refine And.intro n1 ?_
  have hp := hp.2
  refine And.intro (fun (h2 : ¬ (xh_isIn u v1 0) = 0) => ?_) (fun (h2 : (xh_isIn u v1 0) = 0) => ?_)
  · have hp := hp.2 h2
    have n3 := hp
    refine And.intro n3 ?_
    rw [show x_suspend u v1 v2 = (1, (q_hu_u u v1 v2)) from (by unfold x_suspend; rw [if_neg h2])] at hk
    exact hk
  · rw [show x_suspend u v1 v2 = (0, u) from (by unfold x_suspend; rw [if_pos h2])] at hk
    exact hk
-- HoldQueue$Copies.has(I)Z
def xc_has (u : q_S) (v1 : Int32) : Int32 := (if v1 < 1 then 0 else (if (q_nc u) < v1 then 0 else 1))
def xc_has_p (u : q_S) (v1 : Int32) : Prop := True
def xc_has_t : List (Nat × gz_T q_S) := [(0, gz_ldi 1 1), (1, gz_push 2 (gz_i 1)), (2, gz_if2 5 17 (fun x y => x < y) (fun x y => ¬ x < y)), (5, gz_ldi 6 1), (6, gz_lda 7 0), (7, gz_getI 10 1 q_nc), (10, gz_if2 13 17 (fun x y => y < x) (fun x y => ¬ y < x)), (13, gz_push 14 (gz_i 1)), (14, gz_goto 18), (17, gz_push 18 (gz_i 0)), (18, gz_zret)]
set_option maxRecDepth 100000 in
set_option maxHeartbeats 4000000 in
theorem xc_has_d {Kr : Option Int32 → q_S → Prop} (u : q_S) (v1 : Int32) (hk : Kr (some (xc_has u v1)) u) : gz_does xc_has_t Kr [(0, gz_r 1), (1, gz_i v1)] u := by
  intro Z hZ
  refine hZ.1 [] 500 0 _ _ _ ?_
  refine And.intro (fun (h1 : v1 < 1) => ?_) (fun (h1 : ¬ v1 < 1) => ?_)
  · refine And.intro (by decide +kernel) ?_
    rw [show xc_has u v1 = 0 from (by unfold xc_has; rw [if_pos h1])] at hk
    exact hk
  · refine And.intro (fun (h2 : (q_nc u) < v1) => ?_) (fun (h2 : ¬ (q_nc u) < v1) => ?_)
    · refine And.intro (by decide +kernel) ?_
      rw [show xc_has u v1 = 0 from (by unfold xc_has; rw [if_neg h1, if_pos h2])] at hk
      exact hk
    · refine And.intro (by decide +kernel) ?_
      rw [show xc_has u v1 = 1 from (by unfold xc_has; rw [if_neg h1, if_neg h2])] at hk
      exact hk
-- HoldQueue$Copies.isIn(II)Z
def xc_isIn (u : q_S) (v1 : Int32) (v2 : Int32) : Int32 := (if (xc_has u v1) = 0 then 0 else (if (q_cs u (Int32.toNatClampNeg v1)) = v2 then 1 else 0))
def xc_isIn_p (u : q_S) (v1 : Int32) (v2 : Int32) : Prop := (xc_has_p u v1 ∧ (((xc_has u v1) = 0 → True) ∧ (¬ (xc_has u v1) = 0 → (vp_in v1 61))))
def xc_isIn_t : List (Nat × gz_T q_S) := [(0, gz_lda 1 0), (1, gz_ldi 2 1), (2, gz_c1P 5 1 xc_has_p xc_has), (5, gz_if 8 22 (fun x => x = 0) (fun x => ¬ x = 0)), (8, gz_lda 9 0), (9, gz_getR 12 1 8), (12, gz_ldi 13 1), (13, gz_ild 14 x_ai), (14, gz_ldi 15 2), (15, gz_if2 18 22 (fun x y => ¬ x = y) (fun x y => x = y)), (18, gz_push 19 (gz_i 1)), (19, gz_goto 23), (22, gz_push 23 (gz_i 0)), (23, gz_zret)]
set_option maxRecDepth 100000 in
set_option maxHeartbeats 4000000 in
theorem xc_isIn_d {Kr : Option Int32 → q_S → Prop} (u : q_S) (v1 : Int32) (v2 : Int32) (hp : xc_isIn_p u v1 v2) (hk : Kr (some (xc_isIn u v1 v2)) u) : gz_does xc_isIn_t Kr [(0, gz_r 1), (1, gz_i v1), (2, gz_i v2)] u := by
  intro Z hZ
  refine hZ.1 [] 500 0 _ _ _ ?_
  unfold xc_isIn_p at hp
  have n1 := hp.1
  refine And.intro n1 ?_
  have hp := hp.2
  refine And.intro (fun (h2 : (xc_has u v1) = 0) => ?_) (fun (h2 : ¬ (xc_has u v1) = 0) => ?_)
  · refine And.intro (by decide +kernel) ?_
    rw [show xc_isIn u v1 v2 = 0 from (by unfold xc_isIn; rw [if_pos h2])] at hk
    exact hk
  · have hp := hp.2 h2
    have n3 := hp
    refine And.intro n3 ?_
    refine And.intro (fun (h4 : ¬ (q_cs u (Int32.toNatClampNeg v1)) = v2) => ?_) (fun (h4 : (q_cs u (Int32.toNatClampNeg v1)) = v2) => ?_)
    · refine And.intro (by decide +kernel) ?_
      rw [show xc_isIn u v1 v2 = 0 from (by unfold xc_isIn; rw [if_neg h2, if_neg h4])] at hk
      exact hk
    · refine And.intro (by decide +kernel) ?_
      rw [show xc_isIn u v1 v2 = 1 from (by unfold xc_isIn; rw [if_neg h2, if_pos h4])] at hk
      exact hk
-- HoldQueue.back(II)I
def x_back (u : q_S) (v1 : Int32) (v2 : Int32) : Int32 × q_S := (if (xc_isIn u v1 1) = 0 then ((-1), u) else (if (x_isPlace v2) = 0 then ((-1), u) else ((x_settle_r (q_cp_u u v1 v2) v1), (x_settle_s (q_cp_u u v1 v2) v1))))
def x_back_r (u : q_S) (v1 : Int32) (v2 : Int32) : Int32 := (x_back u v1 v2).1
def x_back_s (u : q_S) (v1 : Int32) (v2 : Int32) : q_S := (x_back u v1 v2).2
def x_back_p (u : q_S) (v1 : Int32) (v2 : Int32) : Prop := (xc_isIn_p u v1 1 ∧ (((xc_isIn u v1 1) = 0 → True) ∧ (¬ (xc_isIn u v1 1) = 0 → (((x_isPlace v2) = 0 → True) ∧ (¬ (x_isPlace v2) = 0 → (vp_in v1 61 ∧ (x_settle_p (q_cp_u u v1 v2) v1)))))))
def x_back_t : List (Nat × gz_T q_S) := [(0, gz_lda 1 0), (1, gz_getR 4 0 1), (4, gz_ldi 5 1), (5, gz_push 6 (gz_i 1)), (6, gz_c2P 9 1 xc_isIn_p xc_isIn), (9, gz_if 12 19 (fun x => x = 0) (fun x => ¬ x = 0)), (12, gz_ldi 13 2), (13, gz_s1P 16 x_isPlace), (16, gz_if 19 21 (fun x => ¬ x = 0) (fun x => x = 0)), (19, gz_push 20 (gz_i (-1))), (20, gz_iret), (21, gz_lda 22 0), (22, gz_getR 25 0 1), (25, gz_getR 28 1 7), (28, gz_ldi 29 1), (29, gz_ldi 30 2), (30, gz_ist 31 x_ai), (31, gz_lda 32 0), (32, gz_ldi 33 1), (33, gz_c1I 36 0 x_settle_p x_settle_r x_settle_s), (36, gz_iret)]
set_option maxRecDepth 100000 in
set_option maxHeartbeats 4000000 in
theorem x_back_d {Kr : Option Int32 → q_S → Prop} (u : q_S) (v1 : Int32) (v2 : Int32) (hp : x_back_p u v1 v2) (hk : Kr (some ((x_back u v1 v2)).1) ((x_back u v1 v2)).2) : gz_does x_back_t Kr [(0, gz_r 0), (1, gz_i v1), (2, gz_i v2)] u := by
  intro Z hZ
  refine hZ.1 [] 500 0 _ _ _ ?_
  unfold x_back_p at hp
  have n1 := hp.1
  refine And.intro n1 ?_
  have hp := hp.2
  refine And.intro (fun (h2 : (xc_isIn u v1 1) = 0) => ?_) (fun (h2 : ¬ (xc_isIn u v1 1) = 0) => ?_)
  · rw [show x_back u v1 v2 = ((-1), u) from (by unfold x_back; rw [if_pos h2])] at hk
    exact hk
  · have hp := hp.2 h2
    refine And.intro (fun (h3 : ¬ (x_isPlace v2) = 0) => ?_) (fun (h3 : (x_isPlace v2) = 0) => ?_)
    · have hp := hp.2 h3
      have n4 := hp.1
      refine And.intro n4 ?_
      have hp := hp.2
      have n5 := hp
      refine And.intro n5 ?_
      rw [show x_back u v1 v2 = ((x_settle_r (q_cp_u u v1 v2) v1), (x_settle_s (q_cp_u u v1 v2) v1)) from (by unfold x_back; rw [if_neg h2, if_neg h3])] at hk
      exact hk
    · rw [show x_back u v1 v2 = ((-1), u) from (by unfold x_back; rw [if_neg h2, if_pos h3])] at hk
      exact hk
-- HoldQueue.untie(II)V
def x_untie (u : q_S) (v1 : Int32) (v2 : Int32) : q_S := (q_hy_u (q_ch_u u v1 0) v2 0)
def x_untie_p (u : q_S) (v1 : Int32) (v2 : Int32) : Prop := (vp_in v1 61 ∧ (vp_in v2 121))
def x_untie_t : List (Nat × gz_T q_S) := [(0, gz_lda 1 0), (1, gz_getR 4 0 1), (4, gz_getR 7 1 9), (7, gz_ldi 8 1), (8, gz_push 9 (gz_i 0)), (9, gz_ist 10 x_ai), (10, gz_lda 11 0), (11, gz_getR 14 0 2), (14, gz_getR 17 2 15), (17, gz_ldi 18 2), (18, gz_push 19 (gz_i 0)), (19, gz_ist 20 x_ai), (20, gz_vret)]
set_option maxRecDepth 100000 in
set_option maxHeartbeats 4000000 in
theorem x_untie_d {Kr : Option Int32 → q_S → Prop} (u : q_S) (v1 : Int32) (v2 : Int32) (hp : x_untie_p u v1 v2) (hk : Kr none (x_untie u v1 v2)) : gz_does x_untie_t Kr [(0, gz_r 0), (1, gz_i v1), (2, gz_i v2)] u := by
  intro Z hZ
  refine hZ.1 [] 500 0 _ _ _ ?_
  unfold x_untie_p at hp
  have n1 := hp.1
  refine And.intro n1 ?_
  have hp := hp.2
  have n2 := hp
  refine And.intro n2 ?_
  rw [show x_untie u v1 v2 = (q_hy_u (q_ch_u u v1 0) v2 0) from rfl] at hk
  exact hk
-- HoldQueue.arrive(I)I
def x_arrive (u : q_S) (v1 : Int32) : Int32 × q_S := (if (xc_isIn u v1 2) = 0 then ((-1), u) else (if (xh_isIn u (q_ch u (Int32.toNatClampNeg v1)) 1) = 0 then (0, (x_settle_s (x_untie u v1 (q_ch u (Int32.toNatClampNeg v1))) v1)) else (1, (x_layReady u v1 (q_ch u (Int32.toNatClampNeg v1))))))
def x_arrive_r (u : q_S) (v1 : Int32) : Int32 := (x_arrive u v1).1
def x_arrive_s (u : q_S) (v1 : Int32) : q_S := (x_arrive u v1).2
def x_arrive_p (u : q_S) (v1 : Int32) : Prop := (xc_isIn_p u v1 2 ∧ (((xc_isIn u v1 2) = 0 → True) ∧ (¬ (xc_isIn u v1 2) = 0 → (vp_in v1 61 ∧ (xh_isIn_p u (q_ch u (Int32.toNatClampNeg v1)) 1 ∧ (((xh_isIn u (q_ch u (Int32.toNatClampNeg v1)) 1) = 0 → (x_untie_p u v1 (q_ch u (Int32.toNatClampNeg v1)) ∧ (x_settle_p (x_untie u v1 (q_ch u (Int32.toNatClampNeg v1))) v1))) ∧ (¬ (xh_isIn u (q_ch u (Int32.toNatClampNeg v1)) 1) = 0 → (x_layReady_p u v1 (q_ch u (Int32.toNatClampNeg v1))))))))))
def x_arrive_t : List (Nat × gz_T q_S) := [(0, gz_lda 1 0), (1, gz_getR 4 0 1), (4, gz_ldi 5 1), (5, gz_push 6 (gz_i 2)), (6, gz_c2P 9 1 xc_isIn_p xc_isIn), (9, gz_if 12 14 (fun x => ¬ x = 0) (fun x => x = 0)), (12, gz_push 13 (gz_i (-1))), (13, gz_iret), (14, gz_lda 15 0), (15, gz_getR 18 0 1), (18, gz_getR 21 1 9), (21, gz_ldi 22 1), (22, gz_ild 23 x_ai), (23, gz_stor 24 2), (24, gz_lda 25 0), (25, gz_getR 28 0 2), (28, gz_ldi 29 2), (29, gz_push 30 (gz_i 1)), (30, gz_c2P 33 2 xh_isIn_p xh_isIn), (33, gz_if 36 44 (fun x => x = 0) (fun x => ¬ x = 0)), (36, gz_lda 37 0), (37, gz_ldi 38 1), (38, gz_ldi 39 2), (39, gz_c2V 42 0 x_layReady_p x_layReady), (42, gz_push 43 (gz_i 1)), (43, gz_iret), (44, gz_lda 45 0), (45, gz_ldi 46 1), (46, gz_ldi 47 2), (47, gz_c2V 50 0 x_untie_p x_untie), (50, gz_lda 51 0), (51, gz_ldi 52 1), (52, gz_c1I 55 0 x_settle_p x_settle_r x_settle_s), (55, gz_pop 56), (56, gz_push 57 (gz_i 0)), (57, gz_iret)]
set_option maxRecDepth 100000 in
set_option maxHeartbeats 4000000 in
theorem x_arrive_d {Kr : Option Int32 → q_S → Prop} (u : q_S) (v1 : Int32) (hp : x_arrive_p u v1) (hk : Kr (some ((x_arrive u v1)).1) ((x_arrive u v1)).2) : gz_does x_arrive_t Kr [(0, gz_r 0), (1, gz_i v1)] u := by
  intro Z hZ
  refine hZ.1 [] 500 0 _ _ _ ?_
  unfold x_arrive_p at hp
  have n1 := hp.1
  refine And.intro n1 ?_
  have hp := hp.2
  refine And.intro (fun (h2 : ¬ (xc_isIn u v1 2) = 0) => ?_) (fun (h2 : (xc_isIn u v1 2) = 0) => ?_)
  · have hp := hp.2 h2
    have n3 := hp.1
    refine And.intro n3 ?_
    have hp := hp.2
    have n4 := hp.1
    refine And.intro n4 ?_
    have hp := hp.2
    refine And.intro (fun (h5 : (xh_isIn u (q_ch u (Int32.toNatClampNeg v1)) 1) = 0) => ?_) (fun (h5 : ¬ (xh_isIn u (q_ch u (Int32.toNatClampNeg v1)) 1) = 0) => ?_)
    · have hp := hp.1 h5
      have n6 := hp.1
      refine And.intro n6 ?_
      have hp := hp.2
      have n7 := hp
      refine And.intro n7 ?_
      rw [show x_arrive u v1 = (0, (x_settle_s (x_untie u v1 (q_ch u (Int32.toNatClampNeg v1))) v1)) from (by unfold x_arrive; rw [if_neg h2, if_pos h5])] at hk
      exact hk
    · have hp := hp.2 h5
      have n8 := hp
      refine And.intro n8 ?_
      rw [show x_arrive u v1 = (1, (x_layReady u v1 (q_ch u (Int32.toNatClampNeg v1)))) from (by unfold x_arrive; rw [if_neg h2, if_neg h5])] at hk
      exact hk
  · rw [show x_arrive u v1 = ((-1), u) from (by unfold x_arrive; rw [if_pos h2])] at hk
    exact hk
-- HoldQueue.pick(I)I
def x_pick (u : q_S) (v1 : Int32) : Int32 × q_S := (if (xh_isIn u v1 2) = 0 then (0, u) else ((q_hy u (Int32.toNatClampNeg v1)), (q_cs_u (x_untie (q_hs_u u v1 3) (q_hy u (Int32.toNatClampNeg v1)) v1) (q_hy u (Int32.toNatClampNeg v1)) 1)))
def x_pick_r (u : q_S) (v1 : Int32) : Int32 := (x_pick u v1).1
def x_pick_s (u : q_S) (v1 : Int32) : q_S := (x_pick u v1).2
def x_pick_p (u : q_S) (v1 : Int32) : Prop := (xh_isIn_p u v1 2 ∧ (((xh_isIn u v1 2) = 0 → True) ∧ (¬ (xh_isIn u v1 2) = 0 → (vp_in v1 121 ∧ (x_untie_p (q_hs_u u v1 3) (q_hy u (Int32.toNatClampNeg v1)) v1 ∧ (vp_in (q_hy u (Int32.toNatClampNeg v1)) 61))))))
def x_pick_t : List (Nat × gz_T q_S) := [(0, gz_lda 1 0), (1, gz_getR 4 0 2), (4, gz_ldi 5 1), (5, gz_push 6 (gz_i 2)), (6, gz_c2P 9 2 xh_isIn_p xh_isIn), (9, gz_if 12 14 (fun x => ¬ x = 0) (fun x => x = 0)), (12, gz_push 13 (gz_i 0)), (13, gz_iret), (14, gz_lda 15 0), (15, gz_getR 18 0 2), (18, gz_getR 21 2 15), (21, gz_ldi 22 1), (22, gz_ild 23 x_ai), (23, gz_stor 24 2), (24, gz_lda 25 0), (25, gz_getR 28 0 2), (28, gz_getR 31 2 14), (31, gz_ldi 32 1), (32, gz_push 33 (gz_i 3)), (33, gz_ist 34 x_ai), (34, gz_lda 35 0), (35, gz_ldi 36 2), (36, gz_ldi 37 1), (37, gz_c2V 40 0 x_untie_p x_untie), (40, gz_lda 41 0), (41, gz_getR 44 0 1), (44, gz_getR 47 1 8), (47, gz_ldi 48 2), (48, gz_push 49 (gz_i 1)), (49, gz_ist 50 x_ai), (50, gz_ldi 51 2), (51, gz_iret)]
set_option maxRecDepth 100000 in
set_option maxHeartbeats 4000000 in
theorem x_pick_d {Kr : Option Int32 → q_S → Prop} (u : q_S) (v1 : Int32) (hp : x_pick_p u v1) (hk : Kr (some ((x_pick u v1)).1) ((x_pick u v1)).2) : gz_does x_pick_t Kr [(0, gz_r 0), (1, gz_i v1)] u := by
  intro Z hZ
  refine hZ.1 [] 500 0 _ _ _ ?_
  unfold x_pick_p at hp
  have n1 := hp.1
  refine And.intro n1 ?_
  have hp := hp.2
  refine And.intro (fun (h2 : ¬ (xh_isIn u v1 2) = 0) => ?_) (fun (h2 : (xh_isIn u v1 2) = 0) => ?_)
  · have hp := hp.2 h2
    have n3 := hp.1
    refine And.intro n3 ?_
    have hp := hp.2
    refine And.intro n3 ?_
    have n4 := hp.1
    refine And.intro n4 ?_
    have hp := hp.2
    have n5 := hp
    refine And.intro n5 ?_
    rw [show x_pick u v1 = ((q_hy u (Int32.toNatClampNeg v1)), (q_cs_u (x_untie (q_hs_u u v1 3) (q_hy u (Int32.toNatClampNeg v1)) v1) (q_hy u (Int32.toNatClampNeg v1)) 1)) from (by unfold x_pick; rw [if_neg h2])] at hk
    exact hk
  · rw [show x_pick u v1 = (0, u) from (by unfold x_pick; rw [if_pos h2])] at hk
    exact hk
-- HoldQueue.lend(I)I
def x_lend (u : q_S) (v1 : Int32) : Int32 × q_S := (if (xc_isIn u v1 0) = 0 then (0, u) else (1, (q_cs_u u v1 1)))
def x_lend_r (u : q_S) (v1 : Int32) : Int32 := (x_lend u v1).1
def x_lend_s (u : q_S) (v1 : Int32) : q_S := (x_lend u v1).2
def x_lend_p (u : q_S) (v1 : Int32) : Prop := (xc_isIn_p u v1 0 ∧ (((xc_isIn u v1 0) = 0 → True) ∧ (¬ (xc_isIn u v1 0) = 0 → (vp_in v1 61))))
def x_lend_t : List (Nat × gz_T q_S) := [(0, gz_lda 1 0), (1, gz_getR 4 0 1), (4, gz_ldi 5 1), (5, gz_push 6 (gz_i 0)), (6, gz_c2P 9 1 xc_isIn_p xc_isIn), (9, gz_if 12 14 (fun x => ¬ x = 0) (fun x => x = 0)), (12, gz_push 13 (gz_i 0)), (13, gz_iret), (14, gz_lda 15 0), (15, gz_getR 18 0 1), (18, gz_getR 21 1 8), (21, gz_ldi 22 1), (22, gz_push 23 (gz_i 1)), (23, gz_ist 24 x_ai), (24, gz_push 25 (gz_i 1)), (25, gz_iret)]
set_option maxRecDepth 100000 in
set_option maxHeartbeats 4000000 in
theorem x_lend_d {Kr : Option Int32 → q_S → Prop} (u : q_S) (v1 : Int32) (hp : x_lend_p u v1) (hk : Kr (some ((x_lend u v1)).1) ((x_lend u v1)).2) : gz_does x_lend_t Kr [(0, gz_r 0), (1, gz_i v1)] u := by
  intro Z hZ
  refine hZ.1 [] 500 0 _ _ _ ?_
  unfold x_lend_p at hp
  have n1 := hp.1
  refine And.intro n1 ?_
  have hp := hp.2
  refine And.intro (fun (h2 : ¬ (xc_isIn u v1 0) = 0) => ?_) (fun (h2 : (xc_isIn u v1 0) = 0) => ?_)
  · have hp := hp.2 h2
    have n3 := hp
    refine And.intro n3 ?_
    rw [show x_lend u v1 = (1, (q_cs_u u v1 1)) from (by unfold x_lend; rw [if_neg h2])] at hk
    exact hk
  · rw [show x_lend u v1 = (0, u) from (by unfold x_lend; rw [if_pos h2])] at hk
    exact hk
-- HoldQueue.letGo(I)V
def x_letGo (u : q_S) (v1 : Int32) : q_S := (x_settle_s (x_untie u (q_hy u (Int32.toNatClampNeg v1)) v1) (q_hy u (Int32.toNatClampNeg v1)))
def x_letGo_p (u : q_S) (v1 : Int32) : Prop := (vp_in v1 121 ∧ (x_untie_p u (q_hy u (Int32.toNatClampNeg v1)) v1 ∧ (x_settle_p (x_untie u (q_hy u (Int32.toNatClampNeg v1)) v1) (q_hy u (Int32.toNatClampNeg v1)))))
def x_letGo_t : List (Nat × gz_T q_S) := [(0, gz_lda 1 0), (1, gz_getR 4 0 2), (4, gz_getR 7 2 15), (7, gz_ldi 8 1), (8, gz_ild 9 x_ai), (9, gz_stor 10 2), (10, gz_lda 11 0), (11, gz_ldi 12 2), (12, gz_ldi 13 1), (13, gz_c2V 16 0 x_untie_p x_untie), (16, gz_lda 17 0), (17, gz_ldi 18 2), (18, gz_c1I 21 0 x_settle_p x_settle_r x_settle_s), (21, gz_pop 22), (22, gz_vret)]
set_option maxRecDepth 100000 in
set_option maxHeartbeats 4000000 in
theorem x_letGo_d {Kr : Option Int32 → q_S → Prop} (u : q_S) (v1 : Int32) (hp : x_letGo_p u v1) (hk : Kr none (x_letGo u v1)) : gz_does x_letGo_t Kr [(0, gz_r 0), (1, gz_i v1)] u := by
  intro Z hZ
  refine hZ.1 [] 500 0 _ _ _ ?_
  unfold x_letGo_p at hp
  have n1 := hp.1
  refine And.intro n1 ?_
  have hp := hp.2
  have n2 := hp.1
  refine And.intro n2 ?_
  have hp := hp.2
  have n3 := hp
  refine And.intro n3 ?_
  rw [show x_letGo u v1 = (x_settle_s (x_untie u (q_hy u (Int32.toNatClampNeg v1)) v1) (q_hy u (Int32.toNatClampNeg v1))) from rfl] at hk
  exact hk
-- HoldQueue.cancel(I)I
def x_cancel (u : q_S) (v1 : Int32) : Int32 × q_S := (if (xh_isOpen u v1) = 0 then (0, u) else (if (xh_isIn u v1 2) = 0 then (1, (q_hs_u u v1 5)) else (1, (x_letGo (q_hs_u u v1 5) v1))))
def x_cancel_r (u : q_S) (v1 : Int32) : Int32 := (x_cancel u v1).1
def x_cancel_s (u : q_S) (v1 : Int32) : q_S := (x_cancel u v1).2
def x_cancel_p (u : q_S) (v1 : Int32) : Prop := (xh_isOpen_p u v1 ∧ (((xh_isOpen u v1) = 0 → True) ∧ (¬ (xh_isOpen u v1) = 0 → (xh_isIn_p u v1 2 ∧ (vp_in v1 121 ∧ (((xh_isIn u v1 2) = 0 → True) ∧ (¬ (xh_isIn u v1 2) = 0 → (x_letGo_p (q_hs_u u v1 5) v1))))))))
def x_cancel_t : List (Nat × gz_T q_S) := [(0, gz_lda 1 0), (1, gz_getR 4 0 2), (4, gz_ldi 5 1), (5, gz_c1P 8 2 xh_isOpen_p xh_isOpen), (8, gz_if 11 13 (fun x => ¬ x = 0) (fun x => x = 0)), (11, gz_push 12 (gz_i 0)), (12, gz_iret), (13, gz_lda 14 0), (14, gz_getR 17 0 2), (17, gz_ldi 18 1), (18, gz_push 19 (gz_i 2)), (19, gz_c2P 22 2 xh_isIn_p xh_isIn), (22, gz_stor 23 2), (23, gz_lda 24 0), (24, gz_getR 27 0 2), (27, gz_getR 30 2 14), (30, gz_ldi 31 1), (31, gz_push 32 (gz_i 5)), (32, gz_ist 33 x_ai), (33, gz_ldi 34 2), (34, gz_if 37 42 (fun x => x = 0) (fun x => ¬ x = 0)), (37, gz_lda 38 0), (38, gz_ldi 39 1), (39, gz_c1V 42 0 x_letGo_p x_letGo), (42, gz_push 43 (gz_i 1)), (43, gz_iret)]
set_option maxRecDepth 100000 in
set_option maxHeartbeats 4000000 in
theorem x_cancel_d {Kr : Option Int32 → q_S → Prop} (u : q_S) (v1 : Int32) (hp : x_cancel_p u v1) (hk : Kr (some ((x_cancel u v1)).1) ((x_cancel u v1)).2) : gz_does x_cancel_t Kr [(0, gz_r 0), (1, gz_i v1)] u := by
  intro Z hZ
  refine hZ.1 [] 500 0 _ _ _ ?_
  unfold x_cancel_p at hp
  have n1 := hp.1
  refine And.intro n1 ?_
  have hp := hp.2
  refine And.intro (fun (h2 : ¬ (xh_isOpen u v1) = 0) => ?_) (fun (h2 : (xh_isOpen u v1) = 0) => ?_)
  · have hp := hp.2 h2
    have n3 := hp.1
    refine And.intro n3 ?_
    have hp := hp.2
    have n4 := hp.1
    refine And.intro n4 ?_
    have hp := hp.2
    refine And.intro (fun (h5 : (xh_isIn u v1 2) = 0) => ?_) (fun (h5 : ¬ (xh_isIn u v1 2) = 0) => ?_)
    · rw [show x_cancel u v1 = (1, (q_hs_u u v1 5)) from (by unfold x_cancel; rw [if_neg h2, if_pos h5])] at hk
      exact hk
    · have hp := hp.2 h5
      have n6 := hp
      refine And.intro n6 ?_
      rw [show x_cancel u v1 = (1, (x_letGo (q_hs_u u v1 5) v1)) from (by unfold x_cancel; rw [if_neg h2, if_neg h5])] at hk
      exact hk
  · rw [show x_cancel u v1 = (0, u) from (by unfold x_cancel; rw [if_pos h2])] at hk
    exact hk
-- HoldQueue.tick(J)I
def x_tick_l29_b (rec : Int64 → Int32 → Int32 → q_S → Int32 × q_S) (v1 : Int64) (v3 : Int32) (v4 : Int32) (u : q_S) : Int32 × q_S := (if (q_nh u) < v4 then (v3, u) else (if (xh_isIn u v4 2) = 0 then (rec v1 v3 (v4 + 1) u) else (if 0 ≤ (lg_cmp (q_he u (Int32.toNatClampNeg v4)) (q_td u)) then (rec v1 v3 (v4 + 1) u) else (rec v1 (v3 + 1) (v4 + 1) (x_letGo (q_hs_u u v4 4) v4)))))
def x_tick_l29 : Nat → Int64 → Int32 → Int32 → q_S → Int32 × q_S
  | 0, _, _, _, u => (0, u)
  | n + 1, v1, v3, v4, u => x_tick_l29_b (x_tick_l29 n) v1 v3 v4 u
def x_tick_l29_pb (rec : Int64 → Int32 → Int32 → q_S → Prop) (v1 : Int64) (v3 : Int32) (v4 : Int32) (u : q_S) : Prop := (((q_nh u) < v4 → True) ∧ (¬ (q_nh u) < v4 → (xh_isIn_p u v4 2 ∧ (((xh_isIn u v4 2) = 0 → (rec v1 v3 (v4 + 1) u)) ∧ (¬ (xh_isIn u v4 2) = 0 → (vp_in v4 121 ∧ ((0 ≤ (lg_cmp (q_he u (Int32.toNatClampNeg v4)) (q_td u)) → (rec v1 v3 (v4 + 1) u)) ∧ (¬ 0 ≤ (lg_cmp (q_he u (Int32.toNatClampNeg v4)) (q_td u)) → (x_letGo_p (q_hs_u u v4 4) v4 ∧ (rec v1 (v3 + 1) (v4 + 1) (x_letGo (q_hs_u u v4 4) v4)))))))))))
def x_tick_l29_p : Nat → Int64 → Int32 → Int32 → q_S → Prop
  | 0, _, _, _, _ => False
  | n + 1, v1, v3, v4, u => x_tick_l29_pb (x_tick_l29_p n) v1 v3 v4 u
def x_tick (u : q_S) (v1 : Int64) : Int32 × q_S := (if (lg_cmp v1 (q_td u)) ≤ 0 then ((-1), u) else (if (lg_cmp v1 1000000000) ≤ 0 then (x_tick_l29 200 v1 0 1 (q_td_s u v1)) else ((-1), u)))
def x_tick_r (u : q_S) (v1 : Int64) : Int32 := (x_tick u v1).1
def x_tick_s (u : q_S) (v1 : Int64) : q_S := (x_tick u v1).2
def x_tick_p (u : q_S) (v1 : Int64) : Prop := (((lg_cmp v1 (q_td u)) ≤ 0 → True) ∧ (¬ (lg_cmp v1 (q_td u)) ≤ 0 → (((lg_cmp v1 1000000000) ≤ 0 → (x_tick_l29_p 200 v1 0 1 (q_td_s u v1))) ∧ (¬ (lg_cmp v1 1000000000) ≤ 0 → True))))
def x_tick_t : List (Nat × gz_T q_S) := [(0, gz_ldl 1 1), (1, gz_lda 2 0), (2, gz_getL 5 0 q_td), (5, gz_lcmp 6), (6, gz_if 9 17 (fun x => x ≤ 0) (fun x => ¬ x ≤ 0)), (9, gz_ldl 10 1), (10, gz_push 13 (gz_l 1000000000)), (13, gz_lcmp 14), (14, gz_if 17 19 (fun x => x ≤ 0) (fun x => ¬ x ≤ 0)), (17, gz_push 18 (gz_i (-1))), (18, gz_iret), (19, gz_lda 20 0), (20, gz_ldl 21 1), (21, gz_putL 24 0 q_td_s), (24, gz_push 25 (gz_i 0)), (25, gz_stor 26 3), (26, gz_push 27 (gz_i 1)), (27, gz_stor 29 4), (29, gz_ldi 31 4), (31, gz_lda 32 0), (32, gz_getR 35 0 2), (35, gz_getI 38 2 q_nh), (38, gz_if2 41 98 (fun x y => y < x) (fun x y => ¬ y < x)), (41, gz_lda 42 0), (42, gz_getR 45 0 2), (45, gz_ldi 47 4), (47, gz_push 48 (gz_i 2)), (48, gz_c2P 51 2 xh_isIn_p xh_isIn), (51, gz_if 54 92 (fun x => x = 0) (fun x => ¬ x = 0)), (54, gz_lda 55 0), (55, gz_getR 58 0 2), (58, gz_getR 61 2 17), (61, gz_ldi 63 4), (63, gz_lld 64 x_al), (64, gz_lda 65 0), (65, gz_getL 68 0 q_td), (68, gz_lcmp 69), (69, gz_if 72 92 (fun x => 0 ≤ x) (fun x => ¬ 0 ≤ x)), (72, gz_lda 73 0), (73, gz_getR 76 0 2), (76, gz_getR 79 2 14), (79, gz_ldi 81 4), (81, gz_push 82 (gz_i 4)), (82, gz_ist 83 x_ai), (83, gz_lda 84 0), (84, gz_ldi 86 4), (86, gz_c1V 89 0 x_letGo_p x_letGo), (89, gz_iinc 92 3 1), (92, gz_iinc 95 4 1), (95, gz_goto 29), (98, gz_ldi 99 3), (99, gz_iret)]
set_option maxRecDepth 100000 in
set_option maxHeartbeats 4000000 in
theorem x_tick_l29_d {Kr : Option Int32 → q_S → Prop} {Z : gz_K q_S} (hZ : gz_shut x_tick_t Kr Z) : ∀ (n : Nat) (v1 : Int64) (v3 : Int32) (v4 : Int32) (u : q_S), x_tick_l29_p n v1 v3 v4 u → Kr (some ((x_tick_l29 n v1 v3 v4 u)).1) ((x_tick_l29 n v1 v3 v4 u)).2 → Z 29 [(0, gz_r 0), (1, gz_l v1), (3, gz_i v3), (4, gz_i v4)] [] u := by
  intro n
  induction n with
  | zero => intro v1 v3 v4 u hp _; exact False.elim hp
  | succ n ih =>
  intro v1 v3 v4 u hp hk
  refine hZ.1 [29] 500 29 _ _ _ ?_
  have hp : x_tick_l29_pb (x_tick_l29_p n) v1 v3 v4 u := hp
  refine And.intro (fun (h1 : (q_nh u) < v4) => ?_) (fun (h1 : ¬ (q_nh u) < v4) => ?_)
  · rw [show x_tick_l29 (n + 1) v1 v3 v4 u = (v3, u) from (by unfold x_tick_l29_b; rw [if_pos h1] : x_tick_l29_b (x_tick_l29 n) v1 v3 v4 u = (v3, u))] at hk
    exact hk
  · have hp := hp.2 h1
    have n2 := hp.1
    refine And.intro n2 ?_
    have hp := hp.2
    refine And.intro (fun (h3 : (xh_isIn u v4 2) = 0) => ?_) (fun (h3 : ¬ (xh_isIn u v4 2) = 0) => ?_)
    · have hp := hp.1 h3
      rw [show x_tick_l29 (n + 1) v1 v3 v4 u = (x_tick_l29 n v1 v3 (v4 + 1) u) from (by unfold x_tick_l29_b; rw [if_neg h1, if_pos h3] : x_tick_l29_b (x_tick_l29 n) v1 v3 v4 u = (x_tick_l29 n v1 v3 (v4 + 1) u))] at hk
      exact ih v1 v3 (v4 + 1) u hp hk
    · have hp := hp.2 h3
      have n4 := hp.1
      refine And.intro n4 ?_
      have hp := hp.2
      refine And.intro (fun (h5 : 0 ≤ (lg_cmp (q_he u (Int32.toNatClampNeg v4)) (q_td u))) => ?_) (fun (h5 : ¬ 0 ≤ (lg_cmp (q_he u (Int32.toNatClampNeg v4)) (q_td u))) => ?_)
      · have hp := hp.1 h5
        rw [show x_tick_l29 (n + 1) v1 v3 v4 u = (x_tick_l29 n v1 v3 (v4 + 1) u) from (by unfold x_tick_l29_b; rw [if_neg h1, if_neg h3, if_pos h5] : x_tick_l29_b (x_tick_l29 n) v1 v3 v4 u = (x_tick_l29 n v1 v3 (v4 + 1) u))] at hk
        exact ih v1 v3 (v4 + 1) u hp hk
      · have hp := hp.2 h5
        refine And.intro n4 ?_
        have n6 := hp.1
        refine And.intro n6 ?_
        have hp := hp.2
        rw [show x_tick_l29 (n + 1) v1 v3 v4 u = (x_tick_l29 n v1 (v3 + 1) (v4 + 1) (x_letGo (q_hs_u u v4 4) v4)) from (by unfold x_tick_l29_b; rw [if_neg h1, if_neg h3, if_neg h5] : x_tick_l29_b (x_tick_l29 n) v1 v3 v4 u = (x_tick_l29 n v1 (v3 + 1) (v4 + 1) (x_letGo (q_hs_u u v4 4) v4)))] at hk
        exact ih v1 (v3 + 1) (v4 + 1) (x_letGo (q_hs_u u v4 4) v4) hp hk
set_option maxRecDepth 100000 in
set_option maxHeartbeats 4000000 in
theorem x_tick_d {Kr : Option Int32 → q_S → Prop} (u : q_S) (v1 : Int64) (hp : x_tick_p u v1) (hk : Kr (some ((x_tick u v1)).1) ((x_tick u v1)).2) : gz_does x_tick_t Kr [(0, gz_r 0), (1, gz_l v1)] u := by
  intro Z hZ
  refine hZ.1 [29] 500 0 _ _ _ ?_
  unfold x_tick_p at hp
  refine And.intro (fun (h1 : (lg_cmp v1 (q_td u)) ≤ 0) => ?_) (fun (h1 : ¬ (lg_cmp v1 (q_td u)) ≤ 0) => ?_)
  · rw [show x_tick u v1 = ((-1), u) from (by unfold x_tick; rw [if_pos h1])] at hk
    exact hk
  · have hp := hp.2 h1
    refine And.intro (fun (h2 : (lg_cmp v1 1000000000) ≤ 0) => ?_) (fun (h2 : ¬ (lg_cmp v1 1000000000) ≤ 0) => ?_)
    · have hp := hp.1 h2
      rw [show x_tick u v1 = (x_tick_l29 200 v1 0 1 (q_td_s u v1)) from (by unfold x_tick; rw [if_neg h1, if_pos h2])] at hk
      exact x_tick_l29_d hZ 200 v1 0 1 (q_td_s u v1) hp hk
    · rw [show x_tick u v1 = ((-1), u) from (by unfold x_tick; rw [if_neg h1, if_neg h2])] at hk
      exact hk
-- HoldQueue.span(I)I
def x_span (u : q_S) (v1 : Int32) : Int32 × q_S := (if v1 < 1 then ((-1), u) else (if v1 ≤ 99 then ((q_sp u), (q_sp_s u v1)) else ((-1), u)))
def x_span_r (u : q_S) (v1 : Int32) : Int32 := (x_span u v1).1
def x_span_s (u : q_S) (v1 : Int32) : q_S := (x_span u v1).2
def x_span_p (u : q_S) (v1 : Int32) : Prop := True
def x_span_t : List (Nat × gz_T q_S) := [(0, gz_ldi 1 1), (1, gz_push 2 (gz_i 1)), (2, gz_if2 5 11 (fun x y => x < y) (fun x y => ¬ x < y)), (5, gz_ldi 6 1), (6, gz_push 8 (gz_i 99)), (8, gz_if2 11 13 (fun x y => x ≤ y) (fun x y => ¬ x ≤ y)), (11, gz_push 12 (gz_i (-1))), (12, gz_iret), (13, gz_lda 14 0), (14, gz_getI 17 0 q_sp), (17, gz_stor 18 2), (18, gz_lda 19 0), (19, gz_ldi 20 1), (20, gz_putI 23 0 q_sp_s), (23, gz_ldi 24 2), (24, gz_iret)]
set_option maxRecDepth 100000 in
set_option maxHeartbeats 4000000 in
theorem x_span_d {Kr : Option Int32 → q_S → Prop} (u : q_S) (v1 : Int32) (hk : Kr (some ((x_span u v1)).1) ((x_span u v1)).2) : gz_does x_span_t Kr [(0, gz_r 0), (1, gz_i v1)] u := by
  intro Z hZ
  refine hZ.1 [] 500 0 _ _ _ ?_
  refine And.intro (fun (h1 : v1 < 1) => ?_) (fun (h1 : ¬ v1 < 1) => ?_)
  · rw [show x_span u v1 = ((-1), u) from (by unfold x_span; rw [if_pos h1])] at hk
    exact hk
  · refine And.intro (fun (h2 : v1 ≤ 99) => ?_) (fun (h2 : ¬ v1 ≤ 99) => ?_)
    · rw [show x_span u v1 = ((q_sp u), (q_sp_s u v1)) from (by unfold x_span; rw [if_neg h1, if_pos h2])] at hk
      exact hk
    · rw [show x_span u v1 = ((-1), u) from (by unfold x_span; rw [if_neg h1, if_neg h2])] at hk
      exact hk
-- HoldQueue$Holds.placeInQueue(I)I
def xh_placeInQueue_l4_b (rec : Int32 → Int32 → Int32 → q_S → Int32) (v1 : Int32) (v2 : Int32) (v3 : Int32) (u : q_S) : Int32 := (if (q_nh u) < v3 then v2 else (if (xh_isQueued u v3 (q_hr u (Int32.toNatClampNeg v1))) = 0 then (rec v1 v2 (v3 + 1) u) else (if (xh_comesBefore u v3 v1) = 0 then (rec v1 v2 (v3 + 1) u) else (rec v1 (v2 + 1) (v3 + 1) u))))
def xh_placeInQueue_l4 : Nat → Int32 → Int32 → Int32 → q_S → Int32
  | 0, _, _, _, _ => 0
  | n + 1, v1, v2, v3, u => xh_placeInQueue_l4_b (xh_placeInQueue_l4 n) v1 v2 v3 u
def xh_placeInQueue_l4_pb (rec : Int32 → Int32 → Int32 → q_S → Prop) (v1 : Int32) (v2 : Int32) (v3 : Int32) (u : q_S) : Prop := (((q_nh u) < v3 → True) ∧ (¬ (q_nh u) < v3 → (vp_in v1 121 ∧ (xh_isQueued_p u v3 (q_hr u (Int32.toNatClampNeg v1)) ∧ (((xh_isQueued u v3 (q_hr u (Int32.toNatClampNeg v1))) = 0 → (rec v1 v2 (v3 + 1) u)) ∧ (¬ (xh_isQueued u v3 (q_hr u (Int32.toNatClampNeg v1))) = 0 → (xh_comesBefore_p u v3 v1 ∧ (((xh_comesBefore u v3 v1) = 0 → (rec v1 v2 (v3 + 1) u)) ∧ (¬ (xh_comesBefore u v3 v1) = 0 → (rec v1 (v2 + 1) (v3 + 1) u))))))))))
def xh_placeInQueue_l4_p : Nat → Int32 → Int32 → Int32 → q_S → Prop
  | 0, _, _, _, _ => False
  | n + 1, v1, v2, v3, u => xh_placeInQueue_l4_pb (xh_placeInQueue_l4_p n) v1 v2 v3 u
def xh_placeInQueue (u : q_S) (v1 : Int32) : Int32 := (xh_placeInQueue_l4 200 v1 0 1 u)
def xh_placeInQueue_p (u : q_S) (v1 : Int32) : Prop := (xh_placeInQueue_l4_p 200 v1 0 1 u)
def xh_placeInQueue_t : List (Nat × gz_T q_S) := [(0, gz_push 1 (gz_i 0)), (1, gz_stor 2 2), (2, gz_push 3 (gz_i 1)), (3, gz_stor 4 3), (4, gz_ldi 5 3), (5, gz_lda 6 0), (6, gz_getI 9 2 q_nh), (9, gz_if2 12 44 (fun x y => y < x) (fun x y => ¬ y < x)), (12, gz_lda 13 0), (13, gz_ldi 14 3), (14, gz_lda 15 0), (15, gz_getR 18 2 11), (18, gz_ldi 19 1), (19, gz_ild 20 x_ai), (20, gz_c2P 23 2 xh_isQueued_p xh_isQueued), (23, gz_if 26 38 (fun x => x = 0) (fun x => ¬ x = 0)), (26, gz_lda 27 0), (27, gz_ldi 28 3), (28, gz_ldi 29 1), (29, gz_c2P 32 2 xh_comesBefore_p xh_comesBefore), (32, gz_if 35 38 (fun x => x = 0) (fun x => ¬ x = 0)), (35, gz_iinc 38 2 1), (38, gz_iinc 41 3 1), (41, gz_goto 4), (44, gz_ldi 45 2), (45, gz_iret)]
set_option maxRecDepth 100000 in
set_option maxHeartbeats 4000000 in
theorem xh_placeInQueue_l4_d {Kr : Option Int32 → q_S → Prop} {Z : gz_K q_S} (hZ : gz_shut xh_placeInQueue_t Kr Z) : ∀ (n : Nat) (v1 : Int32) (v2 : Int32) (v3 : Int32) (u : q_S), xh_placeInQueue_l4_p n v1 v2 v3 u → Kr (some (xh_placeInQueue_l4 n v1 v2 v3 u)) u → Z 4 [(0, gz_r 2), (1, gz_i v1), (2, gz_i v2), (3, gz_i v3)] [] u := by
  intro n
  induction n with
  | zero => intro v1 v2 v3 u hp _; exact False.elim hp
  | succ n ih =>
  intro v1 v2 v3 u hp hk
  refine hZ.1 [4] 500 4 _ _ _ ?_
  have hp : xh_placeInQueue_l4_pb (xh_placeInQueue_l4_p n) v1 v2 v3 u := hp
  refine And.intro (fun (h1 : (q_nh u) < v3) => ?_) (fun (h1 : ¬ (q_nh u) < v3) => ?_)
  · rw [show xh_placeInQueue_l4 (n + 1) v1 v2 v3 u = v2 from (by unfold xh_placeInQueue_l4_b; rw [if_pos h1] : xh_placeInQueue_l4_b (xh_placeInQueue_l4 n) v1 v2 v3 u = v2)] at hk
    exact hk
  · have hp := hp.2 h1
    have n2 := hp.1
    refine And.intro n2 ?_
    have hp := hp.2
    have n3 := hp.1
    refine And.intro n3 ?_
    have hp := hp.2
    refine And.intro (fun (h4 : (xh_isQueued u v3 (q_hr u (Int32.toNatClampNeg v1))) = 0) => ?_) (fun (h4 : ¬ (xh_isQueued u v3 (q_hr u (Int32.toNatClampNeg v1))) = 0) => ?_)
    · have hp := hp.1 h4
      rw [show xh_placeInQueue_l4 (n + 1) v1 v2 v3 u = (xh_placeInQueue_l4 n v1 v2 (v3 + 1) u) from (by unfold xh_placeInQueue_l4_b; rw [if_neg h1, if_pos h4] : xh_placeInQueue_l4_b (xh_placeInQueue_l4 n) v1 v2 v3 u = (xh_placeInQueue_l4 n v1 v2 (v3 + 1) u))] at hk
      exact ih v1 v2 (v3 + 1) u hp hk
    · have hp := hp.2 h4
      have n5 := hp.1
      refine And.intro n5 ?_
      have hp := hp.2
      refine And.intro (fun (h6 : (xh_comesBefore u v3 v1) = 0) => ?_) (fun (h6 : ¬ (xh_comesBefore u v3 v1) = 0) => ?_)
      · have hp := hp.1 h6
        rw [show xh_placeInQueue_l4 (n + 1) v1 v2 v3 u = (xh_placeInQueue_l4 n v1 v2 (v3 + 1) u) from (by unfold xh_placeInQueue_l4_b; rw [if_neg h1, if_neg h4, if_pos h6] : xh_placeInQueue_l4_b (xh_placeInQueue_l4 n) v1 v2 v3 u = (xh_placeInQueue_l4 n v1 v2 (v3 + 1) u))] at hk
        exact ih v1 v2 (v3 + 1) u hp hk
      · have hp := hp.2 h6
        rw [show xh_placeInQueue_l4 (n + 1) v1 v2 v3 u = (xh_placeInQueue_l4 n v1 (v2 + 1) (v3 + 1) u) from (by unfold xh_placeInQueue_l4_b; rw [if_neg h1, if_neg h4, if_neg h6] : xh_placeInQueue_l4_b (xh_placeInQueue_l4 n) v1 v2 v3 u = (xh_placeInQueue_l4 n v1 (v2 + 1) (v3 + 1) u))] at hk
        exact ih v1 (v2 + 1) (v3 + 1) u hp hk
set_option maxRecDepth 100000 in
set_option maxHeartbeats 4000000 in
theorem xh_placeInQueue_d {Kr : Option Int32 → q_S → Prop} (u : q_S) (v1 : Int32) (hp : xh_placeInQueue_p u v1) (hk : Kr (some (xh_placeInQueue u v1)) u) : gz_does xh_placeInQueue_t Kr [(0, gz_r 2), (1, gz_i v1)] u := by
  intro Z hZ
  refine hZ.1 [4] 500 0 _ _ _ ?_
  unfold xh_placeInQueue_p at hp
  rw [show xh_placeInQueue u v1 = (xh_placeInQueue_l4 200 v1 0 1 u) from rfl] at hk
  exact xh_placeInQueue_l4_d hZ 200 v1 0 1 u hp hk
-- HoldQueue.rank(II)I
def x_rank (u : q_S) (v1 : Int32) (v2 : Int32) : Int32 × q_S := (if (xh_isIn u v1 0) = 0 then ((-1), u) else ((xh_placeInQueue (q_hk_u u v1 v2) v1), (q_hk_u u v1 v2)))
def x_rank_r (u : q_S) (v1 : Int32) (v2 : Int32) : Int32 := (x_rank u v1 v2).1
def x_rank_s (u : q_S) (v1 : Int32) (v2 : Int32) : q_S := (x_rank u v1 v2).2
def x_rank_p (u : q_S) (v1 : Int32) (v2 : Int32) : Prop := (xh_isIn_p u v1 0 ∧ (((xh_isIn u v1 0) = 0 → True) ∧ (¬ (xh_isIn u v1 0) = 0 → (vp_in v1 121 ∧ (xh_placeInQueue_p (q_hk_u u v1 v2) v1)))))
def x_rank_t : List (Nat × gz_T q_S) := [(0, gz_lda 1 0), (1, gz_getR 4 0 2), (4, gz_ldi 5 1), (5, gz_push 6 (gz_i 0)), (6, gz_c2P 9 2 xh_isIn_p xh_isIn), (9, gz_if 12 14 (fun x => ¬ x = 0) (fun x => x = 0)), (12, gz_push 13 (gz_i (-1))), (13, gz_iret), (14, gz_lda 15 0), (15, gz_getR 18 0 2), (18, gz_getR 21 2 13), (21, gz_ldi 22 1), (22, gz_ldi 23 2), (23, gz_ist 24 x_ai), (24, gz_lda 25 0), (25, gz_getR 28 0 2), (28, gz_ldi 29 1), (29, gz_c1P 32 2 xh_placeInQueue_p xh_placeInQueue), (32, gz_iret)]
set_option maxRecDepth 100000 in
set_option maxHeartbeats 4000000 in
theorem x_rank_d {Kr : Option Int32 → q_S → Prop} (u : q_S) (v1 : Int32) (v2 : Int32) (hp : x_rank_p u v1 v2) (hk : Kr (some ((x_rank u v1 v2)).1) ((x_rank u v1 v2)).2) : gz_does x_rank_t Kr [(0, gz_r 0), (1, gz_i v1), (2, gz_i v2)] u := by
  intro Z hZ
  refine hZ.1 [] 500 0 _ _ _ ?_
  unfold x_rank_p at hp
  have n1 := hp.1
  refine And.intro n1 ?_
  have hp := hp.2
  refine And.intro (fun (h2 : ¬ (xh_isIn u v1 0) = 0) => ?_) (fun (h2 : (xh_isIn u v1 0) = 0) => ?_)
  · have hp := hp.2 h2
    have n3 := hp.1
    refine And.intro n3 ?_
    have hp := hp.2
    have n4 := hp
    refine And.intro n4 ?_
    rw [show x_rank u v1 v2 = ((xh_placeInQueue (q_hk_u u v1 v2) v1), (q_hk_u u v1 v2)) from (by unfold x_rank; rw [if_neg h2])] at hk
    exact hk
  · rw [show x_rank u v1 v2 = ((-1), u) from (by unfold x_rank; rw [if_pos h2])] at hk
    exact hk
-- HoldQueue$Holds.atPlaceInQueue(II)I
def xh_atPlaceInQueue_l2_b (rec : Int32 → Int32 → Int32 → q_S → Int32) (v1 : Int32) (v2 : Int32) (v3 : Int32) (u : q_S) : Int32 := (if (q_nh u) < v3 then 0 else (if (xh_isQueued u v3 v1) = 0 then (rec v1 v2 (v3 + 1) u) else (if (xh_placeInQueue u v3) = v2 then v3 else (rec v1 v2 (v3 + 1) u))))
def xh_atPlaceInQueue_l2 : Nat → Int32 → Int32 → Int32 → q_S → Int32
  | 0, _, _, _, _ => 0
  | n + 1, v1, v2, v3, u => xh_atPlaceInQueue_l2_b (xh_atPlaceInQueue_l2 n) v1 v2 v3 u
def xh_atPlaceInQueue_l2_pb (rec : Int32 → Int32 → Int32 → q_S → Prop) (v1 : Int32) (v2 : Int32) (v3 : Int32) (u : q_S) : Prop := (((q_nh u) < v3 → True) ∧ (¬ (q_nh u) < v3 → (xh_isQueued_p u v3 v1 ∧ (((xh_isQueued u v3 v1) = 0 → (rec v1 v2 (v3 + 1) u)) ∧ (¬ (xh_isQueued u v3 v1) = 0 → (xh_placeInQueue_p u v3 ∧ (((xh_placeInQueue u v3) = v2 → True) ∧ (¬ (xh_placeInQueue u v3) = v2 → (rec v1 v2 (v3 + 1) u)))))))))
def xh_atPlaceInQueue_l2_p : Nat → Int32 → Int32 → Int32 → q_S → Prop
  | 0, _, _, _, _ => False
  | n + 1, v1, v2, v3, u => xh_atPlaceInQueue_l2_pb (xh_atPlaceInQueue_l2_p n) v1 v2 v3 u
def xh_atPlaceInQueue (u : q_S) (v1 : Int32) (v2 : Int32) : Int32 := (xh_atPlaceInQueue_l2 200 v1 v2 1 u)
def xh_atPlaceInQueue_p (u : q_S) (v1 : Int32) (v2 : Int32) : Prop := (xh_atPlaceInQueue_l2_p 200 v1 v2 1 u)
def xh_atPlaceInQueue_t : List (Nat × gz_T q_S) := [(0, gz_push 1 (gz_i 1)), (1, gz_stor 2 3), (2, gz_ldi 3 3), (3, gz_lda 4 0), (4, gz_getI 7 2 q_nh), (7, gz_if2 10 36 (fun x y => y < x) (fun x y => ¬ y < x)), (10, gz_lda 11 0), (11, gz_ldi 12 3), (12, gz_ldi 13 1), (13, gz_c2P 16 2 xh_isQueued_p xh_isQueued), (16, gz_if 19 30 (fun x => x = 0) (fun x => ¬ x = 0)), (19, gz_lda 20 0), (20, gz_ldi 21 3), (21, gz_c1P 24 2 xh_placeInQueue_p xh_placeInQueue), (24, gz_ldi 25 2), (25, gz_if2 28 30 (fun x y => ¬ x = y) (fun x y => x = y)), (28, gz_ldi 29 3), (29, gz_iret), (30, gz_iinc 33 3 1), (33, gz_goto 2), (36, gz_push 37 (gz_i 0)), (37, gz_iret)]
set_option maxRecDepth 100000 in
set_option maxHeartbeats 4000000 in
theorem xh_atPlaceInQueue_l2_d {Kr : Option Int32 → q_S → Prop} {Z : gz_K q_S} (hZ : gz_shut xh_atPlaceInQueue_t Kr Z) : ∀ (n : Nat) (v1 : Int32) (v2 : Int32) (v3 : Int32) (u : q_S), xh_atPlaceInQueue_l2_p n v1 v2 v3 u → Kr (some (xh_atPlaceInQueue_l2 n v1 v2 v3 u)) u → Z 2 [(0, gz_r 2), (1, gz_i v1), (2, gz_i v2), (3, gz_i v3)] [] u := by
  intro n
  induction n with
  | zero => intro v1 v2 v3 u hp _; exact False.elim hp
  | succ n ih =>
  intro v1 v2 v3 u hp hk
  refine hZ.1 [2] 500 2 _ _ _ ?_
  have hp : xh_atPlaceInQueue_l2_pb (xh_atPlaceInQueue_l2_p n) v1 v2 v3 u := hp
  refine And.intro (fun (h1 : (q_nh u) < v3) => ?_) (fun (h1 : ¬ (q_nh u) < v3) => ?_)
  · rw [show xh_atPlaceInQueue_l2 (n + 1) v1 v2 v3 u = 0 from (by unfold xh_atPlaceInQueue_l2_b; rw [if_pos h1] : xh_atPlaceInQueue_l2_b (xh_atPlaceInQueue_l2 n) v1 v2 v3 u = 0)] at hk
    exact hk
  · have hp := hp.2 h1
    have n2 := hp.1
    refine And.intro n2 ?_
    have hp := hp.2
    refine And.intro (fun (h3 : (xh_isQueued u v3 v1) = 0) => ?_) (fun (h3 : ¬ (xh_isQueued u v3 v1) = 0) => ?_)
    · have hp := hp.1 h3
      rw [show xh_atPlaceInQueue_l2 (n + 1) v1 v2 v3 u = (xh_atPlaceInQueue_l2 n v1 v2 (v3 + 1) u) from (by unfold xh_atPlaceInQueue_l2_b; rw [if_neg h1, if_pos h3] : xh_atPlaceInQueue_l2_b (xh_atPlaceInQueue_l2 n) v1 v2 v3 u = (xh_atPlaceInQueue_l2 n v1 v2 (v3 + 1) u))] at hk
      exact ih v1 v2 (v3 + 1) u hp hk
    · have hp := hp.2 h3
      have n4 := hp.1
      refine And.intro n4 ?_
      have hp := hp.2
      refine And.intro (fun (h5 : ¬ (xh_placeInQueue u v3) = v2) => ?_) (fun (h5 : (xh_placeInQueue u v3) = v2) => ?_)
      · have hp := hp.2 h5
        rw [show xh_atPlaceInQueue_l2 (n + 1) v1 v2 v3 u = (xh_atPlaceInQueue_l2 n v1 v2 (v3 + 1) u) from (by unfold xh_atPlaceInQueue_l2_b; rw [if_neg h1, if_neg h3, if_neg h5] : xh_atPlaceInQueue_l2_b (xh_atPlaceInQueue_l2 n) v1 v2 v3 u = (xh_atPlaceInQueue_l2 n v1 v2 (v3 + 1) u))] at hk
        exact ih v1 v2 (v3 + 1) u hp hk
      · rw [show xh_atPlaceInQueue_l2 (n + 1) v1 v2 v3 u = v3 from (by unfold xh_atPlaceInQueue_l2_b; rw [if_neg h1, if_neg h3, if_pos h5] : xh_atPlaceInQueue_l2_b (xh_atPlaceInQueue_l2 n) v1 v2 v3 u = v3)] at hk
        exact hk
set_option maxRecDepth 100000 in
set_option maxHeartbeats 4000000 in
theorem xh_atPlaceInQueue_d {Kr : Option Int32 → q_S → Prop} (u : q_S) (v1 : Int32) (v2 : Int32) (hp : xh_atPlaceInQueue_p u v1 v2) (hk : Kr (some (xh_atPlaceInQueue u v1 v2)) u) : gz_does xh_atPlaceInQueue_t Kr [(0, gz_r 2), (1, gz_i v1), (2, gz_i v2)] u := by
  intro Z hZ
  refine hZ.1 [2] 500 0 _ _ _ ?_
  unfold xh_atPlaceInQueue_p at hp
  rw [show xh_atPlaceInQueue u v1 v2 = (xh_atPlaceInQueue_l2 200 v1 v2 1 u) from rfl] at hk
  exact xh_atPlaceInQueue_l2_d hZ 200 v1 v2 1 u hp hk
-- HoldQueue.order(II)I
def x_order (u : q_S) (v1 : Int32) (v2 : Int32) : Int32 := (if (x_isRecord u v1) = 0 then 0 else (xh_atPlaceInQueue u v1 v2))
def x_order_p (u : q_S) (v1 : Int32) (v2 : Int32) : Prop := (x_isRecord_p u v1 ∧ (((x_isRecord u v1) = 0 → True) ∧ (¬ (x_isRecord u v1) = 0 → (xh_atPlaceInQueue_p u v1 v2))))
def x_order_t : List (Nat × gz_T q_S) := [(0, gz_lda 1 0), (1, gz_ldi 2 1), (2, gz_c1P 5 0 x_isRecord_p x_isRecord), (5, gz_if 8 20 (fun x => x = 0) (fun x => ¬ x = 0)), (8, gz_lda 9 0), (9, gz_getR 12 0 2), (12, gz_ldi 13 1), (13, gz_ldi 14 2), (14, gz_c2P 17 2 xh_atPlaceInQueue_p xh_atPlaceInQueue), (17, gz_goto 21), (20, gz_push 21 (gz_i 0)), (21, gz_iret)]
set_option maxRecDepth 100000 in
set_option maxHeartbeats 4000000 in
theorem x_order_d {Kr : Option Int32 → q_S → Prop} (u : q_S) (v1 : Int32) (v2 : Int32) (hp : x_order_p u v1 v2) (hk : Kr (some (x_order u v1 v2)) u) : gz_does x_order_t Kr [(0, gz_r 0), (1, gz_i v1), (2, gz_i v2)] u := by
  intro Z hZ
  refine hZ.1 [] 500 0 _ _ _ ?_
  unfold x_order_p at hp
  have n1 := hp.1
  refine And.intro n1 ?_
  have hp := hp.2
  refine And.intro (fun (h2 : (x_isRecord u v1) = 0) => ?_) (fun (h2 : ¬ (x_isRecord u v1) = 0) => ?_)
  · rw [show x_order u v1 v2 = 0 from (by unfold x_order; rw [if_pos h2])] at hk
    exact hk
  · have hp := hp.2 h2
    have n3 := hp
    refine And.intro n3 ?_
    rw [show x_order u v1 v2 = (xh_atPlaceInQueue u v1 v2) from (by unfold x_order; rw [if_neg h2])] at hk
    exact hk
-- HoldQueue.state(II)I
def x_state (u : q_S) (v1 : Int32) (v2 : Int32) : Int32 := (if (xh_has u v1) = 0 then (-1) else (if v2 = 0 then (q_hs u (Int32.toNatClampNeg v1)) else (if v2 = 1 then (q_hy u (Int32.toNatClampNeg v1)) else (if v2 = 2 then (if (xh_isIn u v1 0) = 0 then (-1) else (xh_placeInQueue u v1)) else (-1)))))
def x_state_p (u : q_S) (v1 : Int32) (v2 : Int32) : Prop := (xh_has_p u v1 ∧ (((xh_has u v1) = 0 → True) ∧ (¬ (xh_has u v1) = 0 → ((v2 = 0 → (vp_in v1 121)) ∧ (¬ v2 = 0 → ((v2 = 1 → (vp_in v1 121)) ∧ (¬ v2 = 1 → ((v2 = 2 → (xh_isIn_p u v1 0 ∧ (((xh_isIn u v1 0) = 0 → True) ∧ (¬ (xh_isIn u v1 0) = 0 → (xh_placeInQueue_p u v1))))) ∧ (¬ v2 = 2 → True)))))))))
def x_state_t : List (Nat × gz_T q_S) := [(0, gz_lda 1 0), (1, gz_getR 4 0 2), (4, gz_ldi 5 1), (5, gz_c1P 8 2 xh_has_p xh_has), (8, gz_if 11 13 (fun x => ¬ x = 0) (fun x => x = 0)), (11, gz_push 12 (gz_i (-1))), (12, gz_iret), (13, gz_ldi 14 2), (14, gz_sw [(0, 40), (1, 50), (2, 60)] 85), (40, gz_lda 41 0), (41, gz_getR 44 0 2), (44, gz_getR 47 2 14), (47, gz_ldi 48 1), (48, gz_ild 49 x_ai), (49, gz_iret), (50, gz_lda 51 0), (51, gz_getR 54 0 2), (54, gz_getR 57 2 15), (57, gz_ldi 58 1), (58, gz_ild 59 x_ai), (59, gz_iret), (60, gz_lda 61 0), (61, gz_getR 64 0 2), (64, gz_ldi 65 1), (65, gz_push 66 (gz_i 0)), (66, gz_c2P 69 2 xh_isIn_p xh_isIn), (69, gz_if 72 83 (fun x => x = 0) (fun x => ¬ x = 0)), (72, gz_lda 73 0), (73, gz_getR 76 0 2), (76, gz_ldi 77 1), (77, gz_c1P 80 2 xh_placeInQueue_p xh_placeInQueue), (80, gz_goto 84), (83, gz_push 84 (gz_i (-1))), (84, gz_iret), (85, gz_push 86 (gz_i (-1))), (86, gz_iret)]
set_option maxRecDepth 100000 in
set_option maxHeartbeats 4000000 in
theorem x_state_d {Kr : Option Int32 → q_S → Prop} (u : q_S) (v1 : Int32) (v2 : Int32) (hp : x_state_p u v1 v2) (hk : Kr (some (x_state u v1 v2)) u) : gz_does x_state_t Kr [(0, gz_r 0), (1, gz_i v1), (2, gz_i v2)] u := by
  intro Z hZ
  refine hZ.1 [] 500 0 _ _ _ ?_
  unfold x_state_p at hp
  have n1 := hp.1
  refine And.intro n1 ?_
  have hp := hp.2
  refine And.intro (fun (h2 : ¬ (xh_has u v1) = 0) => ?_) (fun (h2 : (xh_has u v1) = 0) => ?_)
  · have hp := hp.2 h2
    refine And.intro (fun (h3 : v2 = 0) => ?_) (fun (h3 : ¬ v2 = 0) => ?_)
    · have hp := hp.1 h3
      have n4 := hp
      refine And.intro n4 ?_
      rw [show x_state u v1 v2 = (q_hs u (Int32.toNatClampNeg v1)) from (by unfold x_state; rw [if_neg h2, if_pos h3])] at hk
      exact hk
    · have hp := hp.2 h3
      refine And.intro (fun (h5 : v2 = 1) => ?_) (fun (h5 : ¬ v2 = 1) => ?_)
      · have hp := hp.1 h5
        have n6 := hp
        refine And.intro n6 ?_
        rw [show x_state u v1 v2 = (q_hy u (Int32.toNatClampNeg v1)) from (by unfold x_state; rw [if_neg h2, if_neg h3, if_pos h5])] at hk
        exact hk
      · have hp := hp.2 h5
        refine And.intro (fun (h7 : v2 = 2) => ?_) (fun (h7 : ¬ v2 = 2) => ?_)
        · have hp := hp.1 h7
          have n8 := hp.1
          refine And.intro n8 ?_
          have hp := hp.2
          refine And.intro (fun (h9 : (xh_isIn u v1 0) = 0) => ?_) (fun (h9 : ¬ (xh_isIn u v1 0) = 0) => ?_)
          · rw [show x_state u v1 v2 = (-1) from (by unfold x_state; rw [if_neg h2, if_neg h3, if_neg h5, if_pos h7, if_pos h9])] at hk
            exact hk
          · have hp := hp.2 h9
            have n10 := hp
            refine And.intro n10 ?_
            rw [show x_state u v1 v2 = (xh_placeInQueue u v1) from (by unfold x_state; rw [if_neg h2, if_neg h3, if_neg h5, if_pos h7, if_neg h9])] at hk
            exact hk
        · rw [show x_state u v1 v2 = (-1) from (by unfold x_state; rw [if_neg h2, if_neg h3, if_neg h5, if_neg h7])] at hk
          exact hk
  · rw [show x_state u v1 v2 = (-1) from (by unfold x_state; rw [if_pos h2])] at hk
    exact hk
-- HoldQueue.where(II)I
def x_where (u : q_S) (v1 : Int32) (v2 : Int32) : Int32 := (if (xc_has u v1) = 0 then (-1) else (if v2 = 0 then (q_cs u (Int32.toNatClampNeg v1)) else (if v2 = 1 then (q_cp u (Int32.toNatClampNeg v1)) else (if v2 = 2 then (q_ch u (Int32.toNatClampNeg v1)) else (-1)))))
def x_where_p (u : q_S) (v1 : Int32) (v2 : Int32) : Prop := (xc_has_p u v1 ∧ (((xc_has u v1) = 0 → True) ∧ (¬ (xc_has u v1) = 0 → ((v2 = 0 → (vp_in v1 61)) ∧ (¬ v2 = 0 → ((v2 = 1 → (vp_in v1 61)) ∧ (¬ v2 = 1 → ((v2 = 2 → (vp_in v1 61)) ∧ (¬ v2 = 2 → True)))))))))
def x_where_t : List (Nat × gz_T q_S) := [(0, gz_lda 1 0), (1, gz_getR 4 0 1), (4, gz_ldi 5 1), (5, gz_c1P 8 1 xc_has_p xc_has), (8, gz_if 11 13 (fun x => ¬ x = 0) (fun x => x = 0)), (11, gz_push 12 (gz_i (-1))), (12, gz_iret), (13, gz_ldi 14 2), (14, gz_sw [(0, 40), (1, 50), (2, 60)] 70), (40, gz_lda 41 0), (41, gz_getR 44 0 1), (44, gz_getR 47 1 8), (47, gz_ldi 48 1), (48, gz_ild 49 x_ai), (49, gz_iret), (50, gz_lda 51 0), (51, gz_getR 54 0 1), (54, gz_getR 57 1 7), (57, gz_ldi 58 1), (58, gz_ild 59 x_ai), (59, gz_iret), (60, gz_lda 61 0), (61, gz_getR 64 0 1), (64, gz_getR 67 1 9), (67, gz_ldi 68 1), (68, gz_ild 69 x_ai), (69, gz_iret), (70, gz_push 71 (gz_i (-1))), (71, gz_iret)]
set_option maxRecDepth 100000 in
set_option maxHeartbeats 4000000 in
theorem x_where_d {Kr : Option Int32 → q_S → Prop} (u : q_S) (v1 : Int32) (v2 : Int32) (hp : x_where_p u v1 v2) (hk : Kr (some (x_where u v1 v2)) u) : gz_does x_where_t Kr [(0, gz_r 0), (1, gz_i v1), (2, gz_i v2)] u := by
  intro Z hZ
  refine hZ.1 [] 500 0 _ _ _ ?_
  unfold x_where_p at hp
  have n1 := hp.1
  refine And.intro n1 ?_
  have hp := hp.2
  refine And.intro (fun (h2 : ¬ (xc_has u v1) = 0) => ?_) (fun (h2 : (xc_has u v1) = 0) => ?_)
  · have hp := hp.2 h2
    refine And.intro (fun (h3 : v2 = 0) => ?_) (fun (h3 : ¬ v2 = 0) => ?_)
    · have hp := hp.1 h3
      have n4 := hp
      refine And.intro n4 ?_
      rw [show x_where u v1 v2 = (q_cs u (Int32.toNatClampNeg v1)) from (by unfold x_where; rw [if_neg h2, if_pos h3])] at hk
      exact hk
    · have hp := hp.2 h3
      refine And.intro (fun (h5 : v2 = 1) => ?_) (fun (h5 : ¬ v2 = 1) => ?_)
      · have hp := hp.1 h5
        have n6 := hp
        refine And.intro n6 ?_
        rw [show x_where u v1 v2 = (q_cp u (Int32.toNatClampNeg v1)) from (by unfold x_where; rw [if_neg h2, if_neg h3, if_pos h5])] at hk
        exact hk
      · have hp := hp.2 h5
        refine And.intro (fun (h7 : v2 = 2) => ?_) (fun (h7 : ¬ v2 = 2) => ?_)
        · have hp := hp.1 h7
          have n8 := hp
          refine And.intro n8 ?_
          rw [show x_where u v1 v2 = (q_ch u (Int32.toNatClampNeg v1)) from (by unfold x_where; rw [if_neg h2, if_neg h3, if_neg h5, if_pos h7])] at hk
          exact hk
        · rw [show x_where u v1 v2 = (-1) from (by unfold x_where; rw [if_neg h2, if_neg h3, if_neg h5, if_neg h7])] at hk
          exact hk
  · rw [show x_where u v1 v2 = (-1) from (by unfold x_where; rw [if_pos h2])] at hk
    exact hk
