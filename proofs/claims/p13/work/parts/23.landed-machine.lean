section GZX
variable {p : Program} {l : Launch} {e : Env} {R : Room} {s : State} {m : MethodId} {args : Array Value} {below : List Frame} {meth : Method} {c : Code} {cells slots : Nat} {Q : State → Prop} {cc : ByteArray} {nL : Nat} {a : Nat → Nat} {kc : Nat → ClassId} {D : va_G} {A : Nat → Prop} {Kr : Option Int32 → q_S → Prop} {pc : Nat} {ret : Option FieldType} {ws : List Cond} {own : String}
-- HoldQueue.isKind(I)Z
def x_isKind_w : List Cond := Cond.code y_HoldQueue_isKind c_HoldQueue_isKind 1 (some .boolean) :: lw_gd
theorem x_isKind_k : Cond.code y_HoldQueue_isKind c_HoldQueue_isKind 1 (some .boolean) ∈ lw_gd := wi_118
abbrev x_isKind_R : Room := { frames := 0, cells := 0, slots := 0, locals := 0 }
set_option maxRecDepth 100000 in
set_option maxHeartbeats 4000000 in
theorem x_isKind_o (D : va_G) (a : Nat → Nat) (kc : Nat → ClassId) (F : gz_F p s m args meth c c_HoldQueue_isKind 1 (some .boolean) x_isKind_w R_HoldQueue) : gz_oks (gz_Z p l e x_isKind_R s m args below meth c 0 0 (MQ below (va_Qi (fun r z => Kr (some r) z) (gz_B D q_cl (x_tys kc) (x_wf a kc) (gz_A (x_as a) s.heap.size)) (gz_A (x_as a) s.heap.size)) args s 0 0 (gz_A (x_as a) s.heap.size)) 1 a (gz_GG D q_cl (x_tys kc) (gz_A (x_as a) s.heap.size) s (x_wf a kc))) Kr x_isKind_t := by
  refine And.intro (gz_o_iload_n F.1 F.2.1 0 d_HoldQueue_isKind_0 rfl) ?_
  refine And.intro (gz_o_if_lt F.1 F.2.1 13 d_HoldQueue_isKind_1 (by decide)) ?_
  refine And.intro (gz_o_iload_n F.1 F.2.1 0 d_HoldQueue_isKind_4 rfl) ?_
  refine And.intro (gz_o_iconst F.1 F.2.1 4 d_HoldQueue_isKind_5 (by decide)) ?_
  refine And.intro (gz_o_ic_ge F.1 F.2.1 13 d_HoldQueue_isKind_6 (by decide)) ?_
  refine And.intro (gz_o_iconst F.1 F.2.1 1 d_HoldQueue_isKind_9 (by decide)) ?_
  refine And.intro (gz_o_goto F.1 F.2.1 14 d_HoldQueue_isKind_10 (by decide)) ?_
  refine And.intro (gz_o_iconst F.1 F.2.1 0 d_HoldQueue_isKind_13 (by decide)) ?_
  refine And.intro (gz_o_zret (gz_e_z (post := Kr) F d_HoldQueue_isKind_14)) ?_
  exact trivial
set_option maxRecDepth 100000 in
set_option maxHeartbeats 4000000 in
theorem x_isKind_c (l : Launch) (D : va_G) (a : Nat → Nat) (kc : Nat → ClassId) (u : q_S) (v0 : Int32) : gz_MI l y_HoldQueue_isKind x_isKind_w x_isKind_R D q_cl (x_tys kc) (x_wf a kc) (x_as a) a [gz_i v0] u (x_isKind v0) u := gz_metI (by decide) rfl (x_has a kc) (Nat.le_of_ble_eq_true rfl) rfl (x_isKind_d u v0 ⟨rfl, rfl⟩) (fun p e s m below meth c F => x_isKind_o (Kr := fun r z => r = some (x_isKind v0) ∧ z = u) D a kc F)
-- HoldQueue.record(I)I
def x_record_w : List Cond := Cond.code y_HoldQueue_record c_HoldQueue_record 2 (some .int) :: lw_gd
theorem x_record_k : Cond.code y_HoldQueue_record c_HoldQueue_record 2 (some .int) ∈ lw_gd := wi_115
theorem x_record_sl : Cond.selects R_HoldQueue y_HoldQueue_record y_HoldQueue_record ∈ lw_gd := wi_114
abbrev x_record_R : Room := { frames := 1, cells := 0, slots := 0, locals := 40 }
set_option maxRecDepth 100000 in
set_option maxHeartbeats 4000000 in
theorem x_record_o (D : va_G) (a : Nat → Nat) (kc : Nat → ClassId) (F : gz_F p s m args meth c c_HoldQueue_record 2 (some .int) x_record_w R_HoldQueue) : gz_oks (gz_Z p l e x_record_R s m args below meth c 0 0 (MQ below (va_Qi (fun r z => Kr (some r) z) (gz_B D q_cl (x_tys kc) (x_wf a kc) (gz_A (x_as a) s.heap.size)) (gz_A (x_as a) s.heap.size)) args s 0 0 (gz_A (x_as a) s.heap.size)) 2 a (gz_GG D q_cl (x_tys kc) (gz_A (x_as a) s.heap.size) s (x_wf a kc))) Kr x_record_t := by
  refine And.intro (gz_o_iload_n F.1 F.2.1 1 d_HoldQueue_record_0 rfl) ?_
  refine And.intro (gz_o_s1P (fun u x => gz_cbI (x_has a kc) (fun _ h => Or.inr h) (gz_runS (bs := [gz_i x]) F.2.2.2.2.2.2.2 ⟨F.1, F.2.1, F.2.2.2.1, F.2.2.2.2.1, gz_hts F⟩ (x_isKind_c l D a kc u x) (cwS 1 (gz_hts F) (gz_gS lw_good wi_116 wi_117 wi_1 x_isKind_k) rfl rfl rfl (by decide +kernel) ⟨Nat.le_of_ble_eq_true rfl, Nat.le_of_ble_eq_true rfl⟩) rfl d_HoldQueue_record_1 ⟨Nat.le_of_ble_eq_true rfl, Nat.le_of_ble_eq_true rfl⟩))) ?_
  refine And.intro (gz_o_if_eq F.1 F.2.1 16 d_HoldQueue_record_4 (by decide)) ?_
  refine And.intro (gz_o_aload_n F.1 F.2.1 0 d_HoldQueue_record_7 rfl) ?_
  refine And.intro (gz_o_getI (xg__HoldQueue_13 F d_HoldQueue_record_8)) ?_
  refine And.intro (gz_o_bipush F.1 F.2.1 30 d_HoldQueue_record_11 (by decide)) ?_
  refine And.intro (gz_o_ic_lt F.1 F.2.1 18 d_HoldQueue_record_13 (by decide)) ?_
  refine And.intro (gz_o_iconst F.1 F.2.1 0 d_HoldQueue_record_16 (by decide)) ?_
  refine And.intro (gz_o_iret (gz_e_i (post := Kr) F d_HoldQueue_record_17)) ?_
  refine And.intro (gz_o_aload_n F.1 F.2.1 0 d_HoldQueue_record_18 rfl) ?_
  refine And.intro (gz_o_dup F.1 F.2.1 d_HoldQueue_record_19) ?_
  refine And.intro (gz_o_getI (xg__HoldQueue_13 F d_HoldQueue_record_20)) ?_
  refine And.intro (gz_o_iconst F.1 F.2.1 1 d_HoldQueue_record_23 (by decide)) ?_
  refine And.intro (gz_o_iadd F.1 F.2.1 d_HoldQueue_record_24) ?_
  refine And.intro (gz_o_putI (xp__HoldQueue_13 F d_HoldQueue_record_25)) ?_
  refine And.intro (gz_o_aload_n F.1 F.2.1 0 d_HoldQueue_record_28 rfl) ?_
  refine And.intro (gz_o_getR (xg__HoldQueue_9 F d_HoldQueue_record_29)) ?_
  refine And.intro (gz_o_aload_n F.1 F.2.1 0 d_HoldQueue_record_32 rfl) ?_
  refine And.intro (gz_o_getI (xg__HoldQueue_13 F d_HoldQueue_record_33)) ?_
  refine And.intro (gz_o_iload_n F.1 F.2.1 1 d_HoldQueue_record_36 rfl) ?_
  refine And.intro (gz_o_ist (x_ist F d_HoldQueue_record_37)) ?_
  refine And.intro (gz_o_aload_n F.1 F.2.1 0 d_HoldQueue_record_38 rfl) ?_
  refine And.intro (gz_o_getI (xg__HoldQueue_13 F d_HoldQueue_record_39)) ?_
  refine And.intro (gz_o_iret (gz_e_i (post := Kr) F d_HoldQueue_record_42)) ?_
  exact trivial
set_option maxRecDepth 100000 in
set_option maxHeartbeats 4000000 in
theorem x_record_c (l : Launch) (D : va_G) (a : Nat → Nat) (kc : Nat → ClassId) (u : q_S) (v1 : Int32) (hp : x_record_p u v1) : gz_MI l y_HoldQueue_record x_record_w x_record_R D q_cl (x_tys kc) (x_wf a kc) (x_as a) a [gz_r 0, gz_i v1] u (x_record_r u v1) (x_record_s u v1) := gz_metI (by decide) rfl (x_has a kc) (Nat.le_of_ble_eq_true rfl) rfl (x_record_d u v1 hp ⟨rfl, rfl⟩) (fun p e s m below meth c F => x_record_o (Kr := fun r z => r = some (x_record_r u v1) ∧ z = (x_record_s u v1)) D a kc F)
-- HoldQueue.isRecord(I)Z
def x_isRecord_w : List Cond := Cond.code y_HoldQueue_isRecord c_HoldQueue_isRecord 2 (some .boolean) :: lw_gd
theorem x_isRecord_k : Cond.code y_HoldQueue_isRecord c_HoldQueue_isRecord 2 (some .boolean) ∈ lw_gd := wi_126
theorem x_isRecord_sl : Cond.selects R_HoldQueue y_HoldQueue_isRecord y_HoldQueue_isRecord ∈ lw_gd := by decide +kernel
abbrev x_isRecord_R : Room := { frames := 0, cells := 0, slots := 0, locals := 0 }
set_option maxRecDepth 100000 in
set_option maxHeartbeats 4000000 in
theorem x_isRecord_o (D : va_G) (a : Nat → Nat) (kc : Nat → ClassId) (F : gz_F p s m args meth c c_HoldQueue_isRecord 2 (some .boolean) x_isRecord_w R_HoldQueue) : gz_oks (gz_Z p l e x_isRecord_R s m args below meth c 0 0 (MQ below (va_Qi (fun r z => Kr (some r) z) (gz_B D q_cl (x_tys kc) (x_wf a kc) (gz_A (x_as a) s.heap.size)) (gz_A (x_as a) s.heap.size)) args s 0 0 (gz_A (x_as a) s.heap.size)) 2 a (gz_GG D q_cl (x_tys kc) (gz_A (x_as a) s.heap.size) s (x_wf a kc))) Kr x_isRecord_t := by
  refine And.intro (gz_o_iload_n F.1 F.2.1 1 d_HoldQueue_isRecord_0 rfl) ?_
  refine And.intro (gz_o_iconst F.1 F.2.1 1 d_HoldQueue_isRecord_1 (by decide)) ?_
  refine And.intro (gz_o_ic_lt F.1 F.2.1 17 d_HoldQueue_isRecord_2 (by decide)) ?_
  refine And.intro (gz_o_iload_n F.1 F.2.1 1 d_HoldQueue_isRecord_5 rfl) ?_
  refine And.intro (gz_o_aload_n F.1 F.2.1 0 d_HoldQueue_isRecord_6 rfl) ?_
  refine And.intro (gz_o_getI (xg__HoldQueue_13 F d_HoldQueue_isRecord_7)) ?_
  refine And.intro (gz_o_ic_gt F.1 F.2.1 17 d_HoldQueue_isRecord_10 (by decide)) ?_
  refine And.intro (gz_o_iconst F.1 F.2.1 1 d_HoldQueue_isRecord_13 (by decide)) ?_
  refine And.intro (gz_o_goto F.1 F.2.1 18 d_HoldQueue_isRecord_14 (by decide)) ?_
  refine And.intro (gz_o_iconst F.1 F.2.1 0 d_HoldQueue_isRecord_17 (by decide)) ?_
  refine And.intro (gz_o_zret (gz_e_z (post := Kr) F d_HoldQueue_isRecord_18)) ?_
  exact trivial
set_option maxRecDepth 100000 in
set_option maxHeartbeats 4000000 in
theorem x_isRecord_c (l : Launch) (D : va_G) (a : Nat → Nat) (kc : Nat → ClassId) (u : q_S) (v1 : Int32) : gz_MI l y_HoldQueue_isRecord x_isRecord_w x_isRecord_R D q_cl (x_tys kc) (x_wf a kc) (x_as a) a [gz_r 0, gz_i v1] u (x_isRecord u v1) u := gz_metI (by decide) rfl (x_has a kc) (Nat.le_of_ble_eq_true rfl) rfl (x_isRecord_d u v1 ⟨rfl, rfl⟩) (fun p e s m below meth c F => x_isRecord_o (Kr := fun r z => r = some (x_isRecord u v1) ∧ z = u) D a kc F)
-- HoldQueue.isPlace(I)Z
def x_isPlace_w : List Cond := Cond.code y_HoldQueue_isPlace c_HoldQueue_isPlace 1 (some .boolean) :: lw_gd
theorem x_isPlace_k : Cond.code y_HoldQueue_isPlace c_HoldQueue_isPlace 1 (some .boolean) ∈ lw_gd := wi_129
abbrev x_isPlace_R : Room := { frames := 0, cells := 0, slots := 0, locals := 0 }
set_option maxRecDepth 100000 in
set_option maxHeartbeats 4000000 in
theorem x_isPlace_o (D : va_G) (a : Nat → Nat) (kc : Nat → ClassId) (F : gz_F p s m args meth c c_HoldQueue_isPlace 1 (some .boolean) x_isPlace_w R_HoldQueue) : gz_oks (gz_Z p l e x_isPlace_R s m args below meth c 0 0 (MQ below (va_Qi (fun r z => Kr (some r) z) (gz_B D q_cl (x_tys kc) (x_wf a kc) (gz_A (x_as a) s.heap.size)) (gz_A (x_as a) s.heap.size)) args s 0 0 (gz_A (x_as a) s.heap.size)) 1 a (gz_GG D q_cl (x_tys kc) (gz_A (x_as a) s.heap.size) s (x_wf a kc))) Kr x_isPlace_t := by
  refine And.intro (gz_o_iload_n F.1 F.2.1 0 d_HoldQueue_isPlace_0 rfl) ?_
  refine And.intro (gz_o_if_lt F.1 F.2.1 14 d_HoldQueue_isPlace_1 (by decide)) ?_
  refine And.intro (gz_o_iload_n F.1 F.2.1 0 d_HoldQueue_isPlace_4 rfl) ?_
  refine And.intro (gz_o_bipush F.1 F.2.1 6 d_HoldQueue_isPlace_5 (by decide)) ?_
  refine And.intro (gz_o_ic_ge F.1 F.2.1 14 d_HoldQueue_isPlace_7 (by decide)) ?_
  refine And.intro (gz_o_iconst F.1 F.2.1 1 d_HoldQueue_isPlace_10 (by decide)) ?_
  refine And.intro (gz_o_goto F.1 F.2.1 15 d_HoldQueue_isPlace_11 (by decide)) ?_
  refine And.intro (gz_o_iconst F.1 F.2.1 0 d_HoldQueue_isPlace_14 (by decide)) ?_
  refine And.intro (gz_o_zret (gz_e_z (post := Kr) F d_HoldQueue_isPlace_15)) ?_
  exact trivial
set_option maxRecDepth 100000 in
set_option maxHeartbeats 4000000 in
theorem x_isPlace_c (l : Launch) (D : va_G) (a : Nat → Nat) (kc : Nat → ClassId) (u : q_S) (v0 : Int32) : gz_MI l y_HoldQueue_isPlace x_isPlace_w x_isPlace_R D q_cl (x_tys kc) (x_wf a kc) (x_as a) a [gz_i v0] u (x_isPlace v0) u := gz_metI (by decide) rfl (x_has a kc) (Nat.le_of_ble_eq_true rfl) rfl (x_isPlace_d u v0 ⟨rfl, rfl⟩) (fun p e s m below meth c F => x_isPlace_o (Kr := fun r z => r = some (x_isPlace v0) ∧ z = u) D a kc F)
-- HoldQueue$Copies.areFull()Z
def xc_areFull_w : List Cond := Cond.code y_HoldQueue_Copies_areFull c_HoldQueue_Copies_areFull 1 (some .boolean) :: lw_gd
theorem xc_areFull_k : Cond.code y_HoldQueue_Copies_areFull c_HoldQueue_Copies_areFull 1 (some .boolean) ∈ lw_gd := wi_133
theorem xc_areFull_sl : Cond.selects R_HoldQueue_Copies y_HoldQueue_Copies_areFull y_HoldQueue_Copies_areFull ∈ lw_gd := by decide +kernel
abbrev xc_areFull_R : Room := { frames := 0, cells := 0, slots := 0, locals := 0 }
set_option maxRecDepth 100000 in
set_option maxHeartbeats 4000000 in
theorem xc_areFull_o (D : va_G) (a : Nat → Nat) (kc : Nat → ClassId) (F : gz_F p s m args meth c c_HoldQueue_Copies_areFull 1 (some .boolean) xc_areFull_w R_HoldQueue_Copies) : gz_oks (gz_Z p l e xc_areFull_R s m args below meth c 0 0 (MQ below (va_Qi (fun r z => Kr (some r) z) (gz_B D q_cl (x_tys kc) (x_wf a kc) (gz_A (x_as a) s.heap.size)) (gz_A (x_as a) s.heap.size)) args s 0 0 (gz_A (x_as a) s.heap.size)) 1 a (gz_GG D q_cl (x_tys kc) (gz_A (x_as a) s.heap.size) s (x_wf a kc))) Kr xc_areFull_t := by
  refine And.intro (gz_o_aload_n F.1 F.2.1 0 d_HoldQueue_Copies_areFull_0 rfl) ?_
  refine And.intro (gz_o_getI (xg__HoldQueue_Copies_9 F d_HoldQueue_Copies_areFull_1)) ?_
  refine And.intro (gz_o_bipush F.1 F.2.1 60 d_HoldQueue_Copies_areFull_4 (by decide)) ?_
  refine And.intro (gz_o_ic_lt F.1 F.2.1 13 d_HoldQueue_Copies_areFull_6 (by decide)) ?_
  refine And.intro (gz_o_iconst F.1 F.2.1 1 d_HoldQueue_Copies_areFull_9 (by decide)) ?_
  refine And.intro (gz_o_goto F.1 F.2.1 14 d_HoldQueue_Copies_areFull_10 (by decide)) ?_
  refine And.intro (gz_o_iconst F.1 F.2.1 0 d_HoldQueue_Copies_areFull_13 (by decide)) ?_
  refine And.intro (gz_o_zret (gz_e_z (post := Kr) F d_HoldQueue_Copies_areFull_14)) ?_
  exact trivial
set_option maxRecDepth 100000 in
set_option maxHeartbeats 4000000 in
theorem xc_areFull_c (l : Launch) (D : va_G) (a : Nat → Nat) (kc : Nat → ClassId) (u : q_S) : gz_MI l y_HoldQueue_Copies_areFull xc_areFull_w xc_areFull_R D q_cl (x_tys kc) (x_wf a kc) (x_as a) a [gz_r 1] u (xc_areFull u) u := gz_metI (by decide) rfl (x_has a kc) (Nat.le_of_ble_eq_true rfl) rfl (xc_areFull_d u ⟨rfl, rfl⟩) (fun p e s m below meth c F => xc_areFull_o (Kr := fun r z => r = some (xc_areFull u) ∧ z = u) D a kc F)
-- HoldQueue$Copies.add(II)I
def xc_add_w : List Cond := Cond.code y_HoldQueue_Copies_add c_HoldQueue_Copies_add 3 (some .int) :: lw_gd
theorem xc_add_k : Cond.code y_HoldQueue_Copies_add c_HoldQueue_Copies_add 3 (some .int) ∈ lw_gd := wi_137
theorem xc_add_sl : Cond.selects R_HoldQueue_Copies y_HoldQueue_Copies_add y_HoldQueue_Copies_add ∈ lw_gd := by decide +kernel
abbrev xc_add_R : Room := { frames := 0, cells := 0, slots := 0, locals := 0 }
set_option maxRecDepth 100000 in
set_option maxHeartbeats 4000000 in
theorem xc_add_o (D : va_G) (a : Nat → Nat) (kc : Nat → ClassId) (F : gz_F p s m args meth c c_HoldQueue_Copies_add 3 (some .int) xc_add_w R_HoldQueue_Copies) : gz_oks (gz_Z p l e xc_add_R s m args below meth c 0 0 (MQ below (va_Qi (fun r z => Kr (some r) z) (gz_B D q_cl (x_tys kc) (x_wf a kc) (gz_A (x_as a) s.heap.size)) (gz_A (x_as a) s.heap.size)) args s 0 0 (gz_A (x_as a) s.heap.size)) 3 a (gz_GG D q_cl (x_tys kc) (gz_A (x_as a) s.heap.size) s (x_wf a kc))) Kr xc_add_t := by
  refine And.intro (gz_o_aload_n F.1 F.2.1 0 d_HoldQueue_Copies_add_0 rfl) ?_
  refine And.intro (gz_o_dup F.1 F.2.1 d_HoldQueue_Copies_add_1) ?_
  refine And.intro (gz_o_getI (xg__HoldQueue_Copies_9 F d_HoldQueue_Copies_add_2)) ?_
  refine And.intro (gz_o_iconst F.1 F.2.1 1 d_HoldQueue_Copies_add_5 (by decide)) ?_
  refine And.intro (gz_o_iadd F.1 F.2.1 d_HoldQueue_Copies_add_6) ?_
  refine And.intro (gz_o_putI (xp__HoldQueue_Copies_9 F d_HoldQueue_Copies_add_7)) ?_
  refine And.intro (gz_o_aload_n F.1 F.2.1 0 d_HoldQueue_Copies_add_10 rfl) ?_
  refine And.intro (gz_o_getR (xg__HoldQueue_Copies_15 F d_HoldQueue_Copies_add_11)) ?_
  refine And.intro (gz_o_aload_n F.1 F.2.1 0 d_HoldQueue_Copies_add_14 rfl) ?_
  refine And.intro (gz_o_getI (xg__HoldQueue_Copies_9 F d_HoldQueue_Copies_add_15)) ?_
  refine And.intro (gz_o_iload_n F.1 F.2.1 1 d_HoldQueue_Copies_add_18 rfl) ?_
  refine And.intro (gz_o_ist (x_ist F d_HoldQueue_Copies_add_19)) ?_
  refine And.intro (gz_o_aload_n F.1 F.2.1 0 d_HoldQueue_Copies_add_20 rfl) ?_
  refine And.intro (gz_o_getR (xg__HoldQueue_Copies_19 F d_HoldQueue_Copies_add_21)) ?_
  refine And.intro (gz_o_aload_n F.1 F.2.1 0 d_HoldQueue_Copies_add_24 rfl) ?_
  refine And.intro (gz_o_getI (xg__HoldQueue_Copies_9 F d_HoldQueue_Copies_add_25)) ?_
  refine And.intro (gz_o_iload_n F.1 F.2.1 2 d_HoldQueue_Copies_add_28 rfl) ?_
  refine And.intro (gz_o_ist (x_ist F d_HoldQueue_Copies_add_29)) ?_
  refine And.intro (gz_o_aload_n F.1 F.2.1 0 d_HoldQueue_Copies_add_30 rfl) ?_
  refine And.intro (gz_o_getR (xg__HoldQueue_Copies_22 F d_HoldQueue_Copies_add_31)) ?_
  refine And.intro (gz_o_aload_n F.1 F.2.1 0 d_HoldQueue_Copies_add_34 rfl) ?_
  refine And.intro (gz_o_getI (xg__HoldQueue_Copies_9 F d_HoldQueue_Copies_add_35)) ?_
  refine And.intro (gz_o_iconst F.1 F.2.1 1 d_HoldQueue_Copies_add_38 (by decide)) ?_
  refine And.intro (gz_o_ist (x_ist F d_HoldQueue_Copies_add_39)) ?_
  refine And.intro (gz_o_aload_n F.1 F.2.1 0 d_HoldQueue_Copies_add_40 rfl) ?_
  refine And.intro (gz_o_getI (xg__HoldQueue_Copies_9 F d_HoldQueue_Copies_add_41)) ?_
  refine And.intro (gz_o_iret (gz_e_i (post := Kr) F d_HoldQueue_Copies_add_44)) ?_
  exact trivial
set_option maxRecDepth 100000 in
set_option maxHeartbeats 4000000 in
theorem xc_add_c (l : Launch) (D : va_G) (a : Nat → Nat) (kc : Nat → ClassId) (u : q_S) (v1 : Int32) (v2 : Int32) (hp : xc_add_p u v1 v2) : gz_MI l y_HoldQueue_Copies_add xc_add_w xc_add_R D q_cl (x_tys kc) (x_wf a kc) (x_as a) a [gz_r 1, gz_i v1, gz_i v2] u (xc_add_r u v1 v2) (xc_add_s u v1 v2) := gz_metI (by decide) rfl (x_has a kc) (Nat.le_of_ble_eq_true rfl) rfl (xc_add_d u v1 v2 hp ⟨rfl, rfl⟩) (fun p e s m below meth c F => xc_add_o (Kr := fun r z => r = some (xc_add_r u v1 v2) ∧ z = (xc_add_s u v1 v2)) D a kc F)
-- HoldQueue.copy(II)I
def x_copy_w : List Cond := Cond.code y_HoldQueue_copy c_HoldQueue_copy 3 (some .int) :: lw_gd
theorem x_copy_k : Cond.code y_HoldQueue_copy c_HoldQueue_copy 3 (some .int) ∈ lw_gd := wi_122
theorem x_copy_sl : Cond.selects R_HoldQueue y_HoldQueue_copy y_HoldQueue_copy ∈ lw_gd := wi_121
abbrev x_copy_R : Room := { frames := 1, cells := 0, slots := 0, locals := 40 }
set_option maxRecDepth 100000 in
set_option maxHeartbeats 4000000 in
theorem x_copy_o (D : va_G) (a : Nat → Nat) (kc : Nat → ClassId) (F : gz_F p s m args meth c c_HoldQueue_copy 3 (some .int) x_copy_w R_HoldQueue) : gz_oks (gz_Z p l e x_copy_R s m args below meth c 0 0 (MQ below (va_Qi (fun r z => Kr (some r) z) (gz_B D q_cl (x_tys kc) (x_wf a kc) (gz_A (x_as a) s.heap.size)) (gz_A (x_as a) s.heap.size)) args s 0 0 (gz_A (x_as a) s.heap.size)) 3 a (gz_GG D q_cl (x_tys kc) (gz_A (x_as a) s.heap.size) s (x_wf a kc))) Kr x_copy_t := by
  refine And.intro (gz_o_aload_n F.1 F.2.1 0 d_HoldQueue_copy_0 rfl) ?_
  refine And.intro (gz_o_iload_n F.1 F.2.1 1 d_HoldQueue_copy_1 rfl) ?_
  refine And.intro (gz_o_c1P (fun u x hp => gz_cbI (x_has a kc) (fun _ h => Or.inr h) (gz_runV (bs := [gz_i x]) F.2.2.2.2.2.2.2 ⟨F.1, F.2.1, F.2.2.2.1, F.2.2.2.2.1, gz_hts F⟩ (x_isRecord_c l D a kc u x) (cwV 1 (gz_hts F) (gz_gV lw_good wi_123 wi_125 x_isRecord_sl wi_1 x_isRecord_k) rfl rfl rfl (by decide +kernel) ⟨Nat.le_of_ble_eq_true rfl, Nat.le_of_ble_eq_true rfl⟩) rfl 0 rfl rfl d_HoldQueue_copy_2 ⟨Nat.le_of_ble_eq_true rfl, Nat.le_of_ble_eq_true rfl⟩))) ?_
  refine And.intro (gz_o_if_eq F.1 F.2.1 25 d_HoldQueue_copy_5 (by decide)) ?_
  refine And.intro (gz_o_iload_n F.1 F.2.1 2 d_HoldQueue_copy_8 rfl) ?_
  refine And.intro (gz_o_s1P (fun u x => gz_cbI (x_has a kc) (fun _ h => Or.inr h) (gz_runS (bs := [gz_i x]) F.2.2.2.2.2.2.2 ⟨F.1, F.2.1, F.2.2.2.1, F.2.2.2.2.1, gz_hts F⟩ (x_isPlace_c l D a kc u x) (cwS 1 (gz_hts F) (gz_gS lw_good wi_127 wi_128 wi_1 x_isPlace_k) rfl rfl rfl (by decide +kernel) ⟨Nat.le_of_ble_eq_true rfl, Nat.le_of_ble_eq_true rfl⟩) rfl d_HoldQueue_copy_9 ⟨Nat.le_of_ble_eq_true rfl, Nat.le_of_ble_eq_true rfl⟩))) ?_
  refine And.intro (gz_o_if_eq F.1 F.2.1 25 d_HoldQueue_copy_12 (by decide)) ?_
  refine And.intro (gz_o_aload_n F.1 F.2.1 0 d_HoldQueue_copy_15 rfl) ?_
  refine And.intro (gz_o_getR (xg__HoldQueue_27 F d_HoldQueue_copy_16)) ?_
  refine And.intro (gz_o_c0P (fun u => gz_cbI (x_has a kc) (fun _ h => Or.inr h) (gz_runN (bs := []) F.2.2.2.2.2.2.2 ⟨F.1, F.2.1, F.2.2.2.1, F.2.2.2.2.1, gz_hts F⟩ (xc_areFull_c l D a kc u) ⟨va_cnB 0 (gz_hts F) (gz_gN lw_good xc_areFull_k) rfl rfl rfl (gz_nwF F (.methodLinkNest R_HoldQueue 61 y_HoldQueue_Copies_areFull "HoldQueue") (by decide +kernel)) (gz_hts F (.initialized R_HoldQueue_Copies) wi_2) (by decide +kernel) ⟨Nat.le_of_ble_eq_true rfl, Nat.le_of_ble_eq_true rfl⟩, gz_hts F (.instanceMethod y_HoldQueue_Copies_areFull) wi_132, gz_hts F (.selects R_HoldQueue_Copies y_HoldQueue_Copies_areFull y_HoldQueue_Copies_areFull) xc_areFull_sl⟩ rfl 1 rfl rfl d_HoldQueue_copy_19 ⟨Nat.le_of_ble_eq_true rfl, Nat.le_of_ble_eq_true rfl⟩))) ?_
  refine And.intro (gz_o_if_eq F.1 F.2.1 27 d_HoldQueue_copy_22 (by decide)) ?_
  refine And.intro (gz_o_iconst F.1 F.2.1 0 d_HoldQueue_copy_25 (by decide)) ?_
  refine And.intro (gz_o_iret (gz_e_i (post := Kr) F d_HoldQueue_copy_26)) ?_
  refine And.intro (gz_o_aload_n F.1 F.2.1 0 d_HoldQueue_copy_27 rfl) ?_
  refine And.intro (gz_o_getR (xg__HoldQueue_27 F d_HoldQueue_copy_28)) ?_
  refine And.intro (gz_o_iload_n F.1 F.2.1 1 d_HoldQueue_copy_31 rfl) ?_
  refine And.intro (gz_o_iload_n F.1 F.2.1 2 d_HoldQueue_copy_32 rfl) ?_
  refine And.intro (gz_o_c2I (fun u x y hp => gz_cbI (x_has a kc) (fun _ h => Or.inr h) (gz_runN (bs := [gz_i x, gz_i y]) F.2.2.2.2.2.2.2 ⟨F.1, F.2.1, F.2.2.2.1, F.2.2.2.2.1, gz_hts F⟩ (xc_add_c l D a kc u x y hp) ⟨va_cnB 2 (gz_hts F) (gz_gN lw_good xc_add_k) rfl rfl rfl (gz_nwF F (.methodLinkNest R_HoldQueue 65 y_HoldQueue_Copies_add "HoldQueue") (by decide +kernel)) (gz_hts F (.initialized R_HoldQueue_Copies) wi_2) (by decide +kernel) ⟨Nat.le_of_ble_eq_true rfl, Nat.le_of_ble_eq_true rfl⟩, gz_hts F (.instanceMethod y_HoldQueue_Copies_add) wi_136, gz_hts F (.selects R_HoldQueue_Copies y_HoldQueue_Copies_add y_HoldQueue_Copies_add) xc_add_sl⟩ rfl 1 rfl rfl d_HoldQueue_copy_33 ⟨Nat.le_of_ble_eq_true rfl, Nat.le_of_ble_eq_true rfl⟩))) ?_
  refine And.intro (gz_o_iret (gz_e_i (post := Kr) F d_HoldQueue_copy_36)) ?_
  exact trivial
set_option maxRecDepth 100000 in
set_option maxHeartbeats 4000000 in
theorem x_copy_c (l : Launch) (D : va_G) (a : Nat → Nat) (kc : Nat → ClassId) (u : q_S) (v1 : Int32) (v2 : Int32) (hp : x_copy_p u v1 v2) : gz_MI l y_HoldQueue_copy x_copy_w x_copy_R D q_cl (x_tys kc) (x_wf a kc) (x_as a) a [gz_r 0, gz_i v1, gz_i v2] u (x_copy_r u v1 v2) (x_copy_s u v1 v2) := gz_metI (by decide) rfl (x_has a kc) (Nat.le_of_ble_eq_true rfl) rfl (x_copy_d u v1 v2 hp ⟨rfl, rfl⟩) (fun p e s m below meth c F => x_copy_o (Kr := fun r z => r = some (x_copy_r u v1 v2) ∧ z = (x_copy_s u v1 v2)) D a kc F)
-- HoldQueue.bar(IZ)Z
def x_bar_w : List Cond := Cond.code y_HoldQueue_bar c_HoldQueue_bar 4 (some .boolean) :: lw_gd
theorem x_bar_k : Cond.code y_HoldQueue_bar c_HoldQueue_bar 4 (some .boolean) ∈ lw_gd := wi_141
theorem x_bar_sl : Cond.selects R_HoldQueue y_HoldQueue_bar y_HoldQueue_bar ∈ lw_gd := wi_140
abbrev x_bar_R : Room := { frames := 1, cells := 0, slots := 0, locals := 40 }
set_option maxRecDepth 100000 in
set_option maxHeartbeats 4000000 in
theorem x_bar_o (D : va_G) (a : Nat → Nat) (kc : Nat → ClassId) (F : gz_F p s m args meth c c_HoldQueue_bar 4 (some .boolean) x_bar_w R_HoldQueue) : gz_oks (gz_Z p l e x_bar_R s m args below meth c 0 0 (MQ below (va_Qi (fun r z => Kr (some r) z) (gz_B D q_cl (x_tys kc) (x_wf a kc) (gz_A (x_as a) s.heap.size)) (gz_A (x_as a) s.heap.size)) args s 0 0 (gz_A (x_as a) s.heap.size)) 4 a (gz_GG D q_cl (x_tys kc) (gz_A (x_as a) s.heap.size) s (x_wf a kc))) Kr x_bar_t := by
  refine And.intro (gz_o_iload_n F.1 F.2.1 1 d_HoldQueue_bar_0 rfl) ?_
  refine And.intro (gz_o_s1P (fun u x => gz_cbI (x_has a kc) (fun _ h => Or.inr h) (gz_runS (bs := [gz_i x]) F.2.2.2.2.2.2.2 ⟨F.1, F.2.1, F.2.2.2.1, F.2.2.2.2.1, gz_hts F⟩ (x_isKind_c l D a kc u x) (cwS 1 (gz_hts F) (gz_gS lw_good wi_116 wi_117 wi_1 x_isKind_k) rfl rfl rfl (by decide +kernel) ⟨Nat.le_of_ble_eq_true rfl, Nat.le_of_ble_eq_true rfl⟩) rfl d_HoldQueue_bar_1 ⟨Nat.le_of_ble_eq_true rfl, Nat.le_of_ble_eq_true rfl⟩))) ?_
  refine And.intro (gz_o_if_ne F.1 F.2.1 9 d_HoldQueue_bar_4 (by decide)) ?_
  refine And.intro (gz_o_iconst F.1 F.2.1 0 d_HoldQueue_bar_7 (by decide)) ?_
  refine And.intro (gz_o_zret (gz_e_z (post := Kr) F d_HoldQueue_bar_8)) ?_
  refine And.intro (gz_o_aload_n F.1 F.2.1 0 d_HoldQueue_bar_9 rfl) ?_
  refine And.intro (gz_o_getR (xg__HoldQueue_17 F d_HoldQueue_bar_10)) ?_
  refine And.intro (gz_o_iload_n F.1 F.2.1 1 d_HoldQueue_bar_13 rfl) ?_
  refine And.intro (gz_o_ild (x_zld F d_HoldQueue_bar_14)) ?_
  refine And.intro (gz_o_istore_n F.1 F.2.1 3 d_HoldQueue_bar_15 rfl (by decide)) ?_
  refine And.intro (gz_o_aload_n F.1 F.2.1 0 d_HoldQueue_bar_16 rfl) ?_
  refine And.intro (gz_o_getR (xg__HoldQueue_17 F d_HoldQueue_bar_17)) ?_
  refine And.intro (gz_o_iload_n F.1 F.2.1 1 d_HoldQueue_bar_20 rfl) ?_
  refine And.intro (gz_o_iload_n F.1 F.2.1 2 d_HoldQueue_bar_21 rfl) ?_
  refine And.intro (gz_o_zst (x_zst F d_HoldQueue_bar_22)) ?_
  refine And.intro (gz_o_iload_n F.1 F.2.1 3 d_HoldQueue_bar_23 rfl) ?_
  refine And.intro (gz_o_zret (gz_e_z (post := Kr) F d_HoldQueue_bar_24)) ?_
  exact trivial
set_option maxRecDepth 100000 in
set_option maxHeartbeats 4000000 in
theorem x_bar_c (l : Launch) (D : va_G) (a : Nat → Nat) (kc : Nat → ClassId) (u : q_S) (v1 : Int32) (v2 : Int32) (hp : x_bar_p u v1 v2) : gz_MI l y_HoldQueue_bar x_bar_w x_bar_R D q_cl (x_tys kc) (x_wf a kc) (x_as a) a [gz_r 0, gz_i v1, gz_i v2] u (x_bar_r u v1 v2) (x_bar_s u v1 v2) := gz_metI (by decide) rfl (x_has a kc) (Nat.le_of_ble_eq_true rfl) rfl (x_bar_d u v1 v2 hp ⟨rfl, rfl⟩) (fun p e s m below meth c F => x_bar_o (Kr := fun r z => r = some (x_bar_r u v1 v2) ∧ z = (x_bar_s u v1 v2)) D a kc F)
-- HoldQueue.isPerson(I)Z
def x_isPerson_w : List Cond := Cond.code y_HoldQueue_isPerson c_HoldQueue_isPerson 1 (some .boolean) :: lw_gd
theorem x_isPerson_k : Cond.code y_HoldQueue_isPerson c_HoldQueue_isPerson 1 (some .boolean) ∈ lw_gd := wi_148
abbrev x_isPerson_R : Room := { frames := 0, cells := 0, slots := 0, locals := 0 }
set_option maxRecDepth 100000 in
set_option maxHeartbeats 4000000 in
theorem x_isPerson_o (D : va_G) (a : Nat → Nat) (kc : Nat → ClassId) (F : gz_F p s m args meth c c_HoldQueue_isPerson 1 (some .boolean) x_isPerson_w R_HoldQueue) : gz_oks (gz_Z p l e x_isPerson_R s m args below meth c 0 0 (MQ below (va_Qi (fun r z => Kr (some r) z) (gz_B D q_cl (x_tys kc) (x_wf a kc) (gz_A (x_as a) s.heap.size)) (gz_A (x_as a) s.heap.size)) args s 0 0 (gz_A (x_as a) s.heap.size)) 1 a (gz_GG D q_cl (x_tys kc) (gz_A (x_as a) s.heap.size) s (x_wf a kc))) Kr x_isPerson_t := by
  refine And.intro (gz_o_iload_n F.1 F.2.1 0 d_HoldQueue_isPerson_0 rfl) ?_
  refine And.intro (gz_o_if_lt F.1 F.2.1 14 d_HoldQueue_isPerson_1 (by decide)) ?_
  refine And.intro (gz_o_iload_n F.1 F.2.1 0 d_HoldQueue_isPerson_4 rfl) ?_
  refine And.intro (gz_o_bipush F.1 F.2.1 40 d_HoldQueue_isPerson_5 (by decide)) ?_
  refine And.intro (gz_o_ic_ge F.1 F.2.1 14 d_HoldQueue_isPerson_7 (by decide)) ?_
  refine And.intro (gz_o_iconst F.1 F.2.1 1 d_HoldQueue_isPerson_10 (by decide)) ?_
  refine And.intro (gz_o_goto F.1 F.2.1 15 d_HoldQueue_isPerson_11 (by decide)) ?_
  refine And.intro (gz_o_iconst F.1 F.2.1 0 d_HoldQueue_isPerson_14 (by decide)) ?_
  refine And.intro (gz_o_zret (gz_e_z (post := Kr) F d_HoldQueue_isPerson_15)) ?_
  exact trivial
set_option maxRecDepth 100000 in
set_option maxHeartbeats 4000000 in
theorem x_isPerson_c (l : Launch) (D : va_G) (a : Nat → Nat) (kc : Nat → ClassId) (u : q_S) (v0 : Int32) : gz_MI l y_HoldQueue_isPerson x_isPerson_w x_isPerson_R D q_cl (x_tys kc) (x_wf a kc) (x_as a) a [gz_i v0] u (x_isPerson v0) u := gz_metI (by decide) rfl (x_has a kc) (Nat.le_of_ble_eq_true rfl) rfl (x_isPerson_d u v0 ⟨rfl, rfl⟩) (fun p e s m below meth c F => x_isPerson_o (Kr := fun r z => r = some (x_isPerson v0) ∧ z = u) D a kc F)
-- HoldQueue$Holds.has(I)Z
def xh_has_w : List Cond := Cond.code y_HoldQueue_Holds_has c_HoldQueue_Holds_has 2 (some .boolean) :: lw_gd
theorem xh_has_k : Cond.code y_HoldQueue_Holds_has c_HoldQueue_Holds_has 2 (some .boolean) ∈ lw_gd := wi_164
theorem xh_has_sl : Cond.selects R_HoldQueue_Holds y_HoldQueue_Holds_has y_HoldQueue_Holds_has ∈ lw_gd := by decide +kernel
abbrev xh_has_R : Room := { frames := 0, cells := 0, slots := 0, locals := 0 }
set_option maxRecDepth 100000 in
set_option maxHeartbeats 4000000 in
theorem xh_has_o (D : va_G) (a : Nat → Nat) (kc : Nat → ClassId) (F : gz_F p s m args meth c c_HoldQueue_Holds_has 2 (some .boolean) xh_has_w R_HoldQueue_Holds) : gz_oks (gz_Z p l e xh_has_R s m args below meth c 0 0 (MQ below (va_Qi (fun r z => Kr (some r) z) (gz_B D q_cl (x_tys kc) (x_wf a kc) (gz_A (x_as a) s.heap.size)) (gz_A (x_as a) s.heap.size)) args s 0 0 (gz_A (x_as a) s.heap.size)) 2 a (gz_GG D q_cl (x_tys kc) (gz_A (x_as a) s.heap.size) s (x_wf a kc))) Kr xh_has_t := by
  refine And.intro (gz_o_iload_n F.1 F.2.1 1 d_HoldQueue_Holds_has_0 rfl) ?_
  refine And.intro (gz_o_iconst F.1 F.2.1 1 d_HoldQueue_Holds_has_1 (by decide)) ?_
  refine And.intro (gz_o_ic_lt F.1 F.2.1 17 d_HoldQueue_Holds_has_2 (by decide)) ?_
  refine And.intro (gz_o_iload_n F.1 F.2.1 1 d_HoldQueue_Holds_has_5 rfl) ?_
  refine And.intro (gz_o_aload_n F.1 F.2.1 0 d_HoldQueue_Holds_has_6 rfl) ?_
  refine And.intro (gz_o_getI (xg__HoldQueue_Holds_9 F d_HoldQueue_Holds_has_7)) ?_
  refine And.intro (gz_o_ic_gt F.1 F.2.1 17 d_HoldQueue_Holds_has_10 (by decide)) ?_
  refine And.intro (gz_o_iconst F.1 F.2.1 1 d_HoldQueue_Holds_has_13 (by decide)) ?_
  refine And.intro (gz_o_goto F.1 F.2.1 18 d_HoldQueue_Holds_has_14 (by decide)) ?_
  refine And.intro (gz_o_iconst F.1 F.2.1 0 d_HoldQueue_Holds_has_17 (by decide)) ?_
  refine And.intro (gz_o_zret (gz_e_z (post := Kr) F d_HoldQueue_Holds_has_18)) ?_
  exact trivial
set_option maxRecDepth 100000 in
set_option maxHeartbeats 4000000 in
theorem xh_has_c (l : Launch) (D : va_G) (a : Nat → Nat) (kc : Nat → ClassId) (u : q_S) (v1 : Int32) : gz_MI l y_HoldQueue_Holds_has xh_has_w xh_has_R D q_cl (x_tys kc) (x_wf a kc) (x_as a) a [gz_r 2, gz_i v1] u (xh_has u v1) u := gz_metI (by decide) rfl (x_has a kc) (Nat.le_of_ble_eq_true rfl) rfl (xh_has_d u v1 ⟨rfl, rfl⟩) (fun p e s m below meth c F => xh_has_o (Kr := fun r z => r = some (xh_has u v1) ∧ z = u) D a kc F)
-- HoldQueue$Holds.isIn(II)Z
def xh_isIn_w : List Cond := Cond.code y_HoldQueue_Holds_isIn c_HoldQueue_Holds_isIn 3 (some .boolean) :: lw_gd
theorem xh_isIn_k : Cond.code y_HoldQueue_Holds_isIn c_HoldQueue_Holds_isIn 3 (some .boolean) ∈ lw_gd := wi_160
theorem xh_isIn_sl : Cond.selects R_HoldQueue_Holds y_HoldQueue_Holds_isIn y_HoldQueue_Holds_isIn ∈ lw_gd := by decide +kernel
abbrev xh_isIn_R : Room := { frames := 1, cells := 0, slots := 0, locals := 40 }
set_option maxRecDepth 100000 in
set_option maxHeartbeats 4000000 in
theorem xh_isIn_o (D : va_G) (a : Nat → Nat) (kc : Nat → ClassId) (F : gz_F p s m args meth c c_HoldQueue_Holds_isIn 3 (some .boolean) xh_isIn_w R_HoldQueue_Holds) : gz_oks (gz_Z p l e xh_isIn_R s m args below meth c 0 0 (MQ below (va_Qi (fun r z => Kr (some r) z) (gz_B D q_cl (x_tys kc) (x_wf a kc) (gz_A (x_as a) s.heap.size)) (gz_A (x_as a) s.heap.size)) args s 0 0 (gz_A (x_as a) s.heap.size)) 3 a (gz_GG D q_cl (x_tys kc) (gz_A (x_as a) s.heap.size) s (x_wf a kc))) Kr xh_isIn_t := by
  refine And.intro (gz_o_aload_n F.1 F.2.1 0 d_HoldQueue_Holds_isIn_0 rfl) ?_
  refine And.intro (gz_o_iload_n F.1 F.2.1 1 d_HoldQueue_Holds_isIn_1 rfl) ?_
  refine And.intro (gz_o_c1P (fun u x hp => gz_cbI (x_has a kc) (fun _ h => Or.inr h) (gz_runV (bs := [gz_i x]) F.2.2.2.2.2.2.2 ⟨F.1, F.2.1, F.2.2.2.1, F.2.2.2.2.1, gz_hts F⟩ (xh_has_c l D a kc u x) (cwV 1 (gz_hts F) (gz_gV lw_good wi_161 wi_163 xh_has_sl wi_3 xh_has_k) rfl rfl rfl (by decide +kernel) ⟨Nat.le_of_ble_eq_true rfl, Nat.le_of_ble_eq_true rfl⟩) rfl 2 rfl rfl d_HoldQueue_Holds_isIn_2 ⟨Nat.le_of_ble_eq_true rfl, Nat.le_of_ble_eq_true rfl⟩))) ?_
  refine And.intro (gz_o_if_eq F.1 F.2.1 22 d_HoldQueue_Holds_isIn_5 (by decide)) ?_
  refine And.intro (gz_o_aload_n F.1 F.2.1 0 d_HoldQueue_Holds_isIn_8 rfl) ?_
  refine And.intro (gz_o_getR (xg__HoldQueue_Holds_28 F d_HoldQueue_Holds_isIn_9)) ?_
  refine And.intro (gz_o_iload_n F.1 F.2.1 1 d_HoldQueue_Holds_isIn_12 rfl) ?_
  refine And.intro (gz_o_ild (x_ild F d_HoldQueue_Holds_isIn_13)) ?_
  refine And.intro (gz_o_iload_n F.1 F.2.1 2 d_HoldQueue_Holds_isIn_14 rfl) ?_
  refine And.intro (gz_o_ic_ne F.1 F.2.1 22 d_HoldQueue_Holds_isIn_15 (by decide)) ?_
  refine And.intro (gz_o_iconst F.1 F.2.1 1 d_HoldQueue_Holds_isIn_18 (by decide)) ?_
  refine And.intro (gz_o_goto F.1 F.2.1 23 d_HoldQueue_Holds_isIn_19 (by decide)) ?_
  refine And.intro (gz_o_iconst F.1 F.2.1 0 d_HoldQueue_Holds_isIn_22 (by decide)) ?_
  refine And.intro (gz_o_zret (gz_e_z (post := Kr) F d_HoldQueue_Holds_isIn_23)) ?_
  exact trivial
set_option maxRecDepth 100000 in
set_option maxHeartbeats 4000000 in
theorem xh_isIn_c (l : Launch) (D : va_G) (a : Nat → Nat) (kc : Nat → ClassId) (u : q_S) (v1 : Int32) (v2 : Int32) (hp : xh_isIn_p u v1 v2) : gz_MI l y_HoldQueue_Holds_isIn xh_isIn_w xh_isIn_R D q_cl (x_tys kc) (x_wf a kc) (x_as a) a [gz_r 2, gz_i v1, gz_i v2] u (xh_isIn u v1 v2) u := gz_metI (by decide) rfl (x_has a kc) (Nat.le_of_ble_eq_true rfl) rfl (xh_isIn_d u v1 v2 hp ⟨rfl, rfl⟩) (fun p e s m below meth c F => xh_isIn_o (Kr := fun r z => r = some (xh_isIn u v1 v2) ∧ z = u) D a kc F)
-- HoldQueue$Holds.isOpen(I)Z
def xh_isOpen_w : List Cond := Cond.code y_HoldQueue_Holds_isOpen c_HoldQueue_Holds_isOpen 2 (some .boolean) :: lw_gd
theorem xh_isOpen_k : Cond.code y_HoldQueue_Holds_isOpen c_HoldQueue_Holds_isOpen 2 (some .boolean) ∈ lw_gd := wi_156
theorem xh_isOpen_sl : Cond.selects R_HoldQueue_Holds y_HoldQueue_Holds_isOpen y_HoldQueue_Holds_isOpen ∈ lw_gd := by decide +kernel
abbrev xh_isOpen_R : Room := { frames := 2, cells := 0, slots := 0, locals := 80 }
set_option maxRecDepth 100000 in
set_option maxHeartbeats 4000000 in
theorem xh_isOpen_o (D : va_G) (a : Nat → Nat) (kc : Nat → ClassId) (F : gz_F p s m args meth c c_HoldQueue_Holds_isOpen 2 (some .boolean) xh_isOpen_w R_HoldQueue_Holds) : gz_oks (gz_Z p l e xh_isOpen_R s m args below meth c 0 0 (MQ below (va_Qi (fun r z => Kr (some r) z) (gz_B D q_cl (x_tys kc) (x_wf a kc) (gz_A (x_as a) s.heap.size)) (gz_A (x_as a) s.heap.size)) args s 0 0 (gz_A (x_as a) s.heap.size)) 2 a (gz_GG D q_cl (x_tys kc) (gz_A (x_as a) s.heap.size) s (x_wf a kc))) Kr xh_isOpen_t := by
  refine And.intro (gz_o_aload_n F.1 F.2.1 0 d_HoldQueue_Holds_isOpen_0 rfl) ?_
  refine And.intro (gz_o_iload_n F.1 F.2.1 1 d_HoldQueue_Holds_isOpen_1 rfl) ?_
  refine And.intro (gz_o_iconst F.1 F.2.1 0 d_HoldQueue_Holds_isOpen_2 (by decide)) ?_
  refine And.intro (gz_o_c2P (fun u x y hp => gz_cbI (x_has a kc) (fun _ h => Or.inr h) (gz_runV (bs := [gz_i x, gz_i y]) F.2.2.2.2.2.2.2 ⟨F.1, F.2.1, F.2.2.2.1, F.2.2.2.2.1, gz_hts F⟩ (xh_isIn_c l D a kc u x y hp) (cwV 2 (gz_hts F) (gz_gV lw_good wi_157 wi_159 xh_isIn_sl wi_3 xh_isIn_k) rfl rfl rfl (by decide +kernel) ⟨Nat.le_of_ble_eq_true rfl, Nat.le_of_ble_eq_true rfl⟩) rfl 2 rfl rfl d_HoldQueue_Holds_isOpen_3 ⟨Nat.le_of_ble_eq_true rfl, Nat.le_of_ble_eq_true rfl⟩))) ?_
  refine And.intro (gz_o_if_ne F.1 F.2.1 27 d_HoldQueue_Holds_isOpen_6 (by decide)) ?_
  refine And.intro (gz_o_aload_n F.1 F.2.1 0 d_HoldQueue_Holds_isOpen_9 rfl) ?_
  refine And.intro (gz_o_iload_n F.1 F.2.1 1 d_HoldQueue_Holds_isOpen_10 rfl) ?_
  refine And.intro (gz_o_iconst F.1 F.2.1 1 d_HoldQueue_Holds_isOpen_11 (by decide)) ?_
  refine And.intro (gz_o_c2P (fun u x y hp => gz_cbI (x_has a kc) (fun _ h => Or.inr h) (gz_runV (bs := [gz_i x, gz_i y]) F.2.2.2.2.2.2.2 ⟨F.1, F.2.1, F.2.2.2.1, F.2.2.2.2.1, gz_hts F⟩ (xh_isIn_c l D a kc u x y hp) (cwV 2 (gz_hts F) (gz_gV lw_good wi_157 wi_159 xh_isIn_sl wi_3 xh_isIn_k) rfl rfl rfl (by decide +kernel) ⟨Nat.le_of_ble_eq_true rfl, Nat.le_of_ble_eq_true rfl⟩) rfl 2 rfl rfl d_HoldQueue_Holds_isOpen_12 ⟨Nat.le_of_ble_eq_true rfl, Nat.le_of_ble_eq_true rfl⟩))) ?_
  refine And.intro (gz_o_if_ne F.1 F.2.1 27 d_HoldQueue_Holds_isOpen_15 (by decide)) ?_
  refine And.intro (gz_o_aload_n F.1 F.2.1 0 d_HoldQueue_Holds_isOpen_18 rfl) ?_
  refine And.intro (gz_o_iload_n F.1 F.2.1 1 d_HoldQueue_Holds_isOpen_19 rfl) ?_
  refine And.intro (gz_o_iconst F.1 F.2.1 2 d_HoldQueue_Holds_isOpen_20 (by decide)) ?_
  refine And.intro (gz_o_c2P (fun u x y hp => gz_cbI (x_has a kc) (fun _ h => Or.inr h) (gz_runV (bs := [gz_i x, gz_i y]) F.2.2.2.2.2.2.2 ⟨F.1, F.2.1, F.2.2.2.1, F.2.2.2.2.1, gz_hts F⟩ (xh_isIn_c l D a kc u x y hp) (cwV 2 (gz_hts F) (gz_gV lw_good wi_157 wi_159 xh_isIn_sl wi_3 xh_isIn_k) rfl rfl rfl (by decide +kernel) ⟨Nat.le_of_ble_eq_true rfl, Nat.le_of_ble_eq_true rfl⟩) rfl 2 rfl rfl d_HoldQueue_Holds_isOpen_21 ⟨Nat.le_of_ble_eq_true rfl, Nat.le_of_ble_eq_true rfl⟩))) ?_
  refine And.intro (gz_o_if_eq F.1 F.2.1 31 d_HoldQueue_Holds_isOpen_24 (by decide)) ?_
  refine And.intro (gz_o_iconst F.1 F.2.1 1 d_HoldQueue_Holds_isOpen_27 (by decide)) ?_
  refine And.intro (gz_o_goto F.1 F.2.1 32 d_HoldQueue_Holds_isOpen_28 (by decide)) ?_
  refine And.intro (gz_o_iconst F.1 F.2.1 0 d_HoldQueue_Holds_isOpen_31 (by decide)) ?_
  refine And.intro (gz_o_zret (gz_e_z (post := Kr) F d_HoldQueue_Holds_isOpen_32)) ?_
  exact trivial
set_option maxRecDepth 100000 in
set_option maxHeartbeats 4000000 in
theorem xh_isOpen_c (l : Launch) (D : va_G) (a : Nat → Nat) (kc : Nat → ClassId) (u : q_S) (v1 : Int32) (hp : xh_isOpen_p u v1) : gz_MI l y_HoldQueue_Holds_isOpen xh_isOpen_w xh_isOpen_R D q_cl (x_tys kc) (x_wf a kc) (x_as a) a [gz_r 2, gz_i v1] u (xh_isOpen u v1) u := gz_metI (by decide) rfl (x_has a kc) (Nat.le_of_ble_eq_true rfl) rfl (xh_isOpen_d u v1 hp ⟨rfl, rfl⟩) (fun p e s m below meth c F => xh_isOpen_o (Kr := fun r z => r = some (xh_isOpen u v1) ∧ z = u) D a kc F)
-- HoldQueue$Holds.hasOpen(II)Z
def xh_hasOpen_w : List Cond := Cond.code y_HoldQueue_Holds_hasOpen c_HoldQueue_Holds_hasOpen 4 (some .boolean) :: lw_gd
theorem xh_hasOpen_k : Cond.code y_HoldQueue_Holds_hasOpen c_HoldQueue_Holds_hasOpen 4 (some .boolean) ∈ lw_gd := wi_152
theorem xh_hasOpen_sl : Cond.selects R_HoldQueue_Holds y_HoldQueue_Holds_hasOpen y_HoldQueue_Holds_hasOpen ∈ lw_gd := by decide +kernel
abbrev xh_hasOpen_R : Room := { frames := 3, cells := 0, slots := 0, locals := 120 }
set_option maxRecDepth 100000 in
set_option maxHeartbeats 4000000 in
theorem xh_hasOpen_o (D : va_G) (a : Nat → Nat) (kc : Nat → ClassId) (F : gz_F p s m args meth c c_HoldQueue_Holds_hasOpen 4 (some .boolean) xh_hasOpen_w R_HoldQueue_Holds) : gz_oks (gz_Z p l e xh_hasOpen_R s m args below meth c 0 0 (MQ below (va_Qi (fun r z => Kr (some r) z) (gz_B D q_cl (x_tys kc) (x_wf a kc) (gz_A (x_as a) s.heap.size)) (gz_A (x_as a) s.heap.size)) args s 0 0 (gz_A (x_as a) s.heap.size)) 4 a (gz_GG D q_cl (x_tys kc) (gz_A (x_as a) s.heap.size) s (x_wf a kc))) Kr xh_hasOpen_t := by
  refine And.intro (gz_o_iconst F.1 F.2.1 1 d_HoldQueue_Holds_hasOpen_0 (by decide)) ?_
  refine And.intro (gz_o_istore_n F.1 F.2.1 3 d_HoldQueue_Holds_hasOpen_1 rfl (by decide)) ?_
  refine And.intro (gz_o_iload_n F.1 F.2.1 3 d_HoldQueue_Holds_hasOpen_2 rfl) ?_
  refine And.intro (gz_o_aload_n F.1 F.2.1 0 d_HoldQueue_Holds_hasOpen_3 rfl) ?_
  refine And.intro (gz_o_getI (xg__HoldQueue_Holds_9 F d_HoldQueue_Holds_hasOpen_4)) ?_
  refine And.intro (gz_o_ic_gt F.1 F.2.1 46 d_HoldQueue_Holds_hasOpen_7 (by decide)) ?_
  refine And.intro (gz_o_aload_n F.1 F.2.1 0 d_HoldQueue_Holds_hasOpen_10 rfl) ?_
  refine And.intro (gz_o_getR (xg__HoldQueue_Holds_15 F d_HoldQueue_Holds_hasOpen_11)) ?_
  refine And.intro (gz_o_iload_n F.1 F.2.1 3 d_HoldQueue_Holds_hasOpen_14 rfl) ?_
  refine And.intro (gz_o_ild (x_ild F d_HoldQueue_Holds_hasOpen_15)) ?_
  refine And.intro (gz_o_iload_n F.1 F.2.1 1 d_HoldQueue_Holds_hasOpen_16 rfl) ?_
  refine And.intro (gz_o_ic_ne F.1 F.2.1 40 d_HoldQueue_Holds_hasOpen_17 (by decide)) ?_
  refine And.intro (gz_o_aload_n F.1 F.2.1 0 d_HoldQueue_Holds_hasOpen_20 rfl) ?_
  refine And.intro (gz_o_getR (xg__HoldQueue_Holds_19 F d_HoldQueue_Holds_hasOpen_21)) ?_
  refine And.intro (gz_o_iload_n F.1 F.2.1 3 d_HoldQueue_Holds_hasOpen_24 rfl) ?_
  refine And.intro (gz_o_ild (x_ild F d_HoldQueue_Holds_hasOpen_25)) ?_
  refine And.intro (gz_o_iload_n F.1 F.2.1 2 d_HoldQueue_Holds_hasOpen_26 rfl) ?_
  refine And.intro (gz_o_ic_ne F.1 F.2.1 40 d_HoldQueue_Holds_hasOpen_27 (by decide)) ?_
  refine And.intro (gz_o_aload_n F.1 F.2.1 0 d_HoldQueue_Holds_hasOpen_30 rfl) ?_
  refine And.intro (gz_o_iload_n F.1 F.2.1 3 d_HoldQueue_Holds_hasOpen_31 rfl) ?_
  refine And.intro (gz_o_c1P (fun u x hp => gz_cbI (x_has a kc) (fun _ h => Or.inr h) (gz_runV (bs := [gz_i x]) F.2.2.2.2.2.2.2 ⟨F.1, F.2.1, F.2.2.2.1, F.2.2.2.2.1, gz_hts F⟩ (xh_isOpen_c l D a kc u x hp) (cwV 1 (gz_hts F) (gz_gV lw_good wi_153 wi_155 xh_isOpen_sl wi_3 xh_isOpen_k) rfl rfl rfl (by decide +kernel) ⟨Nat.le_of_ble_eq_true rfl, Nat.le_of_ble_eq_true rfl⟩) rfl 2 rfl rfl d_HoldQueue_Holds_hasOpen_32 ⟨Nat.le_of_ble_eq_true rfl, Nat.le_of_ble_eq_true rfl⟩))) ?_
  refine And.intro (gz_o_if_eq F.1 F.2.1 40 d_HoldQueue_Holds_hasOpen_35 (by decide)) ?_
  refine And.intro (gz_o_iconst F.1 F.2.1 1 d_HoldQueue_Holds_hasOpen_38 (by decide)) ?_
  refine And.intro (gz_o_zret (gz_e_z (post := Kr) F d_HoldQueue_Holds_hasOpen_39)) ?_
  refine And.intro (gz_o_iinc F.1 F.2.1 3 1 d_HoldQueue_Holds_hasOpen_40 (by decide) (by decide)) ?_
  refine And.intro (gz_o_goto F.1 F.2.1 2 d_HoldQueue_Holds_hasOpen_43 (by decide)) ?_
  refine And.intro (gz_o_iconst F.1 F.2.1 0 d_HoldQueue_Holds_hasOpen_46 (by decide)) ?_
  refine And.intro (gz_o_zret (gz_e_z (post := Kr) F d_HoldQueue_Holds_hasOpen_47)) ?_
  exact trivial
set_option maxRecDepth 100000 in
set_option maxHeartbeats 4000000 in
theorem xh_hasOpen_c (l : Launch) (D : va_G) (a : Nat → Nat) (kc : Nat → ClassId) (u : q_S) (v1 : Int32) (v2 : Int32) (hp : xh_hasOpen_p u v1 v2) : gz_MI l y_HoldQueue_Holds_hasOpen xh_hasOpen_w xh_hasOpen_R D q_cl (x_tys kc) (x_wf a kc) (x_as a) a [gz_r 2, gz_i v1, gz_i v2] u (xh_hasOpen u v1 v2) u := gz_metI (by decide) rfl (x_has a kc) (Nat.le_of_ble_eq_true rfl) rfl (xh_hasOpen_d u v1 v2 hp ⟨rfl, rfl⟩) (fun p e s m below meth c F => xh_hasOpen_o (Kr := fun r z => r = some (xh_hasOpen u v1 v2) ∧ z = u) D a kc F)
-- HoldQueue$Holds.areFull()Z
def xh_areFull_w : List Cond := Cond.code y_HoldQueue_Holds_areFull c_HoldQueue_Holds_areFull 1 (some .boolean) :: lw_gd
theorem xh_areFull_k : Cond.code y_HoldQueue_Holds_areFull c_HoldQueue_Holds_areFull 1 (some .boolean) ∈ lw_gd := wi_168
theorem xh_areFull_sl : Cond.selects R_HoldQueue_Holds y_HoldQueue_Holds_areFull y_HoldQueue_Holds_areFull ∈ lw_gd := by decide +kernel
abbrev xh_areFull_R : Room := { frames := 0, cells := 0, slots := 0, locals := 0 }
set_option maxRecDepth 100000 in
set_option maxHeartbeats 4000000 in
theorem xh_areFull_o (D : va_G) (a : Nat → Nat) (kc : Nat → ClassId) (F : gz_F p s m args meth c c_HoldQueue_Holds_areFull 1 (some .boolean) xh_areFull_w R_HoldQueue_Holds) : gz_oks (gz_Z p l e xh_areFull_R s m args below meth c 0 0 (MQ below (va_Qi (fun r z => Kr (some r) z) (gz_B D q_cl (x_tys kc) (x_wf a kc) (gz_A (x_as a) s.heap.size)) (gz_A (x_as a) s.heap.size)) args s 0 0 (gz_A (x_as a) s.heap.size)) 1 a (gz_GG D q_cl (x_tys kc) (gz_A (x_as a) s.heap.size) s (x_wf a kc))) Kr xh_areFull_t := by
  refine And.intro (gz_o_aload_n F.1 F.2.1 0 d_HoldQueue_Holds_areFull_0 rfl) ?_
  refine And.intro (gz_o_getI (xg__HoldQueue_Holds_9 F d_HoldQueue_Holds_areFull_1)) ?_
  refine And.intro (gz_o_bipush F.1 F.2.1 120 d_HoldQueue_Holds_areFull_4 (by decide)) ?_
  refine And.intro (gz_o_ic_lt F.1 F.2.1 13 d_HoldQueue_Holds_areFull_6 (by decide)) ?_
  refine And.intro (gz_o_iconst F.1 F.2.1 1 d_HoldQueue_Holds_areFull_9 (by decide)) ?_
  refine And.intro (gz_o_goto F.1 F.2.1 14 d_HoldQueue_Holds_areFull_10 (by decide)) ?_
  refine And.intro (gz_o_iconst F.1 F.2.1 0 d_HoldQueue_Holds_areFull_13 (by decide)) ?_
  refine And.intro (gz_o_zret (gz_e_z (post := Kr) F d_HoldQueue_Holds_areFull_14)) ?_
  exact trivial
set_option maxRecDepth 100000 in
set_option maxHeartbeats 4000000 in
theorem xh_areFull_c (l : Launch) (D : va_G) (a : Nat → Nat) (kc : Nat → ClassId) (u : q_S) : gz_MI l y_HoldQueue_Holds_areFull xh_areFull_w xh_areFull_R D q_cl (x_tys kc) (x_wf a kc) (x_as a) a [gz_r 2] u (xh_areFull u) u := gz_metI (by decide) rfl (x_has a kc) (Nat.le_of_ble_eq_true rfl) rfl (xh_areFull_d u ⟨rfl, rfl⟩) (fun p e s m below meth c F => xh_areFull_o (Kr := fun r z => r = some (xh_areFull u) ∧ z = u) D a kc F)
-- HoldQueue$Holds.countOpen(I)I
def xh_countOpen_w : List Cond := Cond.code y_HoldQueue_Holds_countOpen c_HoldQueue_Holds_countOpen 4 (some .int) :: lw_gd
theorem xh_countOpen_k : Cond.code y_HoldQueue_Holds_countOpen c_HoldQueue_Holds_countOpen 4 (some .int) ∈ lw_gd := wi_172
theorem xh_countOpen_sl : Cond.selects R_HoldQueue_Holds y_HoldQueue_Holds_countOpen y_HoldQueue_Holds_countOpen ∈ lw_gd := by decide +kernel
abbrev xh_countOpen_R : Room := { frames := 3, cells := 0, slots := 0, locals := 120 }
set_option maxRecDepth 100000 in
set_option maxHeartbeats 4000000 in
theorem xh_countOpen_o (D : va_G) (a : Nat → Nat) (kc : Nat → ClassId) (F : gz_F p s m args meth c c_HoldQueue_Holds_countOpen 4 (some .int) xh_countOpen_w R_HoldQueue_Holds) : gz_oks (gz_Z p l e xh_countOpen_R s m args below meth c 0 0 (MQ below (va_Qi (fun r z => Kr (some r) z) (gz_B D q_cl (x_tys kc) (x_wf a kc) (gz_A (x_as a) s.heap.size)) (gz_A (x_as a) s.heap.size)) args s 0 0 (gz_A (x_as a) s.heap.size)) 4 a (gz_GG D q_cl (x_tys kc) (gz_A (x_as a) s.heap.size) s (x_wf a kc))) Kr xh_countOpen_t := by
  refine And.intro (gz_o_iconst F.1 F.2.1 0 d_HoldQueue_Holds_countOpen_0 (by decide)) ?_
  refine And.intro (gz_o_istore_n F.1 F.2.1 2 d_HoldQueue_Holds_countOpen_1 rfl (by decide)) ?_
  refine And.intro (gz_o_iconst F.1 F.2.1 1 d_HoldQueue_Holds_countOpen_2 (by decide)) ?_
  refine And.intro (gz_o_istore_n F.1 F.2.1 3 d_HoldQueue_Holds_countOpen_3 rfl (by decide)) ?_
  refine And.intro (gz_o_iload_n F.1 F.2.1 3 d_HoldQueue_Holds_countOpen_4 rfl) ?_
  refine And.intro (gz_o_aload_n F.1 F.2.1 0 d_HoldQueue_Holds_countOpen_5 rfl) ?_
  refine And.intro (gz_o_getI (xg__HoldQueue_Holds_9 F d_HoldQueue_Holds_countOpen_6)) ?_
  refine And.intro (gz_o_ic_gt F.1 F.2.1 39 d_HoldQueue_Holds_countOpen_9 (by decide)) ?_
  refine And.intro (gz_o_aload_n F.1 F.2.1 0 d_HoldQueue_Holds_countOpen_12 rfl) ?_
  refine And.intro (gz_o_getR (xg__HoldQueue_Holds_15 F d_HoldQueue_Holds_countOpen_13)) ?_
  refine And.intro (gz_o_iload_n F.1 F.2.1 3 d_HoldQueue_Holds_countOpen_16 rfl) ?_
  refine And.intro (gz_o_ild (x_ild F d_HoldQueue_Holds_countOpen_17)) ?_
  refine And.intro (gz_o_iload_n F.1 F.2.1 1 d_HoldQueue_Holds_countOpen_18 rfl) ?_
  refine And.intro (gz_o_ic_ne F.1 F.2.1 33 d_HoldQueue_Holds_countOpen_19 (by decide)) ?_
  refine And.intro (gz_o_aload_n F.1 F.2.1 0 d_HoldQueue_Holds_countOpen_22 rfl) ?_
  refine And.intro (gz_o_iload_n F.1 F.2.1 3 d_HoldQueue_Holds_countOpen_23 rfl) ?_
  refine And.intro (gz_o_c1P (fun u x hp => gz_cbI (x_has a kc) (fun _ h => Or.inr h) (gz_runV (bs := [gz_i x]) F.2.2.2.2.2.2.2 ⟨F.1, F.2.1, F.2.2.2.1, F.2.2.2.2.1, gz_hts F⟩ (xh_isOpen_c l D a kc u x hp) (cwV 1 (gz_hts F) (gz_gV lw_good wi_153 wi_155 xh_isOpen_sl wi_3 xh_isOpen_k) rfl rfl rfl (by decide +kernel) ⟨Nat.le_of_ble_eq_true rfl, Nat.le_of_ble_eq_true rfl⟩) rfl 2 rfl rfl d_HoldQueue_Holds_countOpen_24 ⟨Nat.le_of_ble_eq_true rfl, Nat.le_of_ble_eq_true rfl⟩))) ?_
  refine And.intro (gz_o_if_eq F.1 F.2.1 33 d_HoldQueue_Holds_countOpen_27 (by decide)) ?_
  refine And.intro (gz_o_iinc F.1 F.2.1 2 1 d_HoldQueue_Holds_countOpen_30 (by decide) (by decide)) ?_
  refine And.intro (gz_o_iinc F.1 F.2.1 3 1 d_HoldQueue_Holds_countOpen_33 (by decide) (by decide)) ?_
  refine And.intro (gz_o_goto F.1 F.2.1 4 d_HoldQueue_Holds_countOpen_36 (by decide)) ?_
  refine And.intro (gz_o_iload_n F.1 F.2.1 2 d_HoldQueue_Holds_countOpen_39 rfl) ?_
  refine And.intro (gz_o_iret (gz_e_i (post := Kr) F d_HoldQueue_Holds_countOpen_40)) ?_
  exact trivial
set_option maxRecDepth 100000 in
set_option maxHeartbeats 4000000 in
theorem xh_countOpen_c (l : Launch) (D : va_G) (a : Nat → Nat) (kc : Nat → ClassId) (u : q_S) (v1 : Int32) (hp : xh_countOpen_p u v1) : gz_MI l y_HoldQueue_Holds_countOpen xh_countOpen_w xh_countOpen_R D q_cl (x_tys kc) (x_wf a kc) (x_as a) a [gz_r 2, gz_i v1] u (xh_countOpen u v1) u := gz_metI (by decide) rfl (x_has a kc) (Nat.le_of_ble_eq_true rfl) rfl (xh_countOpen_d u v1 hp ⟨rfl, rfl⟩) (fun p e s m below meth c F => xh_countOpen_o (Kr := fun r z => r = some (xh_countOpen u v1) ∧ z = u) D a kc F)
-- HoldQueue$Holds.add(IIII)I
def xh_add_w : List Cond := Cond.code y_HoldQueue_Holds_add c_HoldQueue_Holds_add 5 (some .int) :: lw_gd
theorem xh_add_k : Cond.code y_HoldQueue_Holds_add c_HoldQueue_Holds_add 5 (some .int) ∈ lw_gd := wi_176
theorem xh_add_sl : Cond.selects R_HoldQueue_Holds y_HoldQueue_Holds_add y_HoldQueue_Holds_add ∈ lw_gd := by decide +kernel
abbrev xh_add_R : Room := { frames := 0, cells := 0, slots := 0, locals := 0 }
set_option maxRecDepth 100000 in
set_option maxHeartbeats 4000000 in
theorem xh_add_o (D : va_G) (a : Nat → Nat) (kc : Nat → ClassId) (F : gz_F p s m args meth c c_HoldQueue_Holds_add 5 (some .int) xh_add_w R_HoldQueue_Holds) : gz_oks (gz_Z p l e xh_add_R s m args below meth c 0 0 (MQ below (va_Qi (fun r z => Kr (some r) z) (gz_B D q_cl (x_tys kc) (x_wf a kc) (gz_A (x_as a) s.heap.size)) (gz_A (x_as a) s.heap.size)) args s 0 0 (gz_A (x_as a) s.heap.size)) 5 a (gz_GG D q_cl (x_tys kc) (gz_A (x_as a) s.heap.size) s (x_wf a kc))) Kr xh_add_t := by
  refine And.intro (gz_o_aload_n F.1 F.2.1 0 d_HoldQueue_Holds_add_0 rfl) ?_
  refine And.intro (gz_o_dup F.1 F.2.1 d_HoldQueue_Holds_add_1) ?_
  refine And.intro (gz_o_getI (xg__HoldQueue_Holds_9 F d_HoldQueue_Holds_add_2)) ?_
  refine And.intro (gz_o_iconst F.1 F.2.1 1 d_HoldQueue_Holds_add_5 (by decide)) ?_
  refine And.intro (gz_o_iadd F.1 F.2.1 d_HoldQueue_Holds_add_6) ?_
  refine And.intro (gz_o_putI (xp__HoldQueue_Holds_9 F d_HoldQueue_Holds_add_7)) ?_
  refine And.intro (gz_o_aload_n F.1 F.2.1 0 d_HoldQueue_Holds_add_10 rfl) ?_
  refine And.intro (gz_o_getR (xg__HoldQueue_Holds_15 F d_HoldQueue_Holds_add_11)) ?_
  refine And.intro (gz_o_aload_n F.1 F.2.1 0 d_HoldQueue_Holds_add_14 rfl) ?_
  refine And.intro (gz_o_getI (xg__HoldQueue_Holds_9 F d_HoldQueue_Holds_add_15)) ?_
  refine And.intro (gz_o_iload_n F.1 F.2.1 1 d_HoldQueue_Holds_add_18 rfl) ?_
  refine And.intro (gz_o_ist (x_ist F d_HoldQueue_Holds_add_19)) ?_
  refine And.intro (gz_o_aload_n F.1 F.2.1 0 d_HoldQueue_Holds_add_20 rfl) ?_
  refine And.intro (gz_o_getR (xg__HoldQueue_Holds_19 F d_HoldQueue_Holds_add_21)) ?_
  refine And.intro (gz_o_aload_n F.1 F.2.1 0 d_HoldQueue_Holds_add_24 rfl) ?_
  refine And.intro (gz_o_getI (xg__HoldQueue_Holds_9 F d_HoldQueue_Holds_add_25)) ?_
  refine And.intro (gz_o_iload_n F.1 F.2.1 2 d_HoldQueue_Holds_add_28 rfl) ?_
  refine And.intro (gz_o_ist (x_ist F d_HoldQueue_Holds_add_29)) ?_
  refine And.intro (gz_o_aload_n F.1 F.2.1 0 d_HoldQueue_Holds_add_30 rfl) ?_
  refine And.intro (gz_o_getR (xg__HoldQueue_Holds_22 F d_HoldQueue_Holds_add_31)) ?_
  refine And.intro (gz_o_aload_n F.1 F.2.1 0 d_HoldQueue_Holds_add_34 rfl) ?_
  refine And.intro (gz_o_getI (xg__HoldQueue_Holds_9 F d_HoldQueue_Holds_add_35)) ?_
  refine And.intro (gz_o_iload_n F.1 F.2.1 3 d_HoldQueue_Holds_add_38 rfl) ?_
  refine And.intro (gz_o_ist (x_ist F d_HoldQueue_Holds_add_39)) ?_
  refine And.intro (gz_o_aload_n F.1 F.2.1 0 d_HoldQueue_Holds_add_40 rfl) ?_
  refine And.intro (gz_o_getR (xg__HoldQueue_Holds_25 F d_HoldQueue_Holds_add_41)) ?_
  refine And.intro (gz_o_aload_n F.1 F.2.1 0 d_HoldQueue_Holds_add_44 rfl) ?_
  refine And.intro (gz_o_getI (xg__HoldQueue_Holds_9 F d_HoldQueue_Holds_add_45)) ?_
  refine And.intro (gz_o_iload F.1 F.2.1 4 d_HoldQueue_Holds_add_48) ?_
  refine And.intro (gz_o_ist (x_ist F d_HoldQueue_Holds_add_50)) ?_
  refine And.intro (gz_o_aload_n F.1 F.2.1 0 d_HoldQueue_Holds_add_51 rfl) ?_
  refine And.intro (gz_o_getR (xg__HoldQueue_Holds_28 F d_HoldQueue_Holds_add_52)) ?_
  refine And.intro (gz_o_aload_n F.1 F.2.1 0 d_HoldQueue_Holds_add_55 rfl) ?_
  refine And.intro (gz_o_getI (xg__HoldQueue_Holds_9 F d_HoldQueue_Holds_add_56)) ?_
  refine And.intro (gz_o_iconst F.1 F.2.1 0 d_HoldQueue_Holds_add_59 (by decide)) ?_
  refine And.intro (gz_o_ist (x_ist F d_HoldQueue_Holds_add_60)) ?_
  refine And.intro (gz_o_aload_n F.1 F.2.1 0 d_HoldQueue_Holds_add_61 rfl) ?_
  refine And.intro (gz_o_getI (xg__HoldQueue_Holds_9 F d_HoldQueue_Holds_add_62)) ?_
  refine And.intro (gz_o_iret (gz_e_i (post := Kr) F d_HoldQueue_Holds_add_65)) ?_
  exact trivial
set_option maxRecDepth 100000 in
set_option maxHeartbeats 4000000 in
theorem xh_add_c (l : Launch) (D : va_G) (a : Nat → Nat) (kc : Nat → ClassId) (u : q_S) (v1 : Int32) (v2 : Int32) (v3 : Int32) (v4 : Int32) (hp : xh_add_p u v1 v2 v3 v4) : gz_MI l y_HoldQueue_Holds_add xh_add_w xh_add_R D q_cl (x_tys kc) (x_wf a kc) (x_as a) a [gz_r 2, gz_i v1, gz_i v2, gz_i v3, gz_i v4] u (xh_add_r u v1 v2 v3 v4) (xh_add_s u v1 v2 v3 v4) := gz_metI (by decide) rfl (x_has a kc) (Nat.le_of_ble_eq_true rfl) rfl (xh_add_d u v1 v2 v3 v4 hp ⟨rfl, rfl⟩) (fun p e s m below meth c F => xh_add_o (Kr := fun r z => r = some (xh_add_r u v1 v2 v3 v4) ∧ z = (xh_add_s u v1 v2 v3 v4)) D a kc F)
-- HoldQueue$Copies.leastFree(I)I
def xc_leastFree_w : List Cond := Cond.code y_HoldQueue_Copies_leastFree c_HoldQueue_Copies_leastFree 3 (some .int) :: lw_gd
theorem xc_leastFree_k : Cond.code y_HoldQueue_Copies_leastFree c_HoldQueue_Copies_leastFree 3 (some .int) ∈ lw_gd := wi_180
theorem xc_leastFree_sl : Cond.selects R_HoldQueue_Copies y_HoldQueue_Copies_leastFree y_HoldQueue_Copies_leastFree ∈ lw_gd := by decide +kernel
abbrev xc_leastFree_R : Room := { frames := 0, cells := 0, slots := 0, locals := 0 }
set_option maxRecDepth 100000 in
set_option maxHeartbeats 4000000 in
theorem xc_leastFree_o (D : va_G) (a : Nat → Nat) (kc : Nat → ClassId) (F : gz_F p s m args meth c c_HoldQueue_Copies_leastFree 3 (some .int) xc_leastFree_w R_HoldQueue_Copies) : gz_oks (gz_Z p l e xc_leastFree_R s m args below meth c 0 0 (MQ below (va_Qi (fun r z => Kr (some r) z) (gz_B D q_cl (x_tys kc) (x_wf a kc) (gz_A (x_as a) s.heap.size)) (gz_A (x_as a) s.heap.size)) args s 0 0 (gz_A (x_as a) s.heap.size)) 3 a (gz_GG D q_cl (x_tys kc) (gz_A (x_as a) s.heap.size) s (x_wf a kc))) Kr xc_leastFree_t := by
  refine And.intro (gz_o_iconst F.1 F.2.1 1 d_HoldQueue_Copies_leastFree_0 (by decide)) ?_
  refine And.intro (gz_o_istore_n F.1 F.2.1 2 d_HoldQueue_Copies_leastFree_1 rfl (by decide)) ?_
  refine And.intro (gz_o_iload_n F.1 F.2.1 2 d_HoldQueue_Copies_leastFree_2 rfl) ?_
  refine And.intro (gz_o_aload_n F.1 F.2.1 0 d_HoldQueue_Copies_leastFree_3 rfl) ?_
  refine And.intro (gz_o_getI (xg__HoldQueue_Copies_9 F d_HoldQueue_Copies_leastFree_4)) ?_
  refine And.intro (gz_o_ic_gt F.1 F.2.1 37 d_HoldQueue_Copies_leastFree_7 (by decide)) ?_
  refine And.intro (gz_o_aload_n F.1 F.2.1 0 d_HoldQueue_Copies_leastFree_10 rfl) ?_
  refine And.intro (gz_o_getR (xg__HoldQueue_Copies_15 F d_HoldQueue_Copies_leastFree_11)) ?_
  refine And.intro (gz_o_iload_n F.1 F.2.1 2 d_HoldQueue_Copies_leastFree_14 rfl) ?_
  refine And.intro (gz_o_ild (x_ild F d_HoldQueue_Copies_leastFree_15)) ?_
  refine And.intro (gz_o_iload_n F.1 F.2.1 1 d_HoldQueue_Copies_leastFree_16 rfl) ?_
  refine And.intro (gz_o_ic_ne F.1 F.2.1 31 d_HoldQueue_Copies_leastFree_17 (by decide)) ?_
  refine And.intro (gz_o_aload_n F.1 F.2.1 0 d_HoldQueue_Copies_leastFree_20 rfl) ?_
  refine And.intro (gz_o_getR (xg__HoldQueue_Copies_22 F d_HoldQueue_Copies_leastFree_21)) ?_
  refine And.intro (gz_o_iload_n F.1 F.2.1 2 d_HoldQueue_Copies_leastFree_24 rfl) ?_
  refine And.intro (gz_o_ild (x_ild F d_HoldQueue_Copies_leastFree_25)) ?_
  refine And.intro (gz_o_if_ne F.1 F.2.1 31 d_HoldQueue_Copies_leastFree_26 (by decide)) ?_
  refine And.intro (gz_o_iload_n F.1 F.2.1 2 d_HoldQueue_Copies_leastFree_29 rfl) ?_
  refine And.intro (gz_o_iret (gz_e_i (post := Kr) F d_HoldQueue_Copies_leastFree_30)) ?_
  refine And.intro (gz_o_iinc F.1 F.2.1 2 1 d_HoldQueue_Copies_leastFree_31 (by decide) (by decide)) ?_
  refine And.intro (gz_o_goto F.1 F.2.1 2 d_HoldQueue_Copies_leastFree_34 (by decide)) ?_
  refine And.intro (gz_o_iconst F.1 F.2.1 0 d_HoldQueue_Copies_leastFree_37 (by decide)) ?_
  refine And.intro (gz_o_iret (gz_e_i (post := Kr) F d_HoldQueue_Copies_leastFree_38)) ?_
  exact trivial
set_option maxRecDepth 100000 in
set_option maxHeartbeats 4000000 in
theorem xc_leastFree_c (l : Launch) (D : va_G) (a : Nat → Nat) (kc : Nat → ClassId) (u : q_S) (v1 : Int32) (hp : xc_leastFree_p u v1) : gz_MI l y_HoldQueue_Copies_leastFree xc_leastFree_w xc_leastFree_R D q_cl (x_tys kc) (x_wf a kc) (x_as a) a [gz_r 1, gz_i v1] u (xc_leastFree u v1) u := gz_metI (by decide) rfl (x_has a kc) (Nat.le_of_ble_eq_true rfl) rfl (xc_leastFree_d u v1 hp ⟨rfl, rfl⟩) (fun p e s m below meth c F => xc_leastFree_o (Kr := fun r z => r = some (xc_leastFree u v1) ∧ z = u) D a kc F)
-- HoldQueue$Holds.isQueued(II)Z
def xh_isQueued_w : List Cond := Cond.code y_HoldQueue_Holds_isQueued c_HoldQueue_Holds_isQueued 3 (some .boolean) :: lw_gd
theorem xh_isQueued_k : Cond.code y_HoldQueue_Holds_isQueued c_HoldQueue_Holds_isQueued 3 (some .boolean) ∈ lw_gd := wi_192
theorem xh_isQueued_sl : Cond.selects R_HoldQueue_Holds y_HoldQueue_Holds_isQueued y_HoldQueue_Holds_isQueued ∈ lw_gd := by decide +kernel
abbrev xh_isQueued_R : Room := { frames := 0, cells := 0, slots := 0, locals := 0 }
set_option maxRecDepth 100000 in
set_option maxHeartbeats 4000000 in
theorem xh_isQueued_o (D : va_G) (a : Nat → Nat) (kc : Nat → ClassId) (F : gz_F p s m args meth c c_HoldQueue_Holds_isQueued 3 (some .boolean) xh_isQueued_w R_HoldQueue_Holds) : gz_oks (gz_Z p l e xh_isQueued_R s m args below meth c 0 0 (MQ below (va_Qi (fun r z => Kr (some r) z) (gz_B D q_cl (x_tys kc) (x_wf a kc) (gz_A (x_as a) s.heap.size)) (gz_A (x_as a) s.heap.size)) args s 0 0 (gz_A (x_as a) s.heap.size)) 3 a (gz_GG D q_cl (x_tys kc) (gz_A (x_as a) s.heap.size) s (x_wf a kc))) Kr xh_isQueued_t := by
  refine And.intro (gz_o_aload_n F.1 F.2.1 0 d_HoldQueue_Holds_isQueued_0 rfl) ?_
  refine And.intro (gz_o_getR (xg__HoldQueue_Holds_19 F d_HoldQueue_Holds_isQueued_1)) ?_
  refine And.intro (gz_o_iload_n F.1 F.2.1 1 d_HoldQueue_Holds_isQueued_4 rfl) ?_
  refine And.intro (gz_o_ild (x_ild F d_HoldQueue_Holds_isQueued_5)) ?_
  refine And.intro (gz_o_iload_n F.1 F.2.1 2 d_HoldQueue_Holds_isQueued_6 rfl) ?_
  refine And.intro (gz_o_ic_ne F.1 F.2.1 23 d_HoldQueue_Holds_isQueued_7 (by decide)) ?_
  refine And.intro (gz_o_aload_n F.1 F.2.1 0 d_HoldQueue_Holds_isQueued_10 rfl) ?_
  refine And.intro (gz_o_getR (xg__HoldQueue_Holds_28 F d_HoldQueue_Holds_isQueued_11)) ?_
  refine And.intro (gz_o_iload_n F.1 F.2.1 1 d_HoldQueue_Holds_isQueued_14 rfl) ?_
  refine And.intro (gz_o_ild (x_ild F d_HoldQueue_Holds_isQueued_15)) ?_
  refine And.intro (gz_o_if_ne F.1 F.2.1 23 d_HoldQueue_Holds_isQueued_16 (by decide)) ?_
  refine And.intro (gz_o_iconst F.1 F.2.1 1 d_HoldQueue_Holds_isQueued_19 (by decide)) ?_
  refine And.intro (gz_o_goto F.1 F.2.1 24 d_HoldQueue_Holds_isQueued_20 (by decide)) ?_
  refine And.intro (gz_o_iconst F.1 F.2.1 0 d_HoldQueue_Holds_isQueued_23 (by decide)) ?_
  refine And.intro (gz_o_zret (gz_e_z (post := Kr) F d_HoldQueue_Holds_isQueued_24)) ?_
  exact trivial
set_option maxRecDepth 100000 in
set_option maxHeartbeats 4000000 in
theorem xh_isQueued_c (l : Launch) (D : va_G) (a : Nat → Nat) (kc : Nat → ClassId) (u : q_S) (v1 : Int32) (v2 : Int32) (hp : xh_isQueued_p u v1 v2) : gz_MI l y_HoldQueue_Holds_isQueued xh_isQueued_w xh_isQueued_R D q_cl (x_tys kc) (x_wf a kc) (x_as a) a [gz_r 2, gz_i v1, gz_i v2] u (xh_isQueued u v1 v2) u := gz_metI (by decide) rfl (x_has a kc) (Nat.le_of_ble_eq_true rfl) rfl (xh_isQueued_d u v1 v2 hp ⟨rfl, rfl⟩) (fun p e s m below meth c F => xh_isQueued_o (Kr := fun r z => r = some (xh_isQueued u v1 v2) ∧ z = u) D a kc F)
-- HoldQueue$Holds.comesBefore(II)Z
def xh_comesBefore_w : List Cond := Cond.code y_HoldQueue_Holds_comesBefore c_HoldQueue_Holds_comesBefore 3 (some .boolean) :: lw_gd
theorem xh_comesBefore_k : Cond.code y_HoldQueue_Holds_comesBefore c_HoldQueue_Holds_comesBefore 3 (some .boolean) ∈ lw_gd := wi_196
theorem xh_comesBefore_sl : Cond.selects R_HoldQueue_Holds y_HoldQueue_Holds_comesBefore y_HoldQueue_Holds_comesBefore ∈ lw_gd := by decide +kernel
abbrev xh_comesBefore_R : Room := { frames := 0, cells := 0, slots := 0, locals := 0 }
set_option maxRecDepth 100000 in
set_option maxHeartbeats 4000000 in
theorem xh_comesBefore_o (D : va_G) (a : Nat → Nat) (kc : Nat → ClassId) (F : gz_F p s m args meth c c_HoldQueue_Holds_comesBefore 3 (some .boolean) xh_comesBefore_w R_HoldQueue_Holds) : gz_oks (gz_Z p l e xh_comesBefore_R s m args below meth c 0 0 (MQ below (va_Qi (fun r z => Kr (some r) z) (gz_B D q_cl (x_tys kc) (x_wf a kc) (gz_A (x_as a) s.heap.size)) (gz_A (x_as a) s.heap.size)) args s 0 0 (gz_A (x_as a) s.heap.size)) 3 a (gz_GG D q_cl (x_tys kc) (gz_A (x_as a) s.heap.size) s (x_wf a kc))) Kr xh_comesBefore_t := by
  refine And.intro (gz_o_aload_n F.1 F.2.1 0 d_HoldQueue_Holds_comesBefore_0 rfl) ?_
  refine And.intro (gz_o_getR (xg__HoldQueue_Holds_25 F d_HoldQueue_Holds_comesBefore_1)) ?_
  refine And.intro (gz_o_iload_n F.1 F.2.1 1 d_HoldQueue_Holds_comesBefore_4 rfl) ?_
  refine And.intro (gz_o_ild (x_ild F d_HoldQueue_Holds_comesBefore_5)) ?_
  refine And.intro (gz_o_aload_n F.1 F.2.1 0 d_HoldQueue_Holds_comesBefore_6 rfl) ?_
  refine And.intro (gz_o_getR (xg__HoldQueue_Holds_25 F d_HoldQueue_Holds_comesBefore_7)) ?_
  refine And.intro (gz_o_iload_n F.1 F.2.1 2 d_HoldQueue_Holds_comesBefore_10 rfl) ?_
  refine And.intro (gz_o_ild (x_ild F d_HoldQueue_Holds_comesBefore_11)) ?_
  refine And.intro (gz_o_ic_lt F.1 F.2.1 35 d_HoldQueue_Holds_comesBefore_12 (by decide)) ?_
  refine And.intro (gz_o_aload_n F.1 F.2.1 0 d_HoldQueue_Holds_comesBefore_15 rfl) ?_
  refine And.intro (gz_o_getR (xg__HoldQueue_Holds_25 F d_HoldQueue_Holds_comesBefore_16)) ?_
  refine And.intro (gz_o_iload_n F.1 F.2.1 1 d_HoldQueue_Holds_comesBefore_19 rfl) ?_
  refine And.intro (gz_o_ild (x_ild F d_HoldQueue_Holds_comesBefore_20)) ?_
  refine And.intro (gz_o_aload_n F.1 F.2.1 0 d_HoldQueue_Holds_comesBefore_21 rfl) ?_
  refine And.intro (gz_o_getR (xg__HoldQueue_Holds_25 F d_HoldQueue_Holds_comesBefore_22)) ?_
  refine And.intro (gz_o_iload_n F.1 F.2.1 2 d_HoldQueue_Holds_comesBefore_25 rfl) ?_
  refine And.intro (gz_o_ild (x_ild F d_HoldQueue_Holds_comesBefore_26)) ?_
  refine And.intro (gz_o_ic_ne F.1 F.2.1 39 d_HoldQueue_Holds_comesBefore_27 (by decide)) ?_
  refine And.intro (gz_o_iload_n F.1 F.2.1 1 d_HoldQueue_Holds_comesBefore_30 rfl) ?_
  refine And.intro (gz_o_iload_n F.1 F.2.1 2 d_HoldQueue_Holds_comesBefore_31 rfl) ?_
  refine And.intro (gz_o_ic_ge F.1 F.2.1 39 d_HoldQueue_Holds_comesBefore_32 (by decide)) ?_
  refine And.intro (gz_o_iconst F.1 F.2.1 1 d_HoldQueue_Holds_comesBefore_35 (by decide)) ?_
  refine And.intro (gz_o_goto F.1 F.2.1 40 d_HoldQueue_Holds_comesBefore_36 (by decide)) ?_
  refine And.intro (gz_o_iconst F.1 F.2.1 0 d_HoldQueue_Holds_comesBefore_39 (by decide)) ?_
  refine And.intro (gz_o_zret (gz_e_z (post := Kr) F d_HoldQueue_Holds_comesBefore_40)) ?_
  exact trivial
set_option maxRecDepth 100000 in
set_option maxHeartbeats 4000000 in
theorem xh_comesBefore_c (l : Launch) (D : va_G) (a : Nat → Nat) (kc : Nat → ClassId) (u : q_S) (v1 : Int32) (v2 : Int32) (hp : xh_comesBefore_p u v1 v2) : gz_MI l y_HoldQueue_Holds_comesBefore xh_comesBefore_w xh_comesBefore_R D q_cl (x_tys kc) (x_wf a kc) (x_as a) a [gz_r 2, gz_i v1, gz_i v2] u (xh_comesBefore u v1 v2) u := gz_metI (by decide) rfl (x_has a kc) (Nat.le_of_ble_eq_true rfl) rfl (xh_comesBefore_d u v1 v2 hp ⟨rfl, rfl⟩) (fun p e s m below meth c F => xh_comesBefore_o (Kr := fun r z => r = some (xh_comesBefore u v1 v2) ∧ z = u) D a kc F)
-- HoldQueue$Holds.firstFitting(IJ)I
def xh_firstFitting_w : List Cond := Cond.code y_HoldQueue_Holds_firstFitting c_HoldQueue_Holds_firstFitting 6 (some .int) :: lw_gd
theorem xh_firstFitting_k : Cond.code y_HoldQueue_Holds_firstFitting c_HoldQueue_Holds_firstFitting 6 (some .int) ∈ lw_gd := wi_188
theorem xh_firstFitting_sl : Cond.selects R_HoldQueue_Holds y_HoldQueue_Holds_firstFitting y_HoldQueue_Holds_firstFitting ∈ lw_gd := by decide +kernel
abbrev xh_firstFitting_R : Room := { frames := 1, cells := 0, slots := 0, locals := 40 }
set_option maxRecDepth 100000 in
set_option maxHeartbeats 4000000 in
theorem xh_firstFitting_o (D : va_G) (a : Nat → Nat) (kc : Nat → ClassId) (F : gz_F p s m args meth c c_HoldQueue_Holds_firstFitting 6 (some .int) xh_firstFitting_w R_HoldQueue_Holds) : gz_oks (gz_Z p l e xh_firstFitting_R s m args below meth c 0 0 (MQ below (va_Qi (fun r z => Kr (some r) z) (gz_B D q_cl (x_tys kc) (x_wf a kc) (gz_A (x_as a) s.heap.size)) (gz_A (x_as a) s.heap.size)) args s 0 0 (gz_A (x_as a) s.heap.size)) 6 a (gz_GG D q_cl (x_tys kc) (gz_A (x_as a) s.heap.size) s (x_wf a kc))) Kr xh_firstFitting_t := by
  refine And.intro (gz_o_iconst F.1 F.2.1 0 d_HoldQueue_Holds_firstFitting_0 (by decide)) ?_
  refine And.intro (gz_o_istore F.1 F.2.1 4 d_HoldQueue_Holds_firstFitting_1 (by decide)) ?_
  refine And.intro (gz_o_iconst F.1 F.2.1 1 d_HoldQueue_Holds_firstFitting_3 (by decide)) ?_
  refine And.intro (gz_o_istore F.1 F.2.1 5 d_HoldQueue_Holds_firstFitting_4 (by decide)) ?_
  refine And.intro (gz_o_iload F.1 F.2.1 5 d_HoldQueue_Holds_firstFitting_6) ?_
  refine And.intro (gz_o_aload_n F.1 F.2.1 0 d_HoldQueue_Holds_firstFitting_8 rfl) ?_
  refine And.intro (gz_o_getI (xg__HoldQueue_Holds_9 F d_HoldQueue_Holds_firstFitting_9)) ?_
  refine And.intro (gz_o_ic_gt F.1 F.2.1 63 d_HoldQueue_Holds_firstFitting_12 (by decide)) ?_
  refine And.intro (gz_o_aload_n F.1 F.2.1 0 d_HoldQueue_Holds_firstFitting_15 rfl) ?_
  refine And.intro (gz_o_iload F.1 F.2.1 5 d_HoldQueue_Holds_firstFitting_16) ?_
  refine And.intro (gz_o_iload_n F.1 F.2.1 1 d_HoldQueue_Holds_firstFitting_18 rfl) ?_
  refine And.intro (gz_o_c2P (fun u x y hp => gz_cbI (x_has a kc) (fun _ h => Or.inr h) (gz_runV (bs := [gz_i x, gz_i y]) F.2.2.2.2.2.2.2 ⟨F.1, F.2.1, F.2.2.2.1, F.2.2.2.2.1, gz_hts F⟩ (xh_isQueued_c l D a kc u x y hp) (cwV 2 (gz_hts F) (gz_gV lw_good wi_189 wi_191 xh_isQueued_sl wi_3 xh_isQueued_k) rfl rfl rfl (by decide +kernel) ⟨Nat.le_of_ble_eq_true rfl, Nat.le_of_ble_eq_true rfl⟩) rfl 2 rfl rfl d_HoldQueue_Holds_firstFitting_19 ⟨Nat.le_of_ble_eq_true rfl, Nat.le_of_ble_eq_true rfl⟩))) ?_
  refine And.intro (gz_o_if_eq F.1 F.2.1 57 d_HoldQueue_Holds_firstFitting_22 (by decide)) ?_
  refine And.intro (gz_o_aload_n F.1 F.2.1 0 d_HoldQueue_Holds_firstFitting_25 rfl) ?_
  refine And.intro (gz_o_getR (xg__HoldQueue_Holds_34 F d_HoldQueue_Holds_firstFitting_26)) ?_
  refine And.intro (gz_o_iload F.1 F.2.1 5 d_HoldQueue_Holds_firstFitting_29) ?_
  refine And.intro (gz_o_lld (x_lld F d_HoldQueue_Holds_firstFitting_31)) ?_
  refine And.intro (gz_o_lload_n F.1 F.2.1 2 d_HoldQueue_Holds_firstFitting_32 rfl) ?_
  refine And.intro (gz_o_lcmp F.1 F.2.1 d_HoldQueue_Holds_firstFitting_33) ?_
  refine And.intro (gz_o_if_gt F.1 F.2.1 57 d_HoldQueue_Holds_firstFitting_34 (by decide)) ?_
  refine And.intro (gz_o_iload F.1 F.2.1 4 d_HoldQueue_Holds_firstFitting_37) ?_
  refine And.intro (gz_o_if_eq F.1 F.2.1 53 d_HoldQueue_Holds_firstFitting_39 (by decide)) ?_
  refine And.intro (gz_o_aload_n F.1 F.2.1 0 d_HoldQueue_Holds_firstFitting_42 rfl) ?_
  refine And.intro (gz_o_iload F.1 F.2.1 5 d_HoldQueue_Holds_firstFitting_43) ?_
  refine And.intro (gz_o_iload F.1 F.2.1 4 d_HoldQueue_Holds_firstFitting_45) ?_
  refine And.intro (gz_o_c2P (fun u x y hp => gz_cbI (x_has a kc) (fun _ h => Or.inr h) (gz_runV (bs := [gz_i x, gz_i y]) F.2.2.2.2.2.2.2 ⟨F.1, F.2.1, F.2.2.2.1, F.2.2.2.2.1, gz_hts F⟩ (xh_comesBefore_c l D a kc u x y hp) (cwV 2 (gz_hts F) (gz_gV lw_good wi_193 wi_195 xh_comesBefore_sl wi_3 xh_comesBefore_k) rfl rfl rfl (by decide +kernel) ⟨Nat.le_of_ble_eq_true rfl, Nat.le_of_ble_eq_true rfl⟩) rfl 2 rfl rfl d_HoldQueue_Holds_firstFitting_47 ⟨Nat.le_of_ble_eq_true rfl, Nat.le_of_ble_eq_true rfl⟩))) ?_
  refine And.intro (gz_o_if_eq F.1 F.2.1 57 d_HoldQueue_Holds_firstFitting_50 (by decide)) ?_
  refine And.intro (gz_o_iload F.1 F.2.1 5 d_HoldQueue_Holds_firstFitting_53) ?_
  refine And.intro (gz_o_istore F.1 F.2.1 4 d_HoldQueue_Holds_firstFitting_55 (by decide)) ?_
  refine And.intro (gz_o_iinc F.1 F.2.1 5 1 d_HoldQueue_Holds_firstFitting_57 (by decide) (by decide)) ?_
  refine And.intro (gz_o_goto F.1 F.2.1 6 d_HoldQueue_Holds_firstFitting_60 (by decide)) ?_
  refine And.intro (gz_o_iload F.1 F.2.1 4 d_HoldQueue_Holds_firstFitting_63) ?_
  refine And.intro (gz_o_iret (gz_e_i (post := Kr) F d_HoldQueue_Holds_firstFitting_65)) ?_
  exact trivial
set_option maxRecDepth 100000 in
set_option maxHeartbeats 4000000 in
theorem xh_firstFitting_c (l : Launch) (D : va_G) (a : Nat → Nat) (kc : Nat → ClassId) (u : q_S) (v1 : Int32) (v2 : Int64) (hp : xh_firstFitting_p u v1 v2) : gz_MI l y_HoldQueue_Holds_firstFitting xh_firstFitting_w xh_firstFitting_R D q_cl (x_tys kc) (x_wf a kc) (x_as a) a [gz_r 2, gz_i v1, gz_l v2] u (xh_firstFitting u v1 v2) u := gz_metI (by decide) rfl (x_has a kc) (Nat.le_of_ble_eq_true rfl) rfl (xh_firstFitting_d u v1 v2 hp ⟨rfl, rfl⟩) (fun p e s m below meth c F => xh_firstFitting_o (Kr := fun r z => r = some (xh_firstFitting u v1 v2) ∧ z = u) D a kc F)
-- HoldQueue.layReady(II)V
def x_layReady_w : List Cond := Cond.code y_HoldQueue_layReady c_HoldQueue_layReady 3 none :: lw_gd
theorem x_layReady_k : Cond.code y_HoldQueue_layReady c_HoldQueue_layReady 3 none ∈ lw_gd := wi_200
theorem x_layReady_sl : Cond.selects R_HoldQueue y_HoldQueue_layReady y_HoldQueue_layReady ∈ lw_gd := by decide +kernel
abbrev x_layReady_R : Room := { frames := 0, cells := 0, slots := 0, locals := 0 }
set_option maxRecDepth 100000 in
set_option maxHeartbeats 4000000 in
theorem x_layReady_o (D : va_G) (a : Nat → Nat) (kc : Nat → ClassId) (F : gz_F p s m args meth c c_HoldQueue_layReady 3 none x_layReady_w R_HoldQueue) : gz_oks (gz_Z p l e x_layReady_R s m args below meth c 0 0 (MQ below (va_Qv (fun z => Kr none z) (gz_B D q_cl (x_tys kc) (x_wf a kc) (gz_A (x_as a) s.heap.size)) (gz_A (x_as a) s.heap.size)) args s 0 0 (gz_A (x_as a) s.heap.size)) 3 a (gz_GG D q_cl (x_tys kc) (gz_A (x_as a) s.heap.size) s (x_wf a kc))) Kr x_layReady_t := by
  refine And.intro (gz_o_aload_n F.1 F.2.1 0 d_HoldQueue_layReady_0 rfl) ?_
  refine And.intro (gz_o_getR (xg__HoldQueue_27 F d_HoldQueue_layReady_1)) ?_
  refine And.intro (gz_o_getR (xg__HoldQueue_117 F d_HoldQueue_layReady_4)) ?_
  refine And.intro (gz_o_iload_n F.1 F.2.1 1 d_HoldQueue_layReady_7 rfl) ?_
  refine And.intro (gz_o_iconst F.1 F.2.1 3 d_HoldQueue_layReady_8 (by decide)) ?_
  refine And.intro (gz_o_ist (x_ist F d_HoldQueue_layReady_9)) ?_
  refine And.intro (gz_o_aload_n F.1 F.2.1 0 d_HoldQueue_layReady_10 rfl) ?_
  refine And.intro (gz_o_getR (xg__HoldQueue_34 F d_HoldQueue_layReady_11)) ?_
  refine And.intro (gz_o_getR (xg__HoldQueue_114 F d_HoldQueue_layReady_14)) ?_
  refine And.intro (gz_o_iload_n F.1 F.2.1 2 d_HoldQueue_layReady_17 rfl) ?_
  refine And.intro (gz_o_iconst F.1 F.2.1 2 d_HoldQueue_layReady_18 (by decide)) ?_
  refine And.intro (gz_o_ist (x_ist F d_HoldQueue_layReady_19)) ?_
  refine And.intro (gz_o_aload_n F.1 F.2.1 0 d_HoldQueue_layReady_20 rfl) ?_
  refine And.intro (gz_o_getR (xg__HoldQueue_34 F d_HoldQueue_layReady_21)) ?_
  refine And.intro (gz_o_getR (xg__HoldQueue_130 F d_HoldQueue_layReady_24)) ?_
  refine And.intro (gz_o_iload_n F.1 F.2.1 2 d_HoldQueue_layReady_27 rfl) ?_
  refine And.intro (gz_o_aload_n F.1 F.2.1 0 d_HoldQueue_layReady_28 rfl) ?_
  refine And.intro (gz_o_getL (xg__HoldQueue_38 F d_HoldQueue_layReady_29)) ?_
  refine And.intro (gz_o_aload_n F.1 F.2.1 0 d_HoldQueue_layReady_32 rfl) ?_
  refine And.intro (gz_o_getI (xg__HoldQueue_42 F d_HoldQueue_layReady_33)) ?_
  refine And.intro (gz_o_i2l F.1 F.2.1 d_HoldQueue_layReady_36) ?_
  refine And.intro (gz_o_ladd F.1 F.2.1 d_HoldQueue_layReady_37) ?_
  refine And.intro (gz_o_lst (x_lst F d_HoldQueue_layReady_38)) ?_
  refine And.intro (gz_o_vret (gz_e_v (post := Kr) F d_HoldQueue_layReady_39)) ?_
  exact trivial
set_option maxRecDepth 100000 in
set_option maxHeartbeats 4000000 in
theorem x_layReady_c (l : Launch) (D : va_G) (a : Nat → Nat) (kc : Nat → ClassId) (u : q_S) (v1 : Int32) (v2 : Int32) (hp : x_layReady_p u v1 v2) : gz_MV l y_HoldQueue_layReady x_layReady_w x_layReady_R D q_cl (x_tys kc) (x_wf a kc) (x_as a) a [gz_r 0, gz_i v1, gz_i v2] u (x_layReady u v1 v2) := gz_metV (by decide) rfl (x_has a kc) (Nat.le_of_ble_eq_true rfl) rfl (x_layReady_d u v1 v2 hp ⟨rfl, rfl⟩) (fun p e s m below meth c F => x_layReady_o (Kr := fun r z => r = none ∧ z = (x_layReady u v1 v2)) D a kc F)
-- HoldQueue.send(II)V
def x_send_w : List Cond := Cond.code y_HoldQueue_send c_HoldQueue_send 3 none :: lw_gd
theorem x_send_k : Cond.code y_HoldQueue_send c_HoldQueue_send 3 none ∈ lw_gd := wi_204
theorem x_send_sl : Cond.selects R_HoldQueue y_HoldQueue_send y_HoldQueue_send ∈ lw_gd := by decide +kernel
abbrev x_send_R : Room := { frames := 0, cells := 0, slots := 0, locals := 0 }
set_option maxRecDepth 100000 in
set_option maxHeartbeats 4000000 in
theorem x_send_o (D : va_G) (a : Nat → Nat) (kc : Nat → ClassId) (F : gz_F p s m args meth c c_HoldQueue_send 3 none x_send_w R_HoldQueue) : gz_oks (gz_Z p l e x_send_R s m args below meth c 0 0 (MQ below (va_Qv (fun z => Kr none z) (gz_B D q_cl (x_tys kc) (x_wf a kc) (gz_A (x_as a) s.heap.size)) (gz_A (x_as a) s.heap.size)) args s 0 0 (gz_A (x_as a) s.heap.size)) 3 a (gz_GG D q_cl (x_tys kc) (gz_A (x_as a) s.heap.size) s (x_wf a kc))) Kr x_send_t := by
  refine And.intro (gz_o_aload_n F.1 F.2.1 0 d_HoldQueue_send_0 rfl) ?_
  refine And.intro (gz_o_getR (xg__HoldQueue_27 F d_HoldQueue_send_1)) ?_
  refine And.intro (gz_o_getR (xg__HoldQueue_117 F d_HoldQueue_send_4)) ?_
  refine And.intro (gz_o_iload_n F.1 F.2.1 1 d_HoldQueue_send_7 rfl) ?_
  refine And.intro (gz_o_iconst F.1 F.2.1 2 d_HoldQueue_send_8 (by decide)) ?_
  refine And.intro (gz_o_ist (x_ist F d_HoldQueue_send_9)) ?_
  refine And.intro (gz_o_aload_n F.1 F.2.1 0 d_HoldQueue_send_10 rfl) ?_
  refine And.intro (gz_o_getR (xg__HoldQueue_27 F d_HoldQueue_send_11)) ?_
  refine And.intro (gz_o_getR (xg__HoldQueue_98 F d_HoldQueue_send_14)) ?_
  refine And.intro (gz_o_iload_n F.1 F.2.1 1 d_HoldQueue_send_17 rfl) ?_
  refine And.intro (gz_o_aload_n F.1 F.2.1 0 d_HoldQueue_send_18 rfl) ?_
  refine And.intro (gz_o_getR (xg__HoldQueue_34 F d_HoldQueue_send_19)) ?_
  refine And.intro (gz_o_getR (xg__HoldQueue_153 F d_HoldQueue_send_22)) ?_
  refine And.intro (gz_o_iload_n F.1 F.2.1 2 d_HoldQueue_send_25 rfl) ?_
  refine And.intro (gz_o_ild (x_ild F d_HoldQueue_send_26)) ?_
  refine And.intro (gz_o_ist (x_ist F d_HoldQueue_send_27)) ?_
  refine And.intro (gz_o_aload_n F.1 F.2.1 0 d_HoldQueue_send_28 rfl) ?_
  refine And.intro (gz_o_getR (xg__HoldQueue_34 F d_HoldQueue_send_29)) ?_
  refine And.intro (gz_o_getR (xg__HoldQueue_114 F d_HoldQueue_send_32)) ?_
  refine And.intro (gz_o_iload_n F.1 F.2.1 2 d_HoldQueue_send_35 rfl) ?_
  refine And.intro (gz_o_iconst F.1 F.2.1 1 d_HoldQueue_send_36 (by decide)) ?_
  refine And.intro (gz_o_ist (x_ist F d_HoldQueue_send_37)) ?_
  refine And.intro (gz_o_vret (gz_e_v (post := Kr) F d_HoldQueue_send_38)) ?_
  exact trivial
set_option maxRecDepth 100000 in
set_option maxHeartbeats 4000000 in
theorem x_send_c (l : Launch) (D : va_G) (a : Nat → Nat) (kc : Nat → ClassId) (u : q_S) (v1 : Int32) (v2 : Int32) (hp : x_send_p u v1 v2) : gz_MV l y_HoldQueue_send x_send_w x_send_R D q_cl (x_tys kc) (x_wf a kc) (x_as a) a [gz_r 0, gz_i v1, gz_i v2] u (x_send u v1 v2) := gz_metV (by decide) rfl (x_has a kc) (Nat.le_of_ble_eq_true rfl) rfl (x_send_d u v1 v2 hp ⟨rfl, rfl⟩) (fun p e s m below meth c F => x_send_o (Kr := fun r z => r = none ∧ z = (x_send u v1 v2)) D a kc F)
-- HoldQueue.settle(I)I
def x_settle_w : List Cond := Cond.code y_HoldQueue_settle c_HoldQueue_settle 3 (some .int) :: lw_gd
theorem x_settle_k : Cond.code y_HoldQueue_settle c_HoldQueue_settle 3 (some .int) ∈ lw_gd := wi_184
theorem x_settle_sl : Cond.selects R_HoldQueue y_HoldQueue_settle y_HoldQueue_settle ∈ lw_gd := by decide +kernel
abbrev x_settle_R : Room := { frames := 2, cells := 0, slots := 0, locals := 80 }
set_option maxRecDepth 100000 in
set_option maxHeartbeats 4000000 in
theorem x_settle_o (D : va_G) (a : Nat → Nat) (kc : Nat → ClassId) (F : gz_F p s m args meth c c_HoldQueue_settle 3 (some .int) x_settle_w R_HoldQueue) : gz_oks (gz_Z p l e x_settle_R s m args below meth c 0 0 (MQ below (va_Qi (fun r z => Kr (some r) z) (gz_B D q_cl (x_tys kc) (x_wf a kc) (gz_A (x_as a) s.heap.size)) (gz_A (x_as a) s.heap.size)) args s 0 0 (gz_A (x_as a) s.heap.size)) 3 a (gz_GG D q_cl (x_tys kc) (gz_A (x_as a) s.heap.size) s (x_wf a kc))) Kr x_settle_t := by
  refine And.intro (gz_o_aload_n F.1 F.2.1 0 d_HoldQueue_settle_0 rfl) ?_
  refine And.intro (gz_o_getR (xg__HoldQueue_34 F d_HoldQueue_settle_1)) ?_
  refine And.intro (gz_o_aload_n F.1 F.2.1 0 d_HoldQueue_settle_4 rfl) ?_
  refine And.intro (gz_o_getR (xg__HoldQueue_27 F d_HoldQueue_settle_5)) ?_
  refine And.intro (gz_o_getR (xg__HoldQueue_146 F d_HoldQueue_settle_8)) ?_
  refine And.intro (gz_o_iload_n F.1 F.2.1 1 d_HoldQueue_settle_11 rfl) ?_
  refine And.intro (gz_o_ild (x_ild F d_HoldQueue_settle_12)) ?_
  refine And.intro (gz_o_aload_n F.1 F.2.1 0 d_HoldQueue_settle_13 rfl) ?_
  refine And.intro (gz_o_getL (xg__HoldQueue_38 F d_HoldQueue_settle_14)) ?_
  refine And.intro (gz_o_c1lP (fun u x y hp => gz_cbI (x_has a kc) (fun _ h => Or.inr h) (gz_runN (bs := [gz_i x, gz_l y]) F.2.2.2.2.2.2.2 ⟨F.1, F.2.1, F.2.2.2.1, F.2.2.2.2.1, gz_hts F⟩ (xh_firstFitting_c l D a kc u x y hp) ⟨va_cnB 2 (gz_hts F) (gz_gN lw_good xh_firstFitting_k) rfl rfl rfl (gz_nwF F (.methodLinkNest R_HoldQueue 149 y_HoldQueue_Holds_firstFitting "HoldQueue") (by decide +kernel)) (gz_hts F (.initialized R_HoldQueue_Holds) wi_3) (by decide +kernel) ⟨Nat.le_of_ble_eq_true rfl, Nat.le_of_ble_eq_true rfl⟩, gz_hts F (.instanceMethod y_HoldQueue_Holds_firstFitting) wi_187, gz_hts F (.selects R_HoldQueue_Holds y_HoldQueue_Holds_firstFitting y_HoldQueue_Holds_firstFitting) xh_firstFitting_sl⟩ rfl 2 rfl rfl d_HoldQueue_settle_17 ⟨Nat.le_of_ble_eq_true rfl, Nat.le_of_ble_eq_true rfl⟩))) ?_
  refine And.intro (gz_o_istore_n F.1 F.2.1 2 d_HoldQueue_settle_20 rfl (by decide)) ?_
  refine And.intro (gz_o_iload_n F.1 F.2.1 2 d_HoldQueue_settle_21 rfl) ?_
  refine And.intro (gz_o_if_ne F.1 F.2.1 37 d_HoldQueue_settle_22 (by decide)) ?_
  refine And.intro (gz_o_aload_n F.1 F.2.1 0 d_HoldQueue_settle_25 rfl) ?_
  refine And.intro (gz_o_getR (xg__HoldQueue_27 F d_HoldQueue_settle_26)) ?_
  refine And.intro (gz_o_getR (xg__HoldQueue_117 F d_HoldQueue_settle_29)) ?_
  refine And.intro (gz_o_iload_n F.1 F.2.1 1 d_HoldQueue_settle_32 rfl) ?_
  refine And.intro (gz_o_iconst F.1 F.2.1 0 d_HoldQueue_settle_33 (by decide)) ?_
  refine And.intro (gz_o_ist (x_ist F d_HoldQueue_settle_34)) ?_
  refine And.intro (gz_o_iconst F.1 F.2.1 0 d_HoldQueue_settle_35 (by decide)) ?_
  refine And.intro (gz_o_iret (gz_e_i (post := Kr) F d_HoldQueue_settle_36)) ?_
  refine And.intro (gz_o_aload_n F.1 F.2.1 0 d_HoldQueue_settle_37 rfl) ?_
  refine And.intro (gz_o_getR (xg__HoldQueue_27 F d_HoldQueue_settle_38)) ?_
  refine And.intro (gz_o_getR (xg__HoldQueue_101 F d_HoldQueue_settle_41)) ?_
  refine And.intro (gz_o_iload_n F.1 F.2.1 1 d_HoldQueue_settle_44 rfl) ?_
  refine And.intro (gz_o_iload_n F.1 F.2.1 2 d_HoldQueue_settle_45 rfl) ?_
  refine And.intro (gz_o_ist (x_ist F d_HoldQueue_settle_46)) ?_
  refine And.intro (gz_o_aload_n F.1 F.2.1 0 d_HoldQueue_settle_47 rfl) ?_
  refine And.intro (gz_o_getR (xg__HoldQueue_34 F d_HoldQueue_settle_48)) ?_
  refine And.intro (gz_o_getR (xg__HoldQueue_111 F d_HoldQueue_settle_51)) ?_
  refine And.intro (gz_o_iload_n F.1 F.2.1 2 d_HoldQueue_settle_54 rfl) ?_
  refine And.intro (gz_o_iload_n F.1 F.2.1 1 d_HoldQueue_settle_55 rfl) ?_
  refine And.intro (gz_o_ist (x_ist F d_HoldQueue_settle_56)) ?_
  refine And.intro (gz_o_aload_n F.1 F.2.1 0 d_HoldQueue_settle_57 rfl) ?_
  refine And.intro (gz_o_getR (xg__HoldQueue_27 F d_HoldQueue_settle_58)) ?_
  refine And.intro (gz_o_getR (xg__HoldQueue_98 F d_HoldQueue_settle_61)) ?_
  refine And.intro (gz_o_iload_n F.1 F.2.1 1 d_HoldQueue_settle_64 rfl) ?_
  refine And.intro (gz_o_ild (x_ild F d_HoldQueue_settle_65)) ?_
  refine And.intro (gz_o_aload_n F.1 F.2.1 0 d_HoldQueue_settle_66 rfl) ?_
  refine And.intro (gz_o_getR (xg__HoldQueue_34 F d_HoldQueue_settle_67)) ?_
  refine And.intro (gz_o_getR (xg__HoldQueue_153 F d_HoldQueue_settle_70)) ?_
  refine And.intro (gz_o_iload_n F.1 F.2.1 2 d_HoldQueue_settle_73 rfl) ?_
  refine And.intro (gz_o_ild (x_ild F d_HoldQueue_settle_74)) ?_
  refine And.intro (gz_o_ic_ne F.1 F.2.1 87 d_HoldQueue_settle_75 (by decide)) ?_
  refine And.intro (gz_o_aload_n F.1 F.2.1 0 d_HoldQueue_settle_78 rfl) ?_
  refine And.intro (gz_o_iload_n F.1 F.2.1 1 d_HoldQueue_settle_79 rfl) ?_
  refine And.intro (gz_o_iload_n F.1 F.2.1 2 d_HoldQueue_settle_80 rfl) ?_
  refine And.intro (gz_o_c2V (fun u x y hp => gz_cbV (x_has a kc) (fun _ h => Or.inr h) (gz_runV (bs := [gz_i x, gz_i y]) F.2.2.2.2.2.2.2 ⟨F.1, F.2.1, F.2.2.2.1, F.2.2.2.2.1, gz_hts F⟩ (x_layReady_c l D a kc u x y hp) (cwV 2 (gz_hts F) (gz_gV lw_good wi_197 wi_199 x_layReady_sl wi_1 x_layReady_k) rfl rfl rfl (by decide +kernel) ⟨Nat.le_of_ble_eq_true rfl, Nat.le_of_ble_eq_true rfl⟩) rfl 0 rfl rfl d_HoldQueue_settle_81 ⟨Nat.le_of_ble_eq_true rfl, Nat.le_of_ble_eq_true rfl⟩))) ?_
  refine And.intro (gz_o_goto F.1 F.2.1 93 d_HoldQueue_settle_84 (by decide)) ?_
  refine And.intro (gz_o_aload_n F.1 F.2.1 0 d_HoldQueue_settle_87 rfl) ?_
  refine And.intro (gz_o_iload_n F.1 F.2.1 1 d_HoldQueue_settle_88 rfl) ?_
  refine And.intro (gz_o_iload_n F.1 F.2.1 2 d_HoldQueue_settle_89 rfl) ?_
  refine And.intro (gz_o_c2V (fun u x y hp => gz_cbV (x_has a kc) (fun _ h => Or.inr h) (gz_runV (bs := [gz_i x, gz_i y]) F.2.2.2.2.2.2.2 ⟨F.1, F.2.1, F.2.2.2.1, F.2.2.2.2.1, gz_hts F⟩ (x_send_c l D a kc u x y hp) (cwV 2 (gz_hts F) (gz_gV lw_good wi_201 wi_203 x_send_sl wi_1 x_send_k) rfl rfl rfl (by decide +kernel) ⟨Nat.le_of_ble_eq_true rfl, Nat.le_of_ble_eq_true rfl⟩) rfl 0 rfl rfl d_HoldQueue_settle_90 ⟨Nat.le_of_ble_eq_true rfl, Nat.le_of_ble_eq_true rfl⟩))) ?_
  refine And.intro (gz_o_iload_n F.1 F.2.1 2 d_HoldQueue_settle_93 rfl) ?_
  refine And.intro (gz_o_iret (gz_e_i (post := Kr) F d_HoldQueue_settle_94)) ?_
  exact trivial
set_option maxRecDepth 100000 in
set_option maxHeartbeats 4000000 in
theorem x_settle_c (l : Launch) (D : va_G) (a : Nat → Nat) (kc : Nat → ClassId) (u : q_S) (v1 : Int32) (hp : x_settle_p u v1) : gz_MI l y_HoldQueue_settle x_settle_w x_settle_R D q_cl (x_tys kc) (x_wf a kc) (x_as a) a [gz_r 0, gz_i v1] u (x_settle_r u v1) (x_settle_s u v1) := gz_metI (by decide) rfl (x_has a kc) (Nat.le_of_ble_eq_true rfl) rfl (x_settle_d u v1 hp ⟨rfl, rfl⟩) (fun p e s m below meth c F => x_settle_o (Kr := fun r z => r = some (x_settle_r u v1) ∧ z = (x_settle_s u v1)) D a kc F)
-- HoldQueue.hold(IIII)I
def x_hold_w : List Cond := Cond.code y_HoldQueue_hold c_HoldQueue_hold 7 (some .int) :: lw_gd
theorem x_hold_k : Cond.code y_HoldQueue_hold c_HoldQueue_hold 7 (some .int) ∈ lw_gd := wi_145
theorem x_hold_sl : Cond.selects R_HoldQueue y_HoldQueue_hold y_HoldQueue_hold ∈ lw_gd := wi_144
abbrev x_hold_R : Room := { frames := 4, cells := 0, slots := 0, locals := 160 }
set_option maxRecDepth 100000 in
set_option maxHeartbeats 4000000 in
theorem x_hold_o (D : va_G) (a : Nat → Nat) (kc : Nat → ClassId) (F : gz_F p s m args meth c c_HoldQueue_hold 7 (some .int) x_hold_w R_HoldQueue) : gz_oks (gz_Z p l e x_hold_R s m args below meth c 0 0 (MQ below (va_Qi (fun r z => Kr (some r) z) (gz_B D q_cl (x_tys kc) (x_wf a kc) (gz_A (x_as a) s.heap.size)) (gz_A (x_as a) s.heap.size)) args s 0 0 (gz_A (x_as a) s.heap.size)) 7 a (gz_GG D q_cl (x_tys kc) (gz_A (x_as a) s.heap.size) s (x_wf a kc))) Kr x_hold_t := by
  refine And.intro (gz_o_iload_n F.1 F.2.1 1 d_HoldQueue_hold_0 rfl) ?_
  refine And.intro (gz_o_s1P (fun u x => gz_cbI (x_has a kc) (fun _ h => Or.inr h) (gz_runS (bs := [gz_i x]) F.2.2.2.2.2.2.2 ⟨F.1, F.2.1, F.2.2.2.1, F.2.2.2.2.1, gz_hts F⟩ (x_isPerson_c l D a kc u x) (cwS 1 (gz_hts F) (gz_gS lw_good wi_146 wi_147 wi_1 x_isPerson_k) rfl rfl rfl (by decide +kernel) ⟨Nat.le_of_ble_eq_true rfl, Nat.le_of_ble_eq_true rfl⟩) rfl d_HoldQueue_hold_1 ⟨Nat.le_of_ble_eq_true rfl, Nat.le_of_ble_eq_true rfl⟩))) ?_
  refine And.intro (gz_o_if_eq F.1 F.2.1 22 d_HoldQueue_hold_4 (by decide)) ?_
  refine And.intro (gz_o_aload_n F.1 F.2.1 0 d_HoldQueue_hold_7 rfl) ?_
  refine And.intro (gz_o_iload_n F.1 F.2.1 2 d_HoldQueue_hold_8 rfl) ?_
  refine And.intro (gz_o_c1P (fun u x hp => gz_cbI (x_has a kc) (fun _ h => Or.inr h) (gz_runV (bs := [gz_i x]) F.2.2.2.2.2.2.2 ⟨F.1, F.2.1, F.2.2.2.1, F.2.2.2.2.1, gz_hts F⟩ (x_isRecord_c l D a kc u x) (cwV 1 (gz_hts F) (gz_gV lw_good wi_123 wi_125 x_isRecord_sl wi_1 x_isRecord_k) rfl rfl rfl (by decide +kernel) ⟨Nat.le_of_ble_eq_true rfl, Nat.le_of_ble_eq_true rfl⟩) rfl 0 rfl rfl d_HoldQueue_hold_9 ⟨Nat.le_of_ble_eq_true rfl, Nat.le_of_ble_eq_true rfl⟩))) ?_
  refine And.intro (gz_o_if_eq F.1 F.2.1 22 d_HoldQueue_hold_12 (by decide)) ?_
  refine And.intro (gz_o_iload_n F.1 F.2.1 3 d_HoldQueue_hold_15 rfl) ?_
  refine And.intro (gz_o_s1P (fun u x => gz_cbI (x_has a kc) (fun _ h => Or.inr h) (gz_runS (bs := [gz_i x]) F.2.2.2.2.2.2.2 ⟨F.1, F.2.1, F.2.2.2.1, F.2.2.2.2.1, gz_hts F⟩ (x_isPlace_c l D a kc u x) (cwS 1 (gz_hts F) (gz_gS lw_good wi_127 wi_128 wi_1 x_isPlace_k) rfl rfl rfl (by decide +kernel) ⟨Nat.le_of_ble_eq_true rfl, Nat.le_of_ble_eq_true rfl⟩) rfl d_HoldQueue_hold_16 ⟨Nat.le_of_ble_eq_true rfl, Nat.le_of_ble_eq_true rfl⟩))) ?_
  refine And.intro (gz_o_if_ne F.1 F.2.1 24 d_HoldQueue_hold_19 (by decide)) ?_
  refine And.intro (gz_o_iconst F.1 F.2.1 0 d_HoldQueue_hold_22 (by decide)) ?_
  refine And.intro (gz_o_iret (gz_e_i (post := Kr) F d_HoldQueue_hold_23)) ?_
  refine And.intro (gz_o_aload_n F.1 F.2.1 0 d_HoldQueue_hold_24 rfl) ?_
  refine And.intro (gz_o_getR (xg__HoldQueue_17 F d_HoldQueue_hold_25)) ?_
  refine And.intro (gz_o_aload_n F.1 F.2.1 0 d_HoldQueue_hold_28 rfl) ?_
  refine And.intro (gz_o_getR (xg__HoldQueue_9 F d_HoldQueue_hold_29)) ?_
  refine And.intro (gz_o_iload_n F.1 F.2.1 2 d_HoldQueue_hold_32 rfl) ?_
  refine And.intro (gz_o_ild (x_ild F d_HoldQueue_hold_33)) ?_
  refine And.intro (gz_o_ild (x_zld F d_HoldQueue_hold_34)) ?_
  refine And.intro (gz_o_if_ne F.1 F.2.1 60 d_HoldQueue_hold_35 (by decide)) ?_
  refine And.intro (gz_o_aload_n F.1 F.2.1 0 d_HoldQueue_hold_38 rfl) ?_
  refine And.intro (gz_o_getR (xg__HoldQueue_34 F d_HoldQueue_hold_39)) ?_
  refine And.intro (gz_o_iload_n F.1 F.2.1 1 d_HoldQueue_hold_42 rfl) ?_
  refine And.intro (gz_o_iload_n F.1 F.2.1 2 d_HoldQueue_hold_43 rfl) ?_
  refine And.intro (gz_o_c2P (fun u x y hp => gz_cbI (x_has a kc) (fun _ h => Or.inr h) (gz_runN (bs := [gz_i x, gz_i y]) F.2.2.2.2.2.2.2 ⟨F.1, F.2.1, F.2.2.2.1, F.2.2.2.2.1, gz_hts F⟩ (xh_hasOpen_c l D a kc u x y hp) ⟨va_cnB 2 (gz_hts F) (gz_gN lw_good xh_hasOpen_k) rfl rfl rfl (gz_nwF F (.methodLinkNest R_HoldQueue 72 y_HoldQueue_Holds_hasOpen "HoldQueue") (by decide +kernel)) (gz_hts F (.initialized R_HoldQueue_Holds) wi_3) (by decide +kernel) ⟨Nat.le_of_ble_eq_true rfl, Nat.le_of_ble_eq_true rfl⟩, gz_hts F (.instanceMethod y_HoldQueue_Holds_hasOpen) wi_151, gz_hts F (.selects R_HoldQueue_Holds y_HoldQueue_Holds_hasOpen y_HoldQueue_Holds_hasOpen) xh_hasOpen_sl⟩ rfl 2 rfl rfl d_HoldQueue_hold_44 ⟨Nat.le_of_ble_eq_true rfl, Nat.le_of_ble_eq_true rfl⟩))) ?_
  refine And.intro (gz_o_if_ne F.1 F.2.1 60 d_HoldQueue_hold_47 (by decide)) ?_
  refine And.intro (gz_o_aload_n F.1 F.2.1 0 d_HoldQueue_hold_50 rfl) ?_
  refine And.intro (gz_o_getR (xg__HoldQueue_34 F d_HoldQueue_hold_51)) ?_
  refine And.intro (gz_o_c0P (fun u => gz_cbI (x_has a kc) (fun _ h => Or.inr h) (gz_runN (bs := []) F.2.2.2.2.2.2.2 ⟨F.1, F.2.1, F.2.2.2.1, F.2.2.2.2.1, gz_hts F⟩ (xh_areFull_c l D a kc u) ⟨va_cnB 0 (gz_hts F) (gz_gN lw_good xh_areFull_k) rfl rfl rfl (gz_nwF F (.methodLinkNest R_HoldQueue 76 y_HoldQueue_Holds_areFull "HoldQueue") (by decide +kernel)) (gz_hts F (.initialized R_HoldQueue_Holds) wi_3) (by decide +kernel) ⟨Nat.le_of_ble_eq_true rfl, Nat.le_of_ble_eq_true rfl⟩, gz_hts F (.instanceMethod y_HoldQueue_Holds_areFull) wi_167, gz_hts F (.selects R_HoldQueue_Holds y_HoldQueue_Holds_areFull y_HoldQueue_Holds_areFull) xh_areFull_sl⟩ rfl 2 rfl rfl d_HoldQueue_hold_54 ⟨Nat.le_of_ble_eq_true rfl, Nat.le_of_ble_eq_true rfl⟩))) ?_
  refine And.intro (gz_o_if_eq F.1 F.2.1 62 d_HoldQueue_hold_57 (by decide)) ?_
  refine And.intro (gz_o_iconst F.1 F.2.1 0 d_HoldQueue_hold_60 (by decide)) ?_
  refine And.intro (gz_o_iret (gz_e_i (post := Kr) F d_HoldQueue_hold_61)) ?_
  refine And.intro (gz_o_aload_n F.1 F.2.1 0 d_HoldQueue_hold_62 rfl) ?_
  refine And.intro (gz_o_getR (xg__HoldQueue_34 F d_HoldQueue_hold_63)) ?_
  refine And.intro (gz_o_iload_n F.1 F.2.1 1 d_HoldQueue_hold_66 rfl) ?_
  refine And.intro (gz_o_c1P (fun u x hp => gz_cbI (x_has a kc) (fun _ h => Or.inr h) (gz_runN (bs := [gz_i x]) F.2.2.2.2.2.2.2 ⟨F.1, F.2.1, F.2.2.2.1, F.2.2.2.2.1, gz_hts F⟩ (xh_countOpen_c l D a kc u x hp) ⟨va_cnB 1 (gz_hts F) (gz_gN lw_good xh_countOpen_k) rfl rfl rfl (gz_nwF F (.methodLinkNest R_HoldQueue 77 y_HoldQueue_Holds_countOpen "HoldQueue") (by decide +kernel)) (gz_hts F (.initialized R_HoldQueue_Holds) wi_3) (by decide +kernel) ⟨Nat.le_of_ble_eq_true rfl, Nat.le_of_ble_eq_true rfl⟩, gz_hts F (.instanceMethod y_HoldQueue_Holds_countOpen) wi_171, gz_hts F (.selects R_HoldQueue_Holds y_HoldQueue_Holds_countOpen y_HoldQueue_Holds_countOpen) xh_countOpen_sl⟩ rfl 2 rfl rfl d_HoldQueue_hold_67 ⟨Nat.le_of_ble_eq_true rfl, Nat.le_of_ble_eq_true rfl⟩))) ?_
  refine And.intro (gz_o_aload_n F.1 F.2.1 0 d_HoldQueue_hold_70 rfl) ?_
  refine And.intro (gz_o_getR (xg__HoldQueue_21 F d_HoldQueue_hold_71)) ?_
  refine And.intro (gz_o_iload_n F.1 F.2.1 1 d_HoldQueue_hold_74 rfl) ?_
  refine And.intro (gz_o_ild (x_ild F d_HoldQueue_hold_75)) ?_
  refine And.intro (gz_o_ic_lt F.1 F.2.1 81 d_HoldQueue_hold_76 (by decide)) ?_
  refine And.intro (gz_o_iconst F.1 F.2.1 (-1) d_HoldQueue_hold_79 (by decide)) ?_
  refine And.intro (gz_o_iret (gz_e_i (post := Kr) F d_HoldQueue_hold_80)) ?_
  refine And.intro (gz_o_aload_n F.1 F.2.1 0 d_HoldQueue_hold_81 rfl) ?_
  refine And.intro (gz_o_getR (xg__HoldQueue_34 F d_HoldQueue_hold_82)) ?_
  refine And.intro (gz_o_iload_n F.1 F.2.1 1 d_HoldQueue_hold_85 rfl) ?_
  refine And.intro (gz_o_iload_n F.1 F.2.1 2 d_HoldQueue_hold_86 rfl) ?_
  refine And.intro (gz_o_iload_n F.1 F.2.1 3 d_HoldQueue_hold_87 rfl) ?_
  refine And.intro (gz_o_iload F.1 F.2.1 4 d_HoldQueue_hold_88) ?_
  refine And.intro (gz_o_c4I (fun u x y z w hp => gz_cbI (x_has a kc) (fun _ h => Or.inr h) (gz_runN (bs := [gz_i x, gz_i y, gz_i z, gz_i w]) F.2.2.2.2.2.2.2 ⟨F.1, F.2.1, F.2.2.2.1, F.2.2.2.2.1, gz_hts F⟩ (xh_add_c l D a kc u x y z w hp) ⟨va_cnB 4 (gz_hts F) (gz_gN lw_good xh_add_k) rfl rfl rfl (gz_nwF F (.methodLinkNest R_HoldQueue 81 y_HoldQueue_Holds_add "HoldQueue") (by decide +kernel)) (gz_hts F (.initialized R_HoldQueue_Holds) wi_3) (by decide +kernel) ⟨Nat.le_of_ble_eq_true rfl, Nat.le_of_ble_eq_true rfl⟩, gz_hts F (.instanceMethod y_HoldQueue_Holds_add) wi_175, gz_hts F (.selects R_HoldQueue_Holds y_HoldQueue_Holds_add y_HoldQueue_Holds_add) xh_add_sl⟩ rfl 2 rfl rfl d_HoldQueue_hold_90 ⟨Nat.le_of_ble_eq_true rfl, Nat.le_of_ble_eq_true rfl⟩))) ?_
  refine And.intro (gz_o_istore F.1 F.2.1 5 d_HoldQueue_hold_93 (by decide)) ?_
  refine And.intro (gz_o_aload_n F.1 F.2.1 0 d_HoldQueue_hold_95 rfl) ?_
  refine And.intro (gz_o_getR (xg__HoldQueue_27 F d_HoldQueue_hold_96)) ?_
  refine And.intro (gz_o_iload_n F.1 F.2.1 2 d_HoldQueue_hold_99 rfl) ?_
  refine And.intro (gz_o_c1P (fun u x hp => gz_cbI (x_has a kc) (fun _ h => Or.inr h) (gz_runN (bs := [gz_i x]) F.2.2.2.2.2.2.2 ⟨F.1, F.2.1, F.2.2.2.1, F.2.2.2.2.1, gz_hts F⟩ (xc_leastFree_c l D a kc u x hp) ⟨va_cnB 1 (gz_hts F) (gz_gN lw_good xc_leastFree_k) rfl rfl rfl (gz_nwF F (.methodLinkNest R_HoldQueue 84 y_HoldQueue_Copies_leastFree "HoldQueue") (by decide +kernel)) (gz_hts F (.initialized R_HoldQueue_Copies) wi_2) (by decide +kernel) ⟨Nat.le_of_ble_eq_true rfl, Nat.le_of_ble_eq_true rfl⟩, gz_hts F (.instanceMethod y_HoldQueue_Copies_leastFree) wi_179, gz_hts F (.selects R_HoldQueue_Copies y_HoldQueue_Copies_leastFree y_HoldQueue_Copies_leastFree) xc_leastFree_sl⟩ rfl 1 rfl rfl d_HoldQueue_hold_100 ⟨Nat.le_of_ble_eq_true rfl, Nat.le_of_ble_eq_true rfl⟩))) ?_
  refine And.intro (gz_o_istore F.1 F.2.1 6 d_HoldQueue_hold_103 (by decide)) ?_
  refine And.intro (gz_o_iload F.1 F.2.1 6 d_HoldQueue_hold_105) ?_
  refine And.intro (gz_o_if_eq F.1 F.2.1 117 d_HoldQueue_hold_107 (by decide)) ?_
  refine And.intro (gz_o_aload_n F.1 F.2.1 0 d_HoldQueue_hold_110 rfl) ?_
  refine And.intro (gz_o_iload F.1 F.2.1 6 d_HoldQueue_hold_111) ?_
  refine And.intro (gz_o_c1I (fun u x hp => gz_cbI (x_has a kc) (fun _ h => Or.inr h) (gz_runV (bs := [gz_i x]) F.2.2.2.2.2.2.2 ⟨F.1, F.2.1, F.2.2.2.1, F.2.2.2.2.1, gz_hts F⟩ (x_settle_c l D a kc u x hp) (cwV 1 (gz_hts F) (gz_gV lw_good wi_181 wi_183 x_settle_sl wi_1 x_settle_k) rfl rfl rfl (by decide +kernel) ⟨Nat.le_of_ble_eq_true rfl, Nat.le_of_ble_eq_true rfl⟩) rfl 0 rfl rfl d_HoldQueue_hold_113 ⟨Nat.le_of_ble_eq_true rfl, Nat.le_of_ble_eq_true rfl⟩))) ?_
  refine And.intro (gz_o_pop F.1 F.2.1 d_HoldQueue_hold_116) ?_
  refine And.intro (gz_o_iload F.1 F.2.1 5 d_HoldQueue_hold_117) ?_
  refine And.intro (gz_o_iret (gz_e_i (post := Kr) F d_HoldQueue_hold_119)) ?_
  exact trivial
set_option maxRecDepth 100000 in
set_option maxHeartbeats 4000000 in
theorem x_hold_c (l : Launch) (D : va_G) (a : Nat → Nat) (kc : Nat → ClassId) (u : q_S) (v1 : Int32) (v2 : Int32) (v3 : Int32) (v4 : Int32) (hp : x_hold_p u v1 v2 v3 v4) : gz_MI l y_HoldQueue_hold x_hold_w x_hold_R D q_cl (x_tys kc) (x_wf a kc) (x_as a) a [gz_r 0, gz_i v1, gz_i v2, gz_i v3, gz_i v4] u (x_hold_r u v1 v2 v3 v4) (x_hold_s u v1 v2 v3 v4) := gz_metI (by decide) rfl (x_has a kc) (Nat.le_of_ble_eq_true rfl) rfl (x_hold_d u v1 v2 v3 v4 hp ⟨rfl, rfl⟩) (fun p e s m below meth c F => x_hold_o (Kr := fun r z => r = some (x_hold_r u v1 v2 v3 v4) ∧ z = (x_hold_s u v1 v2 v3 v4)) D a kc F)
-- HoldQueue.most(II)I
def x_most_w : List Cond := Cond.code y_HoldQueue_most c_HoldQueue_most 4 (some .int) :: lw_gd
theorem x_most_k : Cond.code y_HoldQueue_most c_HoldQueue_most 4 (some .int) ∈ lw_gd := wi_208
theorem x_most_sl : Cond.selects R_HoldQueue y_HoldQueue_most y_HoldQueue_most ∈ lw_gd := wi_207
abbrev x_most_R : Room := { frames := 1, cells := 0, slots := 0, locals := 40 }
set_option maxRecDepth 100000 in
set_option maxHeartbeats 4000000 in
theorem x_most_o (D : va_G) (a : Nat → Nat) (kc : Nat → ClassId) (F : gz_F p s m args meth c c_HoldQueue_most 4 (some .int) x_most_w R_HoldQueue) : gz_oks (gz_Z p l e x_most_R s m args below meth c 0 0 (MQ below (va_Qi (fun r z => Kr (some r) z) (gz_B D q_cl (x_tys kc) (x_wf a kc) (gz_A (x_as a) s.heap.size)) (gz_A (x_as a) s.heap.size)) args s 0 0 (gz_A (x_as a) s.heap.size)) 4 a (gz_GG D q_cl (x_tys kc) (gz_A (x_as a) s.heap.size) s (x_wf a kc))) Kr x_most_t := by
  refine And.intro (gz_o_iload_n F.1 F.2.1 1 d_HoldQueue_most_0 rfl) ?_
  refine And.intro (gz_o_s1P (fun u x => gz_cbI (x_has a kc) (fun _ h => Or.inr h) (gz_runS (bs := [gz_i x]) F.2.2.2.2.2.2.2 ⟨F.1, F.2.1, F.2.2.2.1, F.2.2.2.2.1, gz_hts F⟩ (x_isPerson_c l D a kc u x) (cwS 1 (gz_hts F) (gz_gS lw_good wi_146 wi_147 wi_1 x_isPerson_k) rfl rfl rfl (by decide +kernel) ⟨Nat.le_of_ble_eq_true rfl, Nat.le_of_ble_eq_true rfl⟩) rfl d_HoldQueue_most_1 ⟨Nat.le_of_ble_eq_true rfl, Nat.le_of_ble_eq_true rfl⟩))) ?_
  refine And.intro (gz_o_if_eq F.1 F.2.1 17 d_HoldQueue_most_4 (by decide)) ?_
  refine And.intro (gz_o_iload_n F.1 F.2.1 2 d_HoldQueue_most_7 rfl) ?_
  refine And.intro (gz_o_if_lt F.1 F.2.1 17 d_HoldQueue_most_8 (by decide)) ?_
  refine And.intro (gz_o_iload_n F.1 F.2.1 2 d_HoldQueue_most_11 rfl) ?_
  refine And.intro (gz_o_bipush F.1 F.2.1 20 d_HoldQueue_most_12 (by decide)) ?_
  refine And.intro (gz_o_ic_le F.1 F.2.1 19 d_HoldQueue_most_14 (by decide)) ?_
  refine And.intro (gz_o_iconst F.1 F.2.1 (-1) d_HoldQueue_most_17 (by decide)) ?_
  refine And.intro (gz_o_iret (gz_e_i (post := Kr) F d_HoldQueue_most_18)) ?_
  refine And.intro (gz_o_aload_n F.1 F.2.1 0 d_HoldQueue_most_19 rfl) ?_
  refine And.intro (gz_o_getR (xg__HoldQueue_21 F d_HoldQueue_most_20)) ?_
  refine And.intro (gz_o_iload_n F.1 F.2.1 1 d_HoldQueue_most_23 rfl) ?_
  refine And.intro (gz_o_ild (x_ild F d_HoldQueue_most_24)) ?_
  refine And.intro (gz_o_istore_n F.1 F.2.1 3 d_HoldQueue_most_25 rfl (by decide)) ?_
  refine And.intro (gz_o_aload_n F.1 F.2.1 0 d_HoldQueue_most_26 rfl) ?_
  refine And.intro (gz_o_getR (xg__HoldQueue_21 F d_HoldQueue_most_27)) ?_
  refine And.intro (gz_o_iload_n F.1 F.2.1 1 d_HoldQueue_most_30 rfl) ?_
  refine And.intro (gz_o_iload_n F.1 F.2.1 2 d_HoldQueue_most_31 rfl) ?_
  refine And.intro (gz_o_ist (x_ist F d_HoldQueue_most_32)) ?_
  refine And.intro (gz_o_iload_n F.1 F.2.1 3 d_HoldQueue_most_33 rfl) ?_
  refine And.intro (gz_o_iret (gz_e_i (post := Kr) F d_HoldQueue_most_34)) ?_
  exact trivial
set_option maxRecDepth 100000 in
set_option maxHeartbeats 4000000 in
theorem x_most_c (l : Launch) (D : va_G) (a : Nat → Nat) (kc : Nat → ClassId) (u : q_S) (v1 : Int32) (v2 : Int32) (hp : x_most_p u v1 v2) : gz_MI l y_HoldQueue_most x_most_w x_most_R D q_cl (x_tys kc) (x_wf a kc) (x_as a) a [gz_r 0, gz_i v1, gz_i v2] u (x_most_r u v1 v2) (x_most_s u v1 v2) := gz_metI (by decide) rfl (x_has a kc) (Nat.le_of_ble_eq_true rfl) rfl (x_most_d u v1 v2 hp ⟨rfl, rfl⟩) (fun p e s m below meth c F => x_most_o (Kr := fun r z => r = some (x_most_r u v1 v2) ∧ z = (x_most_s u v1 v2)) D a kc F)
-- HoldQueue.suspend(IJ)I
def x_suspend_w : List Cond := Cond.code y_HoldQueue_suspend c_HoldQueue_suspend 4 (some .int) :: lw_gd
theorem x_suspend_k : Cond.code y_HoldQueue_suspend c_HoldQueue_suspend 4 (some .int) ∈ lw_gd := wi_212
theorem x_suspend_sl : Cond.selects R_HoldQueue y_HoldQueue_suspend y_HoldQueue_suspend ∈ lw_gd := wi_211
abbrev x_suspend_R : Room := { frames := 2, cells := 0, slots := 0, locals := 80 }
set_option maxRecDepth 100000 in
set_option maxHeartbeats 4000000 in
theorem x_suspend_o (D : va_G) (a : Nat → Nat) (kc : Nat → ClassId) (F : gz_F p s m args meth c c_HoldQueue_suspend 4 (some .int) x_suspend_w R_HoldQueue) : gz_oks (gz_Z p l e x_suspend_R s m args below meth c 0 0 (MQ below (va_Qi (fun r z => Kr (some r) z) (gz_B D q_cl (x_tys kc) (x_wf a kc) (gz_A (x_as a) s.heap.size)) (gz_A (x_as a) s.heap.size)) args s 0 0 (gz_A (x_as a) s.heap.size)) 4 a (gz_GG D q_cl (x_tys kc) (gz_A (x_as a) s.heap.size) s (x_wf a kc))) Kr x_suspend_t := by
  refine And.intro (gz_o_aload_n F.1 F.2.1 0 d_HoldQueue_suspend_0 rfl) ?_
  refine And.intro (gz_o_getR (xg__HoldQueue_34 F d_HoldQueue_suspend_1)) ?_
  refine And.intro (gz_o_iload_n F.1 F.2.1 1 d_HoldQueue_suspend_4 rfl) ?_
  refine And.intro (gz_o_iconst F.1 F.2.1 0 d_HoldQueue_suspend_5 (by decide)) ?_
  refine And.intro (gz_o_c2P (fun u x y hp => gz_cbI (x_has a kc) (fun _ h => Or.inr h) (gz_runN (bs := [gz_i x, gz_i y]) F.2.2.2.2.2.2.2 ⟨F.1, F.2.1, F.2.2.2.1, F.2.2.2.2.1, gz_hts F⟩ (xh_isIn_c l D a kc u x y hp) ⟨va_cnB 2 (gz_hts F) (gz_gN lw_good xh_isIn_k) rfl rfl rfl (gz_nwF F (.methodLinkNest R_HoldQueue 90 y_HoldQueue_Holds_isIn "HoldQueue") (by decide +kernel)) (gz_hts F (.initialized R_HoldQueue_Holds) wi_3) (by decide +kernel) ⟨Nat.le_of_ble_eq_true rfl, Nat.le_of_ble_eq_true rfl⟩, gz_hts F (.instanceMethod y_HoldQueue_Holds_isIn) wi_159, gz_hts F (.selects R_HoldQueue_Holds y_HoldQueue_Holds_isIn y_HoldQueue_Holds_isIn) xh_isIn_sl⟩ rfl 2 rfl rfl d_HoldQueue_suspend_6 ⟨Nat.le_of_ble_eq_true rfl, Nat.le_of_ble_eq_true rfl⟩))) ?_
  refine And.intro (gz_o_if_ne F.1 F.2.1 14 d_HoldQueue_suspend_9 (by decide)) ?_
  refine And.intro (gz_o_iconst F.1 F.2.1 0 d_HoldQueue_suspend_12 (by decide)) ?_
  refine And.intro (gz_o_iret (gz_e_i (post := Kr) F d_HoldQueue_suspend_13)) ?_
  refine And.intro (gz_o_aload_n F.1 F.2.1 0 d_HoldQueue_suspend_14 rfl) ?_
  refine And.intro (gz_o_getR (xg__HoldQueue_34 F d_HoldQueue_suspend_15)) ?_
  refine And.intro (gz_o_getR (xg__HoldQueue_93 F d_HoldQueue_suspend_18)) ?_
  refine And.intro (gz_o_iload_n F.1 F.2.1 1 d_HoldQueue_suspend_21 rfl) ?_
  refine And.intro (gz_o_lload_n F.1 F.2.1 2 d_HoldQueue_suspend_22 rfl) ?_
  refine And.intro (gz_o_lst (x_lst F d_HoldQueue_suspend_23)) ?_
  refine And.intro (gz_o_iconst F.1 F.2.1 1 d_HoldQueue_suspend_24 (by decide)) ?_
  refine And.intro (gz_o_iret (gz_e_i (post := Kr) F d_HoldQueue_suspend_25)) ?_
  exact trivial
set_option maxRecDepth 100000 in
set_option maxHeartbeats 4000000 in
theorem x_suspend_c (l : Launch) (D : va_G) (a : Nat → Nat) (kc : Nat → ClassId) (u : q_S) (v1 : Int32) (v2 : Int64) (hp : x_suspend_p u v1 v2) : gz_MI l y_HoldQueue_suspend x_suspend_w x_suspend_R D q_cl (x_tys kc) (x_wf a kc) (x_as a) a [gz_r 0, gz_i v1, gz_l v2] u (x_suspend_r u v1 v2) (x_suspend_s u v1 v2) := gz_metI (by decide) rfl (x_has a kc) (Nat.le_of_ble_eq_true rfl) rfl (x_suspend_d u v1 v2 hp ⟨rfl, rfl⟩) (fun p e s m below meth c F => x_suspend_o (Kr := fun r z => r = some (x_suspend_r u v1 v2) ∧ z = (x_suspend_s u v1 v2)) D a kc F)
-- HoldQueue$Copies.has(I)Z
def xc_has_w : List Cond := Cond.code y_HoldQueue_Copies_has c_HoldQueue_Copies_has 2 (some .boolean) :: lw_gd
theorem xc_has_k : Cond.code y_HoldQueue_Copies_has c_HoldQueue_Copies_has 2 (some .boolean) ∈ lw_gd := wi_225
theorem xc_has_sl : Cond.selects R_HoldQueue_Copies y_HoldQueue_Copies_has y_HoldQueue_Copies_has ∈ lw_gd := by decide +kernel
abbrev xc_has_R : Room := { frames := 0, cells := 0, slots := 0, locals := 0 }
set_option maxRecDepth 100000 in
set_option maxHeartbeats 4000000 in
theorem xc_has_o (D : va_G) (a : Nat → Nat) (kc : Nat → ClassId) (F : gz_F p s m args meth c c_HoldQueue_Copies_has 2 (some .boolean) xc_has_w R_HoldQueue_Copies) : gz_oks (gz_Z p l e xc_has_R s m args below meth c 0 0 (MQ below (va_Qi (fun r z => Kr (some r) z) (gz_B D q_cl (x_tys kc) (x_wf a kc) (gz_A (x_as a) s.heap.size)) (gz_A (x_as a) s.heap.size)) args s 0 0 (gz_A (x_as a) s.heap.size)) 2 a (gz_GG D q_cl (x_tys kc) (gz_A (x_as a) s.heap.size) s (x_wf a kc))) Kr xc_has_t := by
  refine And.intro (gz_o_iload_n F.1 F.2.1 1 d_HoldQueue_Copies_has_0 rfl) ?_
  refine And.intro (gz_o_iconst F.1 F.2.1 1 d_HoldQueue_Copies_has_1 (by decide)) ?_
  refine And.intro (gz_o_ic_lt F.1 F.2.1 17 d_HoldQueue_Copies_has_2 (by decide)) ?_
  refine And.intro (gz_o_iload_n F.1 F.2.1 1 d_HoldQueue_Copies_has_5 rfl) ?_
  refine And.intro (gz_o_aload_n F.1 F.2.1 0 d_HoldQueue_Copies_has_6 rfl) ?_
  refine And.intro (gz_o_getI (xg__HoldQueue_Copies_9 F d_HoldQueue_Copies_has_7)) ?_
  refine And.intro (gz_o_ic_gt F.1 F.2.1 17 d_HoldQueue_Copies_has_10 (by decide)) ?_
  refine And.intro (gz_o_iconst F.1 F.2.1 1 d_HoldQueue_Copies_has_13 (by decide)) ?_
  refine And.intro (gz_o_goto F.1 F.2.1 18 d_HoldQueue_Copies_has_14 (by decide)) ?_
  refine And.intro (gz_o_iconst F.1 F.2.1 0 d_HoldQueue_Copies_has_17 (by decide)) ?_
  refine And.intro (gz_o_zret (gz_e_z (post := Kr) F d_HoldQueue_Copies_has_18)) ?_
  exact trivial
set_option maxRecDepth 100000 in
set_option maxHeartbeats 4000000 in
theorem xc_has_c (l : Launch) (D : va_G) (a : Nat → Nat) (kc : Nat → ClassId) (u : q_S) (v1 : Int32) : gz_MI l y_HoldQueue_Copies_has xc_has_w xc_has_R D q_cl (x_tys kc) (x_wf a kc) (x_as a) a [gz_r 1, gz_i v1] u (xc_has u v1) u := gz_metI (by decide) rfl (x_has a kc) (Nat.le_of_ble_eq_true rfl) rfl (xc_has_d u v1 ⟨rfl, rfl⟩) (fun p e s m below meth c F => xc_has_o (Kr := fun r z => r = some (xc_has u v1) ∧ z = u) D a kc F)
-- HoldQueue$Copies.isIn(II)Z
def xc_isIn_w : List Cond := Cond.code y_HoldQueue_Copies_isIn c_HoldQueue_Copies_isIn 3 (some .boolean) :: lw_gd
theorem xc_isIn_k : Cond.code y_HoldQueue_Copies_isIn c_HoldQueue_Copies_isIn 3 (some .boolean) ∈ lw_gd := wi_221
theorem xc_isIn_sl : Cond.selects R_HoldQueue_Copies y_HoldQueue_Copies_isIn y_HoldQueue_Copies_isIn ∈ lw_gd := by decide +kernel
abbrev xc_isIn_R : Room := { frames := 1, cells := 0, slots := 0, locals := 40 }
set_option maxRecDepth 100000 in
set_option maxHeartbeats 4000000 in
theorem xc_isIn_o (D : va_G) (a : Nat → Nat) (kc : Nat → ClassId) (F : gz_F p s m args meth c c_HoldQueue_Copies_isIn 3 (some .boolean) xc_isIn_w R_HoldQueue_Copies) : gz_oks (gz_Z p l e xc_isIn_R s m args below meth c 0 0 (MQ below (va_Qi (fun r z => Kr (some r) z) (gz_B D q_cl (x_tys kc) (x_wf a kc) (gz_A (x_as a) s.heap.size)) (gz_A (x_as a) s.heap.size)) args s 0 0 (gz_A (x_as a) s.heap.size)) 3 a (gz_GG D q_cl (x_tys kc) (gz_A (x_as a) s.heap.size) s (x_wf a kc))) Kr xc_isIn_t := by
  refine And.intro (gz_o_aload_n F.1 F.2.1 0 d_HoldQueue_Copies_isIn_0 rfl) ?_
  refine And.intro (gz_o_iload_n F.1 F.2.1 1 d_HoldQueue_Copies_isIn_1 rfl) ?_
  refine And.intro (gz_o_c1P (fun u x hp => gz_cbI (x_has a kc) (fun _ h => Or.inr h) (gz_runV (bs := [gz_i x]) F.2.2.2.2.2.2.2 ⟨F.1, F.2.1, F.2.2.2.1, F.2.2.2.2.1, gz_hts F⟩ (xc_has_c l D a kc u x) (cwV 1 (gz_hts F) (gz_gV lw_good wi_222 wi_224 xc_has_sl wi_2 xc_has_k) rfl rfl rfl (by decide +kernel) ⟨Nat.le_of_ble_eq_true rfl, Nat.le_of_ble_eq_true rfl⟩) rfl 1 rfl rfl d_HoldQueue_Copies_isIn_2 ⟨Nat.le_of_ble_eq_true rfl, Nat.le_of_ble_eq_true rfl⟩))) ?_
  refine And.intro (gz_o_if_eq F.1 F.2.1 22 d_HoldQueue_Copies_isIn_5 (by decide)) ?_
  refine And.intro (gz_o_aload_n F.1 F.2.1 0 d_HoldQueue_Copies_isIn_8 rfl) ?_
  refine And.intro (gz_o_getR (xg__HoldQueue_Copies_22 F d_HoldQueue_Copies_isIn_9)) ?_
  refine And.intro (gz_o_iload_n F.1 F.2.1 1 d_HoldQueue_Copies_isIn_12 rfl) ?_
  refine And.intro (gz_o_ild (x_ild F d_HoldQueue_Copies_isIn_13)) ?_
  refine And.intro (gz_o_iload_n F.1 F.2.1 2 d_HoldQueue_Copies_isIn_14 rfl) ?_
  refine And.intro (gz_o_ic_ne F.1 F.2.1 22 d_HoldQueue_Copies_isIn_15 (by decide)) ?_
  refine And.intro (gz_o_iconst F.1 F.2.1 1 d_HoldQueue_Copies_isIn_18 (by decide)) ?_
  refine And.intro (gz_o_goto F.1 F.2.1 23 d_HoldQueue_Copies_isIn_19 (by decide)) ?_
  refine And.intro (gz_o_iconst F.1 F.2.1 0 d_HoldQueue_Copies_isIn_22 (by decide)) ?_
  refine And.intro (gz_o_zret (gz_e_z (post := Kr) F d_HoldQueue_Copies_isIn_23)) ?_
  exact trivial
set_option maxRecDepth 100000 in
set_option maxHeartbeats 4000000 in
theorem xc_isIn_c (l : Launch) (D : va_G) (a : Nat → Nat) (kc : Nat → ClassId) (u : q_S) (v1 : Int32) (v2 : Int32) (hp : xc_isIn_p u v1 v2) : gz_MI l y_HoldQueue_Copies_isIn xc_isIn_w xc_isIn_R D q_cl (x_tys kc) (x_wf a kc) (x_as a) a [gz_r 1, gz_i v1, gz_i v2] u (xc_isIn u v1 v2) u := gz_metI (by decide) rfl (x_has a kc) (Nat.le_of_ble_eq_true rfl) rfl (xc_isIn_d u v1 v2 hp ⟨rfl, rfl⟩) (fun p e s m below meth c F => xc_isIn_o (Kr := fun r z => r = some (xc_isIn u v1 v2) ∧ z = u) D a kc F)
-- HoldQueue.back(II)I
def x_back_w : List Cond := Cond.code y_HoldQueue_back c_HoldQueue_back 3 (some .int) :: lw_gd
theorem x_back_k : Cond.code y_HoldQueue_back c_HoldQueue_back 3 (some .int) ∈ lw_gd := wi_217
theorem x_back_sl : Cond.selects R_HoldQueue y_HoldQueue_back y_HoldQueue_back ∈ lw_gd := wi_216
abbrev x_back_R : Room := { frames := 3, cells := 0, slots := 0, locals := 120 }
set_option maxRecDepth 100000 in
set_option maxHeartbeats 4000000 in
theorem x_back_o (D : va_G) (a : Nat → Nat) (kc : Nat → ClassId) (F : gz_F p s m args meth c c_HoldQueue_back 3 (some .int) x_back_w R_HoldQueue) : gz_oks (gz_Z p l e x_back_R s m args below meth c 0 0 (MQ below (va_Qi (fun r z => Kr (some r) z) (gz_B D q_cl (x_tys kc) (x_wf a kc) (gz_A (x_as a) s.heap.size)) (gz_A (x_as a) s.heap.size)) args s 0 0 (gz_A (x_as a) s.heap.size)) 3 a (gz_GG D q_cl (x_tys kc) (gz_A (x_as a) s.heap.size) s (x_wf a kc))) Kr x_back_t := by
  refine And.intro (gz_o_aload_n F.1 F.2.1 0 d_HoldQueue_back_0 rfl) ?_
  refine And.intro (gz_o_getR (xg__HoldQueue_27 F d_HoldQueue_back_1)) ?_
  refine And.intro (gz_o_iload_n F.1 F.2.1 1 d_HoldQueue_back_4 rfl) ?_
  refine And.intro (gz_o_iconst F.1 F.2.1 1 d_HoldQueue_back_5 (by decide)) ?_
  refine And.intro (gz_o_c2P (fun u x y hp => gz_cbI (x_has a kc) (fun _ h => Or.inr h) (gz_runN (bs := [gz_i x, gz_i y]) F.2.2.2.2.2.2.2 ⟨F.1, F.2.1, F.2.2.2.1, F.2.2.2.2.1, gz_hts F⟩ (xc_isIn_c l D a kc u x y hp) ⟨va_cnB 2 (gz_hts F) (gz_gN lw_good xc_isIn_k) rfl rfl rfl (gz_nwF F (.methodLinkNest R_HoldQueue 97 y_HoldQueue_Copies_isIn "HoldQueue") (by decide +kernel)) (gz_hts F (.initialized R_HoldQueue_Copies) wi_2) (by decide +kernel) ⟨Nat.le_of_ble_eq_true rfl, Nat.le_of_ble_eq_true rfl⟩, gz_hts F (.instanceMethod y_HoldQueue_Copies_isIn) wi_220, gz_hts F (.selects R_HoldQueue_Copies y_HoldQueue_Copies_isIn y_HoldQueue_Copies_isIn) xc_isIn_sl⟩ rfl 1 rfl rfl d_HoldQueue_back_6 ⟨Nat.le_of_ble_eq_true rfl, Nat.le_of_ble_eq_true rfl⟩))) ?_
  refine And.intro (gz_o_if_eq F.1 F.2.1 19 d_HoldQueue_back_9 (by decide)) ?_
  refine And.intro (gz_o_iload_n F.1 F.2.1 2 d_HoldQueue_back_12 rfl) ?_
  refine And.intro (gz_o_s1P (fun u x => gz_cbI (x_has a kc) (fun _ h => Or.inr h) (gz_runS (bs := [gz_i x]) F.2.2.2.2.2.2.2 ⟨F.1, F.2.1, F.2.2.2.1, F.2.2.2.2.1, gz_hts F⟩ (x_isPlace_c l D a kc u x) (cwS 1 (gz_hts F) (gz_gS lw_good wi_127 wi_128 wi_1 x_isPlace_k) rfl rfl rfl (by decide +kernel) ⟨Nat.le_of_ble_eq_true rfl, Nat.le_of_ble_eq_true rfl⟩) rfl d_HoldQueue_back_13 ⟨Nat.le_of_ble_eq_true rfl, Nat.le_of_ble_eq_true rfl⟩))) ?_
  refine And.intro (gz_o_if_ne F.1 F.2.1 21 d_HoldQueue_back_16 (by decide)) ?_
  refine And.intro (gz_o_iconst F.1 F.2.1 (-1) d_HoldQueue_back_19 (by decide)) ?_
  refine And.intro (gz_o_iret (gz_e_i (post := Kr) F d_HoldQueue_back_20)) ?_
  refine And.intro (gz_o_aload_n F.1 F.2.1 0 d_HoldQueue_back_21 rfl) ?_
  refine And.intro (gz_o_getR (xg__HoldQueue_27 F d_HoldQueue_back_22)) ?_
  refine And.intro (gz_o_getR (xg__HoldQueue_98 F d_HoldQueue_back_25)) ?_
  refine And.intro (gz_o_iload_n F.1 F.2.1 1 d_HoldQueue_back_28 rfl) ?_
  refine And.intro (gz_o_iload_n F.1 F.2.1 2 d_HoldQueue_back_29 rfl) ?_
  refine And.intro (gz_o_ist (x_ist F d_HoldQueue_back_30)) ?_
  refine And.intro (gz_o_aload_n F.1 F.2.1 0 d_HoldQueue_back_31 rfl) ?_
  refine And.intro (gz_o_iload_n F.1 F.2.1 1 d_HoldQueue_back_32 rfl) ?_
  refine And.intro (gz_o_c1I (fun u x hp => gz_cbI (x_has a kc) (fun _ h => Or.inr h) (gz_runV (bs := [gz_i x]) F.2.2.2.2.2.2.2 ⟨F.1, F.2.1, F.2.2.2.1, F.2.2.2.2.1, gz_hts F⟩ (x_settle_c l D a kc u x hp) (cwV 1 (gz_hts F) (gz_gV lw_good wi_181 wi_183 x_settle_sl wi_1 x_settle_k) rfl rfl rfl (by decide +kernel) ⟨Nat.le_of_ble_eq_true rfl, Nat.le_of_ble_eq_true rfl⟩) rfl 0 rfl rfl d_HoldQueue_back_33 ⟨Nat.le_of_ble_eq_true rfl, Nat.le_of_ble_eq_true rfl⟩))) ?_
  refine And.intro (gz_o_iret (gz_e_i (post := Kr) F d_HoldQueue_back_36)) ?_
  exact trivial
set_option maxRecDepth 100000 in
set_option maxHeartbeats 4000000 in
theorem x_back_c (l : Launch) (D : va_G) (a : Nat → Nat) (kc : Nat → ClassId) (u : q_S) (v1 : Int32) (v2 : Int32) (hp : x_back_p u v1 v2) : gz_MI l y_HoldQueue_back x_back_w x_back_R D q_cl (x_tys kc) (x_wf a kc) (x_as a) a [gz_r 0, gz_i v1, gz_i v2] u (x_back_r u v1 v2) (x_back_s u v1 v2) := gz_metI (by decide) rfl (x_has a kc) (Nat.le_of_ble_eq_true rfl) rfl (x_back_d u v1 v2 hp ⟨rfl, rfl⟩) (fun p e s m below meth c F => x_back_o (Kr := fun r z => r = some (x_back_r u v1 v2) ∧ z = (x_back_s u v1 v2)) D a kc F)
-- HoldQueue.untie(II)V
def x_untie_w : List Cond := Cond.code y_HoldQueue_untie c_HoldQueue_untie 3 none :: lw_gd
theorem x_untie_k : Cond.code y_HoldQueue_untie c_HoldQueue_untie 3 none ∈ lw_gd := wi_233
theorem x_untie_sl : Cond.selects R_HoldQueue y_HoldQueue_untie y_HoldQueue_untie ∈ lw_gd := by decide +kernel
abbrev x_untie_R : Room := { frames := 0, cells := 0, slots := 0, locals := 0 }
set_option maxRecDepth 100000 in
set_option maxHeartbeats 4000000 in
theorem x_untie_o (D : va_G) (a : Nat → Nat) (kc : Nat → ClassId) (F : gz_F p s m args meth c c_HoldQueue_untie 3 none x_untie_w R_HoldQueue) : gz_oks (gz_Z p l e x_untie_R s m args below meth c 0 0 (MQ below (va_Qv (fun z => Kr none z) (gz_B D q_cl (x_tys kc) (x_wf a kc) (gz_A (x_as a) s.heap.size)) (gz_A (x_as a) s.heap.size)) args s 0 0 (gz_A (x_as a) s.heap.size)) 3 a (gz_GG D q_cl (x_tys kc) (gz_A (x_as a) s.heap.size) s (x_wf a kc))) Kr x_untie_t := by
  refine And.intro (gz_o_aload_n F.1 F.2.1 0 d_HoldQueue_untie_0 rfl) ?_
  refine And.intro (gz_o_getR (xg__HoldQueue_27 F d_HoldQueue_untie_1)) ?_
  refine And.intro (gz_o_getR (xg__HoldQueue_101 F d_HoldQueue_untie_4)) ?_
  refine And.intro (gz_o_iload_n F.1 F.2.1 1 d_HoldQueue_untie_7 rfl) ?_
  refine And.intro (gz_o_iconst F.1 F.2.1 0 d_HoldQueue_untie_8 (by decide)) ?_
  refine And.intro (gz_o_ist (x_ist F d_HoldQueue_untie_9)) ?_
  refine And.intro (gz_o_aload_n F.1 F.2.1 0 d_HoldQueue_untie_10 rfl) ?_
  refine And.intro (gz_o_getR (xg__HoldQueue_34 F d_HoldQueue_untie_11)) ?_
  refine And.intro (gz_o_getR (xg__HoldQueue_111 F d_HoldQueue_untie_14)) ?_
  refine And.intro (gz_o_iload_n F.1 F.2.1 2 d_HoldQueue_untie_17 rfl) ?_
  refine And.intro (gz_o_iconst F.1 F.2.1 0 d_HoldQueue_untie_18 (by decide)) ?_
  refine And.intro (gz_o_ist (x_ist F d_HoldQueue_untie_19)) ?_
  refine And.intro (gz_o_vret (gz_e_v (post := Kr) F d_HoldQueue_untie_20)) ?_
  exact trivial
set_option maxRecDepth 100000 in
set_option maxHeartbeats 4000000 in
theorem x_untie_c (l : Launch) (D : va_G) (a : Nat → Nat) (kc : Nat → ClassId) (u : q_S) (v1 : Int32) (v2 : Int32) (hp : x_untie_p u v1 v2) : gz_MV l y_HoldQueue_untie x_untie_w x_untie_R D q_cl (x_tys kc) (x_wf a kc) (x_as a) a [gz_r 0, gz_i v1, gz_i v2] u (x_untie u v1 v2) := gz_metV (by decide) rfl (x_has a kc) (Nat.le_of_ble_eq_true rfl) rfl (x_untie_d u v1 v2 hp ⟨rfl, rfl⟩) (fun p e s m below meth c F => x_untie_o (Kr := fun r z => r = none ∧ z = (x_untie u v1 v2)) D a kc F)
-- HoldQueue.arrive(I)I
def x_arrive_w : List Cond := Cond.code y_HoldQueue_arrive c_HoldQueue_arrive 3 (some .int) :: lw_gd
theorem x_arrive_k : Cond.code y_HoldQueue_arrive c_HoldQueue_arrive 3 (some .int) ∈ lw_gd := wi_229
theorem x_arrive_sl : Cond.selects R_HoldQueue y_HoldQueue_arrive y_HoldQueue_arrive ∈ lw_gd := wi_228
abbrev x_arrive_R : Room := { frames := 3, cells := 0, slots := 0, locals := 120 }
set_option maxRecDepth 100000 in
set_option maxHeartbeats 4000000 in
theorem x_arrive_o (D : va_G) (a : Nat → Nat) (kc : Nat → ClassId) (F : gz_F p s m args meth c c_HoldQueue_arrive 3 (some .int) x_arrive_w R_HoldQueue) : gz_oks (gz_Z p l e x_arrive_R s m args below meth c 0 0 (MQ below (va_Qi (fun r z => Kr (some r) z) (gz_B D q_cl (x_tys kc) (x_wf a kc) (gz_A (x_as a) s.heap.size)) (gz_A (x_as a) s.heap.size)) args s 0 0 (gz_A (x_as a) s.heap.size)) 3 a (gz_GG D q_cl (x_tys kc) (gz_A (x_as a) s.heap.size) s (x_wf a kc))) Kr x_arrive_t := by
  refine And.intro (gz_o_aload_n F.1 F.2.1 0 d_HoldQueue_arrive_0 rfl) ?_
  refine And.intro (gz_o_getR (xg__HoldQueue_27 F d_HoldQueue_arrive_1)) ?_
  refine And.intro (gz_o_iload_n F.1 F.2.1 1 d_HoldQueue_arrive_4 rfl) ?_
  refine And.intro (gz_o_iconst F.1 F.2.1 2 d_HoldQueue_arrive_5 (by decide)) ?_
  refine And.intro (gz_o_c2P (fun u x y hp => gz_cbI (x_has a kc) (fun _ h => Or.inr h) (gz_runN (bs := [gz_i x, gz_i y]) F.2.2.2.2.2.2.2 ⟨F.1, F.2.1, F.2.2.2.1, F.2.2.2.2.1, gz_hts F⟩ (xc_isIn_c l D a kc u x y hp) ⟨va_cnB 2 (gz_hts F) (gz_gN lw_good xc_isIn_k) rfl rfl rfl (gz_nwF F (.methodLinkNest R_HoldQueue 97 y_HoldQueue_Copies_isIn "HoldQueue") (by decide +kernel)) (gz_hts F (.initialized R_HoldQueue_Copies) wi_2) (by decide +kernel) ⟨Nat.le_of_ble_eq_true rfl, Nat.le_of_ble_eq_true rfl⟩, gz_hts F (.instanceMethod y_HoldQueue_Copies_isIn) wi_220, gz_hts F (.selects R_HoldQueue_Copies y_HoldQueue_Copies_isIn y_HoldQueue_Copies_isIn) xc_isIn_sl⟩ rfl 1 rfl rfl d_HoldQueue_arrive_6 ⟨Nat.le_of_ble_eq_true rfl, Nat.le_of_ble_eq_true rfl⟩))) ?_
  refine And.intro (gz_o_if_ne F.1 F.2.1 14 d_HoldQueue_arrive_9 (by decide)) ?_
  refine And.intro (gz_o_iconst F.1 F.2.1 (-1) d_HoldQueue_arrive_12 (by decide)) ?_
  refine And.intro (gz_o_iret (gz_e_i (post := Kr) F d_HoldQueue_arrive_13)) ?_
  refine And.intro (gz_o_aload_n F.1 F.2.1 0 d_HoldQueue_arrive_14 rfl) ?_
  refine And.intro (gz_o_getR (xg__HoldQueue_27 F d_HoldQueue_arrive_15)) ?_
  refine And.intro (gz_o_getR (xg__HoldQueue_101 F d_HoldQueue_arrive_18)) ?_
  refine And.intro (gz_o_iload_n F.1 F.2.1 1 d_HoldQueue_arrive_21 rfl) ?_
  refine And.intro (gz_o_ild (x_ild F d_HoldQueue_arrive_22)) ?_
  refine And.intro (gz_o_istore_n F.1 F.2.1 2 d_HoldQueue_arrive_23 rfl (by decide)) ?_
  refine And.intro (gz_o_aload_n F.1 F.2.1 0 d_HoldQueue_arrive_24 rfl) ?_
  refine And.intro (gz_o_getR (xg__HoldQueue_34 F d_HoldQueue_arrive_25)) ?_
  refine And.intro (gz_o_iload_n F.1 F.2.1 2 d_HoldQueue_arrive_28 rfl) ?_
  refine And.intro (gz_o_iconst F.1 F.2.1 1 d_HoldQueue_arrive_29 (by decide)) ?_
  refine And.intro (gz_o_c2P (fun u x y hp => gz_cbI (x_has a kc) (fun _ h => Or.inr h) (gz_runN (bs := [gz_i x, gz_i y]) F.2.2.2.2.2.2.2 ⟨F.1, F.2.1, F.2.2.2.1, F.2.2.2.2.1, gz_hts F⟩ (xh_isIn_c l D a kc u x y hp) ⟨va_cnB 2 (gz_hts F) (gz_gN lw_good xh_isIn_k) rfl rfl rfl (gz_nwF F (.methodLinkNest R_HoldQueue 90 y_HoldQueue_Holds_isIn "HoldQueue") (by decide +kernel)) (gz_hts F (.initialized R_HoldQueue_Holds) wi_3) (by decide +kernel) ⟨Nat.le_of_ble_eq_true rfl, Nat.le_of_ble_eq_true rfl⟩, gz_hts F (.instanceMethod y_HoldQueue_Holds_isIn) wi_159, gz_hts F (.selects R_HoldQueue_Holds y_HoldQueue_Holds_isIn y_HoldQueue_Holds_isIn) xh_isIn_sl⟩ rfl 2 rfl rfl d_HoldQueue_arrive_30 ⟨Nat.le_of_ble_eq_true rfl, Nat.le_of_ble_eq_true rfl⟩))) ?_
  refine And.intro (gz_o_if_eq F.1 F.2.1 44 d_HoldQueue_arrive_33 (by decide)) ?_
  refine And.intro (gz_o_aload_n F.1 F.2.1 0 d_HoldQueue_arrive_36 rfl) ?_
  refine And.intro (gz_o_iload_n F.1 F.2.1 1 d_HoldQueue_arrive_37 rfl) ?_
  refine And.intro (gz_o_iload_n F.1 F.2.1 2 d_HoldQueue_arrive_38 rfl) ?_
  refine And.intro (gz_o_c2V (fun u x y hp => gz_cbV (x_has a kc) (fun _ h => Or.inr h) (gz_runV (bs := [gz_i x, gz_i y]) F.2.2.2.2.2.2.2 ⟨F.1, F.2.1, F.2.2.2.1, F.2.2.2.2.1, gz_hts F⟩ (x_layReady_c l D a kc u x y hp) (cwV 2 (gz_hts F) (gz_gV lw_good wi_197 wi_199 x_layReady_sl wi_1 x_layReady_k) rfl rfl rfl (by decide +kernel) ⟨Nat.le_of_ble_eq_true rfl, Nat.le_of_ble_eq_true rfl⟩) rfl 0 rfl rfl d_HoldQueue_arrive_39 ⟨Nat.le_of_ble_eq_true rfl, Nat.le_of_ble_eq_true rfl⟩))) ?_
  refine And.intro (gz_o_iconst F.1 F.2.1 1 d_HoldQueue_arrive_42 (by decide)) ?_
  refine And.intro (gz_o_iret (gz_e_i (post := Kr) F d_HoldQueue_arrive_43)) ?_
  refine And.intro (gz_o_aload_n F.1 F.2.1 0 d_HoldQueue_arrive_44 rfl) ?_
  refine And.intro (gz_o_iload_n F.1 F.2.1 1 d_HoldQueue_arrive_45 rfl) ?_
  refine And.intro (gz_o_iload_n F.1 F.2.1 2 d_HoldQueue_arrive_46 rfl) ?_
  refine And.intro (gz_o_c2V (fun u x y hp => gz_cbV (x_has a kc) (fun _ h => Or.inr h) (gz_runV (bs := [gz_i x, gz_i y]) F.2.2.2.2.2.2.2 ⟨F.1, F.2.1, F.2.2.2.1, F.2.2.2.2.1, gz_hts F⟩ (x_untie_c l D a kc u x y hp) (cwV 2 (gz_hts F) (gz_gV lw_good wi_230 wi_232 x_untie_sl wi_1 x_untie_k) rfl rfl rfl (by decide +kernel) ⟨Nat.le_of_ble_eq_true rfl, Nat.le_of_ble_eq_true rfl⟩) rfl 0 rfl rfl d_HoldQueue_arrive_47 ⟨Nat.le_of_ble_eq_true rfl, Nat.le_of_ble_eq_true rfl⟩))) ?_
  refine And.intro (gz_o_aload_n F.1 F.2.1 0 d_HoldQueue_arrive_50 rfl) ?_
  refine And.intro (gz_o_iload_n F.1 F.2.1 1 d_HoldQueue_arrive_51 rfl) ?_
  refine And.intro (gz_o_c1I (fun u x hp => gz_cbI (x_has a kc) (fun _ h => Or.inr h) (gz_runV (bs := [gz_i x]) F.2.2.2.2.2.2.2 ⟨F.1, F.2.1, F.2.2.2.1, F.2.2.2.2.1, gz_hts F⟩ (x_settle_c l D a kc u x hp) (cwV 1 (gz_hts F) (gz_gV lw_good wi_181 wi_183 x_settle_sl wi_1 x_settle_k) rfl rfl rfl (by decide +kernel) ⟨Nat.le_of_ble_eq_true rfl, Nat.le_of_ble_eq_true rfl⟩) rfl 0 rfl rfl d_HoldQueue_arrive_52 ⟨Nat.le_of_ble_eq_true rfl, Nat.le_of_ble_eq_true rfl⟩))) ?_
  refine And.intro (gz_o_pop F.1 F.2.1 d_HoldQueue_arrive_55) ?_
  refine And.intro (gz_o_iconst F.1 F.2.1 0 d_HoldQueue_arrive_56 (by decide)) ?_
  refine And.intro (gz_o_iret (gz_e_i (post := Kr) F d_HoldQueue_arrive_57)) ?_
  exact trivial
set_option maxRecDepth 100000 in
set_option maxHeartbeats 4000000 in
theorem x_arrive_c (l : Launch) (D : va_G) (a : Nat → Nat) (kc : Nat → ClassId) (u : q_S) (v1 : Int32) (hp : x_arrive_p u v1) : gz_MI l y_HoldQueue_arrive x_arrive_w x_arrive_R D q_cl (x_tys kc) (x_wf a kc) (x_as a) a [gz_r 0, gz_i v1] u (x_arrive_r u v1) (x_arrive_s u v1) := gz_metI (by decide) rfl (x_has a kc) (Nat.le_of_ble_eq_true rfl) rfl (x_arrive_d u v1 hp ⟨rfl, rfl⟩) (fun p e s m below meth c F => x_arrive_o (Kr := fun r z => r = some (x_arrive_r u v1) ∧ z = (x_arrive_s u v1)) D a kc F)
-- HoldQueue.pick(I)I
def x_pick_w : List Cond := Cond.code y_HoldQueue_pick c_HoldQueue_pick 3 (some .int) :: lw_gd
theorem x_pick_k : Cond.code y_HoldQueue_pick c_HoldQueue_pick 3 (some .int) ∈ lw_gd := wi_237
theorem x_pick_sl : Cond.selects R_HoldQueue y_HoldQueue_pick y_HoldQueue_pick ∈ lw_gd := wi_236
abbrev x_pick_R : Room := { frames := 2, cells := 0, slots := 0, locals := 80 }
set_option maxRecDepth 100000 in
set_option maxHeartbeats 4000000 in
theorem x_pick_o (D : va_G) (a : Nat → Nat) (kc : Nat → ClassId) (F : gz_F p s m args meth c c_HoldQueue_pick 3 (some .int) x_pick_w R_HoldQueue) : gz_oks (gz_Z p l e x_pick_R s m args below meth c 0 0 (MQ below (va_Qi (fun r z => Kr (some r) z) (gz_B D q_cl (x_tys kc) (x_wf a kc) (gz_A (x_as a) s.heap.size)) (gz_A (x_as a) s.heap.size)) args s 0 0 (gz_A (x_as a) s.heap.size)) 3 a (gz_GG D q_cl (x_tys kc) (gz_A (x_as a) s.heap.size) s (x_wf a kc))) Kr x_pick_t := by
  refine And.intro (gz_o_aload_n F.1 F.2.1 0 d_HoldQueue_pick_0 rfl) ?_
  refine And.intro (gz_o_getR (xg__HoldQueue_34 F d_HoldQueue_pick_1)) ?_
  refine And.intro (gz_o_iload_n F.1 F.2.1 1 d_HoldQueue_pick_4 rfl) ?_
  refine And.intro (gz_o_iconst F.1 F.2.1 2 d_HoldQueue_pick_5 (by decide)) ?_
  refine And.intro (gz_o_c2P (fun u x y hp => gz_cbI (x_has a kc) (fun _ h => Or.inr h) (gz_runN (bs := [gz_i x, gz_i y]) F.2.2.2.2.2.2.2 ⟨F.1, F.2.1, F.2.2.2.1, F.2.2.2.2.1, gz_hts F⟩ (xh_isIn_c l D a kc u x y hp) ⟨va_cnB 2 (gz_hts F) (gz_gN lw_good xh_isIn_k) rfl rfl rfl (gz_nwF F (.methodLinkNest R_HoldQueue 90 y_HoldQueue_Holds_isIn "HoldQueue") (by decide +kernel)) (gz_hts F (.initialized R_HoldQueue_Holds) wi_3) (by decide +kernel) ⟨Nat.le_of_ble_eq_true rfl, Nat.le_of_ble_eq_true rfl⟩, gz_hts F (.instanceMethod y_HoldQueue_Holds_isIn) wi_159, gz_hts F (.selects R_HoldQueue_Holds y_HoldQueue_Holds_isIn y_HoldQueue_Holds_isIn) xh_isIn_sl⟩ rfl 2 rfl rfl d_HoldQueue_pick_6 ⟨Nat.le_of_ble_eq_true rfl, Nat.le_of_ble_eq_true rfl⟩))) ?_
  refine And.intro (gz_o_if_ne F.1 F.2.1 14 d_HoldQueue_pick_9 (by decide)) ?_
  refine And.intro (gz_o_iconst F.1 F.2.1 0 d_HoldQueue_pick_12 (by decide)) ?_
  refine And.intro (gz_o_iret (gz_e_i (post := Kr) F d_HoldQueue_pick_13)) ?_
  refine And.intro (gz_o_aload_n F.1 F.2.1 0 d_HoldQueue_pick_14 rfl) ?_
  refine And.intro (gz_o_getR (xg__HoldQueue_34 F d_HoldQueue_pick_15)) ?_
  refine And.intro (gz_o_getR (xg__HoldQueue_111 F d_HoldQueue_pick_18)) ?_
  refine And.intro (gz_o_iload_n F.1 F.2.1 1 d_HoldQueue_pick_21 rfl) ?_
  refine And.intro (gz_o_ild (x_ild F d_HoldQueue_pick_22)) ?_
  refine And.intro (gz_o_istore_n F.1 F.2.1 2 d_HoldQueue_pick_23 rfl (by decide)) ?_
  refine And.intro (gz_o_aload_n F.1 F.2.1 0 d_HoldQueue_pick_24 rfl) ?_
  refine And.intro (gz_o_getR (xg__HoldQueue_34 F d_HoldQueue_pick_25)) ?_
  refine And.intro (gz_o_getR (xg__HoldQueue_114 F d_HoldQueue_pick_28)) ?_
  refine And.intro (gz_o_iload_n F.1 F.2.1 1 d_HoldQueue_pick_31 rfl) ?_
  refine And.intro (gz_o_iconst F.1 F.2.1 3 d_HoldQueue_pick_32 (by decide)) ?_
  refine And.intro (gz_o_ist (x_ist F d_HoldQueue_pick_33)) ?_
  refine And.intro (gz_o_aload_n F.1 F.2.1 0 d_HoldQueue_pick_34 rfl) ?_
  refine And.intro (gz_o_iload_n F.1 F.2.1 2 d_HoldQueue_pick_35 rfl) ?_
  refine And.intro (gz_o_iload_n F.1 F.2.1 1 d_HoldQueue_pick_36 rfl) ?_
  refine And.intro (gz_o_c2V (fun u x y hp => gz_cbV (x_has a kc) (fun _ h => Or.inr h) (gz_runV (bs := [gz_i x, gz_i y]) F.2.2.2.2.2.2.2 ⟨F.1, F.2.1, F.2.2.2.1, F.2.2.2.2.1, gz_hts F⟩ (x_untie_c l D a kc u x y hp) (cwV 2 (gz_hts F) (gz_gV lw_good wi_230 wi_232 x_untie_sl wi_1 x_untie_k) rfl rfl rfl (by decide +kernel) ⟨Nat.le_of_ble_eq_true rfl, Nat.le_of_ble_eq_true rfl⟩) rfl 0 rfl rfl d_HoldQueue_pick_37 ⟨Nat.le_of_ble_eq_true rfl, Nat.le_of_ble_eq_true rfl⟩))) ?_
  refine And.intro (gz_o_aload_n F.1 F.2.1 0 d_HoldQueue_pick_40 rfl) ?_
  refine And.intro (gz_o_getR (xg__HoldQueue_27 F d_HoldQueue_pick_41)) ?_
  refine And.intro (gz_o_getR (xg__HoldQueue_117 F d_HoldQueue_pick_44)) ?_
  refine And.intro (gz_o_iload_n F.1 F.2.1 2 d_HoldQueue_pick_47 rfl) ?_
  refine And.intro (gz_o_iconst F.1 F.2.1 1 d_HoldQueue_pick_48 (by decide)) ?_
  refine And.intro (gz_o_ist (x_ist F d_HoldQueue_pick_49)) ?_
  refine And.intro (gz_o_iload_n F.1 F.2.1 2 d_HoldQueue_pick_50 rfl) ?_
  refine And.intro (gz_o_iret (gz_e_i (post := Kr) F d_HoldQueue_pick_51)) ?_
  exact trivial
set_option maxRecDepth 100000 in
set_option maxHeartbeats 4000000 in
theorem x_pick_c (l : Launch) (D : va_G) (a : Nat → Nat) (kc : Nat → ClassId) (u : q_S) (v1 : Int32) (hp : x_pick_p u v1) : gz_MI l y_HoldQueue_pick x_pick_w x_pick_R D q_cl (x_tys kc) (x_wf a kc) (x_as a) a [gz_r 0, gz_i v1] u (x_pick_r u v1) (x_pick_s u v1) := gz_metI (by decide) rfl (x_has a kc) (Nat.le_of_ble_eq_true rfl) rfl (x_pick_d u v1 hp ⟨rfl, rfl⟩) (fun p e s m below meth c F => x_pick_o (Kr := fun r z => r = some (x_pick_r u v1) ∧ z = (x_pick_s u v1)) D a kc F)
-- HoldQueue.lend(I)I
def x_lend_w : List Cond := Cond.code y_HoldQueue_lend c_HoldQueue_lend 2 (some .int) :: lw_gd
theorem x_lend_k : Cond.code y_HoldQueue_lend c_HoldQueue_lend 2 (some .int) ∈ lw_gd := wi_241
theorem x_lend_sl : Cond.selects R_HoldQueue y_HoldQueue_lend y_HoldQueue_lend ∈ lw_gd := wi_240
abbrev x_lend_R : Room := { frames := 2, cells := 0, slots := 0, locals := 80 }
set_option maxRecDepth 100000 in
set_option maxHeartbeats 4000000 in
theorem x_lend_o (D : va_G) (a : Nat → Nat) (kc : Nat → ClassId) (F : gz_F p s m args meth c c_HoldQueue_lend 2 (some .int) x_lend_w R_HoldQueue) : gz_oks (gz_Z p l e x_lend_R s m args below meth c 0 0 (MQ below (va_Qi (fun r z => Kr (some r) z) (gz_B D q_cl (x_tys kc) (x_wf a kc) (gz_A (x_as a) s.heap.size)) (gz_A (x_as a) s.heap.size)) args s 0 0 (gz_A (x_as a) s.heap.size)) 2 a (gz_GG D q_cl (x_tys kc) (gz_A (x_as a) s.heap.size) s (x_wf a kc))) Kr x_lend_t := by
  refine And.intro (gz_o_aload_n F.1 F.2.1 0 d_HoldQueue_lend_0 rfl) ?_
  refine And.intro (gz_o_getR (xg__HoldQueue_27 F d_HoldQueue_lend_1)) ?_
  refine And.intro (gz_o_iload_n F.1 F.2.1 1 d_HoldQueue_lend_4 rfl) ?_
  refine And.intro (gz_o_iconst F.1 F.2.1 0 d_HoldQueue_lend_5 (by decide)) ?_
  refine And.intro (gz_o_c2P (fun u x y hp => gz_cbI (x_has a kc) (fun _ h => Or.inr h) (gz_runN (bs := [gz_i x, gz_i y]) F.2.2.2.2.2.2.2 ⟨F.1, F.2.1, F.2.2.2.1, F.2.2.2.2.1, gz_hts F⟩ (xc_isIn_c l D a kc u x y hp) ⟨va_cnB 2 (gz_hts F) (gz_gN lw_good xc_isIn_k) rfl rfl rfl (gz_nwF F (.methodLinkNest R_HoldQueue 97 y_HoldQueue_Copies_isIn "HoldQueue") (by decide +kernel)) (gz_hts F (.initialized R_HoldQueue_Copies) wi_2) (by decide +kernel) ⟨Nat.le_of_ble_eq_true rfl, Nat.le_of_ble_eq_true rfl⟩, gz_hts F (.instanceMethod y_HoldQueue_Copies_isIn) wi_220, gz_hts F (.selects R_HoldQueue_Copies y_HoldQueue_Copies_isIn y_HoldQueue_Copies_isIn) xc_isIn_sl⟩ rfl 1 rfl rfl d_HoldQueue_lend_6 ⟨Nat.le_of_ble_eq_true rfl, Nat.le_of_ble_eq_true rfl⟩))) ?_
  refine And.intro (gz_o_if_ne F.1 F.2.1 14 d_HoldQueue_lend_9 (by decide)) ?_
  refine And.intro (gz_o_iconst F.1 F.2.1 0 d_HoldQueue_lend_12 (by decide)) ?_
  refine And.intro (gz_o_iret (gz_e_i (post := Kr) F d_HoldQueue_lend_13)) ?_
  refine And.intro (gz_o_aload_n F.1 F.2.1 0 d_HoldQueue_lend_14 rfl) ?_
  refine And.intro (gz_o_getR (xg__HoldQueue_27 F d_HoldQueue_lend_15)) ?_
  refine And.intro (gz_o_getR (xg__HoldQueue_117 F d_HoldQueue_lend_18)) ?_
  refine And.intro (gz_o_iload_n F.1 F.2.1 1 d_HoldQueue_lend_21 rfl) ?_
  refine And.intro (gz_o_iconst F.1 F.2.1 1 d_HoldQueue_lend_22 (by decide)) ?_
  refine And.intro (gz_o_ist (x_ist F d_HoldQueue_lend_23)) ?_
  refine And.intro (gz_o_iconst F.1 F.2.1 1 d_HoldQueue_lend_24 (by decide)) ?_
  refine And.intro (gz_o_iret (gz_e_i (post := Kr) F d_HoldQueue_lend_25)) ?_
  exact trivial
set_option maxRecDepth 100000 in
set_option maxHeartbeats 4000000 in
theorem x_lend_c (l : Launch) (D : va_G) (a : Nat → Nat) (kc : Nat → ClassId) (u : q_S) (v1 : Int32) (hp : x_lend_p u v1) : gz_MI l y_HoldQueue_lend x_lend_w x_lend_R D q_cl (x_tys kc) (x_wf a kc) (x_as a) a [gz_r 0, gz_i v1] u (x_lend_r u v1) (x_lend_s u v1) := gz_metI (by decide) rfl (x_has a kc) (Nat.le_of_ble_eq_true rfl) rfl (x_lend_d u v1 hp ⟨rfl, rfl⟩) (fun p e s m below meth c F => x_lend_o (Kr := fun r z => r = some (x_lend_r u v1) ∧ z = (x_lend_s u v1)) D a kc F)
-- HoldQueue.letGo(I)V
def x_letGo_w : List Cond := Cond.code y_HoldQueue_letGo c_HoldQueue_letGo 3 none :: lw_gd
theorem x_letGo_k : Cond.code y_HoldQueue_letGo c_HoldQueue_letGo 3 none ∈ lw_gd := wi_250
theorem x_letGo_sl : Cond.selects R_HoldQueue y_HoldQueue_letGo y_HoldQueue_letGo ∈ lw_gd := by decide +kernel
abbrev x_letGo_R : Room := { frames := 3, cells := 0, slots := 0, locals := 120 }
set_option maxRecDepth 100000 in
set_option maxHeartbeats 4000000 in
theorem x_letGo_o (D : va_G) (a : Nat → Nat) (kc : Nat → ClassId) (F : gz_F p s m args meth c c_HoldQueue_letGo 3 none x_letGo_w R_HoldQueue) : gz_oks (gz_Z p l e x_letGo_R s m args below meth c 0 0 (MQ below (va_Qv (fun z => Kr none z) (gz_B D q_cl (x_tys kc) (x_wf a kc) (gz_A (x_as a) s.heap.size)) (gz_A (x_as a) s.heap.size)) args s 0 0 (gz_A (x_as a) s.heap.size)) 3 a (gz_GG D q_cl (x_tys kc) (gz_A (x_as a) s.heap.size) s (x_wf a kc))) Kr x_letGo_t := by
  refine And.intro (gz_o_aload_n F.1 F.2.1 0 d_HoldQueue_letGo_0 rfl) ?_
  refine And.intro (gz_o_getR (xg__HoldQueue_34 F d_HoldQueue_letGo_1)) ?_
  refine And.intro (gz_o_getR (xg__HoldQueue_111 F d_HoldQueue_letGo_4)) ?_
  refine And.intro (gz_o_iload_n F.1 F.2.1 1 d_HoldQueue_letGo_7 rfl) ?_
  refine And.intro (gz_o_ild (x_ild F d_HoldQueue_letGo_8)) ?_
  refine And.intro (gz_o_istore_n F.1 F.2.1 2 d_HoldQueue_letGo_9 rfl (by decide)) ?_
  refine And.intro (gz_o_aload_n F.1 F.2.1 0 d_HoldQueue_letGo_10 rfl) ?_
  refine And.intro (gz_o_iload_n F.1 F.2.1 2 d_HoldQueue_letGo_11 rfl) ?_
  refine And.intro (gz_o_iload_n F.1 F.2.1 1 d_HoldQueue_letGo_12 rfl) ?_
  refine And.intro (gz_o_c2V (fun u x y hp => gz_cbV (x_has a kc) (fun _ h => Or.inr h) (gz_runV (bs := [gz_i x, gz_i y]) F.2.2.2.2.2.2.2 ⟨F.1, F.2.1, F.2.2.2.1, F.2.2.2.2.1, gz_hts F⟩ (x_untie_c l D a kc u x y hp) (cwV 2 (gz_hts F) (gz_gV lw_good wi_230 wi_232 x_untie_sl wi_1 x_untie_k) rfl rfl rfl (by decide +kernel) ⟨Nat.le_of_ble_eq_true rfl, Nat.le_of_ble_eq_true rfl⟩) rfl 0 rfl rfl d_HoldQueue_letGo_13 ⟨Nat.le_of_ble_eq_true rfl, Nat.le_of_ble_eq_true rfl⟩))) ?_
  refine And.intro (gz_o_aload_n F.1 F.2.1 0 d_HoldQueue_letGo_16 rfl) ?_
  refine And.intro (gz_o_iload_n F.1 F.2.1 2 d_HoldQueue_letGo_17 rfl) ?_
  refine And.intro (gz_o_c1I (fun u x hp => gz_cbI (x_has a kc) (fun _ h => Or.inr h) (gz_runV (bs := [gz_i x]) F.2.2.2.2.2.2.2 ⟨F.1, F.2.1, F.2.2.2.1, F.2.2.2.2.1, gz_hts F⟩ (x_settle_c l D a kc u x hp) (cwV 1 (gz_hts F) (gz_gV lw_good wi_181 wi_183 x_settle_sl wi_1 x_settle_k) rfl rfl rfl (by decide +kernel) ⟨Nat.le_of_ble_eq_true rfl, Nat.le_of_ble_eq_true rfl⟩) rfl 0 rfl rfl d_HoldQueue_letGo_18 ⟨Nat.le_of_ble_eq_true rfl, Nat.le_of_ble_eq_true rfl⟩))) ?_
  refine And.intro (gz_o_pop F.1 F.2.1 d_HoldQueue_letGo_21) ?_
  refine And.intro (gz_o_vret (gz_e_v (post := Kr) F d_HoldQueue_letGo_22)) ?_
  exact trivial
set_option maxRecDepth 100000 in
set_option maxHeartbeats 4000000 in
theorem x_letGo_c (l : Launch) (D : va_G) (a : Nat → Nat) (kc : Nat → ClassId) (u : q_S) (v1 : Int32) (hp : x_letGo_p u v1) : gz_MV l y_HoldQueue_letGo x_letGo_w x_letGo_R D q_cl (x_tys kc) (x_wf a kc) (x_as a) a [gz_r 0, gz_i v1] u (x_letGo u v1) := gz_metV (by decide) rfl (x_has a kc) (Nat.le_of_ble_eq_true rfl) rfl (x_letGo_d u v1 hp ⟨rfl, rfl⟩) (fun p e s m below meth c F => x_letGo_o (Kr := fun r z => r = none ∧ z = (x_letGo u v1)) D a kc F)
-- HoldQueue.cancel(I)I
def x_cancel_w : List Cond := Cond.code y_HoldQueue_cancel c_HoldQueue_cancel 3 (some .int) :: lw_gd
theorem x_cancel_k : Cond.code y_HoldQueue_cancel c_HoldQueue_cancel 3 (some .int) ∈ lw_gd := wi_245
theorem x_cancel_sl : Cond.selects R_HoldQueue y_HoldQueue_cancel y_HoldQueue_cancel ∈ lw_gd := wi_244
abbrev x_cancel_R : Room := { frames := 4, cells := 0, slots := 0, locals := 160 }
set_option maxRecDepth 100000 in
set_option maxHeartbeats 4000000 in
theorem x_cancel_o (D : va_G) (a : Nat → Nat) (kc : Nat → ClassId) (F : gz_F p s m args meth c c_HoldQueue_cancel 3 (some .int) x_cancel_w R_HoldQueue) : gz_oks (gz_Z p l e x_cancel_R s m args below meth c 0 0 (MQ below (va_Qi (fun r z => Kr (some r) z) (gz_B D q_cl (x_tys kc) (x_wf a kc) (gz_A (x_as a) s.heap.size)) (gz_A (x_as a) s.heap.size)) args s 0 0 (gz_A (x_as a) s.heap.size)) 3 a (gz_GG D q_cl (x_tys kc) (gz_A (x_as a) s.heap.size) s (x_wf a kc))) Kr x_cancel_t := by
  refine And.intro (gz_o_aload_n F.1 F.2.1 0 d_HoldQueue_cancel_0 rfl) ?_
  refine And.intro (gz_o_getR (xg__HoldQueue_34 F d_HoldQueue_cancel_1)) ?_
  refine And.intro (gz_o_iload_n F.1 F.2.1 1 d_HoldQueue_cancel_4 rfl) ?_
  refine And.intro (gz_o_c1P (fun u x hp => gz_cbI (x_has a kc) (fun _ h => Or.inr h) (gz_runN (bs := [gz_i x]) F.2.2.2.2.2.2.2 ⟨F.1, F.2.1, F.2.2.2.1, F.2.2.2.2.1, gz_hts F⟩ (xh_isOpen_c l D a kc u x hp) ⟨va_cnB 1 (gz_hts F) (gz_gN lw_good xh_isOpen_k) rfl rfl rfl (gz_nwF F (.methodLinkNest R_HoldQueue 118 y_HoldQueue_Holds_isOpen "HoldQueue") (by decide +kernel)) (gz_hts F (.initialized R_HoldQueue_Holds) wi_3) (by decide +kernel) ⟨Nat.le_of_ble_eq_true rfl, Nat.le_of_ble_eq_true rfl⟩, gz_hts F (.instanceMethod y_HoldQueue_Holds_isOpen) wi_155, gz_hts F (.selects R_HoldQueue_Holds y_HoldQueue_Holds_isOpen y_HoldQueue_Holds_isOpen) xh_isOpen_sl⟩ rfl 2 rfl rfl d_HoldQueue_cancel_5 ⟨Nat.le_of_ble_eq_true rfl, Nat.le_of_ble_eq_true rfl⟩))) ?_
  refine And.intro (gz_o_if_ne F.1 F.2.1 13 d_HoldQueue_cancel_8 (by decide)) ?_
  refine And.intro (gz_o_iconst F.1 F.2.1 0 d_HoldQueue_cancel_11 (by decide)) ?_
  refine And.intro (gz_o_iret (gz_e_i (post := Kr) F d_HoldQueue_cancel_12)) ?_
  refine And.intro (gz_o_aload_n F.1 F.2.1 0 d_HoldQueue_cancel_13 rfl) ?_
  refine And.intro (gz_o_getR (xg__HoldQueue_34 F d_HoldQueue_cancel_14)) ?_
  refine And.intro (gz_o_iload_n F.1 F.2.1 1 d_HoldQueue_cancel_17 rfl) ?_
  refine And.intro (gz_o_iconst F.1 F.2.1 2 d_HoldQueue_cancel_18 (by decide)) ?_
  refine And.intro (gz_o_c2P (fun u x y hp => gz_cbI (x_has a kc) (fun _ h => Or.inr h) (gz_runN (bs := [gz_i x, gz_i y]) F.2.2.2.2.2.2.2 ⟨F.1, F.2.1, F.2.2.2.1, F.2.2.2.2.1, gz_hts F⟩ (xh_isIn_c l D a kc u x y hp) ⟨va_cnB 2 (gz_hts F) (gz_gN lw_good xh_isIn_k) rfl rfl rfl (gz_nwF F (.methodLinkNest R_HoldQueue 90 y_HoldQueue_Holds_isIn "HoldQueue") (by decide +kernel)) (gz_hts F (.initialized R_HoldQueue_Holds) wi_3) (by decide +kernel) ⟨Nat.le_of_ble_eq_true rfl, Nat.le_of_ble_eq_true rfl⟩, gz_hts F (.instanceMethod y_HoldQueue_Holds_isIn) wi_159, gz_hts F (.selects R_HoldQueue_Holds y_HoldQueue_Holds_isIn y_HoldQueue_Holds_isIn) xh_isIn_sl⟩ rfl 2 rfl rfl d_HoldQueue_cancel_19 ⟨Nat.le_of_ble_eq_true rfl, Nat.le_of_ble_eq_true rfl⟩))) ?_
  refine And.intro (gz_o_istore_n F.1 F.2.1 2 d_HoldQueue_cancel_22 rfl (by decide)) ?_
  refine And.intro (gz_o_aload_n F.1 F.2.1 0 d_HoldQueue_cancel_23 rfl) ?_
  refine And.intro (gz_o_getR (xg__HoldQueue_34 F d_HoldQueue_cancel_24)) ?_
  refine And.intro (gz_o_getR (xg__HoldQueue_114 F d_HoldQueue_cancel_27)) ?_
  refine And.intro (gz_o_iload_n F.1 F.2.1 1 d_HoldQueue_cancel_30 rfl) ?_
  refine And.intro (gz_o_iconst F.1 F.2.1 5 d_HoldQueue_cancel_31 (by decide)) ?_
  refine And.intro (gz_o_ist (x_ist F d_HoldQueue_cancel_32)) ?_
  refine And.intro (gz_o_iload_n F.1 F.2.1 2 d_HoldQueue_cancel_33 rfl) ?_
  refine And.intro (gz_o_if_eq F.1 F.2.1 42 d_HoldQueue_cancel_34 (by decide)) ?_
  refine And.intro (gz_o_aload_n F.1 F.2.1 0 d_HoldQueue_cancel_37 rfl) ?_
  refine And.intro (gz_o_iload_n F.1 F.2.1 1 d_HoldQueue_cancel_38 rfl) ?_
  refine And.intro (gz_o_c1V (fun u x hp => gz_cbV (x_has a kc) (fun _ h => Or.inr h) (gz_runV (bs := [gz_i x]) F.2.2.2.2.2.2.2 ⟨F.1, F.2.1, F.2.2.2.1, F.2.2.2.2.1, gz_hts F⟩ (x_letGo_c l D a kc u x hp) (cwV 1 (gz_hts F) (gz_gV lw_good wi_247 wi_249 x_letGo_sl wi_1 x_letGo_k) rfl rfl rfl (by decide +kernel) ⟨Nat.le_of_ble_eq_true rfl, Nat.le_of_ble_eq_true rfl⟩) rfl 0 rfl rfl d_HoldQueue_cancel_39 ⟨Nat.le_of_ble_eq_true rfl, Nat.le_of_ble_eq_true rfl⟩))) ?_
  refine And.intro (gz_o_iconst F.1 F.2.1 1 d_HoldQueue_cancel_42 (by decide)) ?_
  refine And.intro (gz_o_iret (gz_e_i (post := Kr) F d_HoldQueue_cancel_43)) ?_
  exact trivial
set_option maxRecDepth 100000 in
set_option maxHeartbeats 4000000 in
theorem x_cancel_c (l : Launch) (D : va_G) (a : Nat → Nat) (kc : Nat → ClassId) (u : q_S) (v1 : Int32) (hp : x_cancel_p u v1) : gz_MI l y_HoldQueue_cancel x_cancel_w x_cancel_R D q_cl (x_tys kc) (x_wf a kc) (x_as a) a [gz_r 0, gz_i v1] u (x_cancel_r u v1) (x_cancel_s u v1) := gz_metI (by decide) rfl (x_has a kc) (Nat.le_of_ble_eq_true rfl) rfl (x_cancel_d u v1 hp ⟨rfl, rfl⟩) (fun p e s m below meth c F => x_cancel_o (Kr := fun r z => r = some (x_cancel_r u v1) ∧ z = (x_cancel_s u v1)) D a kc F)
-- HoldQueue.tick(J)I
def x_tick_w : List Cond := Cond.code y_HoldQueue_tick c_HoldQueue_tick 5 (some .int) :: lw_gd
theorem x_tick_k : Cond.code y_HoldQueue_tick c_HoldQueue_tick 5 (some .int) ∈ lw_gd := wi_254
theorem x_tick_sl : Cond.selects R_HoldQueue y_HoldQueue_tick y_HoldQueue_tick ∈ lw_gd := wi_253
abbrev x_tick_R : Room := { frames := 4, cells := 0, slots := 0, locals := 160 }
set_option maxRecDepth 100000 in
set_option maxHeartbeats 4000000 in
theorem x_tick_o (D : va_G) (a : Nat → Nat) (kc : Nat → ClassId) (F : gz_F p s m args meth c c_HoldQueue_tick 5 (some .int) x_tick_w R_HoldQueue) : gz_oks (gz_Z p l e x_tick_R s m args below meth c 0 0 (MQ below (va_Qi (fun r z => Kr (some r) z) (gz_B D q_cl (x_tys kc) (x_wf a kc) (gz_A (x_as a) s.heap.size)) (gz_A (x_as a) s.heap.size)) args s 0 0 (gz_A (x_as a) s.heap.size)) 5 a (gz_GG D q_cl (x_tys kc) (gz_A (x_as a) s.heap.size) s (x_wf a kc))) Kr x_tick_t := by
  refine And.intro (gz_o_lload_n F.1 F.2.1 1 d_HoldQueue_tick_0 rfl) ?_
  refine And.intro (gz_o_aload_n F.1 F.2.1 0 d_HoldQueue_tick_1 rfl) ?_
  refine And.intro (gz_o_getL (xg__HoldQueue_38 F d_HoldQueue_tick_2)) ?_
  refine And.intro (gz_o_lcmp F.1 F.2.1 d_HoldQueue_tick_5) ?_
  refine And.intro (gz_o_if_le F.1 F.2.1 17 d_HoldQueue_tick_6 (by decide)) ?_
  refine And.intro (gz_o_lload_n F.1 F.2.1 1 d_HoldQueue_tick_9 rfl) ?_
  refine And.intro (gz_o_ldc2 F.1 F.2.1 1000000000 F.2.2.2.2.1 (gz_hts F (.constantLong R_HoldQueue 125 1000000000) wi_255) d_HoldQueue_tick_10) ?_
  refine And.intro (gz_o_lcmp F.1 F.2.1 d_HoldQueue_tick_13) ?_
  refine And.intro (gz_o_if_le F.1 F.2.1 19 d_HoldQueue_tick_14 (by decide)) ?_
  refine And.intro (gz_o_iconst F.1 F.2.1 (-1) d_HoldQueue_tick_17 (by decide)) ?_
  refine And.intro (gz_o_iret (gz_e_i (post := Kr) F d_HoldQueue_tick_18)) ?_
  refine And.intro (gz_o_aload_n F.1 F.2.1 0 d_HoldQueue_tick_19 rfl) ?_
  refine And.intro (gz_o_lload_n F.1 F.2.1 1 d_HoldQueue_tick_20 rfl) ?_
  refine And.intro (gz_o_putL (xp__HoldQueue_38 F d_HoldQueue_tick_21)) ?_
  refine And.intro (gz_o_iconst F.1 F.2.1 0 d_HoldQueue_tick_24 (by decide)) ?_
  refine And.intro (gz_o_istore_n F.1 F.2.1 3 d_HoldQueue_tick_25 rfl (by decide)) ?_
  refine And.intro (gz_o_iconst F.1 F.2.1 1 d_HoldQueue_tick_26 (by decide)) ?_
  refine And.intro (gz_o_istore F.1 F.2.1 4 d_HoldQueue_tick_27 (by decide)) ?_
  refine And.intro (gz_o_iload F.1 F.2.1 4 d_HoldQueue_tick_29) ?_
  refine And.intro (gz_o_aload_n F.1 F.2.1 0 d_HoldQueue_tick_31 rfl) ?_
  refine And.intro (gz_o_getR (xg__HoldQueue_34 F d_HoldQueue_tick_32)) ?_
  refine And.intro (gz_o_getI (xg__HoldQueue_127 F d_HoldQueue_tick_35)) ?_
  refine And.intro (gz_o_ic_gt F.1 F.2.1 98 d_HoldQueue_tick_38 (by decide)) ?_
  refine And.intro (gz_o_aload_n F.1 F.2.1 0 d_HoldQueue_tick_41 rfl) ?_
  refine And.intro (gz_o_getR (xg__HoldQueue_34 F d_HoldQueue_tick_42)) ?_
  refine And.intro (gz_o_iload F.1 F.2.1 4 d_HoldQueue_tick_45) ?_
  refine And.intro (gz_o_iconst F.1 F.2.1 2 d_HoldQueue_tick_47 (by decide)) ?_
  refine And.intro (gz_o_c2P (fun u x y hp => gz_cbI (x_has a kc) (fun _ h => Or.inr h) (gz_runN (bs := [gz_i x, gz_i y]) F.2.2.2.2.2.2.2 ⟨F.1, F.2.1, F.2.2.2.1, F.2.2.2.2.1, gz_hts F⟩ (xh_isIn_c l D a kc u x y hp) ⟨va_cnB 2 (gz_hts F) (gz_gN lw_good xh_isIn_k) rfl rfl rfl (gz_nwF F (.methodLinkNest R_HoldQueue 90 y_HoldQueue_Holds_isIn "HoldQueue") (by decide +kernel)) (gz_hts F (.initialized R_HoldQueue_Holds) wi_3) (by decide +kernel) ⟨Nat.le_of_ble_eq_true rfl, Nat.le_of_ble_eq_true rfl⟩, gz_hts F (.instanceMethod y_HoldQueue_Holds_isIn) wi_159, gz_hts F (.selects R_HoldQueue_Holds y_HoldQueue_Holds_isIn y_HoldQueue_Holds_isIn) xh_isIn_sl⟩ rfl 2 rfl rfl d_HoldQueue_tick_48 ⟨Nat.le_of_ble_eq_true rfl, Nat.le_of_ble_eq_true rfl⟩))) ?_
  refine And.intro (gz_o_if_eq F.1 F.2.1 92 d_HoldQueue_tick_51 (by decide)) ?_
  refine And.intro (gz_o_aload_n F.1 F.2.1 0 d_HoldQueue_tick_54 rfl) ?_
  refine And.intro (gz_o_getR (xg__HoldQueue_34 F d_HoldQueue_tick_55)) ?_
  refine And.intro (gz_o_getR (xg__HoldQueue_130 F d_HoldQueue_tick_58)) ?_
  refine And.intro (gz_o_iload F.1 F.2.1 4 d_HoldQueue_tick_61) ?_
  refine And.intro (gz_o_lld (x_lld F d_HoldQueue_tick_63)) ?_
  refine And.intro (gz_o_aload_n F.1 F.2.1 0 d_HoldQueue_tick_64 rfl) ?_
  refine And.intro (gz_o_getL (xg__HoldQueue_38 F d_HoldQueue_tick_65)) ?_
  refine And.intro (gz_o_lcmp F.1 F.2.1 d_HoldQueue_tick_68) ?_
  refine And.intro (gz_o_if_ge F.1 F.2.1 92 d_HoldQueue_tick_69 (by decide)) ?_
  refine And.intro (gz_o_aload_n F.1 F.2.1 0 d_HoldQueue_tick_72 rfl) ?_
  refine And.intro (gz_o_getR (xg__HoldQueue_34 F d_HoldQueue_tick_73)) ?_
  refine And.intro (gz_o_getR (xg__HoldQueue_114 F d_HoldQueue_tick_76)) ?_
  refine And.intro (gz_o_iload F.1 F.2.1 4 d_HoldQueue_tick_79) ?_
  refine And.intro (gz_o_iconst F.1 F.2.1 4 d_HoldQueue_tick_81 (by decide)) ?_
  refine And.intro (gz_o_ist (x_ist F d_HoldQueue_tick_82)) ?_
  refine And.intro (gz_o_aload_n F.1 F.2.1 0 d_HoldQueue_tick_83 rfl) ?_
  refine And.intro (gz_o_iload F.1 F.2.1 4 d_HoldQueue_tick_84) ?_
  refine And.intro (gz_o_c1V (fun u x hp => gz_cbV (x_has a kc) (fun _ h => Or.inr h) (gz_runV (bs := [gz_i x]) F.2.2.2.2.2.2.2 ⟨F.1, F.2.1, F.2.2.2.1, F.2.2.2.2.1, gz_hts F⟩ (x_letGo_c l D a kc u x hp) (cwV 1 (gz_hts F) (gz_gV lw_good wi_247 wi_249 x_letGo_sl wi_1 x_letGo_k) rfl rfl rfl (by decide +kernel) ⟨Nat.le_of_ble_eq_true rfl, Nat.le_of_ble_eq_true rfl⟩) rfl 0 rfl rfl d_HoldQueue_tick_86 ⟨Nat.le_of_ble_eq_true rfl, Nat.le_of_ble_eq_true rfl⟩))) ?_
  refine And.intro (gz_o_iinc F.1 F.2.1 3 1 d_HoldQueue_tick_89 (by decide) (by decide)) ?_
  refine And.intro (gz_o_iinc F.1 F.2.1 4 1 d_HoldQueue_tick_92 (by decide) (by decide)) ?_
  refine And.intro (gz_o_goto F.1 F.2.1 29 d_HoldQueue_tick_95 (by decide)) ?_
  refine And.intro (gz_o_iload_n F.1 F.2.1 3 d_HoldQueue_tick_98 rfl) ?_
  refine And.intro (gz_o_iret (gz_e_i (post := Kr) F d_HoldQueue_tick_99)) ?_
  exact trivial
set_option maxRecDepth 100000 in
set_option maxHeartbeats 4000000 in
theorem x_tick_c (l : Launch) (D : va_G) (a : Nat → Nat) (kc : Nat → ClassId) (u : q_S) (v1 : Int64) (hp : x_tick_p u v1) : gz_MI l y_HoldQueue_tick x_tick_w x_tick_R D q_cl (x_tys kc) (x_wf a kc) (x_as a) a [gz_r 0, gz_l v1] u (x_tick_r u v1) (x_tick_s u v1) := gz_metI (by decide) rfl (x_has a kc) (Nat.le_of_ble_eq_true rfl) rfl (x_tick_d u v1 hp ⟨rfl, rfl⟩) (fun p e s m below meth c F => x_tick_o (Kr := fun r z => r = some (x_tick_r u v1) ∧ z = (x_tick_s u v1)) D a kc F)
-- HoldQueue.span(I)I
def x_span_w : List Cond := Cond.code y_HoldQueue_span c_HoldQueue_span 3 (some .int) :: lw_gd
theorem x_span_k : Cond.code y_HoldQueue_span c_HoldQueue_span 3 (some .int) ∈ lw_gd := wi_259
theorem x_span_sl : Cond.selects R_HoldQueue y_HoldQueue_span y_HoldQueue_span ∈ lw_gd := wi_258
abbrev x_span_R : Room := { frames := 0, cells := 0, slots := 0, locals := 0 }
set_option maxRecDepth 100000 in
set_option maxHeartbeats 4000000 in
theorem x_span_o (D : va_G) (a : Nat → Nat) (kc : Nat → ClassId) (F : gz_F p s m args meth c c_HoldQueue_span 3 (some .int) x_span_w R_HoldQueue) : gz_oks (gz_Z p l e x_span_R s m args below meth c 0 0 (MQ below (va_Qi (fun r z => Kr (some r) z) (gz_B D q_cl (x_tys kc) (x_wf a kc) (gz_A (x_as a) s.heap.size)) (gz_A (x_as a) s.heap.size)) args s 0 0 (gz_A (x_as a) s.heap.size)) 3 a (gz_GG D q_cl (x_tys kc) (gz_A (x_as a) s.heap.size) s (x_wf a kc))) Kr x_span_t := by
  refine And.intro (gz_o_iload_n F.1 F.2.1 1 d_HoldQueue_span_0 rfl) ?_
  refine And.intro (gz_o_iconst F.1 F.2.1 1 d_HoldQueue_span_1 (by decide)) ?_
  refine And.intro (gz_o_ic_lt F.1 F.2.1 11 d_HoldQueue_span_2 (by decide)) ?_
  refine And.intro (gz_o_iload_n F.1 F.2.1 1 d_HoldQueue_span_5 rfl) ?_
  refine And.intro (gz_o_bipush F.1 F.2.1 99 d_HoldQueue_span_6 (by decide)) ?_
  refine And.intro (gz_o_ic_le F.1 F.2.1 13 d_HoldQueue_span_8 (by decide)) ?_
  refine And.intro (gz_o_iconst F.1 F.2.1 (-1) d_HoldQueue_span_11 (by decide)) ?_
  refine And.intro (gz_o_iret (gz_e_i (post := Kr) F d_HoldQueue_span_12)) ?_
  refine And.intro (gz_o_aload_n F.1 F.2.1 0 d_HoldQueue_span_13 rfl) ?_
  refine And.intro (gz_o_getI (xg__HoldQueue_42 F d_HoldQueue_span_14)) ?_
  refine And.intro (gz_o_istore_n F.1 F.2.1 2 d_HoldQueue_span_17 rfl (by decide)) ?_
  refine And.intro (gz_o_aload_n F.1 F.2.1 0 d_HoldQueue_span_18 rfl) ?_
  refine And.intro (gz_o_iload_n F.1 F.2.1 1 d_HoldQueue_span_19 rfl) ?_
  refine And.intro (gz_o_putI (xp__HoldQueue_42 F d_HoldQueue_span_20)) ?_
  refine And.intro (gz_o_iload_n F.1 F.2.1 2 d_HoldQueue_span_23 rfl) ?_
  refine And.intro (gz_o_iret (gz_e_i (post := Kr) F d_HoldQueue_span_24)) ?_
  exact trivial
set_option maxRecDepth 100000 in
set_option maxHeartbeats 4000000 in
theorem x_span_c (l : Launch) (D : va_G) (a : Nat → Nat) (kc : Nat → ClassId) (u : q_S) (v1 : Int32) : gz_MI l y_HoldQueue_span x_span_w x_span_R D q_cl (x_tys kc) (x_wf a kc) (x_as a) a [gz_r 0, gz_i v1] u (x_span_r u v1) (x_span_s u v1) := gz_metI (by decide) rfl (x_has a kc) (Nat.le_of_ble_eq_true rfl) rfl (x_span_d u v1 ⟨rfl, rfl⟩) (fun p e s m below meth c F => x_span_o (Kr := fun r z => r = some (x_span_r u v1) ∧ z = (x_span_s u v1)) D a kc F)
-- HoldQueue$Holds.placeInQueue(I)I
def xh_placeInQueue_w : List Cond := Cond.code y_HoldQueue_Holds_placeInQueue c_HoldQueue_Holds_placeInQueue 4 (some .int) :: lw_gd
theorem xh_placeInQueue_k : Cond.code y_HoldQueue_Holds_placeInQueue c_HoldQueue_Holds_placeInQueue 4 (some .int) ∈ lw_gd := wi_267
theorem xh_placeInQueue_sl : Cond.selects R_HoldQueue_Holds y_HoldQueue_Holds_placeInQueue y_HoldQueue_Holds_placeInQueue ∈ lw_gd := by decide +kernel
abbrev xh_placeInQueue_R : Room := { frames := 1, cells := 0, slots := 0, locals := 40 }
set_option maxRecDepth 100000 in
set_option maxHeartbeats 4000000 in
theorem xh_placeInQueue_o (D : va_G) (a : Nat → Nat) (kc : Nat → ClassId) (F : gz_F p s m args meth c c_HoldQueue_Holds_placeInQueue 4 (some .int) xh_placeInQueue_w R_HoldQueue_Holds) : gz_oks (gz_Z p l e xh_placeInQueue_R s m args below meth c 0 0 (MQ below (va_Qi (fun r z => Kr (some r) z) (gz_B D q_cl (x_tys kc) (x_wf a kc) (gz_A (x_as a) s.heap.size)) (gz_A (x_as a) s.heap.size)) args s 0 0 (gz_A (x_as a) s.heap.size)) 4 a (gz_GG D q_cl (x_tys kc) (gz_A (x_as a) s.heap.size) s (x_wf a kc))) Kr xh_placeInQueue_t := by
  refine And.intro (gz_o_iconst F.1 F.2.1 0 d_HoldQueue_Holds_placeInQueue_0 (by decide)) ?_
  refine And.intro (gz_o_istore_n F.1 F.2.1 2 d_HoldQueue_Holds_placeInQueue_1 rfl (by decide)) ?_
  refine And.intro (gz_o_iconst F.1 F.2.1 1 d_HoldQueue_Holds_placeInQueue_2 (by decide)) ?_
  refine And.intro (gz_o_istore_n F.1 F.2.1 3 d_HoldQueue_Holds_placeInQueue_3 rfl (by decide)) ?_
  refine And.intro (gz_o_iload_n F.1 F.2.1 3 d_HoldQueue_Holds_placeInQueue_4 rfl) ?_
  refine And.intro (gz_o_aload_n F.1 F.2.1 0 d_HoldQueue_Holds_placeInQueue_5 rfl) ?_
  refine And.intro (gz_o_getI (xg__HoldQueue_Holds_9 F d_HoldQueue_Holds_placeInQueue_6)) ?_
  refine And.intro (gz_o_ic_gt F.1 F.2.1 44 d_HoldQueue_Holds_placeInQueue_9 (by decide)) ?_
  refine And.intro (gz_o_aload_n F.1 F.2.1 0 d_HoldQueue_Holds_placeInQueue_12 rfl) ?_
  refine And.intro (gz_o_iload_n F.1 F.2.1 3 d_HoldQueue_Holds_placeInQueue_13 rfl) ?_
  refine And.intro (gz_o_aload_n F.1 F.2.1 0 d_HoldQueue_Holds_placeInQueue_14 rfl) ?_
  refine And.intro (gz_o_getR (xg__HoldQueue_Holds_19 F d_HoldQueue_Holds_placeInQueue_15)) ?_
  refine And.intro (gz_o_iload_n F.1 F.2.1 1 d_HoldQueue_Holds_placeInQueue_18 rfl) ?_
  refine And.intro (gz_o_ild (x_ild F d_HoldQueue_Holds_placeInQueue_19)) ?_
  refine And.intro (gz_o_c2P (fun u x y hp => gz_cbI (x_has a kc) (fun _ h => Or.inr h) (gz_runV (bs := [gz_i x, gz_i y]) F.2.2.2.2.2.2.2 ⟨F.1, F.2.1, F.2.2.2.1, F.2.2.2.2.1, gz_hts F⟩ (xh_isQueued_c l D a kc u x y hp) (cwV 2 (gz_hts F) (gz_gV lw_good wi_189 wi_191 xh_isQueued_sl wi_3 xh_isQueued_k) rfl rfl rfl (by decide +kernel) ⟨Nat.le_of_ble_eq_true rfl, Nat.le_of_ble_eq_true rfl⟩) rfl 2 rfl rfl d_HoldQueue_Holds_placeInQueue_20 ⟨Nat.le_of_ble_eq_true rfl, Nat.le_of_ble_eq_true rfl⟩))) ?_
  refine And.intro (gz_o_if_eq F.1 F.2.1 38 d_HoldQueue_Holds_placeInQueue_23 (by decide)) ?_
  refine And.intro (gz_o_aload_n F.1 F.2.1 0 d_HoldQueue_Holds_placeInQueue_26 rfl) ?_
  refine And.intro (gz_o_iload_n F.1 F.2.1 3 d_HoldQueue_Holds_placeInQueue_27 rfl) ?_
  refine And.intro (gz_o_iload_n F.1 F.2.1 1 d_HoldQueue_Holds_placeInQueue_28 rfl) ?_
  refine And.intro (gz_o_c2P (fun u x y hp => gz_cbI (x_has a kc) (fun _ h => Or.inr h) (gz_runV (bs := [gz_i x, gz_i y]) F.2.2.2.2.2.2.2 ⟨F.1, F.2.1, F.2.2.2.1, F.2.2.2.2.1, gz_hts F⟩ (xh_comesBefore_c l D a kc u x y hp) (cwV 2 (gz_hts F) (gz_gV lw_good wi_193 wi_195 xh_comesBefore_sl wi_3 xh_comesBefore_k) rfl rfl rfl (by decide +kernel) ⟨Nat.le_of_ble_eq_true rfl, Nat.le_of_ble_eq_true rfl⟩) rfl 2 rfl rfl d_HoldQueue_Holds_placeInQueue_29 ⟨Nat.le_of_ble_eq_true rfl, Nat.le_of_ble_eq_true rfl⟩))) ?_
  refine And.intro (gz_o_if_eq F.1 F.2.1 38 d_HoldQueue_Holds_placeInQueue_32 (by decide)) ?_
  refine And.intro (gz_o_iinc F.1 F.2.1 2 1 d_HoldQueue_Holds_placeInQueue_35 (by decide) (by decide)) ?_
  refine And.intro (gz_o_iinc F.1 F.2.1 3 1 d_HoldQueue_Holds_placeInQueue_38 (by decide) (by decide)) ?_
  refine And.intro (gz_o_goto F.1 F.2.1 4 d_HoldQueue_Holds_placeInQueue_41 (by decide)) ?_
  refine And.intro (gz_o_iload_n F.1 F.2.1 2 d_HoldQueue_Holds_placeInQueue_44 rfl) ?_
  refine And.intro (gz_o_iret (gz_e_i (post := Kr) F d_HoldQueue_Holds_placeInQueue_45)) ?_
  exact trivial
set_option maxRecDepth 100000 in
set_option maxHeartbeats 4000000 in
theorem xh_placeInQueue_c (l : Launch) (D : va_G) (a : Nat → Nat) (kc : Nat → ClassId) (u : q_S) (v1 : Int32) (hp : xh_placeInQueue_p u v1) : gz_MI l y_HoldQueue_Holds_placeInQueue xh_placeInQueue_w xh_placeInQueue_R D q_cl (x_tys kc) (x_wf a kc) (x_as a) a [gz_r 2, gz_i v1] u (xh_placeInQueue u v1) u := gz_metI (by decide) rfl (x_has a kc) (Nat.le_of_ble_eq_true rfl) rfl (xh_placeInQueue_d u v1 hp ⟨rfl, rfl⟩) (fun p e s m below meth c F => xh_placeInQueue_o (Kr := fun r z => r = some (xh_placeInQueue u v1) ∧ z = u) D a kc F)
-- HoldQueue.rank(II)I
def x_rank_w : List Cond := Cond.code y_HoldQueue_rank c_HoldQueue_rank 3 (some .int) :: lw_gd
theorem x_rank_k : Cond.code y_HoldQueue_rank c_HoldQueue_rank 3 (some .int) ∈ lw_gd := wi_263
theorem x_rank_sl : Cond.selects R_HoldQueue y_HoldQueue_rank y_HoldQueue_rank ∈ lw_gd := wi_262
abbrev x_rank_R : Room := { frames := 2, cells := 0, slots := 0, locals := 80 }
set_option maxRecDepth 100000 in
set_option maxHeartbeats 4000000 in
theorem x_rank_o (D : va_G) (a : Nat → Nat) (kc : Nat → ClassId) (F : gz_F p s m args meth c c_HoldQueue_rank 3 (some .int) x_rank_w R_HoldQueue) : gz_oks (gz_Z p l e x_rank_R s m args below meth c 0 0 (MQ below (va_Qi (fun r z => Kr (some r) z) (gz_B D q_cl (x_tys kc) (x_wf a kc) (gz_A (x_as a) s.heap.size)) (gz_A (x_as a) s.heap.size)) args s 0 0 (gz_A (x_as a) s.heap.size)) 3 a (gz_GG D q_cl (x_tys kc) (gz_A (x_as a) s.heap.size) s (x_wf a kc))) Kr x_rank_t := by
  refine And.intro (gz_o_aload_n F.1 F.2.1 0 d_HoldQueue_rank_0 rfl) ?_
  refine And.intro (gz_o_getR (xg__HoldQueue_34 F d_HoldQueue_rank_1)) ?_
  refine And.intro (gz_o_iload_n F.1 F.2.1 1 d_HoldQueue_rank_4 rfl) ?_
  refine And.intro (gz_o_iconst F.1 F.2.1 0 d_HoldQueue_rank_5 (by decide)) ?_
  refine And.intro (gz_o_c2P (fun u x y hp => gz_cbI (x_has a kc) (fun _ h => Or.inr h) (gz_runN (bs := [gz_i x, gz_i y]) F.2.2.2.2.2.2.2 ⟨F.1, F.2.1, F.2.2.2.1, F.2.2.2.2.1, gz_hts F⟩ (xh_isIn_c l D a kc u x y hp) ⟨va_cnB 2 (gz_hts F) (gz_gN lw_good xh_isIn_k) rfl rfl rfl (gz_nwF F (.methodLinkNest R_HoldQueue 90 y_HoldQueue_Holds_isIn "HoldQueue") (by decide +kernel)) (gz_hts F (.initialized R_HoldQueue_Holds) wi_3) (by decide +kernel) ⟨Nat.le_of_ble_eq_true rfl, Nat.le_of_ble_eq_true rfl⟩, gz_hts F (.instanceMethod y_HoldQueue_Holds_isIn) wi_159, gz_hts F (.selects R_HoldQueue_Holds y_HoldQueue_Holds_isIn y_HoldQueue_Holds_isIn) xh_isIn_sl⟩ rfl 2 rfl rfl d_HoldQueue_rank_6 ⟨Nat.le_of_ble_eq_true rfl, Nat.le_of_ble_eq_true rfl⟩))) ?_
  refine And.intro (gz_o_if_ne F.1 F.2.1 14 d_HoldQueue_rank_9 (by decide)) ?_
  refine And.intro (gz_o_iconst F.1 F.2.1 (-1) d_HoldQueue_rank_12 (by decide)) ?_
  refine And.intro (gz_o_iret (gz_e_i (post := Kr) F d_HoldQueue_rank_13)) ?_
  refine And.intro (gz_o_aload_n F.1 F.2.1 0 d_HoldQueue_rank_14 rfl) ?_
  refine And.intro (gz_o_getR (xg__HoldQueue_34 F d_HoldQueue_rank_15)) ?_
  refine And.intro (gz_o_getR (xg__HoldQueue_133 F d_HoldQueue_rank_18)) ?_
  refine And.intro (gz_o_iload_n F.1 F.2.1 1 d_HoldQueue_rank_21 rfl) ?_
  refine And.intro (gz_o_iload_n F.1 F.2.1 2 d_HoldQueue_rank_22 rfl) ?_
  refine And.intro (gz_o_ist (x_ist F d_HoldQueue_rank_23)) ?_
  refine And.intro (gz_o_aload_n F.1 F.2.1 0 d_HoldQueue_rank_24 rfl) ?_
  refine And.intro (gz_o_getR (xg__HoldQueue_34 F d_HoldQueue_rank_25)) ?_
  refine And.intro (gz_o_iload_n F.1 F.2.1 1 d_HoldQueue_rank_28 rfl) ?_
  refine And.intro (gz_o_c1P (fun u x hp => gz_cbI (x_has a kc) (fun _ h => Or.inr h) (gz_runN (bs := [gz_i x]) F.2.2.2.2.2.2.2 ⟨F.1, F.2.1, F.2.2.2.1, F.2.2.2.2.1, gz_hts F⟩ (xh_placeInQueue_c l D a kc u x hp) ⟨va_cnB 1 (gz_hts F) (gz_gN lw_good xh_placeInQueue_k) rfl rfl rfl (gz_nwF F (.methodLinkNest R_HoldQueue 136 y_HoldQueue_Holds_placeInQueue "HoldQueue") (by decide +kernel)) (gz_hts F (.initialized R_HoldQueue_Holds) wi_3) (by decide +kernel) ⟨Nat.le_of_ble_eq_true rfl, Nat.le_of_ble_eq_true rfl⟩, gz_hts F (.instanceMethod y_HoldQueue_Holds_placeInQueue) wi_266, gz_hts F (.selects R_HoldQueue_Holds y_HoldQueue_Holds_placeInQueue y_HoldQueue_Holds_placeInQueue) xh_placeInQueue_sl⟩ rfl 2 rfl rfl d_HoldQueue_rank_29 ⟨Nat.le_of_ble_eq_true rfl, Nat.le_of_ble_eq_true rfl⟩))) ?_
  refine And.intro (gz_o_iret (gz_e_i (post := Kr) F d_HoldQueue_rank_32)) ?_
  exact trivial
set_option maxRecDepth 100000 in
set_option maxHeartbeats 4000000 in
theorem x_rank_c (l : Launch) (D : va_G) (a : Nat → Nat) (kc : Nat → ClassId) (u : q_S) (v1 : Int32) (v2 : Int32) (hp : x_rank_p u v1 v2) : gz_MI l y_HoldQueue_rank x_rank_w x_rank_R D q_cl (x_tys kc) (x_wf a kc) (x_as a) a [gz_r 0, gz_i v1, gz_i v2] u (x_rank_r u v1 v2) (x_rank_s u v1 v2) := gz_metI (by decide) rfl (x_has a kc) (Nat.le_of_ble_eq_true rfl) rfl (x_rank_d u v1 v2 hp ⟨rfl, rfl⟩) (fun p e s m below meth c F => x_rank_o (Kr := fun r z => r = some (x_rank_r u v1 v2) ∧ z = (x_rank_s u v1 v2)) D a kc F)
-- HoldQueue$Holds.atPlaceInQueue(II)I
def xh_atPlaceInQueue_w : List Cond := Cond.code y_HoldQueue_Holds_atPlaceInQueue c_HoldQueue_Holds_atPlaceInQueue 4 (some .int) :: lw_gd
theorem xh_atPlaceInQueue_k : Cond.code y_HoldQueue_Holds_atPlaceInQueue c_HoldQueue_Holds_atPlaceInQueue 4 (some .int) ∈ lw_gd := wi_275
theorem xh_atPlaceInQueue_sl : Cond.selects R_HoldQueue_Holds y_HoldQueue_Holds_atPlaceInQueue y_HoldQueue_Holds_atPlaceInQueue ∈ lw_gd := by decide +kernel
abbrev xh_atPlaceInQueue_R : Room := { frames := 2, cells := 0, slots := 0, locals := 80 }
set_option maxRecDepth 100000 in
set_option maxHeartbeats 4000000 in
theorem xh_atPlaceInQueue_o (D : va_G) (a : Nat → Nat) (kc : Nat → ClassId) (F : gz_F p s m args meth c c_HoldQueue_Holds_atPlaceInQueue 4 (some .int) xh_atPlaceInQueue_w R_HoldQueue_Holds) : gz_oks (gz_Z p l e xh_atPlaceInQueue_R s m args below meth c 0 0 (MQ below (va_Qi (fun r z => Kr (some r) z) (gz_B D q_cl (x_tys kc) (x_wf a kc) (gz_A (x_as a) s.heap.size)) (gz_A (x_as a) s.heap.size)) args s 0 0 (gz_A (x_as a) s.heap.size)) 4 a (gz_GG D q_cl (x_tys kc) (gz_A (x_as a) s.heap.size) s (x_wf a kc))) Kr xh_atPlaceInQueue_t := by
  refine And.intro (gz_o_iconst F.1 F.2.1 1 d_HoldQueue_Holds_atPlaceInQueue_0 (by decide)) ?_
  refine And.intro (gz_o_istore_n F.1 F.2.1 3 d_HoldQueue_Holds_atPlaceInQueue_1 rfl (by decide)) ?_
  refine And.intro (gz_o_iload_n F.1 F.2.1 3 d_HoldQueue_Holds_atPlaceInQueue_2 rfl) ?_
  refine And.intro (gz_o_aload_n F.1 F.2.1 0 d_HoldQueue_Holds_atPlaceInQueue_3 rfl) ?_
  refine And.intro (gz_o_getI (xg__HoldQueue_Holds_9 F d_HoldQueue_Holds_atPlaceInQueue_4)) ?_
  refine And.intro (gz_o_ic_gt F.1 F.2.1 36 d_HoldQueue_Holds_atPlaceInQueue_7 (by decide)) ?_
  refine And.intro (gz_o_aload_n F.1 F.2.1 0 d_HoldQueue_Holds_atPlaceInQueue_10 rfl) ?_
  refine And.intro (gz_o_iload_n F.1 F.2.1 3 d_HoldQueue_Holds_atPlaceInQueue_11 rfl) ?_
  refine And.intro (gz_o_iload_n F.1 F.2.1 1 d_HoldQueue_Holds_atPlaceInQueue_12 rfl) ?_
  refine And.intro (gz_o_c2P (fun u x y hp => gz_cbI (x_has a kc) (fun _ h => Or.inr h) (gz_runV (bs := [gz_i x, gz_i y]) F.2.2.2.2.2.2.2 ⟨F.1, F.2.1, F.2.2.2.1, F.2.2.2.2.1, gz_hts F⟩ (xh_isQueued_c l D a kc u x y hp) (cwV 2 (gz_hts F) (gz_gV lw_good wi_189 wi_191 xh_isQueued_sl wi_3 xh_isQueued_k) rfl rfl rfl (by decide +kernel) ⟨Nat.le_of_ble_eq_true rfl, Nat.le_of_ble_eq_true rfl⟩) rfl 2 rfl rfl d_HoldQueue_Holds_atPlaceInQueue_13 ⟨Nat.le_of_ble_eq_true rfl, Nat.le_of_ble_eq_true rfl⟩))) ?_
  refine And.intro (gz_o_if_eq F.1 F.2.1 30 d_HoldQueue_Holds_atPlaceInQueue_16 (by decide)) ?_
  refine And.intro (gz_o_aload_n F.1 F.2.1 0 d_HoldQueue_Holds_atPlaceInQueue_19 rfl) ?_
  refine And.intro (gz_o_iload_n F.1 F.2.1 3 d_HoldQueue_Holds_atPlaceInQueue_20 rfl) ?_
  refine And.intro (gz_o_c1P (fun u x hp => gz_cbI (x_has a kc) (fun _ h => Or.inr h) (gz_runV (bs := [gz_i x]) F.2.2.2.2.2.2.2 ⟨F.1, F.2.1, F.2.2.2.1, F.2.2.2.2.1, gz_hts F⟩ (xh_placeInQueue_c l D a kc u x hp) (cwV 1 (gz_hts F) (gz_gV lw_good wi_276 wi_266 xh_placeInQueue_sl wi_3 xh_placeInQueue_k) rfl rfl rfl (by decide +kernel) ⟨Nat.le_of_ble_eq_true rfl, Nat.le_of_ble_eq_true rfl⟩) rfl 2 rfl rfl d_HoldQueue_Holds_atPlaceInQueue_21 ⟨Nat.le_of_ble_eq_true rfl, Nat.le_of_ble_eq_true rfl⟩))) ?_
  refine And.intro (gz_o_iload_n F.1 F.2.1 2 d_HoldQueue_Holds_atPlaceInQueue_24 rfl) ?_
  refine And.intro (gz_o_ic_ne F.1 F.2.1 30 d_HoldQueue_Holds_atPlaceInQueue_25 (by decide)) ?_
  refine And.intro (gz_o_iload_n F.1 F.2.1 3 d_HoldQueue_Holds_atPlaceInQueue_28 rfl) ?_
  refine And.intro (gz_o_iret (gz_e_i (post := Kr) F d_HoldQueue_Holds_atPlaceInQueue_29)) ?_
  refine And.intro (gz_o_iinc F.1 F.2.1 3 1 d_HoldQueue_Holds_atPlaceInQueue_30 (by decide) (by decide)) ?_
  refine And.intro (gz_o_goto F.1 F.2.1 2 d_HoldQueue_Holds_atPlaceInQueue_33 (by decide)) ?_
  refine And.intro (gz_o_iconst F.1 F.2.1 0 d_HoldQueue_Holds_atPlaceInQueue_36 (by decide)) ?_
  refine And.intro (gz_o_iret (gz_e_i (post := Kr) F d_HoldQueue_Holds_atPlaceInQueue_37)) ?_
  exact trivial
set_option maxRecDepth 100000 in
set_option maxHeartbeats 4000000 in
theorem xh_atPlaceInQueue_c (l : Launch) (D : va_G) (a : Nat → Nat) (kc : Nat → ClassId) (u : q_S) (v1 : Int32) (v2 : Int32) (hp : xh_atPlaceInQueue_p u v1 v2) : gz_MI l y_HoldQueue_Holds_atPlaceInQueue xh_atPlaceInQueue_w xh_atPlaceInQueue_R D q_cl (x_tys kc) (x_wf a kc) (x_as a) a [gz_r 2, gz_i v1, gz_i v2] u (xh_atPlaceInQueue u v1 v2) u := gz_metI (by decide) rfl (x_has a kc) (Nat.le_of_ble_eq_true rfl) rfl (xh_atPlaceInQueue_d u v1 v2 hp ⟨rfl, rfl⟩) (fun p e s m below meth c F => xh_atPlaceInQueue_o (Kr := fun r z => r = some (xh_atPlaceInQueue u v1 v2) ∧ z = u) D a kc F)
-- HoldQueue.order(II)I
def x_order_w : List Cond := Cond.code y_HoldQueue_order c_HoldQueue_order 3 (some .int) :: lw_gd
theorem x_order_k : Cond.code y_HoldQueue_order c_HoldQueue_order 3 (some .int) ∈ lw_gd := wi_271
theorem x_order_sl : Cond.selects R_HoldQueue y_HoldQueue_order y_HoldQueue_order ∈ lw_gd := wi_270
abbrev x_order_R : Room := { frames := 3, cells := 0, slots := 0, locals := 120 }
set_option maxRecDepth 100000 in
set_option maxHeartbeats 4000000 in
theorem x_order_o (D : va_G) (a : Nat → Nat) (kc : Nat → ClassId) (F : gz_F p s m args meth c c_HoldQueue_order 3 (some .int) x_order_w R_HoldQueue) : gz_oks (gz_Z p l e x_order_R s m args below meth c 0 0 (MQ below (va_Qi (fun r z => Kr (some r) z) (gz_B D q_cl (x_tys kc) (x_wf a kc) (gz_A (x_as a) s.heap.size)) (gz_A (x_as a) s.heap.size)) args s 0 0 (gz_A (x_as a) s.heap.size)) 3 a (gz_GG D q_cl (x_tys kc) (gz_A (x_as a) s.heap.size) s (x_wf a kc))) Kr x_order_t := by
  refine And.intro (gz_o_aload_n F.1 F.2.1 0 d_HoldQueue_order_0 rfl) ?_
  refine And.intro (gz_o_iload_n F.1 F.2.1 1 d_HoldQueue_order_1 rfl) ?_
  refine And.intro (gz_o_c1P (fun u x hp => gz_cbI (x_has a kc) (fun _ h => Or.inr h) (gz_runV (bs := [gz_i x]) F.2.2.2.2.2.2.2 ⟨F.1, F.2.1, F.2.2.2.1, F.2.2.2.2.1, gz_hts F⟩ (x_isRecord_c l D a kc u x) (cwV 1 (gz_hts F) (gz_gV lw_good wi_123 wi_125 x_isRecord_sl wi_1 x_isRecord_k) rfl rfl rfl (by decide +kernel) ⟨Nat.le_of_ble_eq_true rfl, Nat.le_of_ble_eq_true rfl⟩) rfl 0 rfl rfl d_HoldQueue_order_2 ⟨Nat.le_of_ble_eq_true rfl, Nat.le_of_ble_eq_true rfl⟩))) ?_
  refine And.intro (gz_o_if_eq F.1 F.2.1 20 d_HoldQueue_order_5 (by decide)) ?_
  refine And.intro (gz_o_aload_n F.1 F.2.1 0 d_HoldQueue_order_8 rfl) ?_
  refine And.intro (gz_o_getR (xg__HoldQueue_34 F d_HoldQueue_order_9)) ?_
  refine And.intro (gz_o_iload_n F.1 F.2.1 1 d_HoldQueue_order_12 rfl) ?_
  refine And.intro (gz_o_iload_n F.1 F.2.1 2 d_HoldQueue_order_13 rfl) ?_
  refine And.intro (gz_o_c2P (fun u x y hp => gz_cbI (x_has a kc) (fun _ h => Or.inr h) (gz_runN (bs := [gz_i x, gz_i y]) F.2.2.2.2.2.2.2 ⟨F.1, F.2.1, F.2.2.2.1, F.2.2.2.2.1, gz_hts F⟩ (xh_atPlaceInQueue_c l D a kc u x y hp) ⟨va_cnB 2 (gz_hts F) (gz_gN lw_good xh_atPlaceInQueue_k) rfl rfl rfl (gz_nwF F (.methodLinkNest R_HoldQueue 139 y_HoldQueue_Holds_atPlaceInQueue "HoldQueue") (by decide +kernel)) (gz_hts F (.initialized R_HoldQueue_Holds) wi_3) (by decide +kernel) ⟨Nat.le_of_ble_eq_true rfl, Nat.le_of_ble_eq_true rfl⟩, gz_hts F (.instanceMethod y_HoldQueue_Holds_atPlaceInQueue) wi_274, gz_hts F (.selects R_HoldQueue_Holds y_HoldQueue_Holds_atPlaceInQueue y_HoldQueue_Holds_atPlaceInQueue) xh_atPlaceInQueue_sl⟩ rfl 2 rfl rfl d_HoldQueue_order_14 ⟨Nat.le_of_ble_eq_true rfl, Nat.le_of_ble_eq_true rfl⟩))) ?_
  refine And.intro (gz_o_goto F.1 F.2.1 21 d_HoldQueue_order_17 (by decide)) ?_
  refine And.intro (gz_o_iconst F.1 F.2.1 0 d_HoldQueue_order_20 (by decide)) ?_
  refine And.intro (gz_o_iret (gz_e_i (post := Kr) F d_HoldQueue_order_21)) ?_
  exact trivial
set_option maxRecDepth 100000 in
set_option maxHeartbeats 4000000 in
theorem x_order_c (l : Launch) (D : va_G) (a : Nat → Nat) (kc : Nat → ClassId) (u : q_S) (v1 : Int32) (v2 : Int32) (hp : x_order_p u v1 v2) : gz_MI l y_HoldQueue_order x_order_w x_order_R D q_cl (x_tys kc) (x_wf a kc) (x_as a) a [gz_r 0, gz_i v1, gz_i v2] u (x_order u v1 v2) u := gz_metI (by decide) rfl (x_has a kc) (Nat.le_of_ble_eq_true rfl) rfl (x_order_d u v1 v2 hp ⟨rfl, rfl⟩) (fun p e s m below meth c F => x_order_o (Kr := fun r z => r = some (x_order u v1 v2) ∧ z = u) D a kc F)
-- HoldQueue.state(II)I
def x_state_w : List Cond := Cond.code y_HoldQueue_state c_HoldQueue_state 3 (some .int) :: lw_gd
theorem x_state_k : Cond.code y_HoldQueue_state c_HoldQueue_state 3 (some .int) ∈ lw_gd := wi_280
theorem x_state_sl : Cond.selects R_HoldQueue y_HoldQueue_state y_HoldQueue_state ∈ lw_gd := wi_279
abbrev x_state_R : Room := { frames := 2, cells := 0, slots := 0, locals := 80 }
set_option maxRecDepth 100000 in
set_option maxHeartbeats 4000000 in
theorem x_state_o (D : va_G) (a : Nat → Nat) (kc : Nat → ClassId) (F : gz_F p s m args meth c c_HoldQueue_state 3 (some .int) x_state_w R_HoldQueue) : gz_oks (gz_Z p l e x_state_R s m args below meth c 0 0 (MQ below (va_Qi (fun r z => Kr (some r) z) (gz_B D q_cl (x_tys kc) (x_wf a kc) (gz_A (x_as a) s.heap.size)) (gz_A (x_as a) s.heap.size)) args s 0 0 (gz_A (x_as a) s.heap.size)) 3 a (gz_GG D q_cl (x_tys kc) (gz_A (x_as a) s.heap.size) s (x_wf a kc))) Kr x_state_t := by
  refine And.intro (gz_o_aload_n F.1 F.2.1 0 d_HoldQueue_state_0 rfl) ?_
  refine And.intro (gz_o_getR (xg__HoldQueue_34 F d_HoldQueue_state_1)) ?_
  refine And.intro (gz_o_iload_n F.1 F.2.1 1 d_HoldQueue_state_4 rfl) ?_
  refine And.intro (gz_o_c1P (fun u x hp => gz_cbI (x_has a kc) (fun _ h => Or.inr h) (gz_runN (bs := [gz_i x]) F.2.2.2.2.2.2.2 ⟨F.1, F.2.1, F.2.2.2.1, F.2.2.2.2.1, gz_hts F⟩ (xh_has_c l D a kc u x) ⟨va_cnB 1 (gz_hts F) (gz_gN lw_good xh_has_k) rfl rfl rfl (gz_nwF F (.methodLinkNest R_HoldQueue 142 y_HoldQueue_Holds_has "HoldQueue") (by decide +kernel)) (gz_hts F (.initialized R_HoldQueue_Holds) wi_3) (by decide +kernel) ⟨Nat.le_of_ble_eq_true rfl, Nat.le_of_ble_eq_true rfl⟩, gz_hts F (.instanceMethod y_HoldQueue_Holds_has) wi_163, gz_hts F (.selects R_HoldQueue_Holds y_HoldQueue_Holds_has y_HoldQueue_Holds_has) xh_has_sl⟩ rfl 2 rfl rfl d_HoldQueue_state_5 ⟨Nat.le_of_ble_eq_true rfl, Nat.le_of_ble_eq_true rfl⟩))) ?_
  refine And.intro (gz_o_if_ne F.1 F.2.1 13 d_HoldQueue_state_8 (by decide)) ?_
  refine And.intro (gz_o_iconst F.1 F.2.1 (-1) d_HoldQueue_state_11 (by decide)) ?_
  refine And.intro (gz_o_iret (gz_e_i (post := Kr) F d_HoldQueue_state_12)) ?_
  refine And.intro (gz_o_iload_n F.1 F.2.1 2 d_HoldQueue_state_13 rfl) ?_
  refine And.intro (gz_o_sw F.1 F.2.1 [(0, 40), (1, 50), (2, 60)] 85 d_HoldQueue_state_14 (by decide +kernel) (by decide +kernel) (by decide)) ?_
  refine And.intro (gz_o_aload_n F.1 F.2.1 0 d_HoldQueue_state_40 rfl) ?_
  refine And.intro (gz_o_getR (xg__HoldQueue_34 F d_HoldQueue_state_41)) ?_
  refine And.intro (gz_o_getR (xg__HoldQueue_114 F d_HoldQueue_state_44)) ?_
  refine And.intro (gz_o_iload_n F.1 F.2.1 1 d_HoldQueue_state_47 rfl) ?_
  refine And.intro (gz_o_ild (x_ild F d_HoldQueue_state_48)) ?_
  refine And.intro (gz_o_iret (gz_e_i (post := Kr) F d_HoldQueue_state_49)) ?_
  refine And.intro (gz_o_aload_n F.1 F.2.1 0 d_HoldQueue_state_50 rfl) ?_
  refine And.intro (gz_o_getR (xg__HoldQueue_34 F d_HoldQueue_state_51)) ?_
  refine And.intro (gz_o_getR (xg__HoldQueue_111 F d_HoldQueue_state_54)) ?_
  refine And.intro (gz_o_iload_n F.1 F.2.1 1 d_HoldQueue_state_57 rfl) ?_
  refine And.intro (gz_o_ild (x_ild F d_HoldQueue_state_58)) ?_
  refine And.intro (gz_o_iret (gz_e_i (post := Kr) F d_HoldQueue_state_59)) ?_
  refine And.intro (gz_o_aload_n F.1 F.2.1 0 d_HoldQueue_state_60 rfl) ?_
  refine And.intro (gz_o_getR (xg__HoldQueue_34 F d_HoldQueue_state_61)) ?_
  refine And.intro (gz_o_iload_n F.1 F.2.1 1 d_HoldQueue_state_64 rfl) ?_
  refine And.intro (gz_o_iconst F.1 F.2.1 0 d_HoldQueue_state_65 (by decide)) ?_
  refine And.intro (gz_o_c2P (fun u x y hp => gz_cbI (x_has a kc) (fun _ h => Or.inr h) (gz_runN (bs := [gz_i x, gz_i y]) F.2.2.2.2.2.2.2 ⟨F.1, F.2.1, F.2.2.2.1, F.2.2.2.2.1, gz_hts F⟩ (xh_isIn_c l D a kc u x y hp) ⟨va_cnB 2 (gz_hts F) (gz_gN lw_good xh_isIn_k) rfl rfl rfl (gz_nwF F (.methodLinkNest R_HoldQueue 90 y_HoldQueue_Holds_isIn "HoldQueue") (by decide +kernel)) (gz_hts F (.initialized R_HoldQueue_Holds) wi_3) (by decide +kernel) ⟨Nat.le_of_ble_eq_true rfl, Nat.le_of_ble_eq_true rfl⟩, gz_hts F (.instanceMethod y_HoldQueue_Holds_isIn) wi_159, gz_hts F (.selects R_HoldQueue_Holds y_HoldQueue_Holds_isIn y_HoldQueue_Holds_isIn) xh_isIn_sl⟩ rfl 2 rfl rfl d_HoldQueue_state_66 ⟨Nat.le_of_ble_eq_true rfl, Nat.le_of_ble_eq_true rfl⟩))) ?_
  refine And.intro (gz_o_if_eq F.1 F.2.1 83 d_HoldQueue_state_69 (by decide)) ?_
  refine And.intro (gz_o_aload_n F.1 F.2.1 0 d_HoldQueue_state_72 rfl) ?_
  refine And.intro (gz_o_getR (xg__HoldQueue_34 F d_HoldQueue_state_73)) ?_
  refine And.intro (gz_o_iload_n F.1 F.2.1 1 d_HoldQueue_state_76 rfl) ?_
  refine And.intro (gz_o_c1P (fun u x hp => gz_cbI (x_has a kc) (fun _ h => Or.inr h) (gz_runN (bs := [gz_i x]) F.2.2.2.2.2.2.2 ⟨F.1, F.2.1, F.2.2.2.1, F.2.2.2.2.1, gz_hts F⟩ (xh_placeInQueue_c l D a kc u x hp) ⟨va_cnB 1 (gz_hts F) (gz_gN lw_good xh_placeInQueue_k) rfl rfl rfl (gz_nwF F (.methodLinkNest R_HoldQueue 136 y_HoldQueue_Holds_placeInQueue "HoldQueue") (by decide +kernel)) (gz_hts F (.initialized R_HoldQueue_Holds) wi_3) (by decide +kernel) ⟨Nat.le_of_ble_eq_true rfl, Nat.le_of_ble_eq_true rfl⟩, gz_hts F (.instanceMethod y_HoldQueue_Holds_placeInQueue) wi_266, gz_hts F (.selects R_HoldQueue_Holds y_HoldQueue_Holds_placeInQueue y_HoldQueue_Holds_placeInQueue) xh_placeInQueue_sl⟩ rfl 2 rfl rfl d_HoldQueue_state_77 ⟨Nat.le_of_ble_eq_true rfl, Nat.le_of_ble_eq_true rfl⟩))) ?_
  refine And.intro (gz_o_goto F.1 F.2.1 84 d_HoldQueue_state_80 (by decide)) ?_
  refine And.intro (gz_o_iconst F.1 F.2.1 (-1) d_HoldQueue_state_83 (by decide)) ?_
  refine And.intro (gz_o_iret (gz_e_i (post := Kr) F d_HoldQueue_state_84)) ?_
  refine And.intro (gz_o_iconst F.1 F.2.1 (-1) d_HoldQueue_state_85 (by decide)) ?_
  refine And.intro (gz_o_iret (gz_e_i (post := Kr) F d_HoldQueue_state_86)) ?_
  exact trivial
set_option maxRecDepth 100000 in
set_option maxHeartbeats 4000000 in
theorem x_state_c (l : Launch) (D : va_G) (a : Nat → Nat) (kc : Nat → ClassId) (u : q_S) (v1 : Int32) (v2 : Int32) (hp : x_state_p u v1 v2) : gz_MI l y_HoldQueue_state x_state_w x_state_R D q_cl (x_tys kc) (x_wf a kc) (x_as a) a [gz_r 0, gz_i v1, gz_i v2] u (x_state u v1 v2) u := gz_metI (by decide) rfl (x_has a kc) (Nat.le_of_ble_eq_true rfl) rfl (x_state_d u v1 v2 hp ⟨rfl, rfl⟩) (fun p e s m below meth c F => x_state_o (Kr := fun r z => r = some (x_state u v1 v2) ∧ z = u) D a kc F)
-- HoldQueue.where(II)I
def x_where_w : List Cond := Cond.code y_HoldQueue_where c_HoldQueue_where 3 (some .int) :: lw_gd
theorem x_where_k : Cond.code y_HoldQueue_where c_HoldQueue_where 3 (some .int) ∈ lw_gd := wi_285
theorem x_where_sl : Cond.selects R_HoldQueue y_HoldQueue_where y_HoldQueue_where ∈ lw_gd := wi_284
abbrev x_where_R : Room := { frames := 1, cells := 0, slots := 0, locals := 40 }
set_option maxRecDepth 100000 in
set_option maxHeartbeats 4000000 in
theorem x_where_o (D : va_G) (a : Nat → Nat) (kc : Nat → ClassId) (F : gz_F p s m args meth c c_HoldQueue_where 3 (some .int) x_where_w R_HoldQueue) : gz_oks (gz_Z p l e x_where_R s m args below meth c 0 0 (MQ below (va_Qi (fun r z => Kr (some r) z) (gz_B D q_cl (x_tys kc) (x_wf a kc) (gz_A (x_as a) s.heap.size)) (gz_A (x_as a) s.heap.size)) args s 0 0 (gz_A (x_as a) s.heap.size)) 3 a (gz_GG D q_cl (x_tys kc) (gz_A (x_as a) s.heap.size) s (x_wf a kc))) Kr x_where_t := by
  refine And.intro (gz_o_aload_n F.1 F.2.1 0 d_HoldQueue_where_0 rfl) ?_
  refine And.intro (gz_o_getR (xg__HoldQueue_27 F d_HoldQueue_where_1)) ?_
  refine And.intro (gz_o_iload_n F.1 F.2.1 1 d_HoldQueue_where_4 rfl) ?_
  refine And.intro (gz_o_c1P (fun u x hp => gz_cbI (x_has a kc) (fun _ h => Or.inr h) (gz_runN (bs := [gz_i x]) F.2.2.2.2.2.2.2 ⟨F.1, F.2.1, F.2.2.2.1, F.2.2.2.2.1, gz_hts F⟩ (xc_has_c l D a kc u x) ⟨va_cnB 1 (gz_hts F) (gz_gN lw_good xc_has_k) rfl rfl rfl (gz_nwF F (.methodLinkNest R_HoldQueue 145 y_HoldQueue_Copies_has "HoldQueue") (by decide +kernel)) (gz_hts F (.initialized R_HoldQueue_Copies) wi_2) (by decide +kernel) ⟨Nat.le_of_ble_eq_true rfl, Nat.le_of_ble_eq_true rfl⟩, gz_hts F (.instanceMethod y_HoldQueue_Copies_has) wi_224, gz_hts F (.selects R_HoldQueue_Copies y_HoldQueue_Copies_has y_HoldQueue_Copies_has) xc_has_sl⟩ rfl 1 rfl rfl d_HoldQueue_where_5 ⟨Nat.le_of_ble_eq_true rfl, Nat.le_of_ble_eq_true rfl⟩))) ?_
  refine And.intro (gz_o_if_ne F.1 F.2.1 13 d_HoldQueue_where_8 (by decide)) ?_
  refine And.intro (gz_o_iconst F.1 F.2.1 (-1) d_HoldQueue_where_11 (by decide)) ?_
  refine And.intro (gz_o_iret (gz_e_i (post := Kr) F d_HoldQueue_where_12)) ?_
  refine And.intro (gz_o_iload_n F.1 F.2.1 2 d_HoldQueue_where_13 rfl) ?_
  refine And.intro (gz_o_sw F.1 F.2.1 [(0, 40), (1, 50), (2, 60)] 70 d_HoldQueue_where_14 (by decide +kernel) (by decide +kernel) (by decide)) ?_
  refine And.intro (gz_o_aload_n F.1 F.2.1 0 d_HoldQueue_where_40 rfl) ?_
  refine And.intro (gz_o_getR (xg__HoldQueue_27 F d_HoldQueue_where_41)) ?_
  refine And.intro (gz_o_getR (xg__HoldQueue_117 F d_HoldQueue_where_44)) ?_
  refine And.intro (gz_o_iload_n F.1 F.2.1 1 d_HoldQueue_where_47 rfl) ?_
  refine And.intro (gz_o_ild (x_ild F d_HoldQueue_where_48)) ?_
  refine And.intro (gz_o_iret (gz_e_i (post := Kr) F d_HoldQueue_where_49)) ?_
  refine And.intro (gz_o_aload_n F.1 F.2.1 0 d_HoldQueue_where_50 rfl) ?_
  refine And.intro (gz_o_getR (xg__HoldQueue_27 F d_HoldQueue_where_51)) ?_
  refine And.intro (gz_o_getR (xg__HoldQueue_98 F d_HoldQueue_where_54)) ?_
  refine And.intro (gz_o_iload_n F.1 F.2.1 1 d_HoldQueue_where_57 rfl) ?_
  refine And.intro (gz_o_ild (x_ild F d_HoldQueue_where_58)) ?_
  refine And.intro (gz_o_iret (gz_e_i (post := Kr) F d_HoldQueue_where_59)) ?_
  refine And.intro (gz_o_aload_n F.1 F.2.1 0 d_HoldQueue_where_60 rfl) ?_
  refine And.intro (gz_o_getR (xg__HoldQueue_27 F d_HoldQueue_where_61)) ?_
  refine And.intro (gz_o_getR (xg__HoldQueue_101 F d_HoldQueue_where_64)) ?_
  refine And.intro (gz_o_iload_n F.1 F.2.1 1 d_HoldQueue_where_67 rfl) ?_
  refine And.intro (gz_o_ild (x_ild F d_HoldQueue_where_68)) ?_
  refine And.intro (gz_o_iret (gz_e_i (post := Kr) F d_HoldQueue_where_69)) ?_
  refine And.intro (gz_o_iconst F.1 F.2.1 (-1) d_HoldQueue_where_70 (by decide)) ?_
  refine And.intro (gz_o_iret (gz_e_i (post := Kr) F d_HoldQueue_where_71)) ?_
  exact trivial
set_option maxRecDepth 100000 in
set_option maxHeartbeats 4000000 in
theorem x_where_c (l : Launch) (D : va_G) (a : Nat → Nat) (kc : Nat → ClassId) (u : q_S) (v1 : Int32) (v2 : Int32) (hp : x_where_p u v1 v2) : gz_MI l y_HoldQueue_where x_where_w x_where_R D q_cl (x_tys kc) (x_wf a kc) (x_as a) a [gz_r 0, gz_i v1, gz_i v2] u (x_where u v1 v2) u := gz_metI (by decide) rfl (x_has a kc) (Nat.le_of_ble_eq_true rfl) rfl (x_where_d u v1 v2 hp ⟨rfl, rfl⟩) (fun p e s m below meth c F => x_where_o (Kr := fun r z => r = some (x_where u v1 v2) ∧ z = u) D a kc F)
end GZX
