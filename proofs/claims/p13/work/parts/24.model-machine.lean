section GZX
variable {p : Program} {l : Launch} {e : Env} {R : Room} {s : State} {m : MethodId} {args : Array Value} {below : List Frame} {meth : Method} {c : Code} {cells slots : Nat} {Q : State → Prop} {cc : ByteArray} {nL : Nat} {a : Nat → Nat} {kc : Nat → ClassId} {D : va_G} {A : Nat → Prop} {Kr : Option Int32 → q_S → Prop} {pc : Nat} {ret : Option FieldType} {ws : List Cond} {own : String}
-- HoldQueueModel.in(III)Z
def m_in_w : List Cond := Cond.code y_HoldQueueModel_in c_HoldQueueModel_in 3 (some .boolean) :: lw_gd
theorem m_in_k : Cond.code y_HoldQueueModel_in c_HoldQueueModel_in 3 (some .boolean) ∈ lw_gd := wi_363
abbrev m_in_R : Room := { frames := 0, cells := 0, slots := 0, locals := 0 }
set_option maxRecDepth 100000 in
set_option maxHeartbeats 4000000 in
theorem m_in_o (D : va_G) (a : Nat → Nat) (kc : Nat → ClassId) (F : gz_F p s m args meth c c_HoldQueueModel_in 3 (some .boolean) m_in_w R_HoldQueueModel) : gz_oks (gz_Z p l e m_in_R s m args below meth c 0 0 (MQ below (va_Qi (fun r z => Kr (some r) z) (gz_B D q_cl (m_tys kc) (m_wf a kc) (gz_A (m_as a) s.heap.size)) (gz_A (m_as a) s.heap.size)) args s 0 0 (gz_A (m_as a) s.heap.size)) 3 a (gz_GG D q_cl (m_tys kc) (gz_A (m_as a) s.heap.size) s (m_wf a kc))) Kr m_in_t := by
  refine And.intro (gz_o_iload_n F.1 F.2.1 0 d_HoldQueueModel_in_0 rfl) ?_
  refine And.intro (gz_o_iload_n F.1 F.2.1 1 d_HoldQueueModel_in_1 rfl) ?_
  refine And.intro (gz_o_ic_lt F.1 F.2.1 14 d_HoldQueueModel_in_2 (by decide)) ?_
  refine And.intro (gz_o_iload_n F.1 F.2.1 0 d_HoldQueueModel_in_5 rfl) ?_
  refine And.intro (gz_o_iload_n F.1 F.2.1 2 d_HoldQueueModel_in_6 rfl) ?_
  refine And.intro (gz_o_ic_gt F.1 F.2.1 14 d_HoldQueueModel_in_7 (by decide)) ?_
  refine And.intro (gz_o_iconst F.1 F.2.1 1 d_HoldQueueModel_in_10 (by decide)) ?_
  refine And.intro (gz_o_goto F.1 F.2.1 15 d_HoldQueueModel_in_11 (by decide)) ?_
  refine And.intro (gz_o_iconst F.1 F.2.1 0 d_HoldQueueModel_in_14 (by decide)) ?_
  refine And.intro (gz_o_zret (gz_e_z (post := Kr) F d_HoldQueueModel_in_15)) ?_
  exact trivial
set_option maxRecDepth 100000 in
set_option maxHeartbeats 4000000 in
theorem m_in_c (l : Launch) (D : va_G) (a : Nat → Nat) (kc : Nat → ClassId) (u : q_S) (v0 : Int32) (v1 : Int32) (v2 : Int32) : gz_MI l y_HoldQueueModel_in m_in_w m_in_R D q_cl (m_tys kc) (m_wf a kc) (m_as a) a [gz_i v0, gz_i v1, gz_i v2] u (m_in v0 v1 v2) u := gz_metI (by decide) rfl (m_has a kc) (Nat.le_of_ble_eq_true rfl) rfl (m_in_d u v0 v1 v2 ⟨rfl, rfl⟩) (fun p e s m below meth c F => m_in_o (Kr := fun r z => r = some (m_in v0 v1 v2) ∧ z = u) D a kc F)
-- HoldQueueModel.record(I)I
def m_record_w : List Cond := Cond.code y_HoldQueueModel_record c_HoldQueueModel_record 2 (some .int) :: lw_gd
theorem m_record_k : Cond.code y_HoldQueueModel_record c_HoldQueueModel_record 2 (some .int) ∈ lw_gd := wi_360
theorem m_record_sl : Cond.selects R_HoldQueueModel y_HoldQueueModel_record y_HoldQueueModel_record ∈ lw_gd := wi_359
abbrev m_record_R : Room := { frames := 1, cells := 0, slots := 0, locals := 40 }
set_option maxRecDepth 100000 in
set_option maxHeartbeats 4000000 in
theorem m_record_o (D : va_G) (a : Nat → Nat) (kc : Nat → ClassId) (F : gz_F p s m args meth c c_HoldQueueModel_record 2 (some .int) m_record_w R_HoldQueueModel) : gz_oks (gz_Z p l e m_record_R s m args below meth c 0 0 (MQ below (va_Qi (fun r z => Kr (some r) z) (gz_B D q_cl (m_tys kc) (m_wf a kc) (gz_A (m_as a) s.heap.size)) (gz_A (m_as a) s.heap.size)) args s 0 0 (gz_A (m_as a) s.heap.size)) 2 a (gz_GG D q_cl (m_tys kc) (gz_A (m_as a) s.heap.size) s (m_wf a kc))) Kr m_record_t := by
  refine And.intro (gz_o_aload_n F.1 F.2.1 0 d_HoldQueueModel_record_0 rfl) ?_
  refine And.intro (gz_o_iconst F.1 F.2.1 0 d_HoldQueueModel_record_1 (by decide)) ?_
  refine And.intro (gz_o_putI (mp__HoldQueueModel_61 F d_HoldQueueModel_record_2)) ?_
  refine And.intro (gz_o_iload_n F.1 F.2.1 1 d_HoldQueueModel_record_5 rfl) ?_
  refine And.intro (gz_o_iconst F.1 F.2.1 0 d_HoldQueueModel_record_6 (by decide)) ?_
  refine And.intro (gz_o_iconst F.1 F.2.1 3 d_HoldQueueModel_record_7 (by decide)) ?_
  refine And.intro (gz_o_s3P (fun u x y z => gz_cbI (m_has a kc) (fun _ h => Or.inr h) (gz_runS (bs := [gz_i x, gz_i y, gz_i z]) F.2.2.2.2.2.2.2 ⟨F.1, F.2.1, F.2.2.2.1, F.2.2.2.2.1, gz_hts F⟩ (m_in_c l D a kc u x y z) (cwS 3 (gz_hts F) (gz_gS lw_good wi_361 wi_362 wi_5 m_in_k) rfl rfl rfl (by decide +kernel) ⟨Nat.le_of_ble_eq_true rfl, Nat.le_of_ble_eq_true rfl⟩) rfl d_HoldQueueModel_record_8 ⟨Nat.le_of_ble_eq_true rfl, Nat.le_of_ble_eq_true rfl⟩))) ?_
  refine And.intro (gz_o_if_eq F.1 F.2.1 23 d_HoldQueueModel_record_11 (by decide)) ?_
  refine And.intro (gz_o_aload_n F.1 F.2.1 0 d_HoldQueueModel_record_14 rfl) ?_
  refine And.intro (gz_o_getI (mg__HoldQueueModel_68 F d_HoldQueueModel_record_15)) ?_
  refine And.intro (gz_o_bipush F.1 F.2.1 30 d_HoldQueueModel_record_18 (by decide)) ?_
  refine And.intro (gz_o_ic_ne F.1 F.2.1 25 d_HoldQueueModel_record_20 (by decide)) ?_
  refine And.intro (gz_o_iconst F.1 F.2.1 0 d_HoldQueueModel_record_23 (by decide)) ?_
  refine And.intro (gz_o_iret (gz_e_i (post := Kr) F d_HoldQueueModel_record_24)) ?_
  refine And.intro (gz_o_aload_n F.1 F.2.1 0 d_HoldQueueModel_record_25 rfl) ?_
  refine And.intro (gz_o_dup F.1 F.2.1 d_HoldQueueModel_record_26) ?_
  refine And.intro (gz_o_getI (mg__HoldQueueModel_68 F d_HoldQueueModel_record_27)) ?_
  refine And.intro (gz_o_iconst F.1 F.2.1 1 d_HoldQueueModel_record_30 (by decide)) ?_
  refine And.intro (gz_o_iadd F.1 F.2.1 d_HoldQueueModel_record_31) ?_
  refine And.intro (gz_o_putI (mp__HoldQueueModel_68 F d_HoldQueueModel_record_32)) ?_
  refine And.intro (gz_o_aload_n F.1 F.2.1 0 d_HoldQueueModel_record_35 rfl) ?_
  refine And.intro (gz_o_getR (mg__HoldQueueModel_7 F d_HoldQueueModel_record_36)) ?_
  refine And.intro (gz_o_aload_n F.1 F.2.1 0 d_HoldQueueModel_record_39 rfl) ?_
  refine And.intro (gz_o_getI (mg__HoldQueueModel_68 F d_HoldQueueModel_record_40)) ?_
  refine And.intro (gz_o_iload_n F.1 F.2.1 1 d_HoldQueueModel_record_43 rfl) ?_
  refine And.intro (gz_o_ist (m_ist F d_HoldQueueModel_record_44)) ?_
  refine And.intro (gz_o_aload_n F.1 F.2.1 0 d_HoldQueueModel_record_45 rfl) ?_
  refine And.intro (gz_o_getI (mg__HoldQueueModel_68 F d_HoldQueueModel_record_46)) ?_
  refine And.intro (gz_o_iret (gz_e_i (post := Kr) F d_HoldQueueModel_record_49)) ?_
  exact trivial
set_option maxRecDepth 100000 in
set_option maxHeartbeats 4000000 in
theorem m_record_c (l : Launch) (D : va_G) (a : Nat → Nat) (kc : Nat → ClassId) (u : q_S) (v1 : Int32) (hp : m_record_p u v1) : gz_MI l y_HoldQueueModel_record m_record_w m_record_R D q_cl (m_tys kc) (m_wf a kc) (m_as a) a [gz_r 0, gz_i v1] u (m_record_r u v1) (m_record_s u v1) := gz_metI (by decide) rfl (m_has a kc) (Nat.le_of_ble_eq_true rfl) rfl (m_record_d u v1 hp ⟨rfl, rfl⟩) (fun p e s m below meth c F => m_record_o (Kr := fun r z => r = some (m_record_r u v1) ∧ z = (m_record_s u v1)) D a kc F)
-- HoldQueueModel.copy(II)I
def m_copy_w : List Cond := Cond.code y_HoldQueueModel_copy c_HoldQueueModel_copy 3 (some .int) :: lw_gd
theorem m_copy_k : Cond.code y_HoldQueueModel_copy c_HoldQueueModel_copy 3 (some .int) ∈ lw_gd := wi_367
theorem m_copy_sl : Cond.selects R_HoldQueueModel y_HoldQueueModel_copy y_HoldQueueModel_copy ∈ lw_gd := wi_366
abbrev m_copy_R : Room := { frames := 1, cells := 0, slots := 0, locals := 40 }
set_option maxRecDepth 100000 in
set_option maxHeartbeats 4000000 in
theorem m_copy_o (D : va_G) (a : Nat → Nat) (kc : Nat → ClassId) (F : gz_F p s m args meth c c_HoldQueueModel_copy 3 (some .int) m_copy_w R_HoldQueueModel) : gz_oks (gz_Z p l e m_copy_R s m args below meth c 0 0 (MQ below (va_Qi (fun r z => Kr (some r) z) (gz_B D q_cl (m_tys kc) (m_wf a kc) (gz_A (m_as a) s.heap.size)) (gz_A (m_as a) s.heap.size)) args s 0 0 (gz_A (m_as a) s.heap.size)) 3 a (gz_GG D q_cl (m_tys kc) (gz_A (m_as a) s.heap.size) s (m_wf a kc))) Kr m_copy_t := by
  refine And.intro (gz_o_aload_n F.1 F.2.1 0 d_HoldQueueModel_copy_0 rfl) ?_
  refine And.intro (gz_o_iconst F.1 F.2.1 0 d_HoldQueueModel_copy_1 (by decide)) ?_
  refine And.intro (gz_o_putI (mp__HoldQueueModel_61 F d_HoldQueueModel_copy_2)) ?_
  refine And.intro (gz_o_iload_n F.1 F.2.1 1 d_HoldQueueModel_copy_5 rfl) ?_
  refine And.intro (gz_o_iconst F.1 F.2.1 1 d_HoldQueueModel_copy_6 (by decide)) ?_
  refine And.intro (gz_o_aload_n F.1 F.2.1 0 d_HoldQueueModel_copy_7 rfl) ?_
  refine And.intro (gz_o_getI (mg__HoldQueueModel_68 F d_HoldQueueModel_copy_8)) ?_
  refine And.intro (gz_o_s3P (fun u x y z => gz_cbI (m_has a kc) (fun _ h => Or.inr h) (gz_runS (bs := [gz_i x, gz_i y, gz_i z]) F.2.2.2.2.2.2.2 ⟨F.1, F.2.1, F.2.2.2.1, F.2.2.2.2.1, gz_hts F⟩ (m_in_c l D a kc u x y z) (cwS 3 (gz_hts F) (gz_gS lw_good wi_361 wi_362 wi_5 m_in_k) rfl rfl rfl (by decide +kernel) ⟨Nat.le_of_ble_eq_true rfl, Nat.le_of_ble_eq_true rfl⟩) rfl d_HoldQueueModel_copy_11 ⟨Nat.le_of_ble_eq_true rfl, Nat.le_of_ble_eq_true rfl⟩))) ?_
  refine And.intro (gz_o_if_eq F.1 F.2.1 35 d_HoldQueueModel_copy_14 (by decide)) ?_
  refine And.intro (gz_o_iload_n F.1 F.2.1 2 d_HoldQueueModel_copy_17 rfl) ?_
  refine And.intro (gz_o_iconst F.1 F.2.1 0 d_HoldQueueModel_copy_18 (by decide)) ?_
  refine And.intro (gz_o_iconst F.1 F.2.1 5 d_HoldQueueModel_copy_19 (by decide)) ?_
  refine And.intro (gz_o_s3P (fun u x y z => gz_cbI (m_has a kc) (fun _ h => Or.inr h) (gz_runS (bs := [gz_i x, gz_i y, gz_i z]) F.2.2.2.2.2.2.2 ⟨F.1, F.2.1, F.2.2.2.1, F.2.2.2.2.1, gz_hts F⟩ (m_in_c l D a kc u x y z) (cwS 3 (gz_hts F) (gz_gS lw_good wi_361 wi_362 wi_5 m_in_k) rfl rfl rfl (by decide +kernel) ⟨Nat.le_of_ble_eq_true rfl, Nat.le_of_ble_eq_true rfl⟩) rfl d_HoldQueueModel_copy_20 ⟨Nat.le_of_ble_eq_true rfl, Nat.le_of_ble_eq_true rfl⟩))) ?_
  refine And.intro (gz_o_if_eq F.1 F.2.1 35 d_HoldQueueModel_copy_23 (by decide)) ?_
  refine And.intro (gz_o_aload_n F.1 F.2.1 0 d_HoldQueueModel_copy_26 rfl) ?_
  refine And.intro (gz_o_getI (mg__HoldQueueModel_71 F d_HoldQueueModel_copy_27)) ?_
  refine And.intro (gz_o_bipush F.1 F.2.1 60 d_HoldQueueModel_copy_30 (by decide)) ?_
  refine And.intro (gz_o_ic_ne F.1 F.2.1 37 d_HoldQueueModel_copy_32 (by decide)) ?_
  refine And.intro (gz_o_iconst F.1 F.2.1 0 d_HoldQueueModel_copy_35 (by decide)) ?_
  refine And.intro (gz_o_iret (gz_e_i (post := Kr) F d_HoldQueueModel_copy_36)) ?_
  refine And.intro (gz_o_aload_n F.1 F.2.1 0 d_HoldQueueModel_copy_37 rfl) ?_
  refine And.intro (gz_o_dup F.1 F.2.1 d_HoldQueueModel_copy_38) ?_
  refine And.intro (gz_o_getI (mg__HoldQueueModel_71 F d_HoldQueueModel_copy_39)) ?_
  refine And.intro (gz_o_iconst F.1 F.2.1 1 d_HoldQueueModel_copy_42 (by decide)) ?_
  refine And.intro (gz_o_iadd F.1 F.2.1 d_HoldQueueModel_copy_43) ?_
  refine And.intro (gz_o_putI (mp__HoldQueueModel_71 F d_HoldQueueModel_copy_44)) ?_
  refine And.intro (gz_o_aload_n F.1 F.2.1 0 d_HoldQueueModel_copy_47 rfl) ?_
  refine And.intro (gz_o_getR (mg__HoldQueueModel_24 F d_HoldQueueModel_copy_48)) ?_
  refine And.intro (gz_o_aload_n F.1 F.2.1 0 d_HoldQueueModel_copy_51 rfl) ?_
  refine And.intro (gz_o_getI (mg__HoldQueueModel_71 F d_HoldQueueModel_copy_52)) ?_
  refine And.intro (gz_o_iload_n F.1 F.2.1 1 d_HoldQueueModel_copy_55 rfl) ?_
  refine And.intro (gz_o_ist (m_ist F d_HoldQueueModel_copy_56)) ?_
  refine And.intro (gz_o_aload_n F.1 F.2.1 0 d_HoldQueueModel_copy_57 rfl) ?_
  refine And.intro (gz_o_getR (mg__HoldQueueModel_27 F d_HoldQueueModel_copy_58)) ?_
  refine And.intro (gz_o_aload_n F.1 F.2.1 0 d_HoldQueueModel_copy_61 rfl) ?_
  refine And.intro (gz_o_getI (mg__HoldQueueModel_71 F d_HoldQueueModel_copy_62)) ?_
  refine And.intro (gz_o_iconst F.1 F.2.1 1 d_HoldQueueModel_copy_65 (by decide)) ?_
  refine And.intro (gz_o_ist (m_ist F d_HoldQueueModel_copy_66)) ?_
  refine And.intro (gz_o_aload_n F.1 F.2.1 0 d_HoldQueueModel_copy_67 rfl) ?_
  refine And.intro (gz_o_getR (mg__HoldQueueModel_30 F d_HoldQueueModel_copy_68)) ?_
  refine And.intro (gz_o_aload_n F.1 F.2.1 0 d_HoldQueueModel_copy_71 rfl) ?_
  refine And.intro (gz_o_getI (mg__HoldQueueModel_71 F d_HoldQueueModel_copy_72)) ?_
  refine And.intro (gz_o_iload_n F.1 F.2.1 2 d_HoldQueueModel_copy_75 rfl) ?_
  refine And.intro (gz_o_ist (m_ist F d_HoldQueueModel_copy_76)) ?_
  refine And.intro (gz_o_aload_n F.1 F.2.1 0 d_HoldQueueModel_copy_77 rfl) ?_
  refine And.intro (gz_o_getR (mg__HoldQueueModel_33 F d_HoldQueueModel_copy_78)) ?_
  refine And.intro (gz_o_aload_n F.1 F.2.1 0 d_HoldQueueModel_copy_81 rfl) ?_
  refine And.intro (gz_o_getI (mg__HoldQueueModel_71 F d_HoldQueueModel_copy_82)) ?_
  refine And.intro (gz_o_iconst F.1 F.2.1 0 d_HoldQueueModel_copy_85 (by decide)) ?_
  refine And.intro (gz_o_ist (m_ist F d_HoldQueueModel_copy_86)) ?_
  refine And.intro (gz_o_aload_n F.1 F.2.1 0 d_HoldQueueModel_copy_87 rfl) ?_
  refine And.intro (gz_o_getI (mg__HoldQueueModel_71 F d_HoldQueueModel_copy_88)) ?_
  refine And.intro (gz_o_iret (gz_e_i (post := Kr) F d_HoldQueueModel_copy_91)) ?_
  exact trivial
set_option maxRecDepth 100000 in
set_option maxHeartbeats 4000000 in
theorem m_copy_c (l : Launch) (D : va_G) (a : Nat → Nat) (kc : Nat → ClassId) (u : q_S) (v1 : Int32) (v2 : Int32) (hp : m_copy_p u v1 v2) : gz_MI l y_HoldQueueModel_copy m_copy_w m_copy_R D q_cl (m_tys kc) (m_wf a kc) (m_as a) a [gz_r 0, gz_i v1, gz_i v2] u (m_copy_r u v1 v2) (m_copy_s u v1 v2) := gz_metI (by decide) rfl (m_has a kc) (Nat.le_of_ble_eq_true rfl) rfl (m_copy_d u v1 v2 hp ⟨rfl, rfl⟩) (fun p e s m below meth c F => m_copy_o (Kr := fun r z => r = some (m_copy_r u v1 v2) ∧ z = (m_copy_s u v1 v2)) D a kc F)
-- HoldQueueModel.bar(IZ)Z
def m_bar_w : List Cond := Cond.code y_HoldQueueModel_bar c_HoldQueueModel_bar 4 (some .boolean) :: lw_gd
theorem m_bar_k : Cond.code y_HoldQueueModel_bar c_HoldQueueModel_bar 4 (some .boolean) ∈ lw_gd := wi_371
theorem m_bar_sl : Cond.selects R_HoldQueueModel y_HoldQueueModel_bar y_HoldQueueModel_bar ∈ lw_gd := wi_370
abbrev m_bar_R : Room := { frames := 1, cells := 0, slots := 0, locals := 40 }
set_option maxRecDepth 100000 in
set_option maxHeartbeats 4000000 in
theorem m_bar_o (D : va_G) (a : Nat → Nat) (kc : Nat → ClassId) (F : gz_F p s m args meth c c_HoldQueueModel_bar 4 (some .boolean) m_bar_w R_HoldQueueModel) : gz_oks (gz_Z p l e m_bar_R s m args below meth c 0 0 (MQ below (va_Qi (fun r z => Kr (some r) z) (gz_B D q_cl (m_tys kc) (m_wf a kc) (gz_A (m_as a) s.heap.size)) (gz_A (m_as a) s.heap.size)) args s 0 0 (gz_A (m_as a) s.heap.size)) 4 a (gz_GG D q_cl (m_tys kc) (gz_A (m_as a) s.heap.size) s (m_wf a kc))) Kr m_bar_t := by
  refine And.intro (gz_o_aload_n F.1 F.2.1 0 d_HoldQueueModel_bar_0 rfl) ?_
  refine And.intro (gz_o_iconst F.1 F.2.1 0 d_HoldQueueModel_bar_1 (by decide)) ?_
  refine And.intro (gz_o_putI (mp__HoldQueueModel_61 F d_HoldQueueModel_bar_2)) ?_
  refine And.intro (gz_o_iload_n F.1 F.2.1 1 d_HoldQueueModel_bar_5 rfl) ?_
  refine And.intro (gz_o_iconst F.1 F.2.1 0 d_HoldQueueModel_bar_6 (by decide)) ?_
  refine And.intro (gz_o_iconst F.1 F.2.1 3 d_HoldQueueModel_bar_7 (by decide)) ?_
  refine And.intro (gz_o_s3P (fun u x y z => gz_cbI (m_has a kc) (fun _ h => Or.inr h) (gz_runS (bs := [gz_i x, gz_i y, gz_i z]) F.2.2.2.2.2.2.2 ⟨F.1, F.2.1, F.2.2.2.1, F.2.2.2.2.1, gz_hts F⟩ (m_in_c l D a kc u x y z) (cwS 3 (gz_hts F) (gz_gS lw_good wi_361 wi_362 wi_5 m_in_k) rfl rfl rfl (by decide +kernel) ⟨Nat.le_of_ble_eq_true rfl, Nat.le_of_ble_eq_true rfl⟩) rfl d_HoldQueueModel_bar_8 ⟨Nat.le_of_ble_eq_true rfl, Nat.le_of_ble_eq_true rfl⟩))) ?_
  refine And.intro (gz_o_if_ne F.1 F.2.1 16 d_HoldQueueModel_bar_11 (by decide)) ?_
  refine And.intro (gz_o_iconst F.1 F.2.1 0 d_HoldQueueModel_bar_14 (by decide)) ?_
  refine And.intro (gz_o_zret (gz_e_z (post := Kr) F d_HoldQueueModel_bar_15)) ?_
  refine And.intro (gz_o_aload_n F.1 F.2.1 0 d_HoldQueueModel_bar_16 rfl) ?_
  refine And.intro (gz_o_getR (mg__HoldQueueModel_13 F d_HoldQueueModel_bar_17)) ?_
  refine And.intro (gz_o_iload_n F.1 F.2.1 1 d_HoldQueueModel_bar_20 rfl) ?_
  refine And.intro (gz_o_ild (m_zld F d_HoldQueueModel_bar_21)) ?_
  refine And.intro (gz_o_istore_n F.1 F.2.1 3 d_HoldQueueModel_bar_22 rfl (by decide)) ?_
  refine And.intro (gz_o_aload_n F.1 F.2.1 0 d_HoldQueueModel_bar_23 rfl) ?_
  refine And.intro (gz_o_getR (mg__HoldQueueModel_13 F d_HoldQueueModel_bar_24)) ?_
  refine And.intro (gz_o_iload_n F.1 F.2.1 1 d_HoldQueueModel_bar_27 rfl) ?_
  refine And.intro (gz_o_iload_n F.1 F.2.1 2 d_HoldQueueModel_bar_28 rfl) ?_
  refine And.intro (gz_o_zst (m_zst F d_HoldQueueModel_bar_29)) ?_
  refine And.intro (gz_o_iload_n F.1 F.2.1 3 d_HoldQueueModel_bar_30 rfl) ?_
  refine And.intro (gz_o_zret (gz_e_z (post := Kr) F d_HoldQueueModel_bar_31)) ?_
  exact trivial
set_option maxRecDepth 100000 in
set_option maxHeartbeats 4000000 in
theorem m_bar_c (l : Launch) (D : va_G) (a : Nat → Nat) (kc : Nat → ClassId) (u : q_S) (v1 : Int32) (v2 : Int32) (hp : m_bar_p u v1 v2) : gz_MI l y_HoldQueueModel_bar m_bar_w m_bar_R D q_cl (m_tys kc) (m_wf a kc) (m_as a) a [gz_r 0, gz_i v1, gz_i v2] u (m_bar_r u v1 v2) (m_bar_s u v1 v2) := gz_metI (by decide) rfl (m_has a kc) (Nat.le_of_ble_eq_true rfl) rfl (m_bar_d u v1 v2 hp ⟨rfl, rfl⟩) (fun p e s m below meth c F => m_bar_o (Kr := fun r z => r = some (m_bar_r u v1 v2) ∧ z = (m_bar_s u v1 v2)) D a kc F)
-- HoldQueueModel.isOpen(I)Z
def m_isOpen_w : List Cond := Cond.code y_HoldQueueModel_isOpen c_HoldQueueModel_isOpen 2 (some .boolean) :: lw_gd
theorem m_isOpen_k : Cond.code y_HoldQueueModel_isOpen c_HoldQueueModel_isOpen 2 (some .boolean) ∈ lw_gd := wi_379
theorem m_isOpen_sl : Cond.selects R_HoldQueueModel y_HoldQueueModel_isOpen y_HoldQueueModel_isOpen ∈ lw_gd := by decide +kernel
abbrev m_isOpen_R : Room := { frames := 0, cells := 0, slots := 0, locals := 0 }
set_option maxRecDepth 100000 in
set_option maxHeartbeats 4000000 in
theorem m_isOpen_o (D : va_G) (a : Nat → Nat) (kc : Nat → ClassId) (F : gz_F p s m args meth c c_HoldQueueModel_isOpen 2 (some .boolean) m_isOpen_w R_HoldQueueModel) : gz_oks (gz_Z p l e m_isOpen_R s m args below meth c 0 0 (MQ below (va_Qi (fun r z => Kr (some r) z) (gz_B D q_cl (m_tys kc) (m_wf a kc) (gz_A (m_as a) s.heap.size)) (gz_A (m_as a) s.heap.size)) args s 0 0 (gz_A (m_as a) s.heap.size)) 2 a (gz_GG D q_cl (m_tys kc) (gz_A (m_as a) s.heap.size) s (m_wf a kc))) Kr m_isOpen_t := by
  refine And.intro (gz_o_aload_n F.1 F.2.1 0 d_HoldQueueModel_isOpen_0 rfl) ?_
  refine And.intro (gz_o_getR (mg__HoldQueueModel_48 F d_HoldQueueModel_isOpen_1)) ?_
  refine And.intro (gz_o_iload_n F.1 F.2.1 1 d_HoldQueueModel_isOpen_4 rfl) ?_
  refine And.intro (gz_o_ild (m_ild F d_HoldQueueModel_isOpen_5)) ?_
  refine And.intro (gz_o_iconst F.1 F.2.1 2 d_HoldQueueModel_isOpen_6 (by decide)) ?_
  refine And.intro (gz_o_ic_gt F.1 F.2.1 14 d_HoldQueueModel_isOpen_7 (by decide)) ?_
  refine And.intro (gz_o_iconst F.1 F.2.1 1 d_HoldQueueModel_isOpen_10 (by decide)) ?_
  refine And.intro (gz_o_goto F.1 F.2.1 15 d_HoldQueueModel_isOpen_11 (by decide)) ?_
  refine And.intro (gz_o_iconst F.1 F.2.1 0 d_HoldQueueModel_isOpen_14 (by decide)) ?_
  refine And.intro (gz_o_zret (gz_e_z (post := Kr) F d_HoldQueueModel_isOpen_15)) ?_
  exact trivial
set_option maxRecDepth 100000 in
set_option maxHeartbeats 4000000 in
theorem m_isOpen_c (l : Launch) (D : va_G) (a : Nat → Nat) (kc : Nat → ClassId) (u : q_S) (v1 : Int32) (hp : m_isOpen_p u v1) : gz_MI l y_HoldQueueModel_isOpen m_isOpen_w m_isOpen_R D q_cl (m_tys kc) (m_wf a kc) (m_as a) a [gz_r 0, gz_i v1] u (m_isOpen u v1) u := gz_metI (by decide) rfl (m_has a kc) (Nat.le_of_ble_eq_true rfl) rfl (m_isOpen_d u v1 hp ⟨rfl, rfl⟩) (fun p e s m below meth c F => m_isOpen_o (Kr := fun r z => r = some (m_isOpen u v1) ∧ z = u) D a kc F)
-- HoldQueueModel.isAhead(II)Z
def m_isAhead_w : List Cond := Cond.code y_HoldQueueModel_isAhead c_HoldQueueModel_isAhead 3 (some .boolean) :: lw_gd
theorem m_isAhead_k : Cond.code y_HoldQueueModel_isAhead c_HoldQueueModel_isAhead 3 (some .boolean) ∈ lw_gd := wi_392
theorem m_isAhead_sl : Cond.selects R_HoldQueueModel y_HoldQueueModel_isAhead y_HoldQueueModel_isAhead ∈ lw_gd := by decide +kernel
abbrev m_isAhead_R : Room := { frames := 0, cells := 0, slots := 0, locals := 0 }
set_option maxRecDepth 100000 in
set_option maxHeartbeats 4000000 in
theorem m_isAhead_o (D : va_G) (a : Nat → Nat) (kc : Nat → ClassId) (F : gz_F p s m args meth c c_HoldQueueModel_isAhead 3 (some .boolean) m_isAhead_w R_HoldQueueModel) : gz_oks (gz_Z p l e m_isAhead_R s m args below meth c 0 0 (MQ below (va_Qi (fun r z => Kr (some r) z) (gz_B D q_cl (m_tys kc) (m_wf a kc) (gz_A (m_as a) s.heap.size)) (gz_A (m_as a) s.heap.size)) args s 0 0 (gz_A (m_as a) s.heap.size)) 3 a (gz_GG D q_cl (m_tys kc) (gz_A (m_as a) s.heap.size) s (m_wf a kc))) Kr m_isAhead_t := by
  refine And.intro (gz_o_aload_n F.1 F.2.1 0 d_HoldQueueModel_isAhead_0 rfl) ?_
  refine And.intro (gz_o_getR (mg__HoldQueueModel_45 F d_HoldQueueModel_isAhead_1)) ?_
  refine And.intro (gz_o_iload_n F.1 F.2.1 1 d_HoldQueueModel_isAhead_4 rfl) ?_
  refine And.intro (gz_o_ild (m_ild F d_HoldQueueModel_isAhead_5)) ?_
  refine And.intro (gz_o_aload_n F.1 F.2.1 0 d_HoldQueueModel_isAhead_6 rfl) ?_
  refine And.intro (gz_o_getR (mg__HoldQueueModel_45 F d_HoldQueueModel_isAhead_7)) ?_
  refine And.intro (gz_o_iload_n F.1 F.2.1 2 d_HoldQueueModel_isAhead_10 rfl) ?_
  refine And.intro (gz_o_ild (m_ild F d_HoldQueueModel_isAhead_11)) ?_
  refine And.intro (gz_o_ic_lt F.1 F.2.1 35 d_HoldQueueModel_isAhead_12 (by decide)) ?_
  refine And.intro (gz_o_aload_n F.1 F.2.1 0 d_HoldQueueModel_isAhead_15 rfl) ?_
  refine And.intro (gz_o_getR (mg__HoldQueueModel_45 F d_HoldQueueModel_isAhead_16)) ?_
  refine And.intro (gz_o_iload_n F.1 F.2.1 1 d_HoldQueueModel_isAhead_19 rfl) ?_
  refine And.intro (gz_o_ild (m_ild F d_HoldQueueModel_isAhead_20)) ?_
  refine And.intro (gz_o_aload_n F.1 F.2.1 0 d_HoldQueueModel_isAhead_21 rfl) ?_
  refine And.intro (gz_o_getR (mg__HoldQueueModel_45 F d_HoldQueueModel_isAhead_22)) ?_
  refine And.intro (gz_o_iload_n F.1 F.2.1 2 d_HoldQueueModel_isAhead_25 rfl) ?_
  refine And.intro (gz_o_ild (m_ild F d_HoldQueueModel_isAhead_26)) ?_
  refine And.intro (gz_o_ic_ne F.1 F.2.1 39 d_HoldQueueModel_isAhead_27 (by decide)) ?_
  refine And.intro (gz_o_iload_n F.1 F.2.1 1 d_HoldQueueModel_isAhead_30 rfl) ?_
  refine And.intro (gz_o_iload_n F.1 F.2.1 2 d_HoldQueueModel_isAhead_31 rfl) ?_
  refine And.intro (gz_o_ic_ge F.1 F.2.1 39 d_HoldQueueModel_isAhead_32 (by decide)) ?_
  refine And.intro (gz_o_iconst F.1 F.2.1 1 d_HoldQueueModel_isAhead_35 (by decide)) ?_
  refine And.intro (gz_o_goto F.1 F.2.1 40 d_HoldQueueModel_isAhead_36 (by decide)) ?_
  refine And.intro (gz_o_iconst F.1 F.2.1 0 d_HoldQueueModel_isAhead_39 (by decide)) ?_
  refine And.intro (gz_o_zret (gz_e_z (post := Kr) F d_HoldQueueModel_isAhead_40)) ?_
  exact trivial
set_option maxRecDepth 100000 in
set_option maxHeartbeats 4000000 in
theorem m_isAhead_c (l : Launch) (D : va_G) (a : Nat → Nat) (kc : Nat → ClassId) (u : q_S) (v1 : Int32) (v2 : Int32) (hp : m_isAhead_p u v1 v2) : gz_MI l y_HoldQueueModel_isAhead m_isAhead_w m_isAhead_R D q_cl (m_tys kc) (m_wf a kc) (m_as a) a [gz_r 0, gz_i v1, gz_i v2] u (m_isAhead u v1 v2) u := gz_metI (by decide) rfl (m_has a kc) (Nat.le_of_ble_eq_true rfl) rfl (m_isAhead_d u v1 v2 hp ⟨rfl, rfl⟩) (fun p e s m below meth c F => m_isAhead_o (Kr := fun r z => r = some (m_isAhead u v1 v2) ∧ z = u) D a kc F)
-- HoldQueueModel.placeOf(I)I
def m_placeOf_w : List Cond := Cond.code y_HoldQueueModel_placeOf c_HoldQueueModel_placeOf 4 (some .int) :: lw_gd
theorem m_placeOf_k : Cond.code y_HoldQueueModel_placeOf c_HoldQueueModel_placeOf 4 (some .int) ∈ lw_gd := wi_457
theorem m_placeOf_sl : Cond.selects R_HoldQueueModel y_HoldQueueModel_placeOf y_HoldQueueModel_placeOf ∈ lw_gd := by decide +kernel
abbrev m_placeOf_R : Room := { frames := 1, cells := 0, slots := 0, locals := 40 }
set_option maxRecDepth 100000 in
set_option maxHeartbeats 4000000 in
theorem m_placeOf_o (D : va_G) (a : Nat → Nat) (kc : Nat → ClassId) (F : gz_F p s m args meth c c_HoldQueueModel_placeOf 4 (some .int) m_placeOf_w R_HoldQueueModel) : gz_oks (gz_Z p l e m_placeOf_R s m args below meth c 0 0 (MQ below (va_Qi (fun r z => Kr (some r) z) (gz_B D q_cl (m_tys kc) (m_wf a kc) (gz_A (m_as a) s.heap.size)) (gz_A (m_as a) s.heap.size)) args s 0 0 (gz_A (m_as a) s.heap.size)) 4 a (gz_GG D q_cl (m_tys kc) (gz_A (m_as a) s.heap.size) s (m_wf a kc))) Kr m_placeOf_t := by
  refine And.intro (gz_o_iconst F.1 F.2.1 0 d_HoldQueueModel_placeOf_0 (by decide)) ?_
  refine And.intro (gz_o_istore_n F.1 F.2.1 2 d_HoldQueueModel_placeOf_1 rfl (by decide)) ?_
  refine And.intro (gz_o_iconst F.1 F.2.1 1 d_HoldQueueModel_placeOf_2 (by decide)) ?_
  refine And.intro (gz_o_istore_n F.1 F.2.1 3 d_HoldQueueModel_placeOf_3 rfl (by decide)) ?_
  refine And.intro (gz_o_iload_n F.1 F.2.1 3 d_HoldQueueModel_placeOf_4 rfl) ?_
  refine And.intro (gz_o_aload_n F.1 F.2.1 0 d_HoldQueueModel_placeOf_5 rfl) ?_
  refine And.intro (gz_o_getI (mg__HoldQueueModel_74 F d_HoldQueueModel_placeOf_6)) ?_
  refine And.intro (gz_o_ic_gt F.1 F.2.1 59 d_HoldQueueModel_placeOf_9 (by decide)) ?_
  refine And.intro (gz_o_iload_n F.1 F.2.1 2 d_HoldQueueModel_placeOf_12 rfl) ?_
  refine And.intro (gz_o_aload_n F.1 F.2.1 0 d_HoldQueueModel_placeOf_13 rfl) ?_
  refine And.intro (gz_o_getR (mg__HoldQueueModel_48 F d_HoldQueueModel_placeOf_14)) ?_
  refine And.intro (gz_o_iload_n F.1 F.2.1 3 d_HoldQueueModel_placeOf_17 rfl) ?_
  refine And.intro (gz_o_ild (m_ild F d_HoldQueueModel_placeOf_18)) ?_
  refine And.intro (gz_o_if_ne F.1 F.2.1 50 d_HoldQueueModel_placeOf_19 (by decide)) ?_
  refine And.intro (gz_o_aload_n F.1 F.2.1 0 d_HoldQueueModel_placeOf_22 rfl) ?_
  refine And.intro (gz_o_getR (mg__HoldQueueModel_39 F d_HoldQueueModel_placeOf_23)) ?_
  refine And.intro (gz_o_iload_n F.1 F.2.1 3 d_HoldQueueModel_placeOf_26 rfl) ?_
  refine And.intro (gz_o_ild (m_ild F d_HoldQueueModel_placeOf_27)) ?_
  refine And.intro (gz_o_aload_n F.1 F.2.1 0 d_HoldQueueModel_placeOf_28 rfl) ?_
  refine And.intro (gz_o_getR (mg__HoldQueueModel_39 F d_HoldQueueModel_placeOf_29)) ?_
  refine And.intro (gz_o_iload_n F.1 F.2.1 1 d_HoldQueueModel_placeOf_32 rfl) ?_
  refine And.intro (gz_o_ild (m_ild F d_HoldQueueModel_placeOf_33)) ?_
  refine And.intro (gz_o_ic_ne F.1 F.2.1 50 d_HoldQueueModel_placeOf_34 (by decide)) ?_
  refine And.intro (gz_o_aload_n F.1 F.2.1 0 d_HoldQueueModel_placeOf_37 rfl) ?_
  refine And.intro (gz_o_iload_n F.1 F.2.1 3 d_HoldQueueModel_placeOf_38 rfl) ?_
  refine And.intro (gz_o_iload_n F.1 F.2.1 1 d_HoldQueueModel_placeOf_39 rfl) ?_
  refine And.intro (gz_o_c2P (fun u x y hp => gz_cbI (m_has a kc) (fun _ h => Or.inr h) (gz_runV (bs := [gz_i x, gz_i y]) F.2.2.2.2.2.2.2 ⟨F.1, F.2.1, F.2.2.2.1, F.2.2.2.2.1, gz_hts F⟩ (m_isAhead_c l D a kc u x y hp) (cwV 2 (gz_hts F) (gz_gV lw_good wi_389 wi_391 m_isAhead_sl wi_5 m_isAhead_k) rfl rfl rfl (by decide +kernel) ⟨Nat.le_of_ble_eq_true rfl, Nat.le_of_ble_eq_true rfl⟩) rfl 0 rfl rfl d_HoldQueueModel_placeOf_40 ⟨Nat.le_of_ble_eq_true rfl, Nat.le_of_ble_eq_true rfl⟩))) ?_
  refine And.intro (gz_o_if_eq F.1 F.2.1 50 d_HoldQueueModel_placeOf_43 (by decide)) ?_
  refine And.intro (gz_o_iconst F.1 F.2.1 1 d_HoldQueueModel_placeOf_46 (by decide)) ?_
  refine And.intro (gz_o_goto F.1 F.2.1 51 d_HoldQueueModel_placeOf_47 (by decide)) ?_
  refine And.intro (gz_o_iconst F.1 F.2.1 0 d_HoldQueueModel_placeOf_50 (by decide)) ?_
  refine And.intro (gz_o_iadd F.1 F.2.1 d_HoldQueueModel_placeOf_51) ?_
  refine And.intro (gz_o_istore_n F.1 F.2.1 2 d_HoldQueueModel_placeOf_52 rfl (by decide)) ?_
  refine And.intro (gz_o_iinc F.1 F.2.1 3 1 d_HoldQueueModel_placeOf_53 (by decide) (by decide)) ?_
  refine And.intro (gz_o_goto F.1 F.2.1 4 d_HoldQueueModel_placeOf_56 (by decide)) ?_
  refine And.intro (gz_o_iload_n F.1 F.2.1 2 d_HoldQueueModel_placeOf_59 rfl) ?_
  refine And.intro (gz_o_iret (gz_e_i (post := Kr) F d_HoldQueueModel_placeOf_60)) ?_
  exact trivial
set_option maxRecDepth 100000 in
set_option maxHeartbeats 4000000 in
theorem m_placeOf_c (l : Launch) (D : va_G) (a : Nat → Nat) (kc : Nat → ClassId) (u : q_S) (v1 : Int32) (hp : m_placeOf_p u v1) : gz_MI l y_HoldQueueModel_placeOf m_placeOf_w m_placeOf_R D q_cl (m_tys kc) (m_wf a kc) (m_as a) a [gz_r 0, gz_i v1] u (m_placeOf u v1) u := gz_metI (by decide) rfl (m_has a kc) (Nat.le_of_ble_eq_true rfl) rfl (m_placeOf_d u v1 hp ⟨rfl, rfl⟩) (fun p e s m below meth c F => m_placeOf_o (Kr := fun r z => r = some (m_placeOf u v1) ∧ z = u) D a kc F)
-- HoldQueueModel.fits(I)I
def m_fits_w : List Cond := Cond.code y_HoldQueueModel_fits c_HoldQueueModel_fits 5 (some .int) :: lw_gd
theorem m_fits_k : Cond.code y_HoldQueueModel_fits c_HoldQueueModel_fits 5 (some .int) ∈ lw_gd := wi_388
theorem m_fits_sl : Cond.selects R_HoldQueueModel y_HoldQueueModel_fits y_HoldQueueModel_fits ∈ lw_gd := by decide +kernel
abbrev m_fits_R : Room := { frames := 1, cells := 0, slots := 0, locals := 40 }
set_option maxRecDepth 100000 in
set_option maxHeartbeats 4000000 in
theorem m_fits_o (D : va_G) (a : Nat → Nat) (kc : Nat → ClassId) (F : gz_F p s m args meth c c_HoldQueueModel_fits 5 (some .int) m_fits_w R_HoldQueueModel) : gz_oks (gz_Z p l e m_fits_R s m args below meth c 0 0 (MQ below (va_Qi (fun r z => Kr (some r) z) (gz_B D q_cl (m_tys kc) (m_wf a kc) (gz_A (m_as a) s.heap.size)) (gz_A (m_as a) s.heap.size)) args s 0 0 (gz_A (m_as a) s.heap.size)) 5 a (gz_GG D q_cl (m_tys kc) (gz_A (m_as a) s.heap.size) s (m_wf a kc))) Kr m_fits_t := by
  refine And.intro (gz_o_iconst F.1 F.2.1 0 d_HoldQueueModel_fits_0 (by decide)) ?_
  refine And.intro (gz_o_istore_n F.1 F.2.1 2 d_HoldQueueModel_fits_1 rfl (by decide)) ?_
  refine And.intro (gz_o_iconst F.1 F.2.1 1 d_HoldQueueModel_fits_2 (by decide)) ?_
  refine And.intro (gz_o_istore_n F.1 F.2.1 3 d_HoldQueueModel_fits_3 rfl (by decide)) ?_
  refine And.intro (gz_o_iload_n F.1 F.2.1 3 d_HoldQueueModel_fits_4 rfl) ?_
  refine And.intro (gz_o_aload_n F.1 F.2.1 0 d_HoldQueueModel_fits_5 rfl) ?_
  refine And.intro (gz_o_getI (mg__HoldQueueModel_74 F d_HoldQueueModel_fits_6)) ?_
  refine And.intro (gz_o_ic_gt F.1 F.2.1 82 d_HoldQueueModel_fits_9 (by decide)) ?_
  refine And.intro (gz_o_aload_n F.1 F.2.1 0 d_HoldQueueModel_fits_12 rfl) ?_
  refine And.intro (gz_o_getR (mg__HoldQueueModel_48 F d_HoldQueueModel_fits_13)) ?_
  refine And.intro (gz_o_iload_n F.1 F.2.1 3 d_HoldQueueModel_fits_16 rfl) ?_
  refine And.intro (gz_o_ild (m_ild F d_HoldQueueModel_fits_17)) ?_
  refine And.intro (gz_o_if_ne F.1 F.2.1 49 d_HoldQueueModel_fits_18 (by decide)) ?_
  refine And.intro (gz_o_aload_n F.1 F.2.1 0 d_HoldQueueModel_fits_21 rfl) ?_
  refine And.intro (gz_o_getR (mg__HoldQueueModel_39 F d_HoldQueueModel_fits_22)) ?_
  refine And.intro (gz_o_iload_n F.1 F.2.1 3 d_HoldQueueModel_fits_25 rfl) ?_
  refine And.intro (gz_o_ild (m_ild F d_HoldQueueModel_fits_26)) ?_
  refine And.intro (gz_o_iload_n F.1 F.2.1 1 d_HoldQueueModel_fits_27 rfl) ?_
  refine And.intro (gz_o_ic_ne F.1 F.2.1 49 d_HoldQueueModel_fits_28 (by decide)) ?_
  refine And.intro (gz_o_aload_n F.1 F.2.1 0 d_HoldQueueModel_fits_31 rfl) ?_
  refine And.intro (gz_o_getR (mg__HoldQueueModel_54 F d_HoldQueueModel_fits_32)) ?_
  refine And.intro (gz_o_iload_n F.1 F.2.1 3 d_HoldQueueModel_fits_35 rfl) ?_
  refine And.intro (gz_o_lld (m_lld F d_HoldQueueModel_fits_36)) ?_
  refine And.intro (gz_o_aload_n F.1 F.2.1 0 d_HoldQueueModel_fits_37 rfl) ?_
  refine And.intro (gz_o_getL (mg__HoldQueueModel_81 F d_HoldQueueModel_fits_38)) ?_
  refine And.intro (gz_o_lcmp F.1 F.2.1 d_HoldQueueModel_fits_41) ?_
  refine And.intro (gz_o_if_gt F.1 F.2.1 49 d_HoldQueueModel_fits_42 (by decide)) ?_
  refine And.intro (gz_o_iconst F.1 F.2.1 1 d_HoldQueueModel_fits_45 (by decide)) ?_
  refine And.intro (gz_o_goto F.1 F.2.1 50 d_HoldQueueModel_fits_46 (by decide)) ?_
  refine And.intro (gz_o_iconst F.1 F.2.1 0 d_HoldQueueModel_fits_49 (by decide)) ?_
  refine And.intro (gz_o_istore F.1 F.2.1 4 d_HoldQueueModel_fits_50 (by decide)) ?_
  refine And.intro (gz_o_iload F.1 F.2.1 4 d_HoldQueueModel_fits_52) ?_
  refine And.intro (gz_o_if_eq F.1 F.2.1 74 d_HoldQueueModel_fits_54 (by decide)) ?_
  refine And.intro (gz_o_iload_n F.1 F.2.1 2 d_HoldQueueModel_fits_57 rfl) ?_
  refine And.intro (gz_o_if_eq F.1 F.2.1 70 d_HoldQueueModel_fits_58 (by decide)) ?_
  refine And.intro (gz_o_aload_n F.1 F.2.1 0 d_HoldQueueModel_fits_61 rfl) ?_
  refine And.intro (gz_o_iload_n F.1 F.2.1 3 d_HoldQueueModel_fits_62 rfl) ?_
  refine And.intro (gz_o_iload_n F.1 F.2.1 2 d_HoldQueueModel_fits_63 rfl) ?_
  refine And.intro (gz_o_c2P (fun u x y hp => gz_cbI (m_has a kc) (fun _ h => Or.inr h) (gz_runV (bs := [gz_i x, gz_i y]) F.2.2.2.2.2.2.2 ⟨F.1, F.2.1, F.2.2.2.1, F.2.2.2.2.1, gz_hts F⟩ (m_isAhead_c l D a kc u x y hp) (cwV 2 (gz_hts F) (gz_gV lw_good wi_389 wi_391 m_isAhead_sl wi_5 m_isAhead_k) rfl rfl rfl (by decide +kernel) ⟨Nat.le_of_ble_eq_true rfl, Nat.le_of_ble_eq_true rfl⟩) rfl 0 rfl rfl d_HoldQueueModel_fits_64 ⟨Nat.le_of_ble_eq_true rfl, Nat.le_of_ble_eq_true rfl⟩))) ?_
  refine And.intro (gz_o_if_eq F.1 F.2.1 74 d_HoldQueueModel_fits_67 (by decide)) ?_
  refine And.intro (gz_o_iload_n F.1 F.2.1 3 d_HoldQueueModel_fits_70 rfl) ?_
  refine And.intro (gz_o_goto F.1 F.2.1 75 d_HoldQueueModel_fits_71 (by decide)) ?_
  refine And.intro (gz_o_iload_n F.1 F.2.1 2 d_HoldQueueModel_fits_74 rfl) ?_
  refine And.intro (gz_o_istore_n F.1 F.2.1 2 d_HoldQueueModel_fits_75 rfl (by decide)) ?_
  refine And.intro (gz_o_iinc F.1 F.2.1 3 1 d_HoldQueueModel_fits_76 (by decide) (by decide)) ?_
  refine And.intro (gz_o_goto F.1 F.2.1 4 d_HoldQueueModel_fits_79 (by decide)) ?_
  refine And.intro (gz_o_iload_n F.1 F.2.1 2 d_HoldQueueModel_fits_82 rfl) ?_
  refine And.intro (gz_o_iret (gz_e_i (post := Kr) F d_HoldQueueModel_fits_83)) ?_
  exact trivial
set_option maxRecDepth 100000 in
set_option maxHeartbeats 4000000 in
theorem m_fits_c (l : Launch) (D : va_G) (a : Nat → Nat) (kc : Nat → ClassId) (u : q_S) (v1 : Int32) (hp : m_fits_p u v1) : gz_MI l y_HoldQueueModel_fits m_fits_w m_fits_R D q_cl (m_tys kc) (m_wf a kc) (m_as a) a [gz_r 0, gz_i v1] u (m_fits u v1) u := gz_metI (by decide) rfl (m_has a kc) (Nat.le_of_ble_eq_true rfl) rfl (m_fits_d u v1 hp ⟨rfl, rfl⟩) (fun p e s m below meth c F => m_fits_o (Kr := fun r z => r = some (m_fits u v1) ∧ z = u) D a kc F)
-- HoldQueueModel.lies(II)V
def m_lies_w : List Cond := Cond.code y_HoldQueueModel_lies c_HoldQueueModel_lies 3 none :: lw_gd
theorem m_lies_k : Cond.code y_HoldQueueModel_lies c_HoldQueueModel_lies 3 none ∈ lw_gd := wi_396
theorem m_lies_sl : Cond.selects R_HoldQueueModel y_HoldQueueModel_lies y_HoldQueueModel_lies ∈ lw_gd := by decide +kernel
abbrev m_lies_R : Room := { frames := 0, cells := 0, slots := 0, locals := 0 }
set_option maxRecDepth 100000 in
set_option maxHeartbeats 4000000 in
theorem m_lies_o (D : va_G) (a : Nat → Nat) (kc : Nat → ClassId) (F : gz_F p s m args meth c c_HoldQueueModel_lies 3 none m_lies_w R_HoldQueueModel) : gz_oks (gz_Z p l e m_lies_R s m args below meth c 0 0 (MQ below (va_Qv (fun z => Kr none z) (gz_B D q_cl (m_tys kc) (m_wf a kc) (gz_A (m_as a) s.heap.size)) (gz_A (m_as a) s.heap.size)) args s 0 0 (gz_A (m_as a) s.heap.size)) 3 a (gz_GG D q_cl (m_tys kc) (gz_A (m_as a) s.heap.size) s (m_wf a kc))) Kr m_lies_t := by
  refine And.intro (gz_o_aload_n F.1 F.2.1 0 d_HoldQueueModel_lies_0 rfl) ?_
  refine And.intro (gz_o_getR (mg__HoldQueueModel_48 F d_HoldQueueModel_lies_1)) ?_
  refine And.intro (gz_o_iload_n F.1 F.2.1 2 d_HoldQueueModel_lies_4 rfl) ?_
  refine And.intro (gz_o_iconst F.1 F.2.1 2 d_HoldQueueModel_lies_5 (by decide)) ?_
  refine And.intro (gz_o_ist (m_ist F d_HoldQueueModel_lies_6)) ?_
  refine And.intro (gz_o_aload_n F.1 F.2.1 0 d_HoldQueueModel_lies_7 rfl) ?_
  refine And.intro (gz_o_getR (mg__HoldQueueModel_58 F d_HoldQueueModel_lies_8)) ?_
  refine And.intro (gz_o_iload_n F.1 F.2.1 2 d_HoldQueueModel_lies_11 rfl) ?_
  refine And.intro (gz_o_aload_n F.1 F.2.1 0 d_HoldQueueModel_lies_12 rfl) ?_
  refine And.intro (gz_o_getL (mg__HoldQueueModel_81 F d_HoldQueueModel_lies_13)) ?_
  refine And.intro (gz_o_aload_n F.1 F.2.1 0 d_HoldQueueModel_lies_16 rfl) ?_
  refine And.intro (gz_o_getI (mg__HoldQueueModel_20 F d_HoldQueueModel_lies_17)) ?_
  refine And.intro (gz_o_i2l F.1 F.2.1 d_HoldQueueModel_lies_20) ?_
  refine And.intro (gz_o_ladd F.1 F.2.1 d_HoldQueueModel_lies_21) ?_
  refine And.intro (gz_o_lst (m_lst F d_HoldQueueModel_lies_22)) ?_
  refine And.intro (gz_o_aload_n F.1 F.2.1 0 d_HoldQueueModel_lies_23 rfl) ?_
  refine And.intro (gz_o_getR (mg__HoldQueueModel_27 F d_HoldQueueModel_lies_24)) ?_
  refine And.intro (gz_o_iload_n F.1 F.2.1 1 d_HoldQueueModel_lies_27 rfl) ?_
  refine And.intro (gz_o_iconst F.1 F.2.1 3 d_HoldQueueModel_lies_28 (by decide)) ?_
  refine And.intro (gz_o_ist (m_ist F d_HoldQueueModel_lies_29)) ?_
  refine And.intro (gz_o_vret (gz_e_v (post := Kr) F d_HoldQueueModel_lies_30)) ?_
  exact trivial
set_option maxRecDepth 100000 in
set_option maxHeartbeats 4000000 in
theorem m_lies_c (l : Launch) (D : va_G) (a : Nat → Nat) (kc : Nat → ClassId) (u : q_S) (v1 : Int32) (v2 : Int32) (hp : m_lies_p u v1 v2) : gz_MV l y_HoldQueueModel_lies m_lies_w m_lies_R D q_cl (m_tys kc) (m_wf a kc) (m_as a) a [gz_r 0, gz_i v1, gz_i v2] u (m_lies u v1 v2) := gz_metV (by decide) rfl (m_has a kc) (Nat.le_of_ble_eq_true rfl) rfl (m_lies_d u v1 v2 hp ⟨rfl, rfl⟩) (fun p e s m below meth c F => m_lies_o (Kr := fun r z => r = none ∧ z = (m_lies u v1 v2)) D a kc F)
-- HoldQueueModel.goes(I)I
def m_goes_w : List Cond := Cond.code y_HoldQueueModel_goes c_HoldQueueModel_goes 3 (some .int) :: lw_gd
theorem m_goes_k : Cond.code y_HoldQueueModel_goes c_HoldQueueModel_goes 3 (some .int) ∈ lw_gd := wi_384
theorem m_goes_sl : Cond.selects R_HoldQueueModel y_HoldQueueModel_goes y_HoldQueueModel_goes ∈ lw_gd := by decide +kernel
abbrev m_goes_R : Room := { frames := 2, cells := 0, slots := 0, locals := 80 }
set_option maxRecDepth 100000 in
set_option maxHeartbeats 4000000 in
theorem m_goes_o (D : va_G) (a : Nat → Nat) (kc : Nat → ClassId) (F : gz_F p s m args meth c c_HoldQueueModel_goes 3 (some .int) m_goes_w R_HoldQueueModel) : gz_oks (gz_Z p l e m_goes_R s m args below meth c 0 0 (MQ below (va_Qi (fun r z => Kr (some r) z) (gz_B D q_cl (m_tys kc) (m_wf a kc) (gz_A (m_as a) s.heap.size)) (gz_A (m_as a) s.heap.size)) args s 0 0 (gz_A (m_as a) s.heap.size)) 3 a (gz_GG D q_cl (m_tys kc) (gz_A (m_as a) s.heap.size) s (m_wf a kc))) Kr m_goes_t := by
  refine And.intro (gz_o_aload_n F.1 F.2.1 0 d_HoldQueueModel_goes_0 rfl) ?_
  refine And.intro (gz_o_aload_n F.1 F.2.1 0 d_HoldQueueModel_goes_1 rfl) ?_
  refine And.intro (gz_o_getR (mg__HoldQueueModel_24 F d_HoldQueueModel_goes_2)) ?_
  refine And.intro (gz_o_iload_n F.1 F.2.1 1 d_HoldQueueModel_goes_5 rfl) ?_
  refine And.intro (gz_o_ild (m_ild F d_HoldQueueModel_goes_6)) ?_
  refine And.intro (gz_o_c1P (fun u x hp => gz_cbI (m_has a kc) (fun _ h => Or.inr h) (gz_runV (bs := [gz_i x]) F.2.2.2.2.2.2.2 ⟨F.1, F.2.1, F.2.2.2.1, F.2.2.2.2.1, gz_hts F⟩ (m_fits_c l D a kc u x hp) (cwV 1 (gz_hts F) (gz_gV lw_good wi_385 wi_387 m_fits_sl wi_5 m_fits_k) rfl rfl rfl (by decide +kernel) ⟨Nat.le_of_ble_eq_true rfl, Nat.le_of_ble_eq_true rfl⟩) rfl 0 rfl rfl d_HoldQueueModel_goes_7 ⟨Nat.le_of_ble_eq_true rfl, Nat.le_of_ble_eq_true rfl⟩))) ?_
  refine And.intro (gz_o_istore_n F.1 F.2.1 2 d_HoldQueueModel_goes_10 rfl (by decide)) ?_
  refine And.intro (gz_o_aload_n F.1 F.2.1 0 d_HoldQueueModel_goes_11 rfl) ?_
  refine And.intro (gz_o_getR (mg__HoldQueueModel_33 F d_HoldQueueModel_goes_12)) ?_
  refine And.intro (gz_o_iload_n F.1 F.2.1 1 d_HoldQueueModel_goes_15 rfl) ?_
  refine And.intro (gz_o_iload_n F.1 F.2.1 2 d_HoldQueueModel_goes_16 rfl) ?_
  refine And.intro (gz_o_ist (m_ist F d_HoldQueueModel_goes_17)) ?_
  refine And.intro (gz_o_aload_n F.1 F.2.1 0 d_HoldQueueModel_goes_18 rfl) ?_
  refine And.intro (gz_o_getR (mg__HoldQueueModel_27 F d_HoldQueueModel_goes_19)) ?_
  refine And.intro (gz_o_iload_n F.1 F.2.1 1 d_HoldQueueModel_goes_22 rfl) ?_
  refine And.intro (gz_o_iconst F.1 F.2.1 0 d_HoldQueueModel_goes_23 (by decide)) ?_
  refine And.intro (gz_o_ist (m_ist F d_HoldQueueModel_goes_24)) ?_
  refine And.intro (gz_o_iload_n F.1 F.2.1 2 d_HoldQueueModel_goes_25 rfl) ?_
  refine And.intro (gz_o_if_ne F.1 F.2.1 31 d_HoldQueueModel_goes_26 (by decide)) ?_
  refine And.intro (gz_o_iconst F.1 F.2.1 0 d_HoldQueueModel_goes_29 (by decide)) ?_
  refine And.intro (gz_o_iret (gz_e_i (post := Kr) F d_HoldQueueModel_goes_30)) ?_
  refine And.intro (gz_o_aload_n F.1 F.2.1 0 d_HoldQueueModel_goes_31 rfl) ?_
  refine And.intro (gz_o_getR (mg__HoldQueueModel_51 F d_HoldQueueModel_goes_32)) ?_
  refine And.intro (gz_o_iload_n F.1 F.2.1 2 d_HoldQueueModel_goes_35 rfl) ?_
  refine And.intro (gz_o_iload_n F.1 F.2.1 1 d_HoldQueueModel_goes_36 rfl) ?_
  refine And.intro (gz_o_ist (m_ist F d_HoldQueueModel_goes_37)) ?_
  refine And.intro (gz_o_aload_n F.1 F.2.1 0 d_HoldQueueModel_goes_38 rfl) ?_
  refine And.intro (gz_o_getR (mg__HoldQueueModel_30 F d_HoldQueueModel_goes_39)) ?_
  refine And.intro (gz_o_iload_n F.1 F.2.1 1 d_HoldQueueModel_goes_42 rfl) ?_
  refine And.intro (gz_o_ild (m_ild F d_HoldQueueModel_goes_43)) ?_
  refine And.intro (gz_o_aload_n F.1 F.2.1 0 d_HoldQueueModel_goes_44 rfl) ?_
  refine And.intro (gz_o_getR (mg__HoldQueueModel_42 F d_HoldQueueModel_goes_45)) ?_
  refine And.intro (gz_o_iload_n F.1 F.2.1 2 d_HoldQueueModel_goes_48 rfl) ?_
  refine And.intro (gz_o_ild (m_ild F d_HoldQueueModel_goes_49)) ?_
  refine And.intro (gz_o_ic_ne F.1 F.2.1 62 d_HoldQueueModel_goes_50 (by decide)) ?_
  refine And.intro (gz_o_aload_n F.1 F.2.1 0 d_HoldQueueModel_goes_53 rfl) ?_
  refine And.intro (gz_o_iload_n F.1 F.2.1 1 d_HoldQueueModel_goes_54 rfl) ?_
  refine And.intro (gz_o_iload_n F.1 F.2.1 2 d_HoldQueueModel_goes_55 rfl) ?_
  refine And.intro (gz_o_c2V (fun u x y hp => gz_cbV (m_has a kc) (fun _ h => Or.inr h) (gz_runV (bs := [gz_i x, gz_i y]) F.2.2.2.2.2.2.2 ⟨F.1, F.2.1, F.2.2.2.1, F.2.2.2.2.1, gz_hts F⟩ (m_lies_c l D a kc u x y hp) (cwV 2 (gz_hts F) (gz_gV lw_good wi_393 wi_395 m_lies_sl wi_5 m_lies_k) rfl rfl rfl (by decide +kernel) ⟨Nat.le_of_ble_eq_true rfl, Nat.le_of_ble_eq_true rfl⟩) rfl 0 rfl rfl d_HoldQueueModel_goes_56 ⟨Nat.le_of_ble_eq_true rfl, Nat.le_of_ble_eq_true rfl⟩))) ?_
  refine And.intro (gz_o_goto F.1 F.2.1 88 d_HoldQueueModel_goes_59 (by decide)) ?_
  refine And.intro (gz_o_aload_n F.1 F.2.1 0 d_HoldQueueModel_goes_62 rfl) ?_
  refine And.intro (gz_o_getR (mg__HoldQueueModel_48 F d_HoldQueueModel_goes_63)) ?_
  refine And.intro (gz_o_iload_n F.1 F.2.1 2 d_HoldQueueModel_goes_66 rfl) ?_
  refine And.intro (gz_o_iconst F.1 F.2.1 1 d_HoldQueueModel_goes_67 (by decide)) ?_
  refine And.intro (gz_o_ist (m_ist F d_HoldQueueModel_goes_68)) ?_
  refine And.intro (gz_o_aload_n F.1 F.2.1 0 d_HoldQueueModel_goes_69 rfl) ?_
  refine And.intro (gz_o_getR (mg__HoldQueueModel_27 F d_HoldQueueModel_goes_70)) ?_
  refine And.intro (gz_o_iload_n F.1 F.2.1 1 d_HoldQueueModel_goes_73 rfl) ?_
  refine And.intro (gz_o_iconst F.1 F.2.1 2 d_HoldQueueModel_goes_74 (by decide)) ?_
  refine And.intro (gz_o_ist (m_ist F d_HoldQueueModel_goes_75)) ?_
  refine And.intro (gz_o_aload_n F.1 F.2.1 0 d_HoldQueueModel_goes_76 rfl) ?_
  refine And.intro (gz_o_getR (mg__HoldQueueModel_30 F d_HoldQueueModel_goes_77)) ?_
  refine And.intro (gz_o_iload_n F.1 F.2.1 1 d_HoldQueueModel_goes_80 rfl) ?_
  refine And.intro (gz_o_aload_n F.1 F.2.1 0 d_HoldQueueModel_goes_81 rfl) ?_
  refine And.intro (gz_o_getR (mg__HoldQueueModel_42 F d_HoldQueueModel_goes_82)) ?_
  refine And.intro (gz_o_iload_n F.1 F.2.1 2 d_HoldQueueModel_goes_85 rfl) ?_
  refine And.intro (gz_o_ild (m_ild F d_HoldQueueModel_goes_86)) ?_
  refine And.intro (gz_o_ist (m_ist F d_HoldQueueModel_goes_87)) ?_
  refine And.intro (gz_o_iload_n F.1 F.2.1 2 d_HoldQueueModel_goes_88 rfl) ?_
  refine And.intro (gz_o_iret (gz_e_i (post := Kr) F d_HoldQueueModel_goes_89)) ?_
  exact trivial
set_option maxRecDepth 100000 in
set_option maxHeartbeats 4000000 in
theorem m_goes_c (l : Launch) (D : va_G) (a : Nat → Nat) (kc : Nat → ClassId) (u : q_S) (v1 : Int32) (hp : m_goes_p u v1) : gz_MI l y_HoldQueueModel_goes m_goes_w m_goes_R D q_cl (m_tys kc) (m_wf a kc) (m_as a) a [gz_r 0, gz_i v1] u (m_goes_r u v1) (m_goes_s u v1) := gz_metI (by decide) rfl (m_has a kc) (Nat.le_of_ble_eq_true rfl) rfl (m_goes_d u v1 hp ⟨rfl, rfl⟩) (fun p e s m below meth c F => m_goes_o (Kr := fun r z => r = some (m_goes_r u v1) ∧ z = (m_goes_s u v1)) D a kc F)
-- HoldQueueModel.hold(IIII)I
def m_hold_w : List Cond := Cond.code y_HoldQueueModel_hold c_HoldQueueModel_hold 9 (some .int) :: lw_gd
theorem m_hold_k : Cond.code y_HoldQueueModel_hold c_HoldQueueModel_hold 9 (some .int) ∈ lw_gd := wi_375
theorem m_hold_sl : Cond.selects R_HoldQueueModel y_HoldQueueModel_hold y_HoldQueueModel_hold ∈ lw_gd := wi_374
abbrev m_hold_R : Room := { frames := 3, cells := 0, slots := 0, locals := 120 }
set_option maxRecDepth 100000 in
set_option maxHeartbeats 4000000 in
theorem m_hold_o (D : va_G) (a : Nat → Nat) (kc : Nat → ClassId) (F : gz_F p s m args meth c c_HoldQueueModel_hold 9 (some .int) m_hold_w R_HoldQueueModel) : gz_oks (gz_Z p l e m_hold_R s m args below meth c 0 0 (MQ below (va_Qi (fun r z => Kr (some r) z) (gz_B D q_cl (m_tys kc) (m_wf a kc) (gz_A (m_as a) s.heap.size)) (gz_A (m_as a) s.heap.size)) args s 0 0 (gz_A (m_as a) s.heap.size)) 9 a (gz_GG D q_cl (m_tys kc) (gz_A (m_as a) s.heap.size) s (m_wf a kc))) Kr m_hold_t := by
  refine And.intro (gz_o_aload_n F.1 F.2.1 0 d_HoldQueueModel_hold_0 rfl) ?_
  refine And.intro (gz_o_iconst F.1 F.2.1 0 d_HoldQueueModel_hold_1 (by decide)) ?_
  refine And.intro (gz_o_putI (mp__HoldQueueModel_61 F d_HoldQueueModel_hold_2)) ?_
  refine And.intro (gz_o_iload_n F.1 F.2.1 1 d_HoldQueueModel_hold_5 rfl) ?_
  refine And.intro (gz_o_iconst F.1 F.2.1 0 d_HoldQueueModel_hold_6 (by decide)) ?_
  refine And.intro (gz_o_bipush F.1 F.2.1 39 d_HoldQueueModel_hold_7 (by decide)) ?_
  refine And.intro (gz_o_s3P (fun u x y z => gz_cbI (m_has a kc) (fun _ h => Or.inr h) (gz_runS (bs := [gz_i x, gz_i y, gz_i z]) F.2.2.2.2.2.2.2 ⟨F.1, F.2.1, F.2.2.2.1, F.2.2.2.2.1, gz_hts F⟩ (m_in_c l D a kc u x y z) (cwS 3 (gz_hts F) (gz_gS lw_good wi_361 wi_362 wi_5 m_in_k) rfl rfl rfl (by decide +kernel) ⟨Nat.le_of_ble_eq_true rfl, Nat.le_of_ble_eq_true rfl⟩) rfl d_HoldQueueModel_hold_9 ⟨Nat.le_of_ble_eq_true rfl, Nat.le_of_ble_eq_true rfl⟩))) ?_
  refine And.intro (gz_o_if_eq F.1 F.2.1 59 d_HoldQueueModel_hold_12 (by decide)) ?_
  refine And.intro (gz_o_iload_n F.1 F.2.1 2 d_HoldQueueModel_hold_15 rfl) ?_
  refine And.intro (gz_o_iconst F.1 F.2.1 1 d_HoldQueueModel_hold_16 (by decide)) ?_
  refine And.intro (gz_o_aload_n F.1 F.2.1 0 d_HoldQueueModel_hold_17 rfl) ?_
  refine And.intro (gz_o_getI (mg__HoldQueueModel_68 F d_HoldQueueModel_hold_18)) ?_
  refine And.intro (gz_o_s3P (fun u x y z => gz_cbI (m_has a kc) (fun _ h => Or.inr h) (gz_runS (bs := [gz_i x, gz_i y, gz_i z]) F.2.2.2.2.2.2.2 ⟨F.1, F.2.1, F.2.2.2.1, F.2.2.2.2.1, gz_hts F⟩ (m_in_c l D a kc u x y z) (cwS 3 (gz_hts F) (gz_gS lw_good wi_361 wi_362 wi_5 m_in_k) rfl rfl rfl (by decide +kernel) ⟨Nat.le_of_ble_eq_true rfl, Nat.le_of_ble_eq_true rfl⟩) rfl d_HoldQueueModel_hold_21 ⟨Nat.le_of_ble_eq_true rfl, Nat.le_of_ble_eq_true rfl⟩))) ?_
  refine And.intro (gz_o_if_eq F.1 F.2.1 59 d_HoldQueueModel_hold_24 (by decide)) ?_
  refine And.intro (gz_o_iload_n F.1 F.2.1 3 d_HoldQueueModel_hold_27 rfl) ?_
  refine And.intro (gz_o_iconst F.1 F.2.1 0 d_HoldQueueModel_hold_28 (by decide)) ?_
  refine And.intro (gz_o_iconst F.1 F.2.1 5 d_HoldQueueModel_hold_29 (by decide)) ?_
  refine And.intro (gz_o_s3P (fun u x y z => gz_cbI (m_has a kc) (fun _ h => Or.inr h) (gz_runS (bs := [gz_i x, gz_i y, gz_i z]) F.2.2.2.2.2.2.2 ⟨F.1, F.2.1, F.2.2.2.1, F.2.2.2.2.1, gz_hts F⟩ (m_in_c l D a kc u x y z) (cwS 3 (gz_hts F) (gz_gS lw_good wi_361 wi_362 wi_5 m_in_k) rfl rfl rfl (by decide +kernel) ⟨Nat.le_of_ble_eq_true rfl, Nat.le_of_ble_eq_true rfl⟩) rfl d_HoldQueueModel_hold_30 ⟨Nat.le_of_ble_eq_true rfl, Nat.le_of_ble_eq_true rfl⟩))) ?_
  refine And.intro (gz_o_if_eq F.1 F.2.1 59 d_HoldQueueModel_hold_33 (by decide)) ?_
  refine And.intro (gz_o_aload_n F.1 F.2.1 0 d_HoldQueueModel_hold_36 rfl) ?_
  refine And.intro (gz_o_getR (mg__HoldQueueModel_13 F d_HoldQueueModel_hold_37)) ?_
  refine And.intro (gz_o_aload_n F.1 F.2.1 0 d_HoldQueueModel_hold_40 rfl) ?_
  refine And.intro (gz_o_getR (mg__HoldQueueModel_7 F d_HoldQueueModel_hold_41)) ?_
  refine And.intro (gz_o_iload_n F.1 F.2.1 2 d_HoldQueueModel_hold_44 rfl) ?_
  refine And.intro (gz_o_ild (m_ild F d_HoldQueueModel_hold_45)) ?_
  refine And.intro (gz_o_ild (m_zld F d_HoldQueueModel_hold_46)) ?_
  refine And.intro (gz_o_if_ne F.1 F.2.1 59 d_HoldQueueModel_hold_47 (by decide)) ?_
  refine And.intro (gz_o_aload_n F.1 F.2.1 0 d_HoldQueueModel_hold_50 rfl) ?_
  refine And.intro (gz_o_getI (mg__HoldQueueModel_74 F d_HoldQueueModel_hold_51)) ?_
  refine And.intro (gz_o_bipush F.1 F.2.1 120 d_HoldQueueModel_hold_54 (by decide)) ?_
  refine And.intro (gz_o_ic_ne F.1 F.2.1 61 d_HoldQueueModel_hold_56 (by decide)) ?_
  refine And.intro (gz_o_iconst F.1 F.2.1 0 d_HoldQueueModel_hold_59 (by decide)) ?_
  refine And.intro (gz_o_iret (gz_e_i (post := Kr) F d_HoldQueueModel_hold_60)) ?_
  refine And.intro (gz_o_iconst F.1 F.2.1 0 d_HoldQueueModel_hold_61 (by decide)) ?_
  refine And.intro (gz_o_istore F.1 F.2.1 5 d_HoldQueueModel_hold_62 (by decide)) ?_
  refine And.intro (gz_o_iconst F.1 F.2.1 1 d_HoldQueueModel_hold_64 (by decide)) ?_
  refine And.intro (gz_o_istore F.1 F.2.1 6 d_HoldQueueModel_hold_65 (by decide)) ?_
  refine And.intro (gz_o_iload F.1 F.2.1 6 d_HoldQueueModel_hold_67) ?_
  refine And.intro (gz_o_aload_n F.1 F.2.1 0 d_HoldQueueModel_hold_69 rfl) ?_
  refine And.intro (gz_o_getI (mg__HoldQueueModel_74 F d_HoldQueueModel_hold_70)) ?_
  refine And.intro (gz_o_ic_gt F.1 F.2.1 121 d_HoldQueueModel_hold_73 (by decide)) ?_
  refine And.intro (gz_o_aload_n F.1 F.2.1 0 d_HoldQueueModel_hold_76 rfl) ?_
  refine And.intro (gz_o_getR (mg__HoldQueueModel_36 F d_HoldQueueModel_hold_77)) ?_
  refine And.intro (gz_o_iload F.1 F.2.1 6 d_HoldQueueModel_hold_80) ?_
  refine And.intro (gz_o_ild (m_ild F d_HoldQueueModel_hold_82)) ?_
  refine And.intro (gz_o_iload_n F.1 F.2.1 1 d_HoldQueueModel_hold_83 rfl) ?_
  refine And.intro (gz_o_ic_ne F.1 F.2.1 115 d_HoldQueueModel_hold_84 (by decide)) ?_
  refine And.intro (gz_o_aload_n F.1 F.2.1 0 d_HoldQueueModel_hold_87 rfl) ?_
  refine And.intro (gz_o_iload F.1 F.2.1 6 d_HoldQueueModel_hold_88) ?_
  refine And.intro (gz_o_c1P (fun u x hp => gz_cbI (m_has a kc) (fun _ h => Or.inr h) (gz_runV (bs := [gz_i x]) F.2.2.2.2.2.2.2 ⟨F.1, F.2.1, F.2.2.2.1, F.2.2.2.2.1, gz_hts F⟩ (m_isOpen_c l D a kc u x hp) (cwV 1 (gz_hts F) (gz_gV lw_good wi_376 wi_378 m_isOpen_sl wi_5 m_isOpen_k) rfl rfl rfl (by decide +kernel) ⟨Nat.le_of_ble_eq_true rfl, Nat.le_of_ble_eq_true rfl⟩) rfl 0 rfl rfl d_HoldQueueModel_hold_90 ⟨Nat.le_of_ble_eq_true rfl, Nat.le_of_ble_eq_true rfl⟩))) ?_
  refine And.intro (gz_o_if_ne F.1 F.2.1 99 d_HoldQueueModel_hold_93 (by decide)) ?_
  refine And.intro (gz_o_goto F.1 F.2.1 115 d_HoldQueueModel_hold_96 (by decide)) ?_
  refine And.intro (gz_o_aload_n F.1 F.2.1 0 d_HoldQueueModel_hold_99 rfl) ?_
  refine And.intro (gz_o_getR (mg__HoldQueueModel_39 F d_HoldQueueModel_hold_100)) ?_
  refine And.intro (gz_o_iload F.1 F.2.1 6 d_HoldQueueModel_hold_103) ?_
  refine And.intro (gz_o_ild (m_ild F d_HoldQueueModel_hold_105)) ?_
  refine And.intro (gz_o_iload_n F.1 F.2.1 2 d_HoldQueueModel_hold_106 rfl) ?_
  refine And.intro (gz_o_ic_ne F.1 F.2.1 112 d_HoldQueueModel_hold_107 (by decide)) ?_
  refine And.intro (gz_o_iconst F.1 F.2.1 0 d_HoldQueueModel_hold_110 (by decide)) ?_
  refine And.intro (gz_o_iret (gz_e_i (post := Kr) F d_HoldQueueModel_hold_111)) ?_
  refine And.intro (gz_o_iinc F.1 F.2.1 5 1 d_HoldQueueModel_hold_112 (by decide) (by decide)) ?_
  refine And.intro (gz_o_iinc F.1 F.2.1 6 1 d_HoldQueueModel_hold_115 (by decide) (by decide)) ?_
  refine And.intro (gz_o_goto F.1 F.2.1 67 d_HoldQueueModel_hold_118 (by decide)) ?_
  refine And.intro (gz_o_iload F.1 F.2.1 5 d_HoldQueueModel_hold_121) ?_
  refine And.intro (gz_o_aload_n F.1 F.2.1 0 d_HoldQueueModel_hold_123 rfl) ?_
  refine And.intro (gz_o_getR (mg__HoldQueueModel_17 F d_HoldQueueModel_hold_124)) ?_
  refine And.intro (gz_o_iload_n F.1 F.2.1 1 d_HoldQueueModel_hold_127 rfl) ?_
  refine And.intro (gz_o_ild (m_ild F d_HoldQueueModel_hold_128)) ?_
  refine And.intro (gz_o_ic_lt F.1 F.2.1 134 d_HoldQueueModel_hold_129 (by decide)) ?_
  refine And.intro (gz_o_iconst F.1 F.2.1 (-1) d_HoldQueueModel_hold_132 (by decide)) ?_
  refine And.intro (gz_o_iret (gz_e_i (post := Kr) F d_HoldQueueModel_hold_133)) ?_
  refine And.intro (gz_o_aload_n F.1 F.2.1 0 d_HoldQueueModel_hold_134 rfl) ?_
  refine And.intro (gz_o_dup F.1 F.2.1 d_HoldQueueModel_hold_135) ?_
  refine And.intro (gz_o_getI (mg__HoldQueueModel_74 F d_HoldQueueModel_hold_136)) ?_
  refine And.intro (gz_o_iconst F.1 F.2.1 1 d_HoldQueueModel_hold_139 (by decide)) ?_
  refine And.intro (gz_o_iadd F.1 F.2.1 d_HoldQueueModel_hold_140) ?_
  refine And.intro (gz_o_putI (mp__HoldQueueModel_74 F d_HoldQueueModel_hold_141)) ?_
  refine And.intro (gz_o_aload_n F.1 F.2.1 0 d_HoldQueueModel_hold_144 rfl) ?_
  refine And.intro (gz_o_getR (mg__HoldQueueModel_36 F d_HoldQueueModel_hold_145)) ?_
  refine And.intro (gz_o_aload_n F.1 F.2.1 0 d_HoldQueueModel_hold_148 rfl) ?_
  refine And.intro (gz_o_getI (mg__HoldQueueModel_74 F d_HoldQueueModel_hold_149)) ?_
  refine And.intro (gz_o_iload_n F.1 F.2.1 1 d_HoldQueueModel_hold_152 rfl) ?_
  refine And.intro (gz_o_ist (m_ist F d_HoldQueueModel_hold_153)) ?_
  refine And.intro (gz_o_aload_n F.1 F.2.1 0 d_HoldQueueModel_hold_154 rfl) ?_
  refine And.intro (gz_o_getR (mg__HoldQueueModel_39 F d_HoldQueueModel_hold_155)) ?_
  refine And.intro (gz_o_aload_n F.1 F.2.1 0 d_HoldQueueModel_hold_158 rfl) ?_
  refine And.intro (gz_o_getI (mg__HoldQueueModel_74 F d_HoldQueueModel_hold_159)) ?_
  refine And.intro (gz_o_iload_n F.1 F.2.1 2 d_HoldQueueModel_hold_162 rfl) ?_
  refine And.intro (gz_o_ist (m_ist F d_HoldQueueModel_hold_163)) ?_
  refine And.intro (gz_o_aload_n F.1 F.2.1 0 d_HoldQueueModel_hold_164 rfl) ?_
  refine And.intro (gz_o_getR (mg__HoldQueueModel_42 F d_HoldQueueModel_hold_165)) ?_
  refine And.intro (gz_o_aload_n F.1 F.2.1 0 d_HoldQueueModel_hold_168 rfl) ?_
  refine And.intro (gz_o_getI (mg__HoldQueueModel_74 F d_HoldQueueModel_hold_169)) ?_
  refine And.intro (gz_o_iload_n F.1 F.2.1 3 d_HoldQueueModel_hold_172 rfl) ?_
  refine And.intro (gz_o_ist (m_ist F d_HoldQueueModel_hold_173)) ?_
  refine And.intro (gz_o_aload_n F.1 F.2.1 0 d_HoldQueueModel_hold_174 rfl) ?_
  refine And.intro (gz_o_getR (mg__HoldQueueModel_45 F d_HoldQueueModel_hold_175)) ?_
  refine And.intro (gz_o_aload_n F.1 F.2.1 0 d_HoldQueueModel_hold_178 rfl) ?_
  refine And.intro (gz_o_getI (mg__HoldQueueModel_74 F d_HoldQueueModel_hold_179)) ?_
  refine And.intro (gz_o_iload F.1 F.2.1 4 d_HoldQueueModel_hold_182) ?_
  refine And.intro (gz_o_ist (m_ist F d_HoldQueueModel_hold_184)) ?_
  refine And.intro (gz_o_aload_n F.1 F.2.1 0 d_HoldQueueModel_hold_185 rfl) ?_
  refine And.intro (gz_o_getR (mg__HoldQueueModel_48 F d_HoldQueueModel_hold_186)) ?_
  refine And.intro (gz_o_aload_n F.1 F.2.1 0 d_HoldQueueModel_hold_189 rfl) ?_
  refine And.intro (gz_o_getI (mg__HoldQueueModel_74 F d_HoldQueueModel_hold_190)) ?_
  refine And.intro (gz_o_iconst F.1 F.2.1 0 d_HoldQueueModel_hold_193 (by decide)) ?_
  refine And.intro (gz_o_ist (m_ist F d_HoldQueueModel_hold_194)) ?_
  refine And.intro (gz_o_aload_n F.1 F.2.1 0 d_HoldQueueModel_hold_195 rfl) ?_
  refine And.intro (gz_o_getR (mg__HoldQueueModel_51 F d_HoldQueueModel_hold_196)) ?_
  refine And.intro (gz_o_aload_n F.1 F.2.1 0 d_HoldQueueModel_hold_199 rfl) ?_
  refine And.intro (gz_o_getI (mg__HoldQueueModel_74 F d_HoldQueueModel_hold_200)) ?_
  refine And.intro (gz_o_iconst F.1 F.2.1 0 d_HoldQueueModel_hold_203 (by decide)) ?_
  refine And.intro (gz_o_ist (m_ist F d_HoldQueueModel_hold_204)) ?_
  refine And.intro (gz_o_aload_n F.1 F.2.1 0 d_HoldQueueModel_hold_205 rfl) ?_
  refine And.intro (gz_o_getR (mg__HoldQueueModel_54 F d_HoldQueueModel_hold_206)) ?_
  refine And.intro (gz_o_aload_n F.1 F.2.1 0 d_HoldQueueModel_hold_209 rfl) ?_
  refine And.intro (gz_o_getI (mg__HoldQueueModel_74 F d_HoldQueueModel_hold_210)) ?_
  refine And.intro (gz_o_ldc2 F.1 F.2.1 (-9223372036854775807) F.2.2.2.2.1 (gz_hts F (.constantLong R_HoldQueueModel 97 (-9223372036854775807)) wi_380) d_HoldQueueModel_hold_213) ?_
  refine And.intro (gz_o_lst (m_lst F d_HoldQueueModel_hold_216)) ?_
  refine And.intro (gz_o_aload_n F.1 F.2.1 0 d_HoldQueueModel_hold_217 rfl) ?_
  refine And.intro (gz_o_getI (mg__HoldQueueModel_74 F d_HoldQueueModel_hold_218)) ?_
  refine And.intro (gz_o_istore F.1 F.2.1 6 d_HoldQueueModel_hold_221 (by decide)) ?_
  refine And.intro (gz_o_iconst F.1 F.2.1 0 d_HoldQueueModel_hold_223 (by decide)) ?_
  refine And.intro (gz_o_istore F.1 F.2.1 7 d_HoldQueueModel_hold_224 (by decide)) ?_
  refine And.intro (gz_o_aload_n F.1 F.2.1 0 d_HoldQueueModel_hold_226 rfl) ?_
  refine And.intro (gz_o_getI (mg__HoldQueueModel_71 F d_HoldQueueModel_hold_227)) ?_
  refine And.intro (gz_o_istore F.1 F.2.1 8 d_HoldQueueModel_hold_230 (by decide)) ?_
  refine And.intro (gz_o_iload F.1 F.2.1 8 d_HoldQueueModel_hold_232) ?_
  refine And.intro (gz_o_if_le F.1 F.2.1 273 d_HoldQueueModel_hold_234 (by decide)) ?_
  refine And.intro (gz_o_aload_n F.1 F.2.1 0 d_HoldQueueModel_hold_237 rfl) ?_
  refine And.intro (gz_o_getR (mg__HoldQueueModel_24 F d_HoldQueueModel_hold_238)) ?_
  refine And.intro (gz_o_iload F.1 F.2.1 8 d_HoldQueueModel_hold_241) ?_
  refine And.intro (gz_o_ild (m_ild F d_HoldQueueModel_hold_243)) ?_
  refine And.intro (gz_o_iload_n F.1 F.2.1 2 d_HoldQueueModel_hold_244 rfl) ?_
  refine And.intro (gz_o_ic_ne F.1 F.2.1 263 d_HoldQueueModel_hold_245 (by decide)) ?_
  refine And.intro (gz_o_aload_n F.1 F.2.1 0 d_HoldQueueModel_hold_248 rfl) ?_
  refine And.intro (gz_o_getR (mg__HoldQueueModel_27 F d_HoldQueueModel_hold_249)) ?_
  refine And.intro (gz_o_iload F.1 F.2.1 8 d_HoldQueueModel_hold_252) ?_
  refine And.intro (gz_o_ild (m_ild F d_HoldQueueModel_hold_254)) ?_
  refine And.intro (gz_o_if_ne F.1 F.2.1 263 d_HoldQueueModel_hold_255 (by decide)) ?_
  refine And.intro (gz_o_iload F.1 F.2.1 8 d_HoldQueueModel_hold_258) ?_
  refine And.intro (gz_o_goto F.1 F.2.1 265 d_HoldQueueModel_hold_260 (by decide)) ?_
  refine And.intro (gz_o_iload F.1 F.2.1 7 d_HoldQueueModel_hold_263) ?_
  refine And.intro (gz_o_istore F.1 F.2.1 7 d_HoldQueueModel_hold_265 (by decide)) ?_
  refine And.intro (gz_o_iinc F.1 F.2.1 8 (-1) d_HoldQueueModel_hold_267 (by decide) (by decide)) ?_
  refine And.intro (gz_o_goto F.1 F.2.1 232 d_HoldQueueModel_hold_270 (by decide)) ?_
  refine And.intro (gz_o_iload F.1 F.2.1 7 d_HoldQueueModel_hold_273) ?_
  refine And.intro (gz_o_if_le F.1 F.2.1 285 d_HoldQueueModel_hold_275 (by decide)) ?_
  refine And.intro (gz_o_aload_n F.1 F.2.1 0 d_HoldQueueModel_hold_278 rfl) ?_
  refine And.intro (gz_o_iload F.1 F.2.1 7 d_HoldQueueModel_hold_279) ?_
  refine And.intro (gz_o_c1I (fun u x hp => gz_cbI (m_has a kc) (fun _ h => Or.inr h) (gz_runV (bs := [gz_i x]) F.2.2.2.2.2.2.2 ⟨F.1, F.2.1, F.2.2.2.1, F.2.2.2.2.1, gz_hts F⟩ (m_goes_c l D a kc u x hp) (cwV 1 (gz_hts F) (gz_gV lw_good wi_381 wi_383 m_goes_sl wi_5 m_goes_k) rfl rfl rfl (by decide +kernel) ⟨Nat.le_of_ble_eq_true rfl, Nat.le_of_ble_eq_true rfl⟩) rfl 0 rfl rfl d_HoldQueueModel_hold_281 ⟨Nat.le_of_ble_eq_true rfl, Nat.le_of_ble_eq_true rfl⟩))) ?_
  refine And.intro (gz_o_pop F.1 F.2.1 d_HoldQueueModel_hold_284) ?_
  refine And.intro (gz_o_iload F.1 F.2.1 6 d_HoldQueueModel_hold_285) ?_
  refine And.intro (gz_o_iret (gz_e_i (post := Kr) F d_HoldQueueModel_hold_287)) ?_
  exact trivial
set_option maxRecDepth 100000 in
set_option maxHeartbeats 4000000 in
theorem m_hold_c (l : Launch) (D : va_G) (a : Nat → Nat) (kc : Nat → ClassId) (u : q_S) (v1 : Int32) (v2 : Int32) (v3 : Int32) (v4 : Int32) (hp : m_hold_p u v1 v2 v3 v4) : gz_MI l y_HoldQueueModel_hold m_hold_w m_hold_R D q_cl (m_tys kc) (m_wf a kc) (m_as a) a [gz_r 0, gz_i v1, gz_i v2, gz_i v3, gz_i v4] u (m_hold_r u v1 v2 v3 v4) (m_hold_s u v1 v2 v3 v4) := gz_metI (by decide) rfl (m_has a kc) (Nat.le_of_ble_eq_true rfl) rfl (m_hold_d u v1 v2 v3 v4 hp ⟨rfl, rfl⟩) (fun p e s m below meth c F => m_hold_o (Kr := fun r z => r = some (m_hold_r u v1 v2 v3 v4) ∧ z = (m_hold_s u v1 v2 v3 v4)) D a kc F)
-- HoldQueueModel.most(II)I
def m_most_w : List Cond := Cond.code y_HoldQueueModel_most c_HoldQueueModel_most 4 (some .int) :: lw_gd
theorem m_most_k : Cond.code y_HoldQueueModel_most c_HoldQueueModel_most 4 (some .int) ∈ lw_gd := wi_400
theorem m_most_sl : Cond.selects R_HoldQueueModel y_HoldQueueModel_most y_HoldQueueModel_most ∈ lw_gd := wi_399
abbrev m_most_R : Room := { frames := 1, cells := 0, slots := 0, locals := 40 }
set_option maxRecDepth 100000 in
set_option maxHeartbeats 4000000 in
theorem m_most_o (D : va_G) (a : Nat → Nat) (kc : Nat → ClassId) (F : gz_F p s m args meth c c_HoldQueueModel_most 4 (some .int) m_most_w R_HoldQueueModel) : gz_oks (gz_Z p l e m_most_R s m args below meth c 0 0 (MQ below (va_Qi (fun r z => Kr (some r) z) (gz_B D q_cl (m_tys kc) (m_wf a kc) (gz_A (m_as a) s.heap.size)) (gz_A (m_as a) s.heap.size)) args s 0 0 (gz_A (m_as a) s.heap.size)) 4 a (gz_GG D q_cl (m_tys kc) (gz_A (m_as a) s.heap.size) s (m_wf a kc))) Kr m_most_t := by
  refine And.intro (gz_o_aload_n F.1 F.2.1 0 d_HoldQueueModel_most_0 rfl) ?_
  refine And.intro (gz_o_iconst F.1 F.2.1 0 d_HoldQueueModel_most_1 (by decide)) ?_
  refine And.intro (gz_o_putI (mp__HoldQueueModel_61 F d_HoldQueueModel_most_2)) ?_
  refine And.intro (gz_o_iload_n F.1 F.2.1 1 d_HoldQueueModel_most_5 rfl) ?_
  refine And.intro (gz_o_iconst F.1 F.2.1 0 d_HoldQueueModel_most_6 (by decide)) ?_
  refine And.intro (gz_o_bipush F.1 F.2.1 39 d_HoldQueueModel_most_7 (by decide)) ?_
  refine And.intro (gz_o_s3P (fun u x y z => gz_cbI (m_has a kc) (fun _ h => Or.inr h) (gz_runS (bs := [gz_i x, gz_i y, gz_i z]) F.2.2.2.2.2.2.2 ⟨F.1, F.2.1, F.2.2.2.1, F.2.2.2.2.1, gz_hts F⟩ (m_in_c l D a kc u x y z) (cwS 3 (gz_hts F) (gz_gS lw_good wi_361 wi_362 wi_5 m_in_k) rfl rfl rfl (by decide +kernel) ⟨Nat.le_of_ble_eq_true rfl, Nat.le_of_ble_eq_true rfl⟩) rfl d_HoldQueueModel_most_9 ⟨Nat.le_of_ble_eq_true rfl, Nat.le_of_ble_eq_true rfl⟩))) ?_
  refine And.intro (gz_o_if_eq F.1 F.2.1 25 d_HoldQueueModel_most_12 (by decide)) ?_
  refine And.intro (gz_o_iload_n F.1 F.2.1 2 d_HoldQueueModel_most_15 rfl) ?_
  refine And.intro (gz_o_iconst F.1 F.2.1 0 d_HoldQueueModel_most_16 (by decide)) ?_
  refine And.intro (gz_o_bipush F.1 F.2.1 20 d_HoldQueueModel_most_17 (by decide)) ?_
  refine And.intro (gz_o_s3P (fun u x y z => gz_cbI (m_has a kc) (fun _ h => Or.inr h) (gz_runS (bs := [gz_i x, gz_i y, gz_i z]) F.2.2.2.2.2.2.2 ⟨F.1, F.2.1, F.2.2.2.1, F.2.2.2.2.1, gz_hts F⟩ (m_in_c l D a kc u x y z) (cwS 3 (gz_hts F) (gz_gS lw_good wi_361 wi_362 wi_5 m_in_k) rfl rfl rfl (by decide +kernel) ⟨Nat.le_of_ble_eq_true rfl, Nat.le_of_ble_eq_true rfl⟩) rfl d_HoldQueueModel_most_19 ⟨Nat.le_of_ble_eq_true rfl, Nat.le_of_ble_eq_true rfl⟩))) ?_
  refine And.intro (gz_o_if_ne F.1 F.2.1 27 d_HoldQueueModel_most_22 (by decide)) ?_
  refine And.intro (gz_o_iconst F.1 F.2.1 (-1) d_HoldQueueModel_most_25 (by decide)) ?_
  refine And.intro (gz_o_iret (gz_e_i (post := Kr) F d_HoldQueueModel_most_26)) ?_
  refine And.intro (gz_o_aload_n F.1 F.2.1 0 d_HoldQueueModel_most_27 rfl) ?_
  refine And.intro (gz_o_getR (mg__HoldQueueModel_17 F d_HoldQueueModel_most_28)) ?_
  refine And.intro (gz_o_iload_n F.1 F.2.1 1 d_HoldQueueModel_most_31 rfl) ?_
  refine And.intro (gz_o_ild (m_ild F d_HoldQueueModel_most_32)) ?_
  refine And.intro (gz_o_istore_n F.1 F.2.1 3 d_HoldQueueModel_most_33 rfl (by decide)) ?_
  refine And.intro (gz_o_aload_n F.1 F.2.1 0 d_HoldQueueModel_most_34 rfl) ?_
  refine And.intro (gz_o_getR (mg__HoldQueueModel_17 F d_HoldQueueModel_most_35)) ?_
  refine And.intro (gz_o_iload_n F.1 F.2.1 1 d_HoldQueueModel_most_38 rfl) ?_
  refine And.intro (gz_o_iload_n F.1 F.2.1 2 d_HoldQueueModel_most_39 rfl) ?_
  refine And.intro (gz_o_ist (m_ist F d_HoldQueueModel_most_40)) ?_
  refine And.intro (gz_o_iload_n F.1 F.2.1 3 d_HoldQueueModel_most_41 rfl) ?_
  refine And.intro (gz_o_iret (gz_e_i (post := Kr) F d_HoldQueueModel_most_42)) ?_
  exact trivial
set_option maxRecDepth 100000 in
set_option maxHeartbeats 4000000 in
theorem m_most_c (l : Launch) (D : va_G) (a : Nat → Nat) (kc : Nat → ClassId) (u : q_S) (v1 : Int32) (v2 : Int32) (hp : m_most_p u v1 v2) : gz_MI l y_HoldQueueModel_most m_most_w m_most_R D q_cl (m_tys kc) (m_wf a kc) (m_as a) a [gz_r 0, gz_i v1, gz_i v2] u (m_most_r u v1 v2) (m_most_s u v1 v2) := gz_metI (by decide) rfl (m_has a kc) (Nat.le_of_ble_eq_true rfl) rfl (m_most_d u v1 v2 hp ⟨rfl, rfl⟩) (fun p e s m below meth c F => m_most_o (Kr := fun r z => r = some (m_most_r u v1 v2) ∧ z = (m_most_s u v1 v2)) D a kc F)
-- HoldQueueModel.isHold(I)Z
def m_isHold_w : List Cond := Cond.code y_HoldQueueModel_isHold c_HoldQueueModel_isHold 2 (some .boolean) :: lw_gd
theorem m_isHold_k : Cond.code y_HoldQueueModel_isHold c_HoldQueueModel_isHold 2 (some .boolean) ∈ lw_gd := wi_412
theorem m_isHold_sl : Cond.selects R_HoldQueueModel y_HoldQueueModel_isHold y_HoldQueueModel_isHold ∈ lw_gd := by decide +kernel
abbrev m_isHold_R : Room := { frames := 1, cells := 0, slots := 0, locals := 40 }
set_option maxRecDepth 100000 in
set_option maxHeartbeats 4000000 in
theorem m_isHold_o (D : va_G) (a : Nat → Nat) (kc : Nat → ClassId) (F : gz_F p s m args meth c c_HoldQueueModel_isHold 2 (some .boolean) m_isHold_w R_HoldQueueModel) : gz_oks (gz_Z p l e m_isHold_R s m args below meth c 0 0 (MQ below (va_Qi (fun r z => Kr (some r) z) (gz_B D q_cl (m_tys kc) (m_wf a kc) (gz_A (m_as a) s.heap.size)) (gz_A (m_as a) s.heap.size)) args s 0 0 (gz_A (m_as a) s.heap.size)) 2 a (gz_GG D q_cl (m_tys kc) (gz_A (m_as a) s.heap.size) s (m_wf a kc))) Kr m_isHold_t := by
  refine And.intro (gz_o_iload_n F.1 F.2.1 1 d_HoldQueueModel_isHold_0 rfl) ?_
  refine And.intro (gz_o_iconst F.1 F.2.1 1 d_HoldQueueModel_isHold_1 (by decide)) ?_
  refine And.intro (gz_o_aload_n F.1 F.2.1 0 d_HoldQueueModel_isHold_2 rfl) ?_
  refine And.intro (gz_o_getI (mg__HoldQueueModel_74 F d_HoldQueueModel_isHold_3)) ?_
  refine And.intro (gz_o_s3P (fun u x y z => gz_cbI (m_has a kc) (fun _ h => Or.inr h) (gz_runS (bs := [gz_i x, gz_i y, gz_i z]) F.2.2.2.2.2.2.2 ⟨F.1, F.2.1, F.2.2.2.1, F.2.2.2.2.1, gz_hts F⟩ (m_in_c l D a kc u x y z) (cwS 3 (gz_hts F) (gz_gS lw_good wi_361 wi_362 wi_5 m_in_k) rfl rfl rfl (by decide +kernel) ⟨Nat.le_of_ble_eq_true rfl, Nat.le_of_ble_eq_true rfl⟩) rfl d_HoldQueueModel_isHold_6 ⟨Nat.le_of_ble_eq_true rfl, Nat.le_of_ble_eq_true rfl⟩))) ?_
  refine And.intro (gz_o_zret (gz_e_z (post := Kr) F d_HoldQueueModel_isHold_9)) ?_
  exact trivial
set_option maxRecDepth 100000 in
set_option maxHeartbeats 4000000 in
theorem m_isHold_c (l : Launch) (D : va_G) (a : Nat → Nat) (kc : Nat → ClassId) (u : q_S) (v1 : Int32) (hp : m_isHold_p u v1) : gz_MI l y_HoldQueueModel_isHold m_isHold_w m_isHold_R D q_cl (m_tys kc) (m_wf a kc) (m_as a) a [gz_r 0, gz_i v1] u (m_isHold u v1) u := gz_metI (by decide) rfl (m_has a kc) (Nat.le_of_ble_eq_true rfl) rfl (m_isHold_d u v1 hp ⟨rfl, rfl⟩) (fun p e s m below meth c F => m_isHold_o (Kr := fun r z => r = some (m_isHold u v1) ∧ z = u) D a kc F)
-- HoldQueueModel.isWaiting(I)Z
def m_isWaiting_w : List Cond := Cond.code y_HoldQueueModel_isWaiting c_HoldQueueModel_isWaiting 2 (some .boolean) :: lw_gd
theorem m_isWaiting_k : Cond.code y_HoldQueueModel_isWaiting c_HoldQueueModel_isWaiting 2 (some .boolean) ∈ lw_gd := wi_408
theorem m_isWaiting_sl : Cond.selects R_HoldQueueModel y_HoldQueueModel_isWaiting y_HoldQueueModel_isWaiting ∈ lw_gd := by decide +kernel
abbrev m_isWaiting_R : Room := { frames := 2, cells := 0, slots := 0, locals := 80 }
set_option maxRecDepth 100000 in
set_option maxHeartbeats 4000000 in
theorem m_isWaiting_o (D : va_G) (a : Nat → Nat) (kc : Nat → ClassId) (F : gz_F p s m args meth c c_HoldQueueModel_isWaiting 2 (some .boolean) m_isWaiting_w R_HoldQueueModel) : gz_oks (gz_Z p l e m_isWaiting_R s m args below meth c 0 0 (MQ below (va_Qi (fun r z => Kr (some r) z) (gz_B D q_cl (m_tys kc) (m_wf a kc) (gz_A (m_as a) s.heap.size)) (gz_A (m_as a) s.heap.size)) args s 0 0 (gz_A (m_as a) s.heap.size)) 2 a (gz_GG D q_cl (m_tys kc) (gz_A (m_as a) s.heap.size) s (m_wf a kc))) Kr m_isWaiting_t := by
  refine And.intro (gz_o_aload_n F.1 F.2.1 0 d_HoldQueueModel_isWaiting_0 rfl) ?_
  refine And.intro (gz_o_iload_n F.1 F.2.1 1 d_HoldQueueModel_isWaiting_1 rfl) ?_
  refine And.intro (gz_o_c1P (fun u x hp => gz_cbI (m_has a kc) (fun _ h => Or.inr h) (gz_runV (bs := [gz_i x]) F.2.2.2.2.2.2.2 ⟨F.1, F.2.1, F.2.2.2.1, F.2.2.2.2.1, gz_hts F⟩ (m_isHold_c l D a kc u x hp) (cwV 1 (gz_hts F) (gz_gV lw_good wi_409 wi_411 m_isHold_sl wi_5 m_isHold_k) rfl rfl rfl (by decide +kernel) ⟨Nat.le_of_ble_eq_true rfl, Nat.le_of_ble_eq_true rfl⟩) rfl 0 rfl rfl d_HoldQueueModel_isWaiting_2 ⟨Nat.le_of_ble_eq_true rfl, Nat.le_of_ble_eq_true rfl⟩))) ?_
  refine And.intro (gz_o_if_eq F.1 F.2.1 21 d_HoldQueueModel_isWaiting_5 (by decide)) ?_
  refine And.intro (gz_o_aload_n F.1 F.2.1 0 d_HoldQueueModel_isWaiting_8 rfl) ?_
  refine And.intro (gz_o_getR (mg__HoldQueueModel_48 F d_HoldQueueModel_isWaiting_9)) ?_
  refine And.intro (gz_o_iload_n F.1 F.2.1 1 d_HoldQueueModel_isWaiting_12 rfl) ?_
  refine And.intro (gz_o_ild (m_ild F d_HoldQueueModel_isWaiting_13)) ?_
  refine And.intro (gz_o_if_ne F.1 F.2.1 21 d_HoldQueueModel_isWaiting_14 (by decide)) ?_
  refine And.intro (gz_o_iconst F.1 F.2.1 1 d_HoldQueueModel_isWaiting_17 (by decide)) ?_
  refine And.intro (gz_o_goto F.1 F.2.1 22 d_HoldQueueModel_isWaiting_18 (by decide)) ?_
  refine And.intro (gz_o_iconst F.1 F.2.1 0 d_HoldQueueModel_isWaiting_21 (by decide)) ?_
  refine And.intro (gz_o_zret (gz_e_z (post := Kr) F d_HoldQueueModel_isWaiting_22)) ?_
  exact trivial
set_option maxRecDepth 100000 in
set_option maxHeartbeats 4000000 in
theorem m_isWaiting_c (l : Launch) (D : va_G) (a : Nat → Nat) (kc : Nat → ClassId) (u : q_S) (v1 : Int32) (hp : m_isWaiting_p u v1) : gz_MI l y_HoldQueueModel_isWaiting m_isWaiting_w m_isWaiting_R D q_cl (m_tys kc) (m_wf a kc) (m_as a) a [gz_r 0, gz_i v1] u (m_isWaiting u v1) u := gz_metI (by decide) rfl (m_has a kc) (Nat.le_of_ble_eq_true rfl) rfl (m_isWaiting_d u v1 hp ⟨rfl, rfl⟩) (fun p e s m below meth c F => m_isWaiting_o (Kr := fun r z => r = some (m_isWaiting u v1) ∧ z = u) D a kc F)
-- HoldQueueModel.suspend(IJ)I
def m_suspend_w : List Cond := Cond.code y_HoldQueueModel_suspend c_HoldQueueModel_suspend 4 (some .int) :: lw_gd
theorem m_suspend_k : Cond.code y_HoldQueueModel_suspend c_HoldQueueModel_suspend 4 (some .int) ∈ lw_gd := wi_404
theorem m_suspend_sl : Cond.selects R_HoldQueueModel y_HoldQueueModel_suspend y_HoldQueueModel_suspend ∈ lw_gd := wi_403
abbrev m_suspend_R : Room := { frames := 3, cells := 0, slots := 0, locals := 120 }
set_option maxRecDepth 100000 in
set_option maxHeartbeats 4000000 in
theorem m_suspend_o (D : va_G) (a : Nat → Nat) (kc : Nat → ClassId) (F : gz_F p s m args meth c c_HoldQueueModel_suspend 4 (some .int) m_suspend_w R_HoldQueueModel) : gz_oks (gz_Z p l e m_suspend_R s m args below meth c 0 0 (MQ below (va_Qi (fun r z => Kr (some r) z) (gz_B D q_cl (m_tys kc) (m_wf a kc) (gz_A (m_as a) s.heap.size)) (gz_A (m_as a) s.heap.size)) args s 0 0 (gz_A (m_as a) s.heap.size)) 4 a (gz_GG D q_cl (m_tys kc) (gz_A (m_as a) s.heap.size) s (m_wf a kc))) Kr m_suspend_t := by
  refine And.intro (gz_o_aload_n F.1 F.2.1 0 d_HoldQueueModel_suspend_0 rfl) ?_
  refine And.intro (gz_o_iconst F.1 F.2.1 0 d_HoldQueueModel_suspend_1 (by decide)) ?_
  refine And.intro (gz_o_putI (mp__HoldQueueModel_61 F d_HoldQueueModel_suspend_2)) ?_
  refine And.intro (gz_o_aload_n F.1 F.2.1 0 d_HoldQueueModel_suspend_5 rfl) ?_
  refine And.intro (gz_o_iload_n F.1 F.2.1 1 d_HoldQueueModel_suspend_6 rfl) ?_
  refine And.intro (gz_o_c1P (fun u x hp => gz_cbI (m_has a kc) (fun _ h => Or.inr h) (gz_runV (bs := [gz_i x]) F.2.2.2.2.2.2.2 ⟨F.1, F.2.1, F.2.2.2.1, F.2.2.2.2.1, gz_hts F⟩ (m_isWaiting_c l D a kc u x hp) (cwV 1 (gz_hts F) (gz_gV lw_good wi_405 wi_407 m_isWaiting_sl wi_5 m_isWaiting_k) rfl rfl rfl (by decide +kernel) ⟨Nat.le_of_ble_eq_true rfl, Nat.le_of_ble_eq_true rfl⟩) rfl 0 rfl rfl d_HoldQueueModel_suspend_7 ⟨Nat.le_of_ble_eq_true rfl, Nat.le_of_ble_eq_true rfl⟩))) ?_
  refine And.intro (gz_o_if_ne F.1 F.2.1 15 d_HoldQueueModel_suspend_10 (by decide)) ?_
  refine And.intro (gz_o_iconst F.1 F.2.1 0 d_HoldQueueModel_suspend_13 (by decide)) ?_
  refine And.intro (gz_o_iret (gz_e_i (post := Kr) F d_HoldQueueModel_suspend_14)) ?_
  refine And.intro (gz_o_aload_n F.1 F.2.1 0 d_HoldQueueModel_suspend_15 rfl) ?_
  refine And.intro (gz_o_getR (mg__HoldQueueModel_54 F d_HoldQueueModel_suspend_16)) ?_
  refine And.intro (gz_o_iload_n F.1 F.2.1 1 d_HoldQueueModel_suspend_19 rfl) ?_
  refine And.intro (gz_o_lload_n F.1 F.2.1 2 d_HoldQueueModel_suspend_20 rfl) ?_
  refine And.intro (gz_o_lst (m_lst F d_HoldQueueModel_suspend_21)) ?_
  refine And.intro (gz_o_iconst F.1 F.2.1 1 d_HoldQueueModel_suspend_22 (by decide)) ?_
  refine And.intro (gz_o_iret (gz_e_i (post := Kr) F d_HoldQueueModel_suspend_23)) ?_
  exact trivial
set_option maxRecDepth 100000 in
set_option maxHeartbeats 4000000 in
theorem m_suspend_c (l : Launch) (D : va_G) (a : Nat → Nat) (kc : Nat → ClassId) (u : q_S) (v1 : Int32) (v2 : Int64) (hp : m_suspend_p u v1 v2) : gz_MI l y_HoldQueueModel_suspend m_suspend_w m_suspend_R D q_cl (m_tys kc) (m_wf a kc) (m_as a) a [gz_r 0, gz_i v1, gz_l v2] u (m_suspend_r u v1 v2) (m_suspend_s u v1 v2) := gz_metI (by decide) rfl (m_has a kc) (Nat.le_of_ble_eq_true rfl) rfl (m_suspend_d u v1 v2 hp ⟨rfl, rfl⟩) (fun p e s m below meth c F => m_suspend_o (Kr := fun r z => r = some (m_suspend_r u v1 v2) ∧ z = (m_suspend_s u v1 v2)) D a kc F)
-- HoldQueueModel.isCopy(II)Z
def m_isCopy_w : List Cond := Cond.code y_HoldQueueModel_isCopy c_HoldQueueModel_isCopy 3 (some .boolean) :: lw_gd
theorem m_isCopy_k : Cond.code y_HoldQueueModel_isCopy c_HoldQueueModel_isCopy 3 (some .boolean) ∈ lw_gd := wi_420
theorem m_isCopy_sl : Cond.selects R_HoldQueueModel y_HoldQueueModel_isCopy y_HoldQueueModel_isCopy ∈ lw_gd := by decide +kernel
abbrev m_isCopy_R : Room := { frames := 1, cells := 0, slots := 0, locals := 40 }
set_option maxRecDepth 100000 in
set_option maxHeartbeats 4000000 in
theorem m_isCopy_o (D : va_G) (a : Nat → Nat) (kc : Nat → ClassId) (F : gz_F p s m args meth c c_HoldQueueModel_isCopy 3 (some .boolean) m_isCopy_w R_HoldQueueModel) : gz_oks (gz_Z p l e m_isCopy_R s m args below meth c 0 0 (MQ below (va_Qi (fun r z => Kr (some r) z) (gz_B D q_cl (m_tys kc) (m_wf a kc) (gz_A (m_as a) s.heap.size)) (gz_A (m_as a) s.heap.size)) args s 0 0 (gz_A (m_as a) s.heap.size)) 3 a (gz_GG D q_cl (m_tys kc) (gz_A (m_as a) s.heap.size) s (m_wf a kc))) Kr m_isCopy_t := by
  refine And.intro (gz_o_iload_n F.1 F.2.1 1 d_HoldQueueModel_isCopy_0 rfl) ?_
  refine And.intro (gz_o_iconst F.1 F.2.1 1 d_HoldQueueModel_isCopy_1 (by decide)) ?_
  refine And.intro (gz_o_aload_n F.1 F.2.1 0 d_HoldQueueModel_isCopy_2 rfl) ?_
  refine And.intro (gz_o_getI (mg__HoldQueueModel_71 F d_HoldQueueModel_isCopy_3)) ?_
  refine And.intro (gz_o_s3P (fun u x y z => gz_cbI (m_has a kc) (fun _ h => Or.inr h) (gz_runS (bs := [gz_i x, gz_i y, gz_i z]) F.2.2.2.2.2.2.2 ⟨F.1, F.2.1, F.2.2.2.1, F.2.2.2.2.1, gz_hts F⟩ (m_in_c l D a kc u x y z) (cwS 3 (gz_hts F) (gz_gS lw_good wi_361 wi_362 wi_5 m_in_k) rfl rfl rfl (by decide +kernel) ⟨Nat.le_of_ble_eq_true rfl, Nat.le_of_ble_eq_true rfl⟩) rfl d_HoldQueueModel_isCopy_6 ⟨Nat.le_of_ble_eq_true rfl, Nat.le_of_ble_eq_true rfl⟩))) ?_
  refine And.intro (gz_o_if_eq F.1 F.2.1 26 d_HoldQueueModel_isCopy_9 (by decide)) ?_
  refine And.intro (gz_o_aload_n F.1 F.2.1 0 d_HoldQueueModel_isCopy_12 rfl) ?_
  refine And.intro (gz_o_getR (mg__HoldQueueModel_27 F d_HoldQueueModel_isCopy_13)) ?_
  refine And.intro (gz_o_iload_n F.1 F.2.1 1 d_HoldQueueModel_isCopy_16 rfl) ?_
  refine And.intro (gz_o_ild (m_ild F d_HoldQueueModel_isCopy_17)) ?_
  refine And.intro (gz_o_iload_n F.1 F.2.1 2 d_HoldQueueModel_isCopy_18 rfl) ?_
  refine And.intro (gz_o_ic_ne F.1 F.2.1 26 d_HoldQueueModel_isCopy_19 (by decide)) ?_
  refine And.intro (gz_o_iconst F.1 F.2.1 1 d_HoldQueueModel_isCopy_22 (by decide)) ?_
  refine And.intro (gz_o_goto F.1 F.2.1 27 d_HoldQueueModel_isCopy_23 (by decide)) ?_
  refine And.intro (gz_o_iconst F.1 F.2.1 0 d_HoldQueueModel_isCopy_26 (by decide)) ?_
  refine And.intro (gz_o_zret (gz_e_z (post := Kr) F d_HoldQueueModel_isCopy_27)) ?_
  exact trivial
set_option maxRecDepth 100000 in
set_option maxHeartbeats 4000000 in
theorem m_isCopy_c (l : Launch) (D : va_G) (a : Nat → Nat) (kc : Nat → ClassId) (u : q_S) (v1 : Int32) (v2 : Int32) (hp : m_isCopy_p u v1 v2) : gz_MI l y_HoldQueueModel_isCopy m_isCopy_w m_isCopy_R D q_cl (m_tys kc) (m_wf a kc) (m_as a) a [gz_r 0, gz_i v1, gz_i v2] u (m_isCopy u v1 v2) u := gz_metI (by decide) rfl (m_has a kc) (Nat.le_of_ble_eq_true rfl) rfl (m_isCopy_d u v1 v2 hp ⟨rfl, rfl⟩) (fun p e s m below meth c F => m_isCopy_o (Kr := fun r z => r = some (m_isCopy u v1 v2) ∧ z = u) D a kc F)
-- HoldQueueModel.back(II)I
def m_back_w : List Cond := Cond.code y_HoldQueueModel_back c_HoldQueueModel_back 3 (some .int) :: lw_gd
theorem m_back_k : Cond.code y_HoldQueueModel_back c_HoldQueueModel_back 3 (some .int) ∈ lw_gd := wi_416
theorem m_back_sl : Cond.selects R_HoldQueueModel y_HoldQueueModel_back y_HoldQueueModel_back ∈ lw_gd := wi_415
abbrev m_back_R : Room := { frames := 3, cells := 0, slots := 0, locals := 120 }
set_option maxRecDepth 100000 in
set_option maxHeartbeats 4000000 in
theorem m_back_o (D : va_G) (a : Nat → Nat) (kc : Nat → ClassId) (F : gz_F p s m args meth c c_HoldQueueModel_back 3 (some .int) m_back_w R_HoldQueueModel) : gz_oks (gz_Z p l e m_back_R s m args below meth c 0 0 (MQ below (va_Qi (fun r z => Kr (some r) z) (gz_B D q_cl (m_tys kc) (m_wf a kc) (gz_A (m_as a) s.heap.size)) (gz_A (m_as a) s.heap.size)) args s 0 0 (gz_A (m_as a) s.heap.size)) 3 a (gz_GG D q_cl (m_tys kc) (gz_A (m_as a) s.heap.size) s (m_wf a kc))) Kr m_back_t := by
  refine And.intro (gz_o_aload_n F.1 F.2.1 0 d_HoldQueueModel_back_0 rfl) ?_
  refine And.intro (gz_o_iconst F.1 F.2.1 0 d_HoldQueueModel_back_1 (by decide)) ?_
  refine And.intro (gz_o_putI (mp__HoldQueueModel_61 F d_HoldQueueModel_back_2)) ?_
  refine And.intro (gz_o_aload_n F.1 F.2.1 0 d_HoldQueueModel_back_5 rfl) ?_
  refine And.intro (gz_o_iload_n F.1 F.2.1 1 d_HoldQueueModel_back_6 rfl) ?_
  refine And.intro (gz_o_iconst F.1 F.2.1 1 d_HoldQueueModel_back_7 (by decide)) ?_
  refine And.intro (gz_o_c2P (fun u x y hp => gz_cbI (m_has a kc) (fun _ h => Or.inr h) (gz_runV (bs := [gz_i x, gz_i y]) F.2.2.2.2.2.2.2 ⟨F.1, F.2.1, F.2.2.2.1, F.2.2.2.2.1, gz_hts F⟩ (m_isCopy_c l D a kc u x y hp) (cwV 2 (gz_hts F) (gz_gV lw_good wi_417 wi_419 m_isCopy_sl wi_5 m_isCopy_k) rfl rfl rfl (by decide +kernel) ⟨Nat.le_of_ble_eq_true rfl, Nat.le_of_ble_eq_true rfl⟩) rfl 0 rfl rfl d_HoldQueueModel_back_8 ⟨Nat.le_of_ble_eq_true rfl, Nat.le_of_ble_eq_true rfl⟩))) ?_
  refine And.intro (gz_o_if_eq F.1 F.2.1 23 d_HoldQueueModel_back_11 (by decide)) ?_
  refine And.intro (gz_o_iload_n F.1 F.2.1 2 d_HoldQueueModel_back_14 rfl) ?_
  refine And.intro (gz_o_iconst F.1 F.2.1 0 d_HoldQueueModel_back_15 (by decide)) ?_
  refine And.intro (gz_o_iconst F.1 F.2.1 5 d_HoldQueueModel_back_16 (by decide)) ?_
  refine And.intro (gz_o_s3P (fun u x y z => gz_cbI (m_has a kc) (fun _ h => Or.inr h) (gz_runS (bs := [gz_i x, gz_i y, gz_i z]) F.2.2.2.2.2.2.2 ⟨F.1, F.2.1, F.2.2.2.1, F.2.2.2.2.1, gz_hts F⟩ (m_in_c l D a kc u x y z) (cwS 3 (gz_hts F) (gz_gS lw_good wi_361 wi_362 wi_5 m_in_k) rfl rfl rfl (by decide +kernel) ⟨Nat.le_of_ble_eq_true rfl, Nat.le_of_ble_eq_true rfl⟩) rfl d_HoldQueueModel_back_17 ⟨Nat.le_of_ble_eq_true rfl, Nat.le_of_ble_eq_true rfl⟩))) ?_
  refine And.intro (gz_o_if_ne F.1 F.2.1 25 d_HoldQueueModel_back_20 (by decide)) ?_
  refine And.intro (gz_o_iconst F.1 F.2.1 (-1) d_HoldQueueModel_back_23 (by decide)) ?_
  refine And.intro (gz_o_iret (gz_e_i (post := Kr) F d_HoldQueueModel_back_24)) ?_
  refine And.intro (gz_o_aload_n F.1 F.2.1 0 d_HoldQueueModel_back_25 rfl) ?_
  refine And.intro (gz_o_getR (mg__HoldQueueModel_30 F d_HoldQueueModel_back_26)) ?_
  refine And.intro (gz_o_iload_n F.1 F.2.1 1 d_HoldQueueModel_back_29 rfl) ?_
  refine And.intro (gz_o_iload_n F.1 F.2.1 2 d_HoldQueueModel_back_30 rfl) ?_
  refine And.intro (gz_o_ist (m_ist F d_HoldQueueModel_back_31)) ?_
  refine And.intro (gz_o_aload_n F.1 F.2.1 0 d_HoldQueueModel_back_32 rfl) ?_
  refine And.intro (gz_o_iload_n F.1 F.2.1 1 d_HoldQueueModel_back_33 rfl) ?_
  refine And.intro (gz_o_c1I (fun u x hp => gz_cbI (m_has a kc) (fun _ h => Or.inr h) (gz_runV (bs := [gz_i x]) F.2.2.2.2.2.2.2 ⟨F.1, F.2.1, F.2.2.2.1, F.2.2.2.2.1, gz_hts F⟩ (m_goes_c l D a kc u x hp) (cwV 1 (gz_hts F) (gz_gV lw_good wi_381 wi_383 m_goes_sl wi_5 m_goes_k) rfl rfl rfl (by decide +kernel) ⟨Nat.le_of_ble_eq_true rfl, Nat.le_of_ble_eq_true rfl⟩) rfl 0 rfl rfl d_HoldQueueModel_back_34 ⟨Nat.le_of_ble_eq_true rfl, Nat.le_of_ble_eq_true rfl⟩))) ?_
  refine And.intro (gz_o_iret (gz_e_i (post := Kr) F d_HoldQueueModel_back_37)) ?_
  exact trivial
set_option maxRecDepth 100000 in
set_option maxHeartbeats 4000000 in
theorem m_back_c (l : Launch) (D : va_G) (a : Nat → Nat) (kc : Nat → ClassId) (u : q_S) (v1 : Int32) (v2 : Int32) (hp : m_back_p u v1 v2) : gz_MI l y_HoldQueueModel_back m_back_w m_back_R D q_cl (m_tys kc) (m_wf a kc) (m_as a) a [gz_r 0, gz_i v1, gz_i v2] u (m_back_r u v1 v2) (m_back_s u v1 v2) := gz_metI (by decide) rfl (m_has a kc) (Nat.le_of_ble_eq_true rfl) rfl (m_back_d u v1 v2 hp ⟨rfl, rfl⟩) (fun p e s m below meth c F => m_back_o (Kr := fun r z => r = some (m_back_r u v1 v2) ∧ z = (m_back_s u v1 v2)) D a kc F)
-- HoldQueueModel.arrive(I)I
def m_arrive_w : List Cond := Cond.code y_HoldQueueModel_arrive c_HoldQueueModel_arrive 3 (some .int) :: lw_gd
theorem m_arrive_k : Cond.code y_HoldQueueModel_arrive c_HoldQueueModel_arrive 3 (some .int) ∈ lw_gd := wi_424
theorem m_arrive_sl : Cond.selects R_HoldQueueModel y_HoldQueueModel_arrive y_HoldQueueModel_arrive ∈ lw_gd := wi_423
abbrev m_arrive_R : Room := { frames := 3, cells := 0, slots := 0, locals := 120 }
set_option maxRecDepth 100000 in
set_option maxHeartbeats 4000000 in
theorem m_arrive_o (D : va_G) (a : Nat → Nat) (kc : Nat → ClassId) (F : gz_F p s m args meth c c_HoldQueueModel_arrive 3 (some .int) m_arrive_w R_HoldQueueModel) : gz_oks (gz_Z p l e m_arrive_R s m args below meth c 0 0 (MQ below (va_Qi (fun r z => Kr (some r) z) (gz_B D q_cl (m_tys kc) (m_wf a kc) (gz_A (m_as a) s.heap.size)) (gz_A (m_as a) s.heap.size)) args s 0 0 (gz_A (m_as a) s.heap.size)) 3 a (gz_GG D q_cl (m_tys kc) (gz_A (m_as a) s.heap.size) s (m_wf a kc))) Kr m_arrive_t := by
  refine And.intro (gz_o_aload_n F.1 F.2.1 0 d_HoldQueueModel_arrive_0 rfl) ?_
  refine And.intro (gz_o_iconst F.1 F.2.1 0 d_HoldQueueModel_arrive_1 (by decide)) ?_
  refine And.intro (gz_o_putI (mp__HoldQueueModel_61 F d_HoldQueueModel_arrive_2)) ?_
  refine And.intro (gz_o_aload_n F.1 F.2.1 0 d_HoldQueueModel_arrive_5 rfl) ?_
  refine And.intro (gz_o_iload_n F.1 F.2.1 1 d_HoldQueueModel_arrive_6 rfl) ?_
  refine And.intro (gz_o_iconst F.1 F.2.1 2 d_HoldQueueModel_arrive_7 (by decide)) ?_
  refine And.intro (gz_o_c2P (fun u x y hp => gz_cbI (m_has a kc) (fun _ h => Or.inr h) (gz_runV (bs := [gz_i x, gz_i y]) F.2.2.2.2.2.2.2 ⟨F.1, F.2.1, F.2.2.2.1, F.2.2.2.2.1, gz_hts F⟩ (m_isCopy_c l D a kc u x y hp) (cwV 2 (gz_hts F) (gz_gV lw_good wi_417 wi_419 m_isCopy_sl wi_5 m_isCopy_k) rfl rfl rfl (by decide +kernel) ⟨Nat.le_of_ble_eq_true rfl, Nat.le_of_ble_eq_true rfl⟩) rfl 0 rfl rfl d_HoldQueueModel_arrive_8 ⟨Nat.le_of_ble_eq_true rfl, Nat.le_of_ble_eq_true rfl⟩))) ?_
  refine And.intro (gz_o_if_ne F.1 F.2.1 16 d_HoldQueueModel_arrive_11 (by decide)) ?_
  refine And.intro (gz_o_iconst F.1 F.2.1 (-1) d_HoldQueueModel_arrive_14 (by decide)) ?_
  refine And.intro (gz_o_iret (gz_e_i (post := Kr) F d_HoldQueueModel_arrive_15)) ?_
  refine And.intro (gz_o_aload_n F.1 F.2.1 0 d_HoldQueueModel_arrive_16 rfl) ?_
  refine And.intro (gz_o_getR (mg__HoldQueueModel_33 F d_HoldQueueModel_arrive_17)) ?_
  refine And.intro (gz_o_iload_n F.1 F.2.1 1 d_HoldQueueModel_arrive_20 rfl) ?_
  refine And.intro (gz_o_ild (m_ild F d_HoldQueueModel_arrive_21)) ?_
  refine And.intro (gz_o_istore_n F.1 F.2.1 2 d_HoldQueueModel_arrive_22 rfl (by decide)) ?_
  refine And.intro (gz_o_iload_n F.1 F.2.1 2 d_HoldQueueModel_arrive_23 rfl) ?_
  refine And.intro (gz_o_if_le F.1 F.2.1 35 d_HoldQueueModel_arrive_24 (by decide)) ?_
  refine And.intro (gz_o_aload_n F.1 F.2.1 0 d_HoldQueueModel_arrive_27 rfl) ?_
  refine And.intro (gz_o_iload_n F.1 F.2.1 1 d_HoldQueueModel_arrive_28 rfl) ?_
  refine And.intro (gz_o_iload_n F.1 F.2.1 2 d_HoldQueueModel_arrive_29 rfl) ?_
  refine And.intro (gz_o_c2V (fun u x y hp => gz_cbV (m_has a kc) (fun _ h => Or.inr h) (gz_runV (bs := [gz_i x, gz_i y]) F.2.2.2.2.2.2.2 ⟨F.1, F.2.1, F.2.2.2.1, F.2.2.2.2.1, gz_hts F⟩ (m_lies_c l D a kc u x y hp) (cwV 2 (gz_hts F) (gz_gV lw_good wi_393 wi_395 m_lies_sl wi_5 m_lies_k) rfl rfl rfl (by decide +kernel) ⟨Nat.le_of_ble_eq_true rfl, Nat.le_of_ble_eq_true rfl⟩) rfl 0 rfl rfl d_HoldQueueModel_arrive_30 ⟨Nat.le_of_ble_eq_true rfl, Nat.le_of_ble_eq_true rfl⟩))) ?_
  refine And.intro (gz_o_iconst F.1 F.2.1 1 d_HoldQueueModel_arrive_33 (by decide)) ?_
  refine And.intro (gz_o_iret (gz_e_i (post := Kr) F d_HoldQueueModel_arrive_34)) ?_
  refine And.intro (gz_o_aload_n F.1 F.2.1 0 d_HoldQueueModel_arrive_35 rfl) ?_
  refine And.intro (gz_o_iload_n F.1 F.2.1 1 d_HoldQueueModel_arrive_36 rfl) ?_
  refine And.intro (gz_o_c1I (fun u x hp => gz_cbI (m_has a kc) (fun _ h => Or.inr h) (gz_runV (bs := [gz_i x]) F.2.2.2.2.2.2.2 ⟨F.1, F.2.1, F.2.2.2.1, F.2.2.2.2.1, gz_hts F⟩ (m_goes_c l D a kc u x hp) (cwV 1 (gz_hts F) (gz_gV lw_good wi_381 wi_383 m_goes_sl wi_5 m_goes_k) rfl rfl rfl (by decide +kernel) ⟨Nat.le_of_ble_eq_true rfl, Nat.le_of_ble_eq_true rfl⟩) rfl 0 rfl rfl d_HoldQueueModel_arrive_37 ⟨Nat.le_of_ble_eq_true rfl, Nat.le_of_ble_eq_true rfl⟩))) ?_
  refine And.intro (gz_o_pop F.1 F.2.1 d_HoldQueueModel_arrive_40) ?_
  refine And.intro (gz_o_iconst F.1 F.2.1 0 d_HoldQueueModel_arrive_41 (by decide)) ?_
  refine And.intro (gz_o_iret (gz_e_i (post := Kr) F d_HoldQueueModel_arrive_42)) ?_
  exact trivial
set_option maxRecDepth 100000 in
set_option maxHeartbeats 4000000 in
theorem m_arrive_c (l : Launch) (D : va_G) (a : Nat → Nat) (kc : Nat → ClassId) (u : q_S) (v1 : Int32) (hp : m_arrive_p u v1) : gz_MI l y_HoldQueueModel_arrive m_arrive_w m_arrive_R D q_cl (m_tys kc) (m_wf a kc) (m_as a) a [gz_r 0, gz_i v1] u (m_arrive_r u v1) (m_arrive_s u v1) := gz_metI (by decide) rfl (m_has a kc) (Nat.le_of_ble_eq_true rfl) rfl (m_arrive_d u v1 hp ⟨rfl, rfl⟩) (fun p e s m below meth c F => m_arrive_o (Kr := fun r z => r = some (m_arrive_r u v1) ∧ z = (m_arrive_s u v1)) D a kc F)
-- HoldQueueModel.pick(I)I
def m_pick_w : List Cond := Cond.code y_HoldQueueModel_pick c_HoldQueueModel_pick 3 (some .int) :: lw_gd
theorem m_pick_k : Cond.code y_HoldQueueModel_pick c_HoldQueueModel_pick 3 (some .int) ∈ lw_gd := wi_428
theorem m_pick_sl : Cond.selects R_HoldQueueModel y_HoldQueueModel_pick y_HoldQueueModel_pick ∈ lw_gd := wi_427
abbrev m_pick_R : Room := { frames := 2, cells := 0, slots := 0, locals := 80 }
set_option maxRecDepth 100000 in
set_option maxHeartbeats 4000000 in
theorem m_pick_o (D : va_G) (a : Nat → Nat) (kc : Nat → ClassId) (F : gz_F p s m args meth c c_HoldQueueModel_pick 3 (some .int) m_pick_w R_HoldQueueModel) : gz_oks (gz_Z p l e m_pick_R s m args below meth c 0 0 (MQ below (va_Qi (fun r z => Kr (some r) z) (gz_B D q_cl (m_tys kc) (m_wf a kc) (gz_A (m_as a) s.heap.size)) (gz_A (m_as a) s.heap.size)) args s 0 0 (gz_A (m_as a) s.heap.size)) 3 a (gz_GG D q_cl (m_tys kc) (gz_A (m_as a) s.heap.size) s (m_wf a kc))) Kr m_pick_t := by
  refine And.intro (gz_o_aload_n F.1 F.2.1 0 d_HoldQueueModel_pick_0 rfl) ?_
  refine And.intro (gz_o_iconst F.1 F.2.1 0 d_HoldQueueModel_pick_1 (by decide)) ?_
  refine And.intro (gz_o_putI (mp__HoldQueueModel_61 F d_HoldQueueModel_pick_2)) ?_
  refine And.intro (gz_o_aload_n F.1 F.2.1 0 d_HoldQueueModel_pick_5 rfl) ?_
  refine And.intro (gz_o_iload_n F.1 F.2.1 1 d_HoldQueueModel_pick_6 rfl) ?_
  refine And.intro (gz_o_c1P (fun u x hp => gz_cbI (m_has a kc) (fun _ h => Or.inr h) (gz_runV (bs := [gz_i x]) F.2.2.2.2.2.2.2 ⟨F.1, F.2.1, F.2.2.2.1, F.2.2.2.2.1, gz_hts F⟩ (m_isHold_c l D a kc u x hp) (cwV 1 (gz_hts F) (gz_gV lw_good wi_409 wi_411 m_isHold_sl wi_5 m_isHold_k) rfl rfl rfl (by decide +kernel) ⟨Nat.le_of_ble_eq_true rfl, Nat.le_of_ble_eq_true rfl⟩) rfl 0 rfl rfl d_HoldQueueModel_pick_7 ⟨Nat.le_of_ble_eq_true rfl, Nat.le_of_ble_eq_true rfl⟩))) ?_
  refine And.intro (gz_o_if_eq F.1 F.2.1 23 d_HoldQueueModel_pick_10 (by decide)) ?_
  refine And.intro (gz_o_aload_n F.1 F.2.1 0 d_HoldQueueModel_pick_13 rfl) ?_
  refine And.intro (gz_o_getR (mg__HoldQueueModel_48 F d_HoldQueueModel_pick_14)) ?_
  refine And.intro (gz_o_iload_n F.1 F.2.1 1 d_HoldQueueModel_pick_17 rfl) ?_
  refine And.intro (gz_o_ild (m_ild F d_HoldQueueModel_pick_18)) ?_
  refine And.intro (gz_o_iconst F.1 F.2.1 2 d_HoldQueueModel_pick_19 (by decide)) ?_
  refine And.intro (gz_o_ic_eq F.1 F.2.1 25 d_HoldQueueModel_pick_20 (by decide)) ?_
  refine And.intro (gz_o_iconst F.1 F.2.1 0 d_HoldQueueModel_pick_23 (by decide)) ?_
  refine And.intro (gz_o_iret (gz_e_i (post := Kr) F d_HoldQueueModel_pick_24)) ?_
  refine And.intro (gz_o_aload_n F.1 F.2.1 0 d_HoldQueueModel_pick_25 rfl) ?_
  refine And.intro (gz_o_getR (mg__HoldQueueModel_51 F d_HoldQueueModel_pick_26)) ?_
  refine And.intro (gz_o_iload_n F.1 F.2.1 1 d_HoldQueueModel_pick_29 rfl) ?_
  refine And.intro (gz_o_ild (m_ild F d_HoldQueueModel_pick_30)) ?_
  refine And.intro (gz_o_istore_n F.1 F.2.1 2 d_HoldQueueModel_pick_31 rfl (by decide)) ?_
  refine And.intro (gz_o_aload_n F.1 F.2.1 0 d_HoldQueueModel_pick_32 rfl) ?_
  refine And.intro (gz_o_getR (mg__HoldQueueModel_48 F d_HoldQueueModel_pick_33)) ?_
  refine And.intro (gz_o_iload_n F.1 F.2.1 1 d_HoldQueueModel_pick_36 rfl) ?_
  refine And.intro (gz_o_iconst F.1 F.2.1 3 d_HoldQueueModel_pick_37 (by decide)) ?_
  refine And.intro (gz_o_ist (m_ist F d_HoldQueueModel_pick_38)) ?_
  refine And.intro (gz_o_aload_n F.1 F.2.1 0 d_HoldQueueModel_pick_39 rfl) ?_
  refine And.intro (gz_o_getR (mg__HoldQueueModel_51 F d_HoldQueueModel_pick_40)) ?_
  refine And.intro (gz_o_iload_n F.1 F.2.1 1 d_HoldQueueModel_pick_43 rfl) ?_
  refine And.intro (gz_o_iconst F.1 F.2.1 0 d_HoldQueueModel_pick_44 (by decide)) ?_
  refine And.intro (gz_o_ist (m_ist F d_HoldQueueModel_pick_45)) ?_
  refine And.intro (gz_o_aload_n F.1 F.2.1 0 d_HoldQueueModel_pick_46 rfl) ?_
  refine And.intro (gz_o_getR (mg__HoldQueueModel_27 F d_HoldQueueModel_pick_47)) ?_
  refine And.intro (gz_o_iload_n F.1 F.2.1 2 d_HoldQueueModel_pick_50 rfl) ?_
  refine And.intro (gz_o_iconst F.1 F.2.1 1 d_HoldQueueModel_pick_51 (by decide)) ?_
  refine And.intro (gz_o_ist (m_ist F d_HoldQueueModel_pick_52)) ?_
  refine And.intro (gz_o_aload_n F.1 F.2.1 0 d_HoldQueueModel_pick_53 rfl) ?_
  refine And.intro (gz_o_getR (mg__HoldQueueModel_33 F d_HoldQueueModel_pick_54)) ?_
  refine And.intro (gz_o_iload_n F.1 F.2.1 2 d_HoldQueueModel_pick_57 rfl) ?_
  refine And.intro (gz_o_iconst F.1 F.2.1 0 d_HoldQueueModel_pick_58 (by decide)) ?_
  refine And.intro (gz_o_ist (m_ist F d_HoldQueueModel_pick_59)) ?_
  refine And.intro (gz_o_iload_n F.1 F.2.1 2 d_HoldQueueModel_pick_60 rfl) ?_
  refine And.intro (gz_o_iret (gz_e_i (post := Kr) F d_HoldQueueModel_pick_61)) ?_
  exact trivial
set_option maxRecDepth 100000 in
set_option maxHeartbeats 4000000 in
theorem m_pick_c (l : Launch) (D : va_G) (a : Nat → Nat) (kc : Nat → ClassId) (u : q_S) (v1 : Int32) (hp : m_pick_p u v1) : gz_MI l y_HoldQueueModel_pick m_pick_w m_pick_R D q_cl (m_tys kc) (m_wf a kc) (m_as a) a [gz_r 0, gz_i v1] u (m_pick_r u v1) (m_pick_s u v1) := gz_metI (by decide) rfl (m_has a kc) (Nat.le_of_ble_eq_true rfl) rfl (m_pick_d u v1 hp ⟨rfl, rfl⟩) (fun p e s m below meth c F => m_pick_o (Kr := fun r z => r = some (m_pick_r u v1) ∧ z = (m_pick_s u v1)) D a kc F)
-- HoldQueueModel.lend(I)I
def m_lend_w : List Cond := Cond.code y_HoldQueueModel_lend c_HoldQueueModel_lend 2 (some .int) :: lw_gd
theorem m_lend_k : Cond.code y_HoldQueueModel_lend c_HoldQueueModel_lend 2 (some .int) ∈ lw_gd := wi_432
theorem m_lend_sl : Cond.selects R_HoldQueueModel y_HoldQueueModel_lend y_HoldQueueModel_lend ∈ lw_gd := wi_431
abbrev m_lend_R : Room := { frames := 2, cells := 0, slots := 0, locals := 80 }
set_option maxRecDepth 100000 in
set_option maxHeartbeats 4000000 in
theorem m_lend_o (D : va_G) (a : Nat → Nat) (kc : Nat → ClassId) (F : gz_F p s m args meth c c_HoldQueueModel_lend 2 (some .int) m_lend_w R_HoldQueueModel) : gz_oks (gz_Z p l e m_lend_R s m args below meth c 0 0 (MQ below (va_Qi (fun r z => Kr (some r) z) (gz_B D q_cl (m_tys kc) (m_wf a kc) (gz_A (m_as a) s.heap.size)) (gz_A (m_as a) s.heap.size)) args s 0 0 (gz_A (m_as a) s.heap.size)) 2 a (gz_GG D q_cl (m_tys kc) (gz_A (m_as a) s.heap.size) s (m_wf a kc))) Kr m_lend_t := by
  refine And.intro (gz_o_aload_n F.1 F.2.1 0 d_HoldQueueModel_lend_0 rfl) ?_
  refine And.intro (gz_o_iconst F.1 F.2.1 0 d_HoldQueueModel_lend_1 (by decide)) ?_
  refine And.intro (gz_o_putI (mp__HoldQueueModel_61 F d_HoldQueueModel_lend_2)) ?_
  refine And.intro (gz_o_aload_n F.1 F.2.1 0 d_HoldQueueModel_lend_5 rfl) ?_
  refine And.intro (gz_o_iload_n F.1 F.2.1 1 d_HoldQueueModel_lend_6 rfl) ?_
  refine And.intro (gz_o_iconst F.1 F.2.1 0 d_HoldQueueModel_lend_7 (by decide)) ?_
  refine And.intro (gz_o_c2P (fun u x y hp => gz_cbI (m_has a kc) (fun _ h => Or.inr h) (gz_runV (bs := [gz_i x, gz_i y]) F.2.2.2.2.2.2.2 ⟨F.1, F.2.1, F.2.2.2.1, F.2.2.2.2.1, gz_hts F⟩ (m_isCopy_c l D a kc u x y hp) (cwV 2 (gz_hts F) (gz_gV lw_good wi_417 wi_419 m_isCopy_sl wi_5 m_isCopy_k) rfl rfl rfl (by decide +kernel) ⟨Nat.le_of_ble_eq_true rfl, Nat.le_of_ble_eq_true rfl⟩) rfl 0 rfl rfl d_HoldQueueModel_lend_8 ⟨Nat.le_of_ble_eq_true rfl, Nat.le_of_ble_eq_true rfl⟩))) ?_
  refine And.intro (gz_o_if_ne F.1 F.2.1 16 d_HoldQueueModel_lend_11 (by decide)) ?_
  refine And.intro (gz_o_iconst F.1 F.2.1 0 d_HoldQueueModel_lend_14 (by decide)) ?_
  refine And.intro (gz_o_iret (gz_e_i (post := Kr) F d_HoldQueueModel_lend_15)) ?_
  refine And.intro (gz_o_aload_n F.1 F.2.1 0 d_HoldQueueModel_lend_16 rfl) ?_
  refine And.intro (gz_o_getR (mg__HoldQueueModel_27 F d_HoldQueueModel_lend_17)) ?_
  refine And.intro (gz_o_iload_n F.1 F.2.1 1 d_HoldQueueModel_lend_20 rfl) ?_
  refine And.intro (gz_o_iconst F.1 F.2.1 1 d_HoldQueueModel_lend_21 (by decide)) ?_
  refine And.intro (gz_o_ist (m_ist F d_HoldQueueModel_lend_22)) ?_
  refine And.intro (gz_o_iconst F.1 F.2.1 1 d_HoldQueueModel_lend_23 (by decide)) ?_
  refine And.intro (gz_o_iret (gz_e_i (post := Kr) F d_HoldQueueModel_lend_24)) ?_
  exact trivial
set_option maxRecDepth 100000 in
set_option maxHeartbeats 4000000 in
theorem m_lend_c (l : Launch) (D : va_G) (a : Nat → Nat) (kc : Nat → ClassId) (u : q_S) (v1 : Int32) (hp : m_lend_p u v1) : gz_MI l y_HoldQueueModel_lend m_lend_w m_lend_R D q_cl (m_tys kc) (m_wf a kc) (m_as a) a [gz_r 0, gz_i v1] u (m_lend_r u v1) (m_lend_s u v1) := gz_metI (by decide) rfl (m_has a kc) (Nat.le_of_ble_eq_true rfl) rfl (m_lend_d u v1 hp ⟨rfl, rfl⟩) (fun p e s m below meth c F => m_lend_o (Kr := fun r z => r = some (m_lend_r u v1) ∧ z = (m_lend_s u v1)) D a kc F)
-- HoldQueueModel.ends(II)V
def m_ends_w : List Cond := Cond.code y_HoldQueueModel_ends c_HoldQueueModel_ends 5 none :: lw_gd
theorem m_ends_k : Cond.code y_HoldQueueModel_ends c_HoldQueueModel_ends 5 none ∈ lw_gd := wi_440
theorem m_ends_sl : Cond.selects R_HoldQueueModel y_HoldQueueModel_ends y_HoldQueueModel_ends ∈ lw_gd := by decide +kernel
abbrev m_ends_R : Room := { frames := 3, cells := 0, slots := 0, locals := 120 }
set_option maxRecDepth 100000 in
set_option maxHeartbeats 4000000 in
theorem m_ends_o (D : va_G) (a : Nat → Nat) (kc : Nat → ClassId) (F : gz_F p s m args meth c c_HoldQueueModel_ends 5 none m_ends_w R_HoldQueueModel) : gz_oks (gz_Z p l e m_ends_R s m args below meth c 0 0 (MQ below (va_Qv (fun z => Kr none z) (gz_B D q_cl (m_tys kc) (m_wf a kc) (gz_A (m_as a) s.heap.size)) (gz_A (m_as a) s.heap.size)) args s 0 0 (gz_A (m_as a) s.heap.size)) 5 a (gz_GG D q_cl (m_tys kc) (gz_A (m_as a) s.heap.size) s (m_wf a kc))) Kr m_ends_t := by
  refine And.intro (gz_o_aload_n F.1 F.2.1 0 d_HoldQueueModel_ends_0 rfl) ?_
  refine And.intro (gz_o_getR (mg__HoldQueueModel_51 F d_HoldQueueModel_ends_1)) ?_
  refine And.intro (gz_o_iload_n F.1 F.2.1 1 d_HoldQueueModel_ends_4 rfl) ?_
  refine And.intro (gz_o_ild (m_ild F d_HoldQueueModel_ends_5)) ?_
  refine And.intro (gz_o_istore_n F.1 F.2.1 3 d_HoldQueueModel_ends_6 rfl (by decide)) ?_
  refine And.intro (gz_o_aload_n F.1 F.2.1 0 d_HoldQueueModel_ends_7 rfl) ?_
  refine And.intro (gz_o_getR (mg__HoldQueueModel_48 F d_HoldQueueModel_ends_8)) ?_
  refine And.intro (gz_o_iload_n F.1 F.2.1 1 d_HoldQueueModel_ends_11 rfl) ?_
  refine And.intro (gz_o_ild (m_ild F d_HoldQueueModel_ends_12)) ?_
  refine And.intro (gz_o_iconst F.1 F.2.1 2 d_HoldQueueModel_ends_13 (by decide)) ?_
  refine And.intro (gz_o_ic_ne F.1 F.2.1 21 d_HoldQueueModel_ends_14 (by decide)) ?_
  refine And.intro (gz_o_iconst F.1 F.2.1 1 d_HoldQueueModel_ends_17 (by decide)) ?_
  refine And.intro (gz_o_goto F.1 F.2.1 22 d_HoldQueueModel_ends_18 (by decide)) ?_
  refine And.intro (gz_o_iconst F.1 F.2.1 0 d_HoldQueueModel_ends_21 (by decide)) ?_
  refine And.intro (gz_o_istore F.1 F.2.1 4 d_HoldQueueModel_ends_22 (by decide)) ?_
  refine And.intro (gz_o_aload_n F.1 F.2.1 0 d_HoldQueueModel_ends_24 rfl) ?_
  refine And.intro (gz_o_getR (mg__HoldQueueModel_48 F d_HoldQueueModel_ends_25)) ?_
  refine And.intro (gz_o_iload_n F.1 F.2.1 1 d_HoldQueueModel_ends_28 rfl) ?_
  refine And.intro (gz_o_iload_n F.1 F.2.1 2 d_HoldQueueModel_ends_29 rfl) ?_
  refine And.intro (gz_o_ist (m_ist F d_HoldQueueModel_ends_30)) ?_
  refine And.intro (gz_o_aload_n F.1 F.2.1 0 d_HoldQueueModel_ends_31 rfl) ?_
  refine And.intro (gz_o_getR (mg__HoldQueueModel_51 F d_HoldQueueModel_ends_32)) ?_
  refine And.intro (gz_o_iload_n F.1 F.2.1 1 d_HoldQueueModel_ends_35 rfl) ?_
  refine And.intro (gz_o_iconst F.1 F.2.1 0 d_HoldQueueModel_ends_36 (by decide)) ?_
  refine And.intro (gz_o_ist (m_ist F d_HoldQueueModel_ends_37)) ?_
  refine And.intro (gz_o_iload_n F.1 F.2.1 3 d_HoldQueueModel_ends_38 rfl) ?_
  refine And.intro (gz_o_if_le F.1 F.2.1 49 d_HoldQueueModel_ends_39 (by decide)) ?_
  refine And.intro (gz_o_aload_n F.1 F.2.1 0 d_HoldQueueModel_ends_42 rfl) ?_
  refine And.intro (gz_o_getR (mg__HoldQueueModel_33 F d_HoldQueueModel_ends_43)) ?_
  refine And.intro (gz_o_iload_n F.1 F.2.1 3 d_HoldQueueModel_ends_46 rfl) ?_
  refine And.intro (gz_o_iconst F.1 F.2.1 0 d_HoldQueueModel_ends_47 (by decide)) ?_
  refine And.intro (gz_o_ist (m_ist F d_HoldQueueModel_ends_48)) ?_
  refine And.intro (gz_o_iload F.1 F.2.1 4 d_HoldQueueModel_ends_49) ?_
  refine And.intro (gz_o_if_eq F.1 F.2.1 60 d_HoldQueueModel_ends_51 (by decide)) ?_
  refine And.intro (gz_o_aload_n F.1 F.2.1 0 d_HoldQueueModel_ends_54 rfl) ?_
  refine And.intro (gz_o_iload_n F.1 F.2.1 3 d_HoldQueueModel_ends_55 rfl) ?_
  refine And.intro (gz_o_c1I (fun u x hp => gz_cbI (m_has a kc) (fun _ h => Or.inr h) (gz_runV (bs := [gz_i x]) F.2.2.2.2.2.2.2 ⟨F.1, F.2.1, F.2.2.2.1, F.2.2.2.2.1, gz_hts F⟩ (m_goes_c l D a kc u x hp) (cwV 1 (gz_hts F) (gz_gV lw_good wi_381 wi_383 m_goes_sl wi_5 m_goes_k) rfl rfl rfl (by decide +kernel) ⟨Nat.le_of_ble_eq_true rfl, Nat.le_of_ble_eq_true rfl⟩) rfl 0 rfl rfl d_HoldQueueModel_ends_56 ⟨Nat.le_of_ble_eq_true rfl, Nat.le_of_ble_eq_true rfl⟩))) ?_
  refine And.intro (gz_o_pop F.1 F.2.1 d_HoldQueueModel_ends_59) ?_
  refine And.intro (gz_o_vret (gz_e_v (post := Kr) F d_HoldQueueModel_ends_60)) ?_
  exact trivial
set_option maxRecDepth 100000 in
set_option maxHeartbeats 4000000 in
theorem m_ends_c (l : Launch) (D : va_G) (a : Nat → Nat) (kc : Nat → ClassId) (u : q_S) (v1 : Int32) (v2 : Int32) (hp : m_ends_p u v1 v2) : gz_MV l y_HoldQueueModel_ends m_ends_w m_ends_R D q_cl (m_tys kc) (m_wf a kc) (m_as a) a [gz_r 0, gz_i v1, gz_i v2] u (m_ends u v1 v2) := gz_metV (by decide) rfl (m_has a kc) (Nat.le_of_ble_eq_true rfl) rfl (m_ends_d u v1 v2 hp ⟨rfl, rfl⟩) (fun p e s m below meth c F => m_ends_o (Kr := fun r z => r = none ∧ z = (m_ends u v1 v2)) D a kc F)
-- HoldQueueModel.cancel(I)I
def m_cancel_w : List Cond := Cond.code y_HoldQueueModel_cancel c_HoldQueueModel_cancel 2 (some .int) :: lw_gd
theorem m_cancel_k : Cond.code y_HoldQueueModel_cancel c_HoldQueueModel_cancel 2 (some .int) ∈ lw_gd := wi_436
theorem m_cancel_sl : Cond.selects R_HoldQueueModel y_HoldQueueModel_cancel y_HoldQueueModel_cancel ∈ lw_gd := wi_435
abbrev m_cancel_R : Room := { frames := 4, cells := 0, slots := 0, locals := 160 }
set_option maxRecDepth 100000 in
set_option maxHeartbeats 4000000 in
theorem m_cancel_o (D : va_G) (a : Nat → Nat) (kc : Nat → ClassId) (F : gz_F p s m args meth c c_HoldQueueModel_cancel 2 (some .int) m_cancel_w R_HoldQueueModel) : gz_oks (gz_Z p l e m_cancel_R s m args below meth c 0 0 (MQ below (va_Qi (fun r z => Kr (some r) z) (gz_B D q_cl (m_tys kc) (m_wf a kc) (gz_A (m_as a) s.heap.size)) (gz_A (m_as a) s.heap.size)) args s 0 0 (gz_A (m_as a) s.heap.size)) 2 a (gz_GG D q_cl (m_tys kc) (gz_A (m_as a) s.heap.size) s (m_wf a kc))) Kr m_cancel_t := by
  refine And.intro (gz_o_aload_n F.1 F.2.1 0 d_HoldQueueModel_cancel_0 rfl) ?_
  refine And.intro (gz_o_iconst F.1 F.2.1 0 d_HoldQueueModel_cancel_1 (by decide)) ?_
  refine And.intro (gz_o_putI (mp__HoldQueueModel_61 F d_HoldQueueModel_cancel_2)) ?_
  refine And.intro (gz_o_aload_n F.1 F.2.1 0 d_HoldQueueModel_cancel_5 rfl) ?_
  refine And.intro (gz_o_iload_n F.1 F.2.1 1 d_HoldQueueModel_cancel_6 rfl) ?_
  refine And.intro (gz_o_c1P (fun u x hp => gz_cbI (m_has a kc) (fun _ h => Or.inr h) (gz_runV (bs := [gz_i x]) F.2.2.2.2.2.2.2 ⟨F.1, F.2.1, F.2.2.2.1, F.2.2.2.2.1, gz_hts F⟩ (m_isHold_c l D a kc u x hp) (cwV 1 (gz_hts F) (gz_gV lw_good wi_409 wi_411 m_isHold_sl wi_5 m_isHold_k) rfl rfl rfl (by decide +kernel) ⟨Nat.le_of_ble_eq_true rfl, Nat.le_of_ble_eq_true rfl⟩) rfl 0 rfl rfl d_HoldQueueModel_cancel_7 ⟨Nat.le_of_ble_eq_true rfl, Nat.le_of_ble_eq_true rfl⟩))) ?_
  refine And.intro (gz_o_if_eq F.1 F.2.1 21 d_HoldQueueModel_cancel_10 (by decide)) ?_
  refine And.intro (gz_o_aload_n F.1 F.2.1 0 d_HoldQueueModel_cancel_13 rfl) ?_
  refine And.intro (gz_o_iload_n F.1 F.2.1 1 d_HoldQueueModel_cancel_14 rfl) ?_
  refine And.intro (gz_o_c1P (fun u x hp => gz_cbI (m_has a kc) (fun _ h => Or.inr h) (gz_runV (bs := [gz_i x]) F.2.2.2.2.2.2.2 ⟨F.1, F.2.1, F.2.2.2.1, F.2.2.2.2.1, gz_hts F⟩ (m_isOpen_c l D a kc u x hp) (cwV 1 (gz_hts F) (gz_gV lw_good wi_376 wi_378 m_isOpen_sl wi_5 m_isOpen_k) rfl rfl rfl (by decide +kernel) ⟨Nat.le_of_ble_eq_true rfl, Nat.le_of_ble_eq_true rfl⟩) rfl 0 rfl rfl d_HoldQueueModel_cancel_15 ⟨Nat.le_of_ble_eq_true rfl, Nat.le_of_ble_eq_true rfl⟩))) ?_
  refine And.intro (gz_o_if_ne F.1 F.2.1 23 d_HoldQueueModel_cancel_18 (by decide)) ?_
  refine And.intro (gz_o_iconst F.1 F.2.1 0 d_HoldQueueModel_cancel_21 (by decide)) ?_
  refine And.intro (gz_o_iret (gz_e_i (post := Kr) F d_HoldQueueModel_cancel_22)) ?_
  refine And.intro (gz_o_aload_n F.1 F.2.1 0 d_HoldQueueModel_cancel_23 rfl) ?_
  refine And.intro (gz_o_iload_n F.1 F.2.1 1 d_HoldQueueModel_cancel_24 rfl) ?_
  refine And.intro (gz_o_iconst F.1 F.2.1 5 d_HoldQueueModel_cancel_25 (by decide)) ?_
  refine And.intro (gz_o_c2V (fun u x y hp => gz_cbV (m_has a kc) (fun _ h => Or.inr h) (gz_runV (bs := [gz_i x, gz_i y]) F.2.2.2.2.2.2.2 ⟨F.1, F.2.1, F.2.2.2.1, F.2.2.2.2.1, gz_hts F⟩ (m_ends_c l D a kc u x y hp) (cwV 2 (gz_hts F) (gz_gV lw_good wi_437 wi_439 m_ends_sl wi_5 m_ends_k) rfl rfl rfl (by decide +kernel) ⟨Nat.le_of_ble_eq_true rfl, Nat.le_of_ble_eq_true rfl⟩) rfl 0 rfl rfl d_HoldQueueModel_cancel_26 ⟨Nat.le_of_ble_eq_true rfl, Nat.le_of_ble_eq_true rfl⟩))) ?_
  refine And.intro (gz_o_iconst F.1 F.2.1 1 d_HoldQueueModel_cancel_29 (by decide)) ?_
  refine And.intro (gz_o_iret (gz_e_i (post := Kr) F d_HoldQueueModel_cancel_30)) ?_
  exact trivial
set_option maxRecDepth 100000 in
set_option maxHeartbeats 4000000 in
theorem m_cancel_c (l : Launch) (D : va_G) (a : Nat → Nat) (kc : Nat → ClassId) (u : q_S) (v1 : Int32) (hp : m_cancel_p u v1) : gz_MI l y_HoldQueueModel_cancel m_cancel_w m_cancel_R D q_cl (m_tys kc) (m_wf a kc) (m_as a) a [gz_r 0, gz_i v1] u (m_cancel_r u v1) (m_cancel_s u v1) := gz_metI (by decide) rfl (m_has a kc) (Nat.le_of_ble_eq_true rfl) rfl (m_cancel_d u v1 hp ⟨rfl, rfl⟩) (fun p e s m below meth c F => m_cancel_o (Kr := fun r z => r = some (m_cancel_r u v1) ∧ z = (m_cancel_s u v1)) D a kc F)
-- HoldQueueModel.tick(J)I
def m_tick_w : List Cond := Cond.code y_HoldQueueModel_tick c_HoldQueueModel_tick 5 (some .int) :: lw_gd
theorem m_tick_k : Cond.code y_HoldQueueModel_tick c_HoldQueueModel_tick 5 (some .int) ∈ lw_gd := wi_444
theorem m_tick_sl : Cond.selects R_HoldQueueModel y_HoldQueueModel_tick y_HoldQueueModel_tick ∈ lw_gd := wi_443
abbrev m_tick_R : Room := { frames := 4, cells := 0, slots := 0, locals := 160 }
set_option maxRecDepth 100000 in
set_option maxHeartbeats 4000000 in
theorem m_tick_o (D : va_G) (a : Nat → Nat) (kc : Nat → ClassId) (F : gz_F p s m args meth c c_HoldQueueModel_tick 5 (some .int) m_tick_w R_HoldQueueModel) : gz_oks (gz_Z p l e m_tick_R s m args below meth c 0 0 (MQ below (va_Qi (fun r z => Kr (some r) z) (gz_B D q_cl (m_tys kc) (m_wf a kc) (gz_A (m_as a) s.heap.size)) (gz_A (m_as a) s.heap.size)) args s 0 0 (gz_A (m_as a) s.heap.size)) 5 a (gz_GG D q_cl (m_tys kc) (gz_A (m_as a) s.heap.size) s (m_wf a kc))) Kr m_tick_t := by
  refine And.intro (gz_o_aload_n F.1 F.2.1 0 d_HoldQueueModel_tick_0 rfl) ?_
  refine And.intro (gz_o_iconst F.1 F.2.1 0 d_HoldQueueModel_tick_1 (by decide)) ?_
  refine And.intro (gz_o_putI (mp__HoldQueueModel_61 F d_HoldQueueModel_tick_2)) ?_
  refine And.intro (gz_o_lload_n F.1 F.2.1 1 d_HoldQueueModel_tick_5 rfl) ?_
  refine And.intro (gz_o_aload_n F.1 F.2.1 0 d_HoldQueueModel_tick_6 rfl) ?_
  refine And.intro (gz_o_getL (mg__HoldQueueModel_81 F d_HoldQueueModel_tick_7)) ?_
  refine And.intro (gz_o_lcmp F.1 F.2.1 d_HoldQueueModel_tick_10) ?_
  refine And.intro (gz_o_if_le F.1 F.2.1 22 d_HoldQueueModel_tick_11 (by decide)) ?_
  refine And.intro (gz_o_lload_n F.1 F.2.1 1 d_HoldQueueModel_tick_14 rfl) ?_
  refine And.intro (gz_o_ldc2 F.1 F.2.1 1000000000 F.2.2.2.2.1 (gz_hts F (.constantLong R_HoldQueueModel 114 1000000000) wi_445) d_HoldQueueModel_tick_15) ?_
  refine And.intro (gz_o_lcmp F.1 F.2.1 d_HoldQueueModel_tick_18) ?_
  refine And.intro (gz_o_if_le F.1 F.2.1 24 d_HoldQueueModel_tick_19 (by decide)) ?_
  refine And.intro (gz_o_iconst F.1 F.2.1 (-1) d_HoldQueueModel_tick_22 (by decide)) ?_
  refine And.intro (gz_o_iret (gz_e_i (post := Kr) F d_HoldQueueModel_tick_23)) ?_
  refine And.intro (gz_o_aload_n F.1 F.2.1 0 d_HoldQueueModel_tick_24 rfl) ?_
  refine And.intro (gz_o_lload_n F.1 F.2.1 1 d_HoldQueueModel_tick_25 rfl) ?_
  refine And.intro (gz_o_putL (mp__HoldQueueModel_81 F d_HoldQueueModel_tick_26)) ?_
  refine And.intro (gz_o_iconst F.1 F.2.1 0 d_HoldQueueModel_tick_29 (by decide)) ?_
  refine And.intro (gz_o_istore_n F.1 F.2.1 3 d_HoldQueueModel_tick_30 rfl (by decide)) ?_
  refine And.intro (gz_o_iconst F.1 F.2.1 1 d_HoldQueueModel_tick_31 (by decide)) ?_
  refine And.intro (gz_o_istore F.1 F.2.1 4 d_HoldQueueModel_tick_32 (by decide)) ?_
  refine And.intro (gz_o_iload F.1 F.2.1 4 d_HoldQueueModel_tick_34) ?_
  refine And.intro (gz_o_aload_n F.1 F.2.1 0 d_HoldQueueModel_tick_36 rfl) ?_
  refine And.intro (gz_o_getI (mg__HoldQueueModel_74 F d_HoldQueueModel_tick_37)) ?_
  refine And.intro (gz_o_ic_gt F.1 F.2.1 85 d_HoldQueueModel_tick_40 (by decide)) ?_
  refine And.intro (gz_o_aload_n F.1 F.2.1 0 d_HoldQueueModel_tick_43 rfl) ?_
  refine And.intro (gz_o_getR (mg__HoldQueueModel_48 F d_HoldQueueModel_tick_44)) ?_
  refine And.intro (gz_o_iload F.1 F.2.1 4 d_HoldQueueModel_tick_47) ?_
  refine And.intro (gz_o_ild (m_ild F d_HoldQueueModel_tick_49)) ?_
  refine And.intro (gz_o_iconst F.1 F.2.1 2 d_HoldQueueModel_tick_50 (by decide)) ?_
  refine And.intro (gz_o_ic_ne F.1 F.2.1 79 d_HoldQueueModel_tick_51 (by decide)) ?_
  refine And.intro (gz_o_aload_n F.1 F.2.1 0 d_HoldQueueModel_tick_54 rfl) ?_
  refine And.intro (gz_o_getR (mg__HoldQueueModel_58 F d_HoldQueueModel_tick_55)) ?_
  refine And.intro (gz_o_iload F.1 F.2.1 4 d_HoldQueueModel_tick_58) ?_
  refine And.intro (gz_o_lld (m_lld F d_HoldQueueModel_tick_60)) ?_
  refine And.intro (gz_o_aload_n F.1 F.2.1 0 d_HoldQueueModel_tick_61 rfl) ?_
  refine And.intro (gz_o_getL (mg__HoldQueueModel_81 F d_HoldQueueModel_tick_62)) ?_
  refine And.intro (gz_o_lcmp F.1 F.2.1 d_HoldQueueModel_tick_65) ?_
  refine And.intro (gz_o_if_ge F.1 F.2.1 79 d_HoldQueueModel_tick_66 (by decide)) ?_
  refine And.intro (gz_o_aload_n F.1 F.2.1 0 d_HoldQueueModel_tick_69 rfl) ?_
  refine And.intro (gz_o_iload F.1 F.2.1 4 d_HoldQueueModel_tick_70) ?_
  refine And.intro (gz_o_iconst F.1 F.2.1 4 d_HoldQueueModel_tick_72 (by decide)) ?_
  refine And.intro (gz_o_c2V (fun u x y hp => gz_cbV (m_has a kc) (fun _ h => Or.inr h) (gz_runV (bs := [gz_i x, gz_i y]) F.2.2.2.2.2.2.2 ⟨F.1, F.2.1, F.2.2.2.1, F.2.2.2.2.1, gz_hts F⟩ (m_ends_c l D a kc u x y hp) (cwV 2 (gz_hts F) (gz_gV lw_good wi_437 wi_439 m_ends_sl wi_5 m_ends_k) rfl rfl rfl (by decide +kernel) ⟨Nat.le_of_ble_eq_true rfl, Nat.le_of_ble_eq_true rfl⟩) rfl 0 rfl rfl d_HoldQueueModel_tick_73 ⟨Nat.le_of_ble_eq_true rfl, Nat.le_of_ble_eq_true rfl⟩))) ?_
  refine And.intro (gz_o_iinc F.1 F.2.1 3 1 d_HoldQueueModel_tick_76 (by decide) (by decide)) ?_
  refine And.intro (gz_o_iinc F.1 F.2.1 4 1 d_HoldQueueModel_tick_79 (by decide) (by decide)) ?_
  refine And.intro (gz_o_goto F.1 F.2.1 34 d_HoldQueueModel_tick_82 (by decide)) ?_
  refine And.intro (gz_o_iload_n F.1 F.2.1 3 d_HoldQueueModel_tick_85 rfl) ?_
  refine And.intro (gz_o_iret (gz_e_i (post := Kr) F d_HoldQueueModel_tick_86)) ?_
  exact trivial
set_option maxRecDepth 100000 in
set_option maxHeartbeats 4000000 in
theorem m_tick_c (l : Launch) (D : va_G) (a : Nat → Nat) (kc : Nat → ClassId) (u : q_S) (v1 : Int64) (hp : m_tick_p u v1) : gz_MI l y_HoldQueueModel_tick m_tick_w m_tick_R D q_cl (m_tys kc) (m_wf a kc) (m_as a) a [gz_r 0, gz_l v1] u (m_tick_r u v1) (m_tick_s u v1) := gz_metI (by decide) rfl (m_has a kc) (Nat.le_of_ble_eq_true rfl) rfl (m_tick_d u v1 hp ⟨rfl, rfl⟩) (fun p e s m below meth c F => m_tick_o (Kr := fun r z => r = some (m_tick_r u v1) ∧ z = (m_tick_s u v1)) D a kc F)
-- HoldQueueModel.span(I)I
def m_span_w : List Cond := Cond.code y_HoldQueueModel_span c_HoldQueueModel_span 3 (some .int) :: lw_gd
theorem m_span_k : Cond.code y_HoldQueueModel_span c_HoldQueueModel_span 3 (some .int) ∈ lw_gd := wi_449
theorem m_span_sl : Cond.selects R_HoldQueueModel y_HoldQueueModel_span y_HoldQueueModel_span ∈ lw_gd := wi_448
abbrev m_span_R : Room := { frames := 1, cells := 0, slots := 0, locals := 40 }
set_option maxRecDepth 100000 in
set_option maxHeartbeats 4000000 in
theorem m_span_o (D : va_G) (a : Nat → Nat) (kc : Nat → ClassId) (F : gz_F p s m args meth c c_HoldQueueModel_span 3 (some .int) m_span_w R_HoldQueueModel) : gz_oks (gz_Z p l e m_span_R s m args below meth c 0 0 (MQ below (va_Qi (fun r z => Kr (some r) z) (gz_B D q_cl (m_tys kc) (m_wf a kc) (gz_A (m_as a) s.heap.size)) (gz_A (m_as a) s.heap.size)) args s 0 0 (gz_A (m_as a) s.heap.size)) 3 a (gz_GG D q_cl (m_tys kc) (gz_A (m_as a) s.heap.size) s (m_wf a kc))) Kr m_span_t := by
  refine And.intro (gz_o_aload_n F.1 F.2.1 0 d_HoldQueueModel_span_0 rfl) ?_
  refine And.intro (gz_o_iconst F.1 F.2.1 0 d_HoldQueueModel_span_1 (by decide)) ?_
  refine And.intro (gz_o_putI (mp__HoldQueueModel_61 F d_HoldQueueModel_span_2)) ?_
  refine And.intro (gz_o_iload_n F.1 F.2.1 1 d_HoldQueueModel_span_5 rfl) ?_
  refine And.intro (gz_o_iconst F.1 F.2.1 1 d_HoldQueueModel_span_6 (by decide)) ?_
  refine And.intro (gz_o_bipush F.1 F.2.1 99 d_HoldQueueModel_span_7 (by decide)) ?_
  refine And.intro (gz_o_s3P (fun u x y z => gz_cbI (m_has a kc) (fun _ h => Or.inr h) (gz_runS (bs := [gz_i x, gz_i y, gz_i z]) F.2.2.2.2.2.2.2 ⟨F.1, F.2.1, F.2.2.2.1, F.2.2.2.2.1, gz_hts F⟩ (m_in_c l D a kc u x y z) (cwS 3 (gz_hts F) (gz_gS lw_good wi_361 wi_362 wi_5 m_in_k) rfl rfl rfl (by decide +kernel) ⟨Nat.le_of_ble_eq_true rfl, Nat.le_of_ble_eq_true rfl⟩) rfl d_HoldQueueModel_span_9 ⟨Nat.le_of_ble_eq_true rfl, Nat.le_of_ble_eq_true rfl⟩))) ?_
  refine And.intro (gz_o_if_ne F.1 F.2.1 17 d_HoldQueueModel_span_12 (by decide)) ?_
  refine And.intro (gz_o_iconst F.1 F.2.1 (-1) d_HoldQueueModel_span_15 (by decide)) ?_
  refine And.intro (gz_o_iret (gz_e_i (post := Kr) F d_HoldQueueModel_span_16)) ?_
  refine And.intro (gz_o_aload_n F.1 F.2.1 0 d_HoldQueueModel_span_17 rfl) ?_
  refine And.intro (gz_o_getI (mg__HoldQueueModel_20 F d_HoldQueueModel_span_18)) ?_
  refine And.intro (gz_o_istore_n F.1 F.2.1 2 d_HoldQueueModel_span_21 rfl (by decide)) ?_
  refine And.intro (gz_o_aload_n F.1 F.2.1 0 d_HoldQueueModel_span_22 rfl) ?_
  refine And.intro (gz_o_iload_n F.1 F.2.1 1 d_HoldQueueModel_span_23 rfl) ?_
  refine And.intro (gz_o_putI (mp__HoldQueueModel_20 F d_HoldQueueModel_span_24)) ?_
  refine And.intro (gz_o_iload_n F.1 F.2.1 2 d_HoldQueueModel_span_27 rfl) ?_
  refine And.intro (gz_o_iret (gz_e_i (post := Kr) F d_HoldQueueModel_span_28)) ?_
  exact trivial
set_option maxRecDepth 100000 in
set_option maxHeartbeats 4000000 in
theorem m_span_c (l : Launch) (D : va_G) (a : Nat → Nat) (kc : Nat → ClassId) (u : q_S) (v1 : Int32) : gz_MI l y_HoldQueueModel_span m_span_w m_span_R D q_cl (m_tys kc) (m_wf a kc) (m_as a) a [gz_r 0, gz_i v1] u (m_span_r u v1) (m_span_s u v1) := gz_metI (by decide) rfl (m_has a kc) (Nat.le_of_ble_eq_true rfl) rfl (m_span_d u v1 ⟨rfl, rfl⟩) (fun p e s m below meth c F => m_span_o (Kr := fun r z => r = some (m_span_r u v1) ∧ z = (m_span_s u v1)) D a kc F)
-- HoldQueueModel.rank(II)I
def m_rank_w : List Cond := Cond.code y_HoldQueueModel_rank c_HoldQueueModel_rank 3 (some .int) :: lw_gd
theorem m_rank_k : Cond.code y_HoldQueueModel_rank c_HoldQueueModel_rank 3 (some .int) ∈ lw_gd := wi_453
theorem m_rank_sl : Cond.selects R_HoldQueueModel y_HoldQueueModel_rank y_HoldQueueModel_rank ∈ lw_gd := wi_452
abbrev m_rank_R : Room := { frames := 3, cells := 0, slots := 0, locals := 120 }
set_option maxRecDepth 100000 in
set_option maxHeartbeats 4000000 in
theorem m_rank_o (D : va_G) (a : Nat → Nat) (kc : Nat → ClassId) (F : gz_F p s m args meth c c_HoldQueueModel_rank 3 (some .int) m_rank_w R_HoldQueueModel) : gz_oks (gz_Z p l e m_rank_R s m args below meth c 0 0 (MQ below (va_Qi (fun r z => Kr (some r) z) (gz_B D q_cl (m_tys kc) (m_wf a kc) (gz_A (m_as a) s.heap.size)) (gz_A (m_as a) s.heap.size)) args s 0 0 (gz_A (m_as a) s.heap.size)) 3 a (gz_GG D q_cl (m_tys kc) (gz_A (m_as a) s.heap.size) s (m_wf a kc))) Kr m_rank_t := by
  refine And.intro (gz_o_aload_n F.1 F.2.1 0 d_HoldQueueModel_rank_0 rfl) ?_
  refine And.intro (gz_o_iconst F.1 F.2.1 0 d_HoldQueueModel_rank_1 (by decide)) ?_
  refine And.intro (gz_o_putI (mp__HoldQueueModel_61 F d_HoldQueueModel_rank_2)) ?_
  refine And.intro (gz_o_aload_n F.1 F.2.1 0 d_HoldQueueModel_rank_5 rfl) ?_
  refine And.intro (gz_o_iload_n F.1 F.2.1 1 d_HoldQueueModel_rank_6 rfl) ?_
  refine And.intro (gz_o_c1P (fun u x hp => gz_cbI (m_has a kc) (fun _ h => Or.inr h) (gz_runV (bs := [gz_i x]) F.2.2.2.2.2.2.2 ⟨F.1, F.2.1, F.2.2.2.1, F.2.2.2.2.1, gz_hts F⟩ (m_isWaiting_c l D a kc u x hp) (cwV 1 (gz_hts F) (gz_gV lw_good wi_405 wi_407 m_isWaiting_sl wi_5 m_isWaiting_k) rfl rfl rfl (by decide +kernel) ⟨Nat.le_of_ble_eq_true rfl, Nat.le_of_ble_eq_true rfl⟩) rfl 0 rfl rfl d_HoldQueueModel_rank_7 ⟨Nat.le_of_ble_eq_true rfl, Nat.le_of_ble_eq_true rfl⟩))) ?_
  refine And.intro (gz_o_if_ne F.1 F.2.1 15 d_HoldQueueModel_rank_10 (by decide)) ?_
  refine And.intro (gz_o_iconst F.1 F.2.1 (-1) d_HoldQueueModel_rank_13 (by decide)) ?_
  refine And.intro (gz_o_iret (gz_e_i (post := Kr) F d_HoldQueueModel_rank_14)) ?_
  refine And.intro (gz_o_aload_n F.1 F.2.1 0 d_HoldQueueModel_rank_15 rfl) ?_
  refine And.intro (gz_o_getR (mg__HoldQueueModel_45 F d_HoldQueueModel_rank_16)) ?_
  refine And.intro (gz_o_iload_n F.1 F.2.1 1 d_HoldQueueModel_rank_19 rfl) ?_
  refine And.intro (gz_o_iload_n F.1 F.2.1 2 d_HoldQueueModel_rank_20 rfl) ?_
  refine And.intro (gz_o_ist (m_ist F d_HoldQueueModel_rank_21)) ?_
  refine And.intro (gz_o_aload_n F.1 F.2.1 0 d_HoldQueueModel_rank_22 rfl) ?_
  refine And.intro (gz_o_iload_n F.1 F.2.1 1 d_HoldQueueModel_rank_23 rfl) ?_
  refine And.intro (gz_o_c1P (fun u x hp => gz_cbI (m_has a kc) (fun _ h => Or.inr h) (gz_runV (bs := [gz_i x]) F.2.2.2.2.2.2.2 ⟨F.1, F.2.1, F.2.2.2.1, F.2.2.2.2.1, gz_hts F⟩ (m_placeOf_c l D a kc u x hp) (cwV 1 (gz_hts F) (gz_gV lw_good wi_454 wi_456 m_placeOf_sl wi_5 m_placeOf_k) rfl rfl rfl (by decide +kernel) ⟨Nat.le_of_ble_eq_true rfl, Nat.le_of_ble_eq_true rfl⟩) rfl 0 rfl rfl d_HoldQueueModel_rank_24 ⟨Nat.le_of_ble_eq_true rfl, Nat.le_of_ble_eq_true rfl⟩))) ?_
  refine And.intro (gz_o_iret (gz_e_i (post := Kr) F d_HoldQueueModel_rank_27)) ?_
  exact trivial
set_option maxRecDepth 100000 in
set_option maxHeartbeats 4000000 in
theorem m_rank_c (l : Launch) (D : va_G) (a : Nat → Nat) (kc : Nat → ClassId) (u : q_S) (v1 : Int32) (v2 : Int32) (hp : m_rank_p u v1 v2) : gz_MI l y_HoldQueueModel_rank m_rank_w m_rank_R D q_cl (m_tys kc) (m_wf a kc) (m_as a) a [gz_r 0, gz_i v1, gz_i v2] u (m_rank_r u v1 v2) (m_rank_s u v1 v2) := gz_metI (by decide) rfl (m_has a kc) (Nat.le_of_ble_eq_true rfl) rfl (m_rank_d u v1 v2 hp ⟨rfl, rfl⟩) (fun p e s m below meth c F => m_rank_o (Kr := fun r z => r = some (m_rank_r u v1 v2) ∧ z = (m_rank_s u v1 v2)) D a kc F)
-- HoldQueueModel.order(II)I
def m_order_w : List Cond := Cond.code y_HoldQueueModel_order c_HoldQueueModel_order 4 (some .int) :: lw_gd
theorem m_order_k : Cond.code y_HoldQueueModel_order c_HoldQueueModel_order 4 (some .int) ∈ lw_gd := wi_461
theorem m_order_sl : Cond.selects R_HoldQueueModel y_HoldQueueModel_order y_HoldQueueModel_order ∈ lw_gd := wi_460
abbrev m_order_R : Room := { frames := 2, cells := 0, slots := 0, locals := 80 }
set_option maxRecDepth 100000 in
set_option maxHeartbeats 4000000 in
theorem m_order_o (D : va_G) (a : Nat → Nat) (kc : Nat → ClassId) (F : gz_F p s m args meth c c_HoldQueueModel_order 4 (some .int) m_order_w R_HoldQueueModel) : gz_oks (gz_Z p l e m_order_R s m args below meth c 0 0 (MQ below (va_Qi (fun r z => Kr (some r) z) (gz_B D q_cl (m_tys kc) (m_wf a kc) (gz_A (m_as a) s.heap.size)) (gz_A (m_as a) s.heap.size)) args s 0 0 (gz_A (m_as a) s.heap.size)) 4 a (gz_GG D q_cl (m_tys kc) (gz_A (m_as a) s.heap.size) s (m_wf a kc))) Kr m_order_t := by
  refine And.intro (gz_o_aload_n F.1 F.2.1 0 d_HoldQueueModel_order_0 rfl) ?_
  refine And.intro (gz_o_iconst F.1 F.2.1 0 d_HoldQueueModel_order_1 (by decide)) ?_
  refine And.intro (gz_o_putI (mp__HoldQueueModel_61 F d_HoldQueueModel_order_2)) ?_
  refine And.intro (gz_o_iconst F.1 F.2.1 1 d_HoldQueueModel_order_5 (by decide)) ?_
  refine And.intro (gz_o_istore_n F.1 F.2.1 3 d_HoldQueueModel_order_6 rfl (by decide)) ?_
  refine And.intro (gz_o_iload_n F.1 F.2.1 3 d_HoldQueueModel_order_7 rfl) ?_
  refine And.intro (gz_o_aload_n F.1 F.2.1 0 d_HoldQueueModel_order_8 rfl) ?_
  refine And.intro (gz_o_getI (mg__HoldQueueModel_74 F d_HoldQueueModel_order_9)) ?_
  refine And.intro (gz_o_ic_gt F.1 F.2.1 51 d_HoldQueueModel_order_12 (by decide)) ?_
  refine And.intro (gz_o_aload_n F.1 F.2.1 0 d_HoldQueueModel_order_15 rfl) ?_
  refine And.intro (gz_o_getR (mg__HoldQueueModel_48 F d_HoldQueueModel_order_16)) ?_
  refine And.intro (gz_o_iload_n F.1 F.2.1 3 d_HoldQueueModel_order_19 rfl) ?_
  refine And.intro (gz_o_ild (m_ild F d_HoldQueueModel_order_20)) ?_
  refine And.intro (gz_o_if_ne F.1 F.2.1 45 d_HoldQueueModel_order_21 (by decide)) ?_
  refine And.intro (gz_o_aload_n F.1 F.2.1 0 d_HoldQueueModel_order_24 rfl) ?_
  refine And.intro (gz_o_getR (mg__HoldQueueModel_39 F d_HoldQueueModel_order_25)) ?_
  refine And.intro (gz_o_iload_n F.1 F.2.1 3 d_HoldQueueModel_order_28 rfl) ?_
  refine And.intro (gz_o_ild (m_ild F d_HoldQueueModel_order_29)) ?_
  refine And.intro (gz_o_iload_n F.1 F.2.1 1 d_HoldQueueModel_order_30 rfl) ?_
  refine And.intro (gz_o_ic_ne F.1 F.2.1 45 d_HoldQueueModel_order_31 (by decide)) ?_
  refine And.intro (gz_o_aload_n F.1 F.2.1 0 d_HoldQueueModel_order_34 rfl) ?_
  refine And.intro (gz_o_iload_n F.1 F.2.1 3 d_HoldQueueModel_order_35 rfl) ?_
  refine And.intro (gz_o_c1P (fun u x hp => gz_cbI (m_has a kc) (fun _ h => Or.inr h) (gz_runV (bs := [gz_i x]) F.2.2.2.2.2.2.2 ⟨F.1, F.2.1, F.2.2.2.1, F.2.2.2.2.1, gz_hts F⟩ (m_placeOf_c l D a kc u x hp) (cwV 1 (gz_hts F) (gz_gV lw_good wi_454 wi_456 m_placeOf_sl wi_5 m_placeOf_k) rfl rfl rfl (by decide +kernel) ⟨Nat.le_of_ble_eq_true rfl, Nat.le_of_ble_eq_true rfl⟩) rfl 0 rfl rfl d_HoldQueueModel_order_36 ⟨Nat.le_of_ble_eq_true rfl, Nat.le_of_ble_eq_true rfl⟩))) ?_
  refine And.intro (gz_o_iload_n F.1 F.2.1 2 d_HoldQueueModel_order_39 rfl) ?_
  refine And.intro (gz_o_ic_ne F.1 F.2.1 45 d_HoldQueueModel_order_40 (by decide)) ?_
  refine And.intro (gz_o_iload_n F.1 F.2.1 3 d_HoldQueueModel_order_43 rfl) ?_
  refine And.intro (gz_o_iret (gz_e_i (post := Kr) F d_HoldQueueModel_order_44)) ?_
  refine And.intro (gz_o_iinc F.1 F.2.1 3 1 d_HoldQueueModel_order_45 (by decide) (by decide)) ?_
  refine And.intro (gz_o_goto F.1 F.2.1 7 d_HoldQueueModel_order_48 (by decide)) ?_
  refine And.intro (gz_o_iconst F.1 F.2.1 0 d_HoldQueueModel_order_51 (by decide)) ?_
  refine And.intro (gz_o_iret (gz_e_i (post := Kr) F d_HoldQueueModel_order_52)) ?_
  exact trivial
set_option maxRecDepth 100000 in
set_option maxHeartbeats 4000000 in
theorem m_order_c (l : Launch) (D : va_G) (a : Nat → Nat) (kc : Nat → ClassId) (u : q_S) (v1 : Int32) (v2 : Int32) (hp : m_order_p u v1 v2) : gz_MI l y_HoldQueueModel_order m_order_w m_order_R D q_cl (m_tys kc) (m_wf a kc) (m_as a) a [gz_r 0, gz_i v1, gz_i v2] u (m_order_r u v1 v2) (m_order_s u v1 v2) := gz_metI (by decide) rfl (m_has a kc) (Nat.le_of_ble_eq_true rfl) rfl (m_order_d u v1 v2 hp ⟨rfl, rfl⟩) (fun p e s m below meth c F => m_order_o (Kr := fun r z => r = some (m_order_r u v1 v2) ∧ z = (m_order_s u v1 v2)) D a kc F)
-- HoldQueueModel.state(II)I
def m_state_w : List Cond := Cond.code y_HoldQueueModel_state c_HoldQueueModel_state 3 (some .int) :: lw_gd
theorem m_state_k : Cond.code y_HoldQueueModel_state c_HoldQueueModel_state 3 (some .int) ∈ lw_gd := wi_465
theorem m_state_sl : Cond.selects R_HoldQueueModel y_HoldQueueModel_state y_HoldQueueModel_state ∈ lw_gd := wi_464
abbrev m_state_R : Room := { frames := 2, cells := 0, slots := 0, locals := 80 }
set_option maxRecDepth 100000 in
set_option maxHeartbeats 4000000 in
theorem m_state_o (D : va_G) (a : Nat → Nat) (kc : Nat → ClassId) (F : gz_F p s m args meth c c_HoldQueueModel_state 3 (some .int) m_state_w R_HoldQueueModel) : gz_oks (gz_Z p l e m_state_R s m args below meth c 0 0 (MQ below (va_Qi (fun r z => Kr (some r) z) (gz_B D q_cl (m_tys kc) (m_wf a kc) (gz_A (m_as a) s.heap.size)) (gz_A (m_as a) s.heap.size)) args s 0 0 (gz_A (m_as a) s.heap.size)) 3 a (gz_GG D q_cl (m_tys kc) (gz_A (m_as a) s.heap.size) s (m_wf a kc))) Kr m_state_t := by
  refine And.intro (gz_o_aload_n F.1 F.2.1 0 d_HoldQueueModel_state_0 rfl) ?_
  refine And.intro (gz_o_iconst F.1 F.2.1 0 d_HoldQueueModel_state_1 (by decide)) ?_
  refine And.intro (gz_o_putI (mp__HoldQueueModel_61 F d_HoldQueueModel_state_2)) ?_
  refine And.intro (gz_o_aload_n F.1 F.2.1 0 d_HoldQueueModel_state_5 rfl) ?_
  refine And.intro (gz_o_iload_n F.1 F.2.1 1 d_HoldQueueModel_state_6 rfl) ?_
  refine And.intro (gz_o_c1P (fun u x hp => gz_cbI (m_has a kc) (fun _ h => Or.inr h) (gz_runV (bs := [gz_i x]) F.2.2.2.2.2.2.2 ⟨F.1, F.2.1, F.2.2.2.1, F.2.2.2.2.1, gz_hts F⟩ (m_isHold_c l D a kc u x hp) (cwV 1 (gz_hts F) (gz_gV lw_good wi_409 wi_411 m_isHold_sl wi_5 m_isHold_k) rfl rfl rfl (by decide +kernel) ⟨Nat.le_of_ble_eq_true rfl, Nat.le_of_ble_eq_true rfl⟩) rfl 0 rfl rfl d_HoldQueueModel_state_7 ⟨Nat.le_of_ble_eq_true rfl, Nat.le_of_ble_eq_true rfl⟩))) ?_
  refine And.intro (gz_o_if_ne F.1 F.2.1 15 d_HoldQueueModel_state_10 (by decide)) ?_
  refine And.intro (gz_o_iconst F.1 F.2.1 (-1) d_HoldQueueModel_state_13 (by decide)) ?_
  refine And.intro (gz_o_iret (gz_e_i (post := Kr) F d_HoldQueueModel_state_14)) ?_
  refine And.intro (gz_o_iload_n F.1 F.2.1 2 d_HoldQueueModel_state_15 rfl) ?_
  refine And.intro (gz_o_sw F.1 F.2.1 [(0, 44), (1, 51), (2, 58)] 77 d_HoldQueueModel_state_16 (by decide +kernel) (by decide +kernel) (by decide)) ?_
  refine And.intro (gz_o_aload_n F.1 F.2.1 0 d_HoldQueueModel_state_44 rfl) ?_
  refine And.intro (gz_o_getR (mg__HoldQueueModel_48 F d_HoldQueueModel_state_45)) ?_
  refine And.intro (gz_o_iload_n F.1 F.2.1 1 d_HoldQueueModel_state_48 rfl) ?_
  refine And.intro (gz_o_ild (m_ild F d_HoldQueueModel_state_49)) ?_
  refine And.intro (gz_o_iret (gz_e_i (post := Kr) F d_HoldQueueModel_state_50)) ?_
  refine And.intro (gz_o_aload_n F.1 F.2.1 0 d_HoldQueueModel_state_51 rfl) ?_
  refine And.intro (gz_o_getR (mg__HoldQueueModel_51 F d_HoldQueueModel_state_52)) ?_
  refine And.intro (gz_o_iload_n F.1 F.2.1 1 d_HoldQueueModel_state_55 rfl) ?_
  refine And.intro (gz_o_ild (m_ild F d_HoldQueueModel_state_56)) ?_
  refine And.intro (gz_o_iret (gz_e_i (post := Kr) F d_HoldQueueModel_state_57)) ?_
  refine And.intro (gz_o_aload_n F.1 F.2.1 0 d_HoldQueueModel_state_58 rfl) ?_
  refine And.intro (gz_o_getR (mg__HoldQueueModel_48 F d_HoldQueueModel_state_59)) ?_
  refine And.intro (gz_o_iload_n F.1 F.2.1 1 d_HoldQueueModel_state_62 rfl) ?_
  refine And.intro (gz_o_ild (m_ild F d_HoldQueueModel_state_63)) ?_
  refine And.intro (gz_o_if_ne F.1 F.2.1 75 d_HoldQueueModel_state_64 (by decide)) ?_
  refine And.intro (gz_o_aload_n F.1 F.2.1 0 d_HoldQueueModel_state_67 rfl) ?_
  refine And.intro (gz_o_iload_n F.1 F.2.1 1 d_HoldQueueModel_state_68 rfl) ?_
  refine And.intro (gz_o_c1P (fun u x hp => gz_cbI (m_has a kc) (fun _ h => Or.inr h) (gz_runV (bs := [gz_i x]) F.2.2.2.2.2.2.2 ⟨F.1, F.2.1, F.2.2.2.1, F.2.2.2.2.1, gz_hts F⟩ (m_placeOf_c l D a kc u x hp) (cwV 1 (gz_hts F) (gz_gV lw_good wi_454 wi_456 m_placeOf_sl wi_5 m_placeOf_k) rfl rfl rfl (by decide +kernel) ⟨Nat.le_of_ble_eq_true rfl, Nat.le_of_ble_eq_true rfl⟩) rfl 0 rfl rfl d_HoldQueueModel_state_69 ⟨Nat.le_of_ble_eq_true rfl, Nat.le_of_ble_eq_true rfl⟩))) ?_
  refine And.intro (gz_o_goto F.1 F.2.1 76 d_HoldQueueModel_state_72 (by decide)) ?_
  refine And.intro (gz_o_iconst F.1 F.2.1 (-1) d_HoldQueueModel_state_75 (by decide)) ?_
  refine And.intro (gz_o_iret (gz_e_i (post := Kr) F d_HoldQueueModel_state_76)) ?_
  refine And.intro (gz_o_iconst F.1 F.2.1 (-1) d_HoldQueueModel_state_77 (by decide)) ?_
  refine And.intro (gz_o_iret (gz_e_i (post := Kr) F d_HoldQueueModel_state_78)) ?_
  exact trivial
set_option maxRecDepth 100000 in
set_option maxHeartbeats 4000000 in
theorem m_state_c (l : Launch) (D : va_G) (a : Nat → Nat) (kc : Nat → ClassId) (u : q_S) (v1 : Int32) (v2 : Int32) (hp : m_state_p u v1 v2) : gz_MI l y_HoldQueueModel_state m_state_w m_state_R D q_cl (m_tys kc) (m_wf a kc) (m_as a) a [gz_r 0, gz_i v1, gz_i v2] u (m_state_r u v1 v2) (m_state_s u v1 v2) := gz_metI (by decide) rfl (m_has a kc) (Nat.le_of_ble_eq_true rfl) rfl (m_state_d u v1 v2 hp ⟨rfl, rfl⟩) (fun p e s m below meth c F => m_state_o (Kr := fun r z => r = some (m_state_r u v1 v2) ∧ z = (m_state_s u v1 v2)) D a kc F)
-- HoldQueueModel.where(II)I
def m_where_w : List Cond := Cond.code y_HoldQueueModel_where c_HoldQueueModel_where 3 (some .int) :: lw_gd
theorem m_where_k : Cond.code y_HoldQueueModel_where c_HoldQueueModel_where 3 (some .int) ∈ lw_gd := wi_469
theorem m_where_sl : Cond.selects R_HoldQueueModel y_HoldQueueModel_where y_HoldQueueModel_where ∈ lw_gd := wi_468
abbrev m_where_R : Room := { frames := 1, cells := 0, slots := 0, locals := 40 }
set_option maxRecDepth 100000 in
set_option maxHeartbeats 4000000 in
theorem m_where_o (D : va_G) (a : Nat → Nat) (kc : Nat → ClassId) (F : gz_F p s m args meth c c_HoldQueueModel_where 3 (some .int) m_where_w R_HoldQueueModel) : gz_oks (gz_Z p l e m_where_R s m args below meth c 0 0 (MQ below (va_Qi (fun r z => Kr (some r) z) (gz_B D q_cl (m_tys kc) (m_wf a kc) (gz_A (m_as a) s.heap.size)) (gz_A (m_as a) s.heap.size)) args s 0 0 (gz_A (m_as a) s.heap.size)) 3 a (gz_GG D q_cl (m_tys kc) (gz_A (m_as a) s.heap.size) s (m_wf a kc))) Kr m_where_t := by
  refine And.intro (gz_o_aload_n F.1 F.2.1 0 d_HoldQueueModel_where_0 rfl) ?_
  refine And.intro (gz_o_iconst F.1 F.2.1 0 d_HoldQueueModel_where_1 (by decide)) ?_
  refine And.intro (gz_o_putI (mp__HoldQueueModel_61 F d_HoldQueueModel_where_2)) ?_
  refine And.intro (gz_o_iload_n F.1 F.2.1 1 d_HoldQueueModel_where_5 rfl) ?_
  refine And.intro (gz_o_iconst F.1 F.2.1 1 d_HoldQueueModel_where_6 (by decide)) ?_
  refine And.intro (gz_o_aload_n F.1 F.2.1 0 d_HoldQueueModel_where_7 rfl) ?_
  refine And.intro (gz_o_getI (mg__HoldQueueModel_71 F d_HoldQueueModel_where_8)) ?_
  refine And.intro (gz_o_s3P (fun u x y z => gz_cbI (m_has a kc) (fun _ h => Or.inr h) (gz_runS (bs := [gz_i x, gz_i y, gz_i z]) F.2.2.2.2.2.2.2 ⟨F.1, F.2.1, F.2.2.2.1, F.2.2.2.2.1, gz_hts F⟩ (m_in_c l D a kc u x y z) (cwS 3 (gz_hts F) (gz_gS lw_good wi_361 wi_362 wi_5 m_in_k) rfl rfl rfl (by decide +kernel) ⟨Nat.le_of_ble_eq_true rfl, Nat.le_of_ble_eq_true rfl⟩) rfl d_HoldQueueModel_where_11 ⟨Nat.le_of_ble_eq_true rfl, Nat.le_of_ble_eq_true rfl⟩))) ?_
  refine And.intro (gz_o_if_ne F.1 F.2.1 19 d_HoldQueueModel_where_14 (by decide)) ?_
  refine And.intro (gz_o_iconst F.1 F.2.1 (-1) d_HoldQueueModel_where_17 (by decide)) ?_
  refine And.intro (gz_o_iret (gz_e_i (post := Kr) F d_HoldQueueModel_where_18)) ?_
  refine And.intro (gz_o_iload_n F.1 F.2.1 2 d_HoldQueueModel_where_19 rfl) ?_
  refine And.intro (gz_o_sw F.1 F.2.1 [(0, 48), (1, 55), (2, 62)] 69 d_HoldQueueModel_where_20 (by decide +kernel) (by decide +kernel) (by decide)) ?_
  refine And.intro (gz_o_aload_n F.1 F.2.1 0 d_HoldQueueModel_where_48 rfl) ?_
  refine And.intro (gz_o_getR (mg__HoldQueueModel_27 F d_HoldQueueModel_where_49)) ?_
  refine And.intro (gz_o_iload_n F.1 F.2.1 1 d_HoldQueueModel_where_52 rfl) ?_
  refine And.intro (gz_o_ild (m_ild F d_HoldQueueModel_where_53)) ?_
  refine And.intro (gz_o_iret (gz_e_i (post := Kr) F d_HoldQueueModel_where_54)) ?_
  refine And.intro (gz_o_aload_n F.1 F.2.1 0 d_HoldQueueModel_where_55 rfl) ?_
  refine And.intro (gz_o_getR (mg__HoldQueueModel_30 F d_HoldQueueModel_where_56)) ?_
  refine And.intro (gz_o_iload_n F.1 F.2.1 1 d_HoldQueueModel_where_59 rfl) ?_
  refine And.intro (gz_o_ild (m_ild F d_HoldQueueModel_where_60)) ?_
  refine And.intro (gz_o_iret (gz_e_i (post := Kr) F d_HoldQueueModel_where_61)) ?_
  refine And.intro (gz_o_aload_n F.1 F.2.1 0 d_HoldQueueModel_where_62 rfl) ?_
  refine And.intro (gz_o_getR (mg__HoldQueueModel_33 F d_HoldQueueModel_where_63)) ?_
  refine And.intro (gz_o_iload_n F.1 F.2.1 1 d_HoldQueueModel_where_66 rfl) ?_
  refine And.intro (gz_o_ild (m_ild F d_HoldQueueModel_where_67)) ?_
  refine And.intro (gz_o_iret (gz_e_i (post := Kr) F d_HoldQueueModel_where_68)) ?_
  refine And.intro (gz_o_iconst F.1 F.2.1 (-1) d_HoldQueueModel_where_69 (by decide)) ?_
  refine And.intro (gz_o_iret (gz_e_i (post := Kr) F d_HoldQueueModel_where_70)) ?_
  exact trivial
set_option maxRecDepth 100000 in
set_option maxHeartbeats 4000000 in
theorem m_where_c (l : Launch) (D : va_G) (a : Nat → Nat) (kc : Nat → ClassId) (u : q_S) (v1 : Int32) (v2 : Int32) (hp : m_where_p u v1 v2) : gz_MI l y_HoldQueueModel_where m_where_w m_where_R D q_cl (m_tys kc) (m_wf a kc) (m_as a) a [gz_r 0, gz_i v1, gz_i v2] u (m_where_r u v1 v2) (m_where_s u v1 v2) := gz_metI (by decide) rfl (m_has a kc) (Nat.le_of_ble_eq_true rfl) rfl (m_where_d u v1 v2 hp ⟨rfl, rfl⟩) (fun p e s m below meth c F => m_where_o (Kr := fun r z => r = some (m_where_r u v1 v2) ∧ z = (m_where_s u v1 v2)) D a kc F)
end GZX
