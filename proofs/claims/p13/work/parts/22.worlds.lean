/-- words: all of the tables' are good; a callee's are among them -/
theorem gz_hts {p : Program} {s : State} {m : MethodId} {args : Array Value} {meth : Method} {c : Code} {cc : ByteArray} {nL : Nat} {ret : Option FieldType} {own : String} {cd : Cond} (F : gz_F p s m args meth c cc nL ret (cd :: lw_gd) own) : ∀ w ∈ lw_gd, w.before args s = true := fun w h => F.2.2.2.2.2.1 w (List.mem_cons_of_mem _ h)
theorem gz_nwF {p : Program} {s : State} {m : MethodId} {args : Array Value} {meth : Method} {c : Code} {cc : ByteArray} {nL : Nat} {ret : Option FieldType} {own : String} {ws : List Cond} (F : gz_F p s m args meth c cc nL ret ws own) : ∀ w ∈ gz_nw, va_Nw w s := F.2.2.2.2.2.2.2
theorem lw_good : GoodIn lw_gd lw_gd := fun w hw => ⟨hw, good_of_word (List.mem_filter.mp hw).2⟩
theorem gz_gN {T : List Cond} {cd : Cond} (hg : GoodIn T T) (h : cd ∈ T) : GoodIn T (cd :: T) := by
  intro w hw
  rcases List.mem_cons.mp hw with h1 | h1
  · rw [h1]; exact hg _ h
  · exact hg _ h1
theorem gz_gV {T : List Cond} {cd : Cond} {own C : String} {idx : Nat} {y : MethodName} (hg : GoodIn T T) (h1 : Cond.methodLink own idx y ∈ T) (h2 : Cond.instanceMethod y ∈ T) (h3 : Cond.selects C y y ∈ T) (h4 : Cond.initialized C ∈ T) (h : cd ∈ T) : GoodIn T (wsV own idx C y (cd :: T)) := by
  intro w hw
  unfold wsV at hw
  rcases List.mem_append.mp hw with h5 | h5
  · rcases List.mem_cons.mp h5 with h6 | h6
    · rw [h6]; exact hg _ h1
    · rcases List.mem_cons.mp h6 with h6 | h6
      · rw [h6]; exact hg _ h2
      · rcases List.mem_cons.mp h6 with h6 | h6
        · rw [h6]; exact hg _ h3
        · rcases List.mem_cons.mp h6 with h6 | h6
          · rw [h6]; exact hg _ h4
          · cases h6
  · exact gz_gN hg h w h5
theorem gz_gS {T : List Cond} {cd : Cond} {own : String} {idx : Nat} {y : MethodName} (hg : GoodIn T T) (h1 : Cond.methodLink own idx y ∈ T) (h2 : Cond.static y ∈ T) (h3 : Cond.initialized own ∈ T) (h : cd ∈ T) : GoodIn T (wsS own idx y (cd :: T)) := by
  intro w hw
  unfold wsS at hw
  rcases List.mem_append.mp hw with h5 | h5
  · rcases List.mem_cons.mp h5 with h6 | h6
    · rw [h6]; exact hg _ h1
    · rcases List.mem_cons.mp h6 with h6 | h6
      · rw [h6]; exact hg _ h2
      · rcases List.mem_cons.mp h6 with h6 | h6
        · rw [h6]; exact hg _ h3
        · cases h6
  · exact gz_gN hg h w h5

/-- the cells of the landed code -/
def x_wf (a : Nat → Nat) (kc : Nat → ClassId) (u : q_S) : va_W := [(a 0, .inr (0, [.ref (a 3), .int (q_nr u), .ref (a 4), .ref (a 5), .ref (a 1), .ref (a 2), .long (q_td u), .int (q_sp u)])), (a 1, .inr (1, [.int (q_nc u), .ref (a 6), .ref (a 7), .ref (a 8), .ref (a 9)])), (a 2, .inr (2, [.int (q_nh u), .ref (a 10), .ref (a 11), .ref (a 12), .ref (a 13), .ref (a 14), .ref (a 15), .ref (a 16), .ref (a 17)])), (a 3, .inl (kc 3, 31, .inl (q_kd u))), (a 4, .inl (kc 4, 4, .inl (q_bd u))), (a 5, .inl (kc 5, 40, .inl (q_mo u))), (a 6, .inl (kc 6, 61, .inl (q_cr u))), (a 7, .inl (kc 7, 61, .inl (q_cp u))), (a 8, .inl (kc 8, 61, .inl (q_cs u))), (a 9, .inl (kc 9, 61, .inl (q_ch u))), (a 10, .inl (kc 10, 121, .inl (q_hp u))), (a 11, .inl (kc 11, 121, .inl (q_hr u))), (a 12, .inl (kc 12, 121, .inl (q_hl u))), (a 13, .inl (kc 13, 121, .inl (q_hk u))), (a 14, .inl (kc 14, 121, .inl (q_hs u))), (a 15, .inl (kc 15, 121, .inl (q_hy u))), (a 16, .inl (kc 16, 121, .inr (.inl (q_hu u)))), (a 17, .inl (kc 17, 121, .inr (.inl (q_he u))))]
def x_tys (kc : Nat → ClassId) : List (ClassId × FieldType) := [(kc 3, .int), (kc 4, .boolean), (kc 5, .int), (kc 6, .int), (kc 7, .int), (kc 8, .int), (kc 9, .int), (kc 10, .int), (kc 11, .int), (kc 12, .int), (kc 13, .int), (kc 14, .int), (kc 15, .int), (kc 16, .long), (kc 17, .long)]
def x_as (a : Nat → Nat) : List Nat := [a 0, a 1, a 2, a 3, a 4, a 5, a 6, a 7, a 8, a 9, a 10, a 11, a 12, a 13, a 14, a 15, a 16, a 17]
theorem x_has (a : Nat → Nat) (kc : Nat → ClassId) : ∀ z : q_S, (x_wf a kc z).map (fun q => q.1) = x_as a := fun _ => rfl
/-- the cells of the reference -/
def m_wf (a : Nat → Nat) (kc : Nat → ClassId) (u : q_S) : va_W := [(a 0, .inr (3, [.int (q_th u), .int (q_nr u), .int (q_nc u), .int (q_nh u), .ref (a 1), .ref (a 2), .ref (a 3), .long (q_td u), .int (q_sp u), .ref (a 4), .ref (a 5), .ref (a 6), .ref (a 7), .ref (a 8), .ref (a 9), .ref (a 10), .ref (a 11), .ref (a 12), .ref (a 13), .ref (a 14), .ref (a 15)])), (a 1, .inl (kc 1, 31, .inl (q_kd u))), (a 2, .inl (kc 2, 4, .inl (q_bd u))), (a 3, .inl (kc 3, 40, .inl (q_mo u))), (a 4, .inl (kc 4, 61, .inl (q_cr u))), (a 5, .inl (kc 5, 61, .inl (q_cs u))), (a 6, .inl (kc 6, 61, .inl (q_cp u))), (a 7, .inl (kc 7, 61, .inl (q_ch u))), (a 8, .inl (kc 8, 121, .inl (q_hp u))), (a 9, .inl (kc 9, 121, .inl (q_hr u))), (a 10, .inl (kc 10, 121, .inl (q_hl u))), (a 11, .inl (kc 11, 121, .inl (q_hk u))), (a 12, .inl (kc 12, 121, .inl (q_hs u))), (a 13, .inl (kc 13, 121, .inl (q_hy u))), (a 14, .inl (kc 14, 121, .inr (.inl (q_hu u)))), (a 15, .inl (kc 15, 121, .inr (.inl (q_he u))))]
def m_tys (kc : Nat → ClassId) : List (ClassId × FieldType) := [(kc 1, .int), (kc 2, .boolean), (kc 3, .int), (kc 4, .int), (kc 5, .int), (kc 6, .int), (kc 7, .int), (kc 8, .int), (kc 9, .int), (kc 10, .int), (kc 11, .int), (kc 12, .int), (kc 13, .int), (kc 14, .long), (kc 15, .long)]
def m_as (a : Nat → Nat) : List Nat := [a 0, a 1, a 2, a 3, a 4, a 5, a 6, a 7, a 8, a 9, a 10, a 11, a 12, a 13, a 14, a 15]
theorem m_has (a : Nat → Nat) (kc : Nat → ClassId) : ∀ z : q_S, (m_wf a kc z).map (fun q => q.1) = m_as a := fun _ => rfl
abbrev q_cl : List vw_C := [(R_HoldQueue, T_HoldQueue, 8), (R_HoldQueue_Copies, T_HoldQueue_Copies, 5), (R_HoldQueue_Holds, T_HoldQueue_Holds, 9), (R_HoldQueueModel, T_HoldQueueModel, 21)]
theorem _HoldQueue_in : ∀ w ∈ u_ws R_HoldQueue T_HoldQueue 8, w ∈ lw_gd := by decide +kernel
theorem _HoldQueue_Copies_in : ∀ w ∈ u_ws R_HoldQueue_Copies T_HoldQueue_Copies 5, w ∈ lw_gd := by decide +kernel
theorem _HoldQueue_Holds_in : ∀ w ∈ u_ws R_HoldQueue_Holds T_HoldQueue_Holds 9, w ∈ lw_gd := by decide +kernel
theorem _HoldQueueModel_in : ∀ w ∈ u_ws R_HoldQueueModel T_HoldQueueModel 21, w ∈ lw_gd := by decide +kernel
section GZX
variable {p : Program} {l : Launch} {e : Env} {R : Room} {s : State} {m : MethodId} {args : Array Value} {below : List Frame} {meth : Method} {c : Code} {cells slots : Nat} {Q : State → Prop} {cc : ByteArray} {nL : Nat} {a : Nat → Nat} {kc : Nat → ClassId} {D : va_G} {A : Nat → Prop} {Kr : Option Int32 → q_S → Prop} {pc : Nat} {ret : Option FieldType} {ws : List Cond} {own : String}

theorem x_ild (F : gz_F p s m args meth c cc nL ret ws own) (hd : decode cc pc = .ok (.iaload, 1)) : gz_TI x_ai (fun j n g _ => ∀ (u : q_S) (x : Int32), vp_in x n → gz_mv p l e R s m args below meth c cells slots Q nL a (gz_GG D q_cl (x_tys kc) A s (x_wf a kc)) (pc + 1) pc [gz_i x, gz_r j] u [gz_i (g u x.toNatClampNeg)] u) := by
  intro j k h
  unfold x_ai at h
  split at h
  · exact ⟨31, q_kd, q_kd_u, h, fun u x hin => gz_m_ild F.1 F.2.1 3 0 rfl rfl hd hin⟩
  · exact ⟨40, q_mo, q_mo_u, h, fun u x hin => gz_m_ild F.1 F.2.1 5 2 rfl rfl hd hin⟩
  · exact ⟨61, q_cr, q_cr_u, h, fun u x hin => gz_m_ild F.1 F.2.1 6 3 rfl rfl hd hin⟩
  · exact ⟨61, q_cp, q_cp_u, h, fun u x hin => gz_m_ild F.1 F.2.1 7 4 rfl rfl hd hin⟩
  · exact ⟨61, q_cs, q_cs_u, h, fun u x hin => gz_m_ild F.1 F.2.1 8 5 rfl rfl hd hin⟩
  · exact ⟨61, q_ch, q_ch_u, h, fun u x hin => gz_m_ild F.1 F.2.1 9 6 rfl rfl hd hin⟩
  · exact ⟨121, q_hp, q_hp_u, h, fun u x hin => gz_m_ild F.1 F.2.1 10 7 rfl rfl hd hin⟩
  · exact ⟨121, q_hr, q_hr_u, h, fun u x hin => gz_m_ild F.1 F.2.1 11 8 rfl rfl hd hin⟩
  · exact ⟨121, q_hl, q_hl_u, h, fun u x hin => gz_m_ild F.1 F.2.1 12 9 rfl rfl hd hin⟩
  · exact ⟨121, q_hk, q_hk_u, h, fun u x hin => gz_m_ild F.1 F.2.1 13 10 rfl rfl hd hin⟩
  · exact ⟨121, q_hs, q_hs_u, h, fun u x hin => gz_m_ild F.1 F.2.1 14 11 rfl rfl hd hin⟩
  · exact ⟨121, q_hy, q_hy_u, h, fun u x hin => gz_m_ild F.1 F.2.1 15 12 rfl rfl hd hin⟩
  · exact False.elim h
theorem x_zld (F : gz_F p s m args meth c cc nL ret ws own) (hd : decode cc pc = .ok (.baload, 1)) : gz_TI x_az (fun j n g _ => ∀ (u : q_S) (x : Int32), vp_in x n → gz_mv p l e R s m args below meth c cells slots Q nL a (gz_GG D q_cl (x_tys kc) A s (x_wf a kc)) (pc + 1) pc [gz_i x, gz_r j] u [gz_i (g u x.toNatClampNeg)] u) := by
  intro j k h
  unfold x_az at h
  split at h
  · exact ⟨4, q_bd, q_bd_u, h, fun u x hin => gz_m_zld F.1 F.2.1 4 1 rfl rfl hd hin⟩
  · exact False.elim h
theorem x_lld (F : gz_F p s m args meth c cc nL ret ws own) (hd : decode cc pc = .ok (.laload, 1)) : gz_TL x_al (fun j n g _ => ∀ (u : q_S) (x : Int32), vp_in x n → gz_mv p l e R s m args below meth c cells slots Q nL a (gz_GG D q_cl (x_tys kc) A s (x_wf a kc)) (pc + 1) pc [gz_i x, gz_r j] u [gz_l (g u x.toNatClampNeg)] u) := by
  intro j k h
  unfold x_al at h
  split at h
  · exact ⟨121, q_hu, q_hu_u, h, fun u x hin => gz_m_lld F.1 F.2.1 16 13 rfl rfl hd hin⟩
  · exact ⟨121, q_he, q_he_u, h, fun u x hin => gz_m_lld F.1 F.2.1 17 14 rfl rfl hd hin⟩
  · exact False.elim h
theorem x_ist (F : gz_F p s m args meth c cc nL ret ws own) (hd : decode cc pc = .ok (.iastore, 1)) : gz_TI x_ai (fun j n _ f => ∀ (u : q_S) (x y : Int32), vp_in x n → gz_mv p l e R s m args below meth c cells slots Q nL a (gz_GG D q_cl (x_tys kc) A s (x_wf a kc)) (pc + 1) pc [gz_i y, gz_i x, gz_r j] u [] (f u x y)) := by
  intro j k h
  unfold x_ai at h
  split at h
  · exact ⟨31, q_kd, q_kd_u, h, fun u x y hin => gz_m_ist F.1 F.2.1 3 0 rfl rfl hd hin rfl⟩
  · exact ⟨40, q_mo, q_mo_u, h, fun u x y hin => gz_m_ist F.1 F.2.1 5 2 rfl rfl hd hin rfl⟩
  · exact ⟨61, q_cr, q_cr_u, h, fun u x y hin => gz_m_ist F.1 F.2.1 6 3 rfl rfl hd hin rfl⟩
  · exact ⟨61, q_cp, q_cp_u, h, fun u x y hin => gz_m_ist F.1 F.2.1 7 4 rfl rfl hd hin rfl⟩
  · exact ⟨61, q_cs, q_cs_u, h, fun u x y hin => gz_m_ist F.1 F.2.1 8 5 rfl rfl hd hin rfl⟩
  · exact ⟨61, q_ch, q_ch_u, h, fun u x y hin => gz_m_ist F.1 F.2.1 9 6 rfl rfl hd hin rfl⟩
  · exact ⟨121, q_hp, q_hp_u, h, fun u x y hin => gz_m_ist F.1 F.2.1 10 7 rfl rfl hd hin rfl⟩
  · exact ⟨121, q_hr, q_hr_u, h, fun u x y hin => gz_m_ist F.1 F.2.1 11 8 rfl rfl hd hin rfl⟩
  · exact ⟨121, q_hl, q_hl_u, h, fun u x y hin => gz_m_ist F.1 F.2.1 12 9 rfl rfl hd hin rfl⟩
  · exact ⟨121, q_hk, q_hk_u, h, fun u x y hin => gz_m_ist F.1 F.2.1 13 10 rfl rfl hd hin rfl⟩
  · exact ⟨121, q_hs, q_hs_u, h, fun u x y hin => gz_m_ist F.1 F.2.1 14 11 rfl rfl hd hin rfl⟩
  · exact ⟨121, q_hy, q_hy_u, h, fun u x y hin => gz_m_ist F.1 F.2.1 15 12 rfl rfl hd hin rfl⟩
  · exact False.elim h
theorem x_zst (F : gz_F p s m args meth c cc nL ret ws own) (hd : decode cc pc = .ok (.bastore, 1)) : gz_TI x_az (fun j n _ f => ∀ (u : q_S) (x y : Int32), vp_in x n → gz_mv p l e R s m args below meth c cells slots Q nL a (gz_GG D q_cl (x_tys kc) A s (x_wf a kc)) (pc + 1) pc [gz_i y, gz_i x, gz_r j] u [] (f u x (vp_nar .boolean y))) := by
  intro j k h
  unfold x_az at h
  split at h
  · exact ⟨4, q_bd, q_bd_u, h, fun u x y hin => gz_m_zst F.1 F.2.1 4 1 rfl rfl hd hin rfl⟩
  · exact False.elim h
theorem x_lst (F : gz_F p s m args meth c cc nL ret ws own) (hd : decode cc pc = .ok (.lastore, 1)) : gz_TL x_al (fun j n _ f => ∀ (u : q_S) (x : Int32) (y : Int64), vp_in x n → gz_mv p l e R s m args below meth c cells slots Q nL a (gz_GG D q_cl (x_tys kc) A s (x_wf a kc)) (pc + 1) pc [gz_l y, gz_i x, gz_r j] u [] (f u x y)) := by
  intro j k h
  unfold x_al at h
  split at h
  · exact ⟨121, q_hu, q_hu_u, h, fun u x y hin => gz_m_lst F.1 F.2.1 16 13 rfl rfl hd hin rfl⟩
  · exact ⟨121, q_he, q_he_u, h, fun u x y hin => gz_m_lst F.1 F.2.1 17 14 rfl rfl hd hin rfl⟩
  · exact False.elim h
theorem xg__HoldQueue_13_w : (Cond.fieldLink R_HoldQueue 13 "HoldQueue" "recordCount" "I" : Cond) ∈ lw_gd := wi_88
theorem xg__HoldQueue_13 {cd : Cond} (F : gz_F p s m args meth c cc nL ret (cd :: lw_gd) R_HoldQueue) (hd : decode cc pc = .ok (.getfield 13, 3)) : ∀ u : q_S, gz_mv p l e R s m args below meth c cells slots Q nL a (gz_GG D q_cl (x_tys kc) A s (x_wf a kc)) (pc + 3) pc [gz_r 0] u [gz_i (q_nr u)] u := fun u => gz_m_get (C := R_HoldQueue) (T := T_HoldQueue) (N := 8) (ci := 0) F.1 F.2.1 (gz_hts F) _HoldQueue_in F.2.2.2.2.1 0 rfl rfl 1 (by decide) (gz_hts F _ xg__HoldQueue_13_w) (fun _ h => h) rfl hd
theorem xp__HoldQueue_13_w : (Cond.fieldLink R_HoldQueue 13 "HoldQueue" "recordCount" "I" : Cond) ∈ lw_gd := wi_88
theorem xp__HoldQueue_13 {cd : Cond} (F : gz_F p s m args meth c cc nL ret (cd :: lw_gd) R_HoldQueue) (hd : decode cc pc = .ok (.putfield 13, 3)) : ∀ (u : q_S) (x : Int32), gz_mv p l e R s m args below meth c cells slots Q nL a (gz_GG D q_cl (x_tys kc) A s (x_wf a kc)) (pc + 3) pc [gz_i x, gz_r 0] u [] (q_nr_s u x) := fun u x => gz_m_put (ty := .int) (C := R_HoldQueue) (T := T_HoldQueue) (N := 8) (ci := 0) F.1 F.2.1 (gz_hts F) _HoldQueue_in ty_HoldQueue ty_HoldQueue_ok nm_HoldQueue F.2.2.2.2.1 0 rfl rfl 1 (by decide) (gz_hts F _ xp__HoldQueue_13_w) (fun _ h => h) rfl (by decide +kernel) rfl rfl (Nat.le_of_ble_eq_true rfl) rfl hd
theorem xg__HoldQueue_9_w : (Cond.fieldLink R_HoldQueue 9 "HoldQueue" "kindOfRecord" "[I" : Cond) ∈ lw_gd := wi_87
theorem xg__HoldQueue_9 {cd : Cond} (F : gz_F p s m args meth c cc nL ret (cd :: lw_gd) R_HoldQueue) (hd : decode cc pc = .ok (.getfield 9, 3)) : ∀ u : q_S, gz_mv p l e R s m args below meth c cells slots Q nL a (gz_GG D q_cl (x_tys kc) A s (x_wf a kc)) (pc + 3) pc [gz_r 0] u [gz_r 3] u := fun u => gz_m_get (C := R_HoldQueue) (T := T_HoldQueue) (N := 8) (ci := 0) F.1 F.2.1 (gz_hts F) _HoldQueue_in F.2.2.2.2.1 0 rfl rfl 0 (by decide) (gz_hts F _ xg__HoldQueue_9_w) (fun _ h => h) rfl hd
theorem xg__HoldQueue_Copies_9_w : (Cond.fieldLink R_HoldQueue_Copies 9 "HoldQueue$Copies" "count" "I" : Cond) ∈ lw_gd := wi_20
theorem xg__HoldQueue_Copies_9 {cd : Cond} (F : gz_F p s m args meth c cc nL ret (cd :: lw_gd) R_HoldQueue_Copies) (hd : decode cc pc = .ok (.getfield 9, 3)) : ∀ u : q_S, gz_mv p l e R s m args below meth c cells slots Q nL a (gz_GG D q_cl (x_tys kc) A s (x_wf a kc)) (pc + 3) pc [gz_r 1] u [gz_i (q_nc u)] u := fun u => gz_m_get (C := R_HoldQueue_Copies) (T := T_HoldQueue_Copies) (N := 5) (ci := 1) F.1 F.2.1 (gz_hts F) _HoldQueue_Copies_in F.2.2.2.2.1 1 rfl rfl 0 (by decide) (gz_hts F _ xg__HoldQueue_Copies_9_w) (fun _ h => h) rfl hd
theorem xp__HoldQueue_Copies_9_w : (Cond.fieldLink R_HoldQueue_Copies 9 "HoldQueue$Copies" "count" "I" : Cond) ∈ lw_gd := wi_20
theorem xp__HoldQueue_Copies_9 {cd : Cond} (F : gz_F p s m args meth c cc nL ret (cd :: lw_gd) R_HoldQueue_Copies) (hd : decode cc pc = .ok (.putfield 9, 3)) : ∀ (u : q_S) (x : Int32), gz_mv p l e R s m args below meth c cells slots Q nL a (gz_GG D q_cl (x_tys kc) A s (x_wf a kc)) (pc + 3) pc [gz_i x, gz_r 1] u [] (q_nc_s u x) := fun u x => gz_m_put (ty := .int) (C := R_HoldQueue_Copies) (T := T_HoldQueue_Copies) (N := 5) (ci := 1) F.1 F.2.1 (gz_hts F) _HoldQueue_Copies_in ty_HoldQueue_Copies ty_HoldQueue_Copies_ok nm_HoldQueue_Copies F.2.2.2.2.1 1 rfl rfl 0 (by decide) (gz_hts F _ xp__HoldQueue_Copies_9_w) (fun _ h => h) rfl (by decide +kernel) rfl rfl (Nat.le_of_ble_eq_true rfl) rfl hd
theorem xg__HoldQueue_Copies_15_w : (Cond.fieldLink R_HoldQueue_Copies 15 "HoldQueue$Copies" "recordOf" "[I" : Cond) ∈ lw_gd := wi_21
theorem xg__HoldQueue_Copies_15 {cd : Cond} (F : gz_F p s m args meth c cc nL ret (cd :: lw_gd) R_HoldQueue_Copies) (hd : decode cc pc = .ok (.getfield 15, 3)) : ∀ u : q_S, gz_mv p l e R s m args below meth c cells slots Q nL a (gz_GG D q_cl (x_tys kc) A s (x_wf a kc)) (pc + 3) pc [gz_r 1] u [gz_r 6] u := fun u => gz_m_get (C := R_HoldQueue_Copies) (T := T_HoldQueue_Copies) (N := 5) (ci := 1) F.1 F.2.1 (gz_hts F) _HoldQueue_Copies_in F.2.2.2.2.1 1 rfl rfl 1 (by decide) (gz_hts F _ xg__HoldQueue_Copies_15_w) (fun _ h => h) rfl hd
theorem xg__HoldQueue_Copies_19_w : (Cond.fieldLink R_HoldQueue_Copies 19 "HoldQueue$Copies" "placeOf" "[I" : Cond) ∈ lw_gd := wi_23
theorem xg__HoldQueue_Copies_19 {cd : Cond} (F : gz_F p s m args meth c cc nL ret (cd :: lw_gd) R_HoldQueue_Copies) (hd : decode cc pc = .ok (.getfield 19, 3)) : ∀ u : q_S, gz_mv p l e R s m args below meth c cells slots Q nL a (gz_GG D q_cl (x_tys kc) A s (x_wf a kc)) (pc + 3) pc [gz_r 1] u [gz_r 7] u := fun u => gz_m_get (C := R_HoldQueue_Copies) (T := T_HoldQueue_Copies) (N := 5) (ci := 1) F.1 F.2.1 (gz_hts F) _HoldQueue_Copies_in F.2.2.2.2.1 1 rfl rfl 2 (by decide) (gz_hts F _ xg__HoldQueue_Copies_19_w) (fun _ h => h) rfl hd
theorem xg__HoldQueue_Copies_22_w : (Cond.fieldLink R_HoldQueue_Copies 22 "HoldQueue$Copies" "stateOf" "[I" : Cond) ∈ lw_gd := wi_25
theorem xg__HoldQueue_Copies_22 {cd : Cond} (F : gz_F p s m args meth c cc nL ret (cd :: lw_gd) R_HoldQueue_Copies) (hd : decode cc pc = .ok (.getfield 22, 3)) : ∀ u : q_S, gz_mv p l e R s m args below meth c cells slots Q nL a (gz_GG D q_cl (x_tys kc) A s (x_wf a kc)) (pc + 3) pc [gz_r 1] u [gz_r 8] u := fun u => gz_m_get (C := R_HoldQueue_Copies) (T := T_HoldQueue_Copies) (N := 5) (ci := 1) F.1 F.2.1 (gz_hts F) _HoldQueue_Copies_in F.2.2.2.2.1 1 rfl rfl 3 (by decide) (gz_hts F _ xg__HoldQueue_Copies_22_w) (fun _ h => h) rfl hd
theorem xg__HoldQueue_27_w : (Cond.fieldLink R_HoldQueue 27 "HoldQueue" "copies" "LHoldQueue$Copies;" : Cond) ∈ lw_gd := wi_91
theorem xg__HoldQueue_27 {cd : Cond} (F : gz_F p s m args meth c cc nL ret (cd :: lw_gd) R_HoldQueue) (hd : decode cc pc = .ok (.getfield 27, 3)) : ∀ u : q_S, gz_mv p l e R s m args below meth c cells slots Q nL a (gz_GG D q_cl (x_tys kc) A s (x_wf a kc)) (pc + 3) pc [gz_r 0] u [gz_r 1] u := fun u => gz_m_get (C := R_HoldQueue) (T := T_HoldQueue) (N := 8) (ci := 0) F.1 F.2.1 (gz_hts F) _HoldQueue_in F.2.2.2.2.1 0 rfl rfl 4 (by decide) (gz_hts F _ xg__HoldQueue_27_w) (fun _ h => h) rfl hd
theorem xg__HoldQueue_17_w : (Cond.fieldLink R_HoldQueue 17 "HoldQueue" "barredKind" "[Z" : Cond) ∈ lw_gd := wi_89
theorem xg__HoldQueue_17 {cd : Cond} (F : gz_F p s m args meth c cc nL ret (cd :: lw_gd) R_HoldQueue) (hd : decode cc pc = .ok (.getfield 17, 3)) : ∀ u : q_S, gz_mv p l e R s m args below meth c cells slots Q nL a (gz_GG D q_cl (x_tys kc) A s (x_wf a kc)) (pc + 3) pc [gz_r 0] u [gz_r 4] u := fun u => gz_m_get (C := R_HoldQueue) (T := T_HoldQueue) (N := 8) (ci := 0) F.1 F.2.1 (gz_hts F) _HoldQueue_in F.2.2.2.2.1 0 rfl rfl 2 (by decide) (gz_hts F _ xg__HoldQueue_17_w) (fun _ h => h) rfl hd
theorem xg__HoldQueue_Holds_9_w : (Cond.fieldLink R_HoldQueue_Holds 9 "HoldQueue$Holds" "count" "I" : Cond) ∈ lw_gd := wi_48
theorem xg__HoldQueue_Holds_9 {cd : Cond} (F : gz_F p s m args meth c cc nL ret (cd :: lw_gd) R_HoldQueue_Holds) (hd : decode cc pc = .ok (.getfield 9, 3)) : ∀ u : q_S, gz_mv p l e R s m args below meth c cells slots Q nL a (gz_GG D q_cl (x_tys kc) A s (x_wf a kc)) (pc + 3) pc [gz_r 2] u [gz_i (q_nh u)] u := fun u => gz_m_get (C := R_HoldQueue_Holds) (T := T_HoldQueue_Holds) (N := 9) (ci := 2) F.1 F.2.1 (gz_hts F) _HoldQueue_Holds_in F.2.2.2.2.1 2 rfl rfl 0 (by decide) (gz_hts F _ xg__HoldQueue_Holds_9_w) (fun _ h => h) rfl hd
theorem xg__HoldQueue_Holds_28_w : (Cond.fieldLink R_HoldQueue_Holds 28 "HoldQueue$Holds" "stateOf" "[I" : Cond) ∈ lw_gd := wi_56
theorem xg__HoldQueue_Holds_28 {cd : Cond} (F : gz_F p s m args meth c cc nL ret (cd :: lw_gd) R_HoldQueue_Holds) (hd : decode cc pc = .ok (.getfield 28, 3)) : ∀ u : q_S, gz_mv p l e R s m args below meth c cells slots Q nL a (gz_GG D q_cl (x_tys kc) A s (x_wf a kc)) (pc + 3) pc [gz_r 2] u [gz_r 14] u := fun u => gz_m_get (C := R_HoldQueue_Holds) (T := T_HoldQueue_Holds) (N := 9) (ci := 2) F.1 F.2.1 (gz_hts F) _HoldQueue_Holds_in F.2.2.2.2.1 2 rfl rfl 5 (by decide) (gz_hts F _ xg__HoldQueue_Holds_28_w) (fun _ h => h) rfl hd
theorem xg__HoldQueue_Holds_15_w : (Cond.fieldLink R_HoldQueue_Holds 15 "HoldQueue$Holds" "personOf" "[I" : Cond) ∈ lw_gd := wi_50
theorem xg__HoldQueue_Holds_15 {cd : Cond} (F : gz_F p s m args meth c cc nL ret (cd :: lw_gd) R_HoldQueue_Holds) (hd : decode cc pc = .ok (.getfield 15, 3)) : ∀ u : q_S, gz_mv p l e R s m args below meth c cells slots Q nL a (gz_GG D q_cl (x_tys kc) A s (x_wf a kc)) (pc + 3) pc [gz_r 2] u [gz_r 10] u := fun u => gz_m_get (C := R_HoldQueue_Holds) (T := T_HoldQueue_Holds) (N := 9) (ci := 2) F.1 F.2.1 (gz_hts F) _HoldQueue_Holds_in F.2.2.2.2.1 2 rfl rfl 1 (by decide) (gz_hts F _ xg__HoldQueue_Holds_15_w) (fun _ h => h) rfl hd
theorem xg__HoldQueue_Holds_19_w : (Cond.fieldLink R_HoldQueue_Holds 19 "HoldQueue$Holds" "recordOf" "[I" : Cond) ∈ lw_gd := wi_51
theorem xg__HoldQueue_Holds_19 {cd : Cond} (F : gz_F p s m args meth c cc nL ret (cd :: lw_gd) R_HoldQueue_Holds) (hd : decode cc pc = .ok (.getfield 19, 3)) : ∀ u : q_S, gz_mv p l e R s m args below meth c cells slots Q nL a (gz_GG D q_cl (x_tys kc) A s (x_wf a kc)) (pc + 3) pc [gz_r 2] u [gz_r 11] u := fun u => gz_m_get (C := R_HoldQueue_Holds) (T := T_HoldQueue_Holds) (N := 9) (ci := 2) F.1 F.2.1 (gz_hts F) _HoldQueue_Holds_in F.2.2.2.2.1 2 rfl rfl 2 (by decide) (gz_hts F _ xg__HoldQueue_Holds_19_w) (fun _ h => h) rfl hd
theorem xp__HoldQueue_Holds_9_w : (Cond.fieldLink R_HoldQueue_Holds 9 "HoldQueue$Holds" "count" "I" : Cond) ∈ lw_gd := wi_48
theorem xp__HoldQueue_Holds_9 {cd : Cond} (F : gz_F p s m args meth c cc nL ret (cd :: lw_gd) R_HoldQueue_Holds) (hd : decode cc pc = .ok (.putfield 9, 3)) : ∀ (u : q_S) (x : Int32), gz_mv p l e R s m args below meth c cells slots Q nL a (gz_GG D q_cl (x_tys kc) A s (x_wf a kc)) (pc + 3) pc [gz_i x, gz_r 2] u [] (q_nh_s u x) := fun u x => gz_m_put (ty := .int) (C := R_HoldQueue_Holds) (T := T_HoldQueue_Holds) (N := 9) (ci := 2) F.1 F.2.1 (gz_hts F) _HoldQueue_Holds_in ty_HoldQueue_Holds ty_HoldQueue_Holds_ok nm_HoldQueue_Holds F.2.2.2.2.1 2 rfl rfl 0 (by decide) (gz_hts F _ xp__HoldQueue_Holds_9_w) (fun _ h => h) rfl (by decide +kernel) rfl rfl (Nat.le_of_ble_eq_true rfl) rfl hd
theorem xg__HoldQueue_Holds_22_w : (Cond.fieldLink R_HoldQueue_Holds 22 "HoldQueue$Holds" "placeOf" "[I" : Cond) ∈ lw_gd := wi_52
theorem xg__HoldQueue_Holds_22 {cd : Cond} (F : gz_F p s m args meth c cc nL ret (cd :: lw_gd) R_HoldQueue_Holds) (hd : decode cc pc = .ok (.getfield 22, 3)) : ∀ u : q_S, gz_mv p l e R s m args below meth c cells slots Q nL a (gz_GG D q_cl (x_tys kc) A s (x_wf a kc)) (pc + 3) pc [gz_r 2] u [gz_r 12] u := fun u => gz_m_get (C := R_HoldQueue_Holds) (T := T_HoldQueue_Holds) (N := 9) (ci := 2) F.1 F.2.1 (gz_hts F) _HoldQueue_Holds_in F.2.2.2.2.1 2 rfl rfl 3 (by decide) (gz_hts F _ xg__HoldQueue_Holds_22_w) (fun _ h => h) rfl hd
theorem xg__HoldQueue_Holds_25_w : (Cond.fieldLink R_HoldQueue_Holds 25 "HoldQueue$Holds" "rankOf" "[I" : Cond) ∈ lw_gd := wi_54
theorem xg__HoldQueue_Holds_25 {cd : Cond} (F : gz_F p s m args meth c cc nL ret (cd :: lw_gd) R_HoldQueue_Holds) (hd : decode cc pc = .ok (.getfield 25, 3)) : ∀ u : q_S, gz_mv p l e R s m args below meth c cells slots Q nL a (gz_GG D q_cl (x_tys kc) A s (x_wf a kc)) (pc + 3) pc [gz_r 2] u [gz_r 13] u := fun u => gz_m_get (C := R_HoldQueue_Holds) (T := T_HoldQueue_Holds) (N := 9) (ci := 2) F.1 F.2.1 (gz_hts F) _HoldQueue_Holds_in F.2.2.2.2.1 2 rfl rfl 4 (by decide) (gz_hts F _ xg__HoldQueue_Holds_25_w) (fun _ h => h) rfl hd
theorem xg__HoldQueue_Holds_34_w : (Cond.fieldLink R_HoldQueue_Holds 34 "HoldQueue$Holds" "suspendedUntil" "[J" : Cond) ∈ lw_gd := wi_60
theorem xg__HoldQueue_Holds_34 {cd : Cond} (F : gz_F p s m args meth c cc nL ret (cd :: lw_gd) R_HoldQueue_Holds) (hd : decode cc pc = .ok (.getfield 34, 3)) : ∀ u : q_S, gz_mv p l e R s m args below meth c cells slots Q nL a (gz_GG D q_cl (x_tys kc) A s (x_wf a kc)) (pc + 3) pc [gz_r 2] u [gz_r 16] u := fun u => gz_m_get (C := R_HoldQueue_Holds) (T := T_HoldQueue_Holds) (N := 9) (ci := 2) F.1 F.2.1 (gz_hts F) _HoldQueue_Holds_in F.2.2.2.2.1 2 rfl rfl 7 (by decide) (gz_hts F _ xg__HoldQueue_Holds_34_w) (fun _ h => h) rfl hd
theorem xg__HoldQueue_117_w : (Cond.fieldLinkNest R_HoldQueue 117 "HoldQueue$Copies" "stateOf" "[I" "HoldQueue" : Cond) ∈ gz_nw := by decide +kernel
theorem xg__HoldQueue_117 {cd : Cond} (F : gz_F p s m args meth c cc nL ret (cd :: lw_gd) R_HoldQueue) (hd : decode cc pc = .ok (.getfield 117, 3)) : ∀ u : q_S, gz_mv p l e R s m args below meth c cells slots Q nL a (gz_GG D q_cl (x_tys kc) A s (x_wf a kc)) (pc + 3) pc [gz_r 1] u [gz_r 8] u := fun u => gz_m_getN (C := R_HoldQueue_Copies) (T := T_HoldQueue_Copies) (N := 5) (ci := 1) F.1 F.2.1 (gz_hts F) _HoldQueue_Copies_in F.2.2.2.2.1 1 rfl rfl 3 (by decide) (va_Nw.use rfl (gz_nwF F _ xg__HoldQueue_117_w)) (fun _ h => h) rfl hd
theorem xg__HoldQueue_34_w : (Cond.fieldLink R_HoldQueue 34 "HoldQueue" "holds" "LHoldQueue$Holds;" : Cond) ∈ lw_gd := wi_92
theorem xg__HoldQueue_34 {cd : Cond} (F : gz_F p s m args meth c cc nL ret (cd :: lw_gd) R_HoldQueue) (hd : decode cc pc = .ok (.getfield 34, 3)) : ∀ u : q_S, gz_mv p l e R s m args below meth c cells slots Q nL a (gz_GG D q_cl (x_tys kc) A s (x_wf a kc)) (pc + 3) pc [gz_r 0] u [gz_r 2] u := fun u => gz_m_get (C := R_HoldQueue) (T := T_HoldQueue) (N := 8) (ci := 0) F.1 F.2.1 (gz_hts F) _HoldQueue_in F.2.2.2.2.1 0 rfl rfl 5 (by decide) (gz_hts F _ xg__HoldQueue_34_w) (fun _ h => h) rfl hd
theorem xg__HoldQueue_114_w : (Cond.fieldLinkNest R_HoldQueue 114 "HoldQueue$Holds" "stateOf" "[I" "HoldQueue" : Cond) ∈ gz_nw := by decide +kernel
theorem xg__HoldQueue_114 {cd : Cond} (F : gz_F p s m args meth c cc nL ret (cd :: lw_gd) R_HoldQueue) (hd : decode cc pc = .ok (.getfield 114, 3)) : ∀ u : q_S, gz_mv p l e R s m args below meth c cells slots Q nL a (gz_GG D q_cl (x_tys kc) A s (x_wf a kc)) (pc + 3) pc [gz_r 2] u [gz_r 14] u := fun u => gz_m_getN (C := R_HoldQueue_Holds) (T := T_HoldQueue_Holds) (N := 9) (ci := 2) F.1 F.2.1 (gz_hts F) _HoldQueue_Holds_in F.2.2.2.2.1 2 rfl rfl 5 (by decide) (va_Nw.use rfl (gz_nwF F _ xg__HoldQueue_114_w)) (fun _ h => h) rfl hd
theorem xg__HoldQueue_130_w : (Cond.fieldLinkNest R_HoldQueue 130 "HoldQueue$Holds" "endOf" "[J" "HoldQueue" : Cond) ∈ gz_nw := by decide +kernel
theorem xg__HoldQueue_130 {cd : Cond} (F : gz_F p s m args meth c cc nL ret (cd :: lw_gd) R_HoldQueue) (hd : decode cc pc = .ok (.getfield 130, 3)) : ∀ u : q_S, gz_mv p l e R s m args below meth c cells slots Q nL a (gz_GG D q_cl (x_tys kc) A s (x_wf a kc)) (pc + 3) pc [gz_r 2] u [gz_r 17] u := fun u => gz_m_getN (C := R_HoldQueue_Holds) (T := T_HoldQueue_Holds) (N := 9) (ci := 2) F.1 F.2.1 (gz_hts F) _HoldQueue_Holds_in F.2.2.2.2.1 2 rfl rfl 8 (by decide) (va_Nw.use rfl (gz_nwF F _ xg__HoldQueue_130_w)) (fun _ h => h) rfl hd
theorem xg__HoldQueue_38_w : (Cond.fieldLink R_HoldQueue 38 "HoldQueue" "today" "J" : Cond) ∈ lw_gd := wi_93
theorem xg__HoldQueue_38 {cd : Cond} (F : gz_F p s m args meth c cc nL ret (cd :: lw_gd) R_HoldQueue) (hd : decode cc pc = .ok (.getfield 38, 3)) : ∀ u : q_S, gz_mv p l e R s m args below meth c cells slots Q nL a (gz_GG D q_cl (x_tys kc) A s (x_wf a kc)) (pc + 3) pc [gz_r 0] u [gz_l (q_td u)] u := fun u => gz_m_get (C := R_HoldQueue) (T := T_HoldQueue) (N := 8) (ci := 0) F.1 F.2.1 (gz_hts F) _HoldQueue_in F.2.2.2.2.1 0 rfl rfl 6 (by decide) (gz_hts F _ xg__HoldQueue_38_w) (fun _ h => h) rfl hd
theorem xg__HoldQueue_42_w : (Cond.fieldLink R_HoldQueue 42 "HoldQueue" "spanDays" "I" : Cond) ∈ lw_gd := wi_94
theorem xg__HoldQueue_42 {cd : Cond} (F : gz_F p s m args meth c cc nL ret (cd :: lw_gd) R_HoldQueue) (hd : decode cc pc = .ok (.getfield 42, 3)) : ∀ u : q_S, gz_mv p l e R s m args below meth c cells slots Q nL a (gz_GG D q_cl (x_tys kc) A s (x_wf a kc)) (pc + 3) pc [gz_r 0] u [gz_i (q_sp u)] u := fun u => gz_m_get (C := R_HoldQueue) (T := T_HoldQueue) (N := 8) (ci := 0) F.1 F.2.1 (gz_hts F) _HoldQueue_in F.2.2.2.2.1 0 rfl rfl 7 (by decide) (gz_hts F _ xg__HoldQueue_42_w) (fun _ h => h) rfl hd
theorem xg__HoldQueue_98_w : (Cond.fieldLinkNest R_HoldQueue 98 "HoldQueue$Copies" "placeOf" "[I" "HoldQueue" : Cond) ∈ gz_nw := by decide +kernel
theorem xg__HoldQueue_98 {cd : Cond} (F : gz_F p s m args meth c cc nL ret (cd :: lw_gd) R_HoldQueue) (hd : decode cc pc = .ok (.getfield 98, 3)) : ∀ u : q_S, gz_mv p l e R s m args below meth c cells slots Q nL a (gz_GG D q_cl (x_tys kc) A s (x_wf a kc)) (pc + 3) pc [gz_r 1] u [gz_r 7] u := fun u => gz_m_getN (C := R_HoldQueue_Copies) (T := T_HoldQueue_Copies) (N := 5) (ci := 1) F.1 F.2.1 (gz_hts F) _HoldQueue_Copies_in F.2.2.2.2.1 1 rfl rfl 2 (by decide) (va_Nw.use rfl (gz_nwF F _ xg__HoldQueue_98_w)) (fun _ h => h) rfl hd
theorem xg__HoldQueue_153_w : (Cond.fieldLinkNest R_HoldQueue 153 "HoldQueue$Holds" "placeOf" "[I" "HoldQueue" : Cond) ∈ gz_nw := by decide +kernel
theorem xg__HoldQueue_153 {cd : Cond} (F : gz_F p s m args meth c cc nL ret (cd :: lw_gd) R_HoldQueue) (hd : decode cc pc = .ok (.getfield 153, 3)) : ∀ u : q_S, gz_mv p l e R s m args below meth c cells slots Q nL a (gz_GG D q_cl (x_tys kc) A s (x_wf a kc)) (pc + 3) pc [gz_r 2] u [gz_r 12] u := fun u => gz_m_getN (C := R_HoldQueue_Holds) (T := T_HoldQueue_Holds) (N := 9) (ci := 2) F.1 F.2.1 (gz_hts F) _HoldQueue_Holds_in F.2.2.2.2.1 2 rfl rfl 3 (by decide) (va_Nw.use rfl (gz_nwF F _ xg__HoldQueue_153_w)) (fun _ h => h) rfl hd
theorem xg__HoldQueue_146_w : (Cond.fieldLinkNest R_HoldQueue 146 "HoldQueue$Copies" "recordOf" "[I" "HoldQueue" : Cond) ∈ gz_nw := by decide +kernel
theorem xg__HoldQueue_146 {cd : Cond} (F : gz_F p s m args meth c cc nL ret (cd :: lw_gd) R_HoldQueue) (hd : decode cc pc = .ok (.getfield 146, 3)) : ∀ u : q_S, gz_mv p l e R s m args below meth c cells slots Q nL a (gz_GG D q_cl (x_tys kc) A s (x_wf a kc)) (pc + 3) pc [gz_r 1] u [gz_r 6] u := fun u => gz_m_getN (C := R_HoldQueue_Copies) (T := T_HoldQueue_Copies) (N := 5) (ci := 1) F.1 F.2.1 (gz_hts F) _HoldQueue_Copies_in F.2.2.2.2.1 1 rfl rfl 1 (by decide) (va_Nw.use rfl (gz_nwF F _ xg__HoldQueue_146_w)) (fun _ h => h) rfl hd
theorem xg__HoldQueue_101_w : (Cond.fieldLinkNest R_HoldQueue 101 "HoldQueue$Copies" "holdOf" "[I" "HoldQueue" : Cond) ∈ gz_nw := by decide +kernel
theorem xg__HoldQueue_101 {cd : Cond} (F : gz_F p s m args meth c cc nL ret (cd :: lw_gd) R_HoldQueue) (hd : decode cc pc = .ok (.getfield 101, 3)) : ∀ u : q_S, gz_mv p l e R s m args below meth c cells slots Q nL a (gz_GG D q_cl (x_tys kc) A s (x_wf a kc)) (pc + 3) pc [gz_r 1] u [gz_r 9] u := fun u => gz_m_getN (C := R_HoldQueue_Copies) (T := T_HoldQueue_Copies) (N := 5) (ci := 1) F.1 F.2.1 (gz_hts F) _HoldQueue_Copies_in F.2.2.2.2.1 1 rfl rfl 4 (by decide) (va_Nw.use rfl (gz_nwF F _ xg__HoldQueue_101_w)) (fun _ h => h) rfl hd
theorem xg__HoldQueue_111_w : (Cond.fieldLinkNest R_HoldQueue 111 "HoldQueue$Holds" "copyOf" "[I" "HoldQueue" : Cond) ∈ gz_nw := by decide +kernel
theorem xg__HoldQueue_111 {cd : Cond} (F : gz_F p s m args meth c cc nL ret (cd :: lw_gd) R_HoldQueue) (hd : decode cc pc = .ok (.getfield 111, 3)) : ∀ u : q_S, gz_mv p l e R s m args below meth c cells slots Q nL a (gz_GG D q_cl (x_tys kc) A s (x_wf a kc)) (pc + 3) pc [gz_r 2] u [gz_r 15] u := fun u => gz_m_getN (C := R_HoldQueue_Holds) (T := T_HoldQueue_Holds) (N := 9) (ci := 2) F.1 F.2.1 (gz_hts F) _HoldQueue_Holds_in F.2.2.2.2.1 2 rfl rfl 6 (by decide) (va_Nw.use rfl (gz_nwF F _ xg__HoldQueue_111_w)) (fun _ h => h) rfl hd
theorem xg__HoldQueue_21_w : (Cond.fieldLink R_HoldQueue 21 "HoldQueue" "mostOfPerson" "[I" : Cond) ∈ lw_gd := wi_90
theorem xg__HoldQueue_21 {cd : Cond} (F : gz_F p s m args meth c cc nL ret (cd :: lw_gd) R_HoldQueue) (hd : decode cc pc = .ok (.getfield 21, 3)) : ∀ u : q_S, gz_mv p l e R s m args below meth c cells slots Q nL a (gz_GG D q_cl (x_tys kc) A s (x_wf a kc)) (pc + 3) pc [gz_r 0] u [gz_r 5] u := fun u => gz_m_get (C := R_HoldQueue) (T := T_HoldQueue) (N := 8) (ci := 0) F.1 F.2.1 (gz_hts F) _HoldQueue_in F.2.2.2.2.1 0 rfl rfl 3 (by decide) (gz_hts F _ xg__HoldQueue_21_w) (fun _ h => h) rfl hd
theorem xg__HoldQueue_93_w : (Cond.fieldLinkNest R_HoldQueue 93 "HoldQueue$Holds" "suspendedUntil" "[J" "HoldQueue" : Cond) ∈ gz_nw := by decide +kernel
theorem xg__HoldQueue_93 {cd : Cond} (F : gz_F p s m args meth c cc nL ret (cd :: lw_gd) R_HoldQueue) (hd : decode cc pc = .ok (.getfield 93, 3)) : ∀ u : q_S, gz_mv p l e R s m args below meth c cells slots Q nL a (gz_GG D q_cl (x_tys kc) A s (x_wf a kc)) (pc + 3) pc [gz_r 2] u [gz_r 16] u := fun u => gz_m_getN (C := R_HoldQueue_Holds) (T := T_HoldQueue_Holds) (N := 9) (ci := 2) F.1 F.2.1 (gz_hts F) _HoldQueue_Holds_in F.2.2.2.2.1 2 rfl rfl 7 (by decide) (va_Nw.use rfl (gz_nwF F _ xg__HoldQueue_93_w)) (fun _ h => h) rfl hd
theorem xp__HoldQueue_38_w : (Cond.fieldLink R_HoldQueue 38 "HoldQueue" "today" "J" : Cond) ∈ lw_gd := wi_93
theorem xp__HoldQueue_38 {cd : Cond} (F : gz_F p s m args meth c cc nL ret (cd :: lw_gd) R_HoldQueue) (hd : decode cc pc = .ok (.putfield 38, 3)) : ∀ (u : q_S) (x : Int64), gz_mv p l e R s m args below meth c cells slots Q nL a (gz_GG D q_cl (x_tys kc) A s (x_wf a kc)) (pc + 3) pc [gz_l x, gz_r 0] u [] (q_td_s u x) := fun u x => gz_m_put (ty := .long) (C := R_HoldQueue) (T := T_HoldQueue) (N := 8) (ci := 0) F.1 F.2.1 (gz_hts F) _HoldQueue_in ty_HoldQueue ty_HoldQueue_ok nm_HoldQueue F.2.2.2.2.1 0 rfl rfl 6 (by decide) (gz_hts F _ xp__HoldQueue_38_w) (fun _ h => h) rfl (by decide +kernel) rfl rfl (Nat.le_of_ble_eq_true rfl) rfl hd
theorem xg__HoldQueue_127_w : (Cond.fieldLinkNest R_HoldQueue 127 "HoldQueue$Holds" "count" "I" "HoldQueue" : Cond) ∈ gz_nw := by decide +kernel
theorem xg__HoldQueue_127 {cd : Cond} (F : gz_F p s m args meth c cc nL ret (cd :: lw_gd) R_HoldQueue) (hd : decode cc pc = .ok (.getfield 127, 3)) : ∀ u : q_S, gz_mv p l e R s m args below meth c cells slots Q nL a (gz_GG D q_cl (x_tys kc) A s (x_wf a kc)) (pc + 3) pc [gz_r 2] u [gz_i (q_nh u)] u := fun u => gz_m_getN (C := R_HoldQueue_Holds) (T := T_HoldQueue_Holds) (N := 9) (ci := 2) F.1 F.2.1 (gz_hts F) _HoldQueue_Holds_in F.2.2.2.2.1 2 rfl rfl 0 (by decide) (va_Nw.use rfl (gz_nwF F _ xg__HoldQueue_127_w)) (fun _ h => h) rfl hd
theorem xp__HoldQueue_42_w : (Cond.fieldLink R_HoldQueue 42 "HoldQueue" "spanDays" "I" : Cond) ∈ lw_gd := wi_94
theorem xp__HoldQueue_42 {cd : Cond} (F : gz_F p s m args meth c cc nL ret (cd :: lw_gd) R_HoldQueue) (hd : decode cc pc = .ok (.putfield 42, 3)) : ∀ (u : q_S) (x : Int32), gz_mv p l e R s m args below meth c cells slots Q nL a (gz_GG D q_cl (x_tys kc) A s (x_wf a kc)) (pc + 3) pc [gz_i x, gz_r 0] u [] (q_sp_s u x) := fun u x => gz_m_put (ty := .int) (C := R_HoldQueue) (T := T_HoldQueue) (N := 8) (ci := 0) F.1 F.2.1 (gz_hts F) _HoldQueue_in ty_HoldQueue ty_HoldQueue_ok nm_HoldQueue F.2.2.2.2.1 0 rfl rfl 7 (by decide) (gz_hts F _ xp__HoldQueue_42_w) (fun _ h => h) rfl (by decide +kernel) rfl rfl (Nat.le_of_ble_eq_true rfl) rfl hd
theorem xg__HoldQueue_133_w : (Cond.fieldLinkNest R_HoldQueue 133 "HoldQueue$Holds" "rankOf" "[I" "HoldQueue" : Cond) ∈ gz_nw := by decide +kernel
theorem xg__HoldQueue_133 {cd : Cond} (F : gz_F p s m args meth c cc nL ret (cd :: lw_gd) R_HoldQueue) (hd : decode cc pc = .ok (.getfield 133, 3)) : ∀ u : q_S, gz_mv p l e R s m args below meth c cells slots Q nL a (gz_GG D q_cl (x_tys kc) A s (x_wf a kc)) (pc + 3) pc [gz_r 2] u [gz_r 13] u := fun u => gz_m_getN (C := R_HoldQueue_Holds) (T := T_HoldQueue_Holds) (N := 9) (ci := 2) F.1 F.2.1 (gz_hts F) _HoldQueue_Holds_in F.2.2.2.2.1 2 rfl rfl 4 (by decide) (va_Nw.use rfl (gz_nwF F _ xg__HoldQueue_133_w)) (fun _ h => h) rfl hd
theorem m_ild (F : gz_F p s m args meth c cc nL ret ws own) (hd : decode cc pc = .ok (.iaload, 1)) : gz_TI m_ai (fun j n g _ => ∀ (u : q_S) (x : Int32), vp_in x n → gz_mv p l e R s m args below meth c cells slots Q nL a (gz_GG D q_cl (m_tys kc) A s (m_wf a kc)) (pc + 1) pc [gz_i x, gz_r j] u [gz_i (g u x.toNatClampNeg)] u) := by
  intro j k h
  unfold m_ai at h
  split at h
  · exact ⟨31, q_kd, q_kd_u, h, fun u x hin => gz_m_ild F.1 F.2.1 1 0 rfl rfl hd hin⟩
  · exact ⟨40, q_mo, q_mo_u, h, fun u x hin => gz_m_ild F.1 F.2.1 3 2 rfl rfl hd hin⟩
  · exact ⟨61, q_cr, q_cr_u, h, fun u x hin => gz_m_ild F.1 F.2.1 4 3 rfl rfl hd hin⟩
  · exact ⟨61, q_cs, q_cs_u, h, fun u x hin => gz_m_ild F.1 F.2.1 5 4 rfl rfl hd hin⟩
  · exact ⟨61, q_cp, q_cp_u, h, fun u x hin => gz_m_ild F.1 F.2.1 6 5 rfl rfl hd hin⟩
  · exact ⟨61, q_ch, q_ch_u, h, fun u x hin => gz_m_ild F.1 F.2.1 7 6 rfl rfl hd hin⟩
  · exact ⟨121, q_hp, q_hp_u, h, fun u x hin => gz_m_ild F.1 F.2.1 8 7 rfl rfl hd hin⟩
  · exact ⟨121, q_hr, q_hr_u, h, fun u x hin => gz_m_ild F.1 F.2.1 9 8 rfl rfl hd hin⟩
  · exact ⟨121, q_hl, q_hl_u, h, fun u x hin => gz_m_ild F.1 F.2.1 10 9 rfl rfl hd hin⟩
  · exact ⟨121, q_hk, q_hk_u, h, fun u x hin => gz_m_ild F.1 F.2.1 11 10 rfl rfl hd hin⟩
  · exact ⟨121, q_hs, q_hs_u, h, fun u x hin => gz_m_ild F.1 F.2.1 12 11 rfl rfl hd hin⟩
  · exact ⟨121, q_hy, q_hy_u, h, fun u x hin => gz_m_ild F.1 F.2.1 13 12 rfl rfl hd hin⟩
  · exact False.elim h
theorem m_zld (F : gz_F p s m args meth c cc nL ret ws own) (hd : decode cc pc = .ok (.baload, 1)) : gz_TI m_az (fun j n g _ => ∀ (u : q_S) (x : Int32), vp_in x n → gz_mv p l e R s m args below meth c cells slots Q nL a (gz_GG D q_cl (m_tys kc) A s (m_wf a kc)) (pc + 1) pc [gz_i x, gz_r j] u [gz_i (g u x.toNatClampNeg)] u) := by
  intro j k h
  unfold m_az at h
  split at h
  · exact ⟨4, q_bd, q_bd_u, h, fun u x hin => gz_m_zld F.1 F.2.1 2 1 rfl rfl hd hin⟩
  · exact False.elim h
theorem m_lld (F : gz_F p s m args meth c cc nL ret ws own) (hd : decode cc pc = .ok (.laload, 1)) : gz_TL m_al (fun j n g _ => ∀ (u : q_S) (x : Int32), vp_in x n → gz_mv p l e R s m args below meth c cells slots Q nL a (gz_GG D q_cl (m_tys kc) A s (m_wf a kc)) (pc + 1) pc [gz_i x, gz_r j] u [gz_l (g u x.toNatClampNeg)] u) := by
  intro j k h
  unfold m_al at h
  split at h
  · exact ⟨121, q_hu, q_hu_u, h, fun u x hin => gz_m_lld F.1 F.2.1 14 13 rfl rfl hd hin⟩
  · exact ⟨121, q_he, q_he_u, h, fun u x hin => gz_m_lld F.1 F.2.1 15 14 rfl rfl hd hin⟩
  · exact False.elim h
theorem m_ist (F : gz_F p s m args meth c cc nL ret ws own) (hd : decode cc pc = .ok (.iastore, 1)) : gz_TI m_ai (fun j n _ f => ∀ (u : q_S) (x y : Int32), vp_in x n → gz_mv p l e R s m args below meth c cells slots Q nL a (gz_GG D q_cl (m_tys kc) A s (m_wf a kc)) (pc + 1) pc [gz_i y, gz_i x, gz_r j] u [] (f u x y)) := by
  intro j k h
  unfold m_ai at h
  split at h
  · exact ⟨31, q_kd, q_kd_u, h, fun u x y hin => gz_m_ist F.1 F.2.1 1 0 rfl rfl hd hin rfl⟩
  · exact ⟨40, q_mo, q_mo_u, h, fun u x y hin => gz_m_ist F.1 F.2.1 3 2 rfl rfl hd hin rfl⟩
  · exact ⟨61, q_cr, q_cr_u, h, fun u x y hin => gz_m_ist F.1 F.2.1 4 3 rfl rfl hd hin rfl⟩
  · exact ⟨61, q_cs, q_cs_u, h, fun u x y hin => gz_m_ist F.1 F.2.1 5 4 rfl rfl hd hin rfl⟩
  · exact ⟨61, q_cp, q_cp_u, h, fun u x y hin => gz_m_ist F.1 F.2.1 6 5 rfl rfl hd hin rfl⟩
  · exact ⟨61, q_ch, q_ch_u, h, fun u x y hin => gz_m_ist F.1 F.2.1 7 6 rfl rfl hd hin rfl⟩
  · exact ⟨121, q_hp, q_hp_u, h, fun u x y hin => gz_m_ist F.1 F.2.1 8 7 rfl rfl hd hin rfl⟩
  · exact ⟨121, q_hr, q_hr_u, h, fun u x y hin => gz_m_ist F.1 F.2.1 9 8 rfl rfl hd hin rfl⟩
  · exact ⟨121, q_hl, q_hl_u, h, fun u x y hin => gz_m_ist F.1 F.2.1 10 9 rfl rfl hd hin rfl⟩
  · exact ⟨121, q_hk, q_hk_u, h, fun u x y hin => gz_m_ist F.1 F.2.1 11 10 rfl rfl hd hin rfl⟩
  · exact ⟨121, q_hs, q_hs_u, h, fun u x y hin => gz_m_ist F.1 F.2.1 12 11 rfl rfl hd hin rfl⟩
  · exact ⟨121, q_hy, q_hy_u, h, fun u x y hin => gz_m_ist F.1 F.2.1 13 12 rfl rfl hd hin rfl⟩
  · exact False.elim h
theorem m_zst (F : gz_F p s m args meth c cc nL ret ws own) (hd : decode cc pc = .ok (.bastore, 1)) : gz_TI m_az (fun j n _ f => ∀ (u : q_S) (x y : Int32), vp_in x n → gz_mv p l e R s m args below meth c cells slots Q nL a (gz_GG D q_cl (m_tys kc) A s (m_wf a kc)) (pc + 1) pc [gz_i y, gz_i x, gz_r j] u [] (f u x (vp_nar .boolean y))) := by
  intro j k h
  unfold m_az at h
  split at h
  · exact ⟨4, q_bd, q_bd_u, h, fun u x y hin => gz_m_zst F.1 F.2.1 2 1 rfl rfl hd hin rfl⟩
  · exact False.elim h
theorem m_lst (F : gz_F p s m args meth c cc nL ret ws own) (hd : decode cc pc = .ok (.lastore, 1)) : gz_TL m_al (fun j n _ f => ∀ (u : q_S) (x : Int32) (y : Int64), vp_in x n → gz_mv p l e R s m args below meth c cells slots Q nL a (gz_GG D q_cl (m_tys kc) A s (m_wf a kc)) (pc + 1) pc [gz_l y, gz_i x, gz_r j] u [] (f u x y)) := by
  intro j k h
  unfold m_al at h
  split at h
  · exact ⟨121, q_hu, q_hu_u, h, fun u x y hin => gz_m_lst F.1 F.2.1 14 13 rfl rfl hd hin rfl⟩
  · exact ⟨121, q_he, q_he_u, h, fun u x y hin => gz_m_lst F.1 F.2.1 15 14 rfl rfl hd hin rfl⟩
  · exact False.elim h
theorem mp__HoldQueueModel_61_w : (Cond.fieldLink R_HoldQueueModel 61 "HoldQueueModel" "thrown" "I" : Cond) ∈ lw_gd := wi_293
theorem mp__HoldQueueModel_61 {cd : Cond} (F : gz_F p s m args meth c cc nL ret (cd :: lw_gd) R_HoldQueueModel) (hd : decode cc pc = .ok (.putfield 61, 3)) : ∀ (u : q_S) (x : Int32), gz_mv p l e R s m args below meth c cells slots Q nL a (gz_GG D q_cl (m_tys kc) A s (m_wf a kc)) (pc + 3) pc [gz_i x, gz_r 0] u [] (q_th_s u x) := fun u x => gz_m_put (ty := .int) (C := R_HoldQueueModel) (T := T_HoldQueueModel) (N := 21) (ci := 3) F.1 F.2.1 (gz_hts F) _HoldQueueModel_in ty_HoldQueueModel ty_HoldQueueModel_ok nm_HoldQueueModel F.2.2.2.2.1 0 rfl rfl 0 (by decide) (gz_hts F _ mp__HoldQueueModel_61_w) (fun _ h => h) rfl (by decide +kernel) rfl rfl (Nat.le_of_ble_eq_true rfl) rfl hd
theorem mg__HoldQueueModel_68_w : (Cond.fieldLink R_HoldQueueModel 68 "HoldQueueModel" "records" "I" : Cond) ∈ lw_gd := wi_294
theorem mg__HoldQueueModel_68 {cd : Cond} (F : gz_F p s m args meth c cc nL ret (cd :: lw_gd) R_HoldQueueModel) (hd : decode cc pc = .ok (.getfield 68, 3)) : ∀ u : q_S, gz_mv p l e R s m args below meth c cells slots Q nL a (gz_GG D q_cl (m_tys kc) A s (m_wf a kc)) (pc + 3) pc [gz_r 0] u [gz_i (q_nr u)] u := fun u => gz_m_get (C := R_HoldQueueModel) (T := T_HoldQueueModel) (N := 21) (ci := 3) F.1 F.2.1 (gz_hts F) _HoldQueueModel_in F.2.2.2.2.1 0 rfl rfl 1 (by decide) (gz_hts F _ mg__HoldQueueModel_68_w) (fun _ h => h) rfl hd
theorem mp__HoldQueueModel_68_w : (Cond.fieldLink R_HoldQueueModel 68 "HoldQueueModel" "records" "I" : Cond) ∈ lw_gd := wi_294
theorem mp__HoldQueueModel_68 {cd : Cond} (F : gz_F p s m args meth c cc nL ret (cd :: lw_gd) R_HoldQueueModel) (hd : decode cc pc = .ok (.putfield 68, 3)) : ∀ (u : q_S) (x : Int32), gz_mv p l e R s m args below meth c cells slots Q nL a (gz_GG D q_cl (m_tys kc) A s (m_wf a kc)) (pc + 3) pc [gz_i x, gz_r 0] u [] (q_nr_s u x) := fun u x => gz_m_put (ty := .int) (C := R_HoldQueueModel) (T := T_HoldQueueModel) (N := 21) (ci := 3) F.1 F.2.1 (gz_hts F) _HoldQueueModel_in ty_HoldQueueModel ty_HoldQueueModel_ok nm_HoldQueueModel F.2.2.2.2.1 0 rfl rfl 1 (by decide) (gz_hts F _ mp__HoldQueueModel_68_w) (fun _ h => h) rfl (by decide +kernel) rfl rfl (Nat.le_of_ble_eq_true rfl) rfl hd
theorem mg__HoldQueueModel_7_w : (Cond.fieldLink R_HoldQueueModel 7 "HoldQueueModel" "kindOf" "[I" : Cond) ∈ lw_gd := wi_297
theorem mg__HoldQueueModel_7 {cd : Cond} (F : gz_F p s m args meth c cc nL ret (cd :: lw_gd) R_HoldQueueModel) (hd : decode cc pc = .ok (.getfield 7, 3)) : ∀ u : q_S, gz_mv p l e R s m args below meth c cells slots Q nL a (gz_GG D q_cl (m_tys kc) A s (m_wf a kc)) (pc + 3) pc [gz_r 0] u [gz_r 1] u := fun u => gz_m_get (C := R_HoldQueueModel) (T := T_HoldQueueModel) (N := 21) (ci := 3) F.1 F.2.1 (gz_hts F) _HoldQueueModel_in F.2.2.2.2.1 0 rfl rfl 4 (by decide) (gz_hts F _ mg__HoldQueueModel_7_w) (fun _ h => h) rfl hd
theorem mg__HoldQueueModel_71_w : (Cond.fieldLink R_HoldQueueModel 71 "HoldQueueModel" "copies" "I" : Cond) ∈ lw_gd := wi_295
theorem mg__HoldQueueModel_71 {cd : Cond} (F : gz_F p s m args meth c cc nL ret (cd :: lw_gd) R_HoldQueueModel) (hd : decode cc pc = .ok (.getfield 71, 3)) : ∀ u : q_S, gz_mv p l e R s m args below meth c cells slots Q nL a (gz_GG D q_cl (m_tys kc) A s (m_wf a kc)) (pc + 3) pc [gz_r 0] u [gz_i (q_nc u)] u := fun u => gz_m_get (C := R_HoldQueueModel) (T := T_HoldQueueModel) (N := 21) (ci := 3) F.1 F.2.1 (gz_hts F) _HoldQueueModel_in F.2.2.2.2.1 0 rfl rfl 2 (by decide) (gz_hts F _ mg__HoldQueueModel_71_w) (fun _ h => h) rfl hd
theorem mp__HoldQueueModel_71_w : (Cond.fieldLink R_HoldQueueModel 71 "HoldQueueModel" "copies" "I" : Cond) ∈ lw_gd := wi_295
theorem mp__HoldQueueModel_71 {cd : Cond} (F : gz_F p s m args meth c cc nL ret (cd :: lw_gd) R_HoldQueueModel) (hd : decode cc pc = .ok (.putfield 71, 3)) : ∀ (u : q_S) (x : Int32), gz_mv p l e R s m args below meth c cells slots Q nL a (gz_GG D q_cl (m_tys kc) A s (m_wf a kc)) (pc + 3) pc [gz_i x, gz_r 0] u [] (q_nc_s u x) := fun u x => gz_m_put (ty := .int) (C := R_HoldQueueModel) (T := T_HoldQueueModel) (N := 21) (ci := 3) F.1 F.2.1 (gz_hts F) _HoldQueueModel_in ty_HoldQueueModel ty_HoldQueueModel_ok nm_HoldQueueModel F.2.2.2.2.1 0 rfl rfl 2 (by decide) (gz_hts F _ mp__HoldQueueModel_71_w) (fun _ h => h) rfl (by decide +kernel) rfl rfl (Nat.le_of_ble_eq_true rfl) rfl hd
theorem mg__HoldQueueModel_24_w : (Cond.fieldLink R_HoldQueueModel 24 "HoldQueueModel" "recordOf" "[I" : Cond) ∈ lw_gd := wi_302
theorem mg__HoldQueueModel_24 {cd : Cond} (F : gz_F p s m args meth c cc nL ret (cd :: lw_gd) R_HoldQueueModel) (hd : decode cc pc = .ok (.getfield 24, 3)) : ∀ u : q_S, gz_mv p l e R s m args below meth c cells slots Q nL a (gz_GG D q_cl (m_tys kc) A s (m_wf a kc)) (pc + 3) pc [gz_r 0] u [gz_r 4] u := fun u => gz_m_get (C := R_HoldQueueModel) (T := T_HoldQueueModel) (N := 21) (ci := 3) F.1 F.2.1 (gz_hts F) _HoldQueueModel_in F.2.2.2.2.1 0 rfl rfl 9 (by decide) (gz_hts F _ mg__HoldQueueModel_24_w) (fun _ h => h) rfl hd
theorem mg__HoldQueueModel_27_w : (Cond.fieldLink R_HoldQueueModel 27 "HoldQueueModel" "copyState" "[I" : Cond) ∈ lw_gd := wi_303
theorem mg__HoldQueueModel_27 {cd : Cond} (F : gz_F p s m args meth c cc nL ret (cd :: lw_gd) R_HoldQueueModel) (hd : decode cc pc = .ok (.getfield 27, 3)) : ∀ u : q_S, gz_mv p l e R s m args below meth c cells slots Q nL a (gz_GG D q_cl (m_tys kc) A s (m_wf a kc)) (pc + 3) pc [gz_r 0] u [gz_r 5] u := fun u => gz_m_get (C := R_HoldQueueModel) (T := T_HoldQueueModel) (N := 21) (ci := 3) F.1 F.2.1 (gz_hts F) _HoldQueueModel_in F.2.2.2.2.1 0 rfl rfl 10 (by decide) (gz_hts F _ mg__HoldQueueModel_27_w) (fun _ h => h) rfl hd
theorem mg__HoldQueueModel_30_w : (Cond.fieldLink R_HoldQueueModel 30 "HoldQueueModel" "copyPlace" "[I" : Cond) ∈ lw_gd := wi_304
theorem mg__HoldQueueModel_30 {cd : Cond} (F : gz_F p s m args meth c cc nL ret (cd :: lw_gd) R_HoldQueueModel) (hd : decode cc pc = .ok (.getfield 30, 3)) : ∀ u : q_S, gz_mv p l e R s m args below meth c cells slots Q nL a (gz_GG D q_cl (m_tys kc) A s (m_wf a kc)) (pc + 3) pc [gz_r 0] u [gz_r 6] u := fun u => gz_m_get (C := R_HoldQueueModel) (T := T_HoldQueueModel) (N := 21) (ci := 3) F.1 F.2.1 (gz_hts F) _HoldQueueModel_in F.2.2.2.2.1 0 rfl rfl 11 (by decide) (gz_hts F _ mg__HoldQueueModel_30_w) (fun _ h => h) rfl hd
theorem mg__HoldQueueModel_33_w : (Cond.fieldLink R_HoldQueueModel 33 "HoldQueueModel" "copyHold" "[I" : Cond) ∈ lw_gd := wi_305
theorem mg__HoldQueueModel_33 {cd : Cond} (F : gz_F p s m args meth c cc nL ret (cd :: lw_gd) R_HoldQueueModel) (hd : decode cc pc = .ok (.getfield 33, 3)) : ∀ u : q_S, gz_mv p l e R s m args below meth c cells slots Q nL a (gz_GG D q_cl (m_tys kc) A s (m_wf a kc)) (pc + 3) pc [gz_r 0] u [gz_r 7] u := fun u => gz_m_get (C := R_HoldQueueModel) (T := T_HoldQueueModel) (N := 21) (ci := 3) F.1 F.2.1 (gz_hts F) _HoldQueueModel_in F.2.2.2.2.1 0 rfl rfl 12 (by decide) (gz_hts F _ mg__HoldQueueModel_33_w) (fun _ h => h) rfl hd
theorem mg__HoldQueueModel_13_w : (Cond.fieldLink R_HoldQueueModel 13 "HoldQueueModel" "barred" "[Z" : Cond) ∈ lw_gd := wi_298
theorem mg__HoldQueueModel_13 {cd : Cond} (F : gz_F p s m args meth c cc nL ret (cd :: lw_gd) R_HoldQueueModel) (hd : decode cc pc = .ok (.getfield 13, 3)) : ∀ u : q_S, gz_mv p l e R s m args below meth c cells slots Q nL a (gz_GG D q_cl (m_tys kc) A s (m_wf a kc)) (pc + 3) pc [gz_r 0] u [gz_r 2] u := fun u => gz_m_get (C := R_HoldQueueModel) (T := T_HoldQueueModel) (N := 21) (ci := 3) F.1 F.2.1 (gz_hts F) _HoldQueueModel_in F.2.2.2.2.1 0 rfl rfl 5 (by decide) (gz_hts F _ mg__HoldQueueModel_13_w) (fun _ h => h) rfl hd
theorem mg__HoldQueueModel_48_w : (Cond.fieldLink R_HoldQueueModel 48 "HoldQueueModel" "status" "[I" : Cond) ∈ lw_gd := wi_310
theorem mg__HoldQueueModel_48 {cd : Cond} (F : gz_F p s m args meth c cc nL ret (cd :: lw_gd) R_HoldQueueModel) (hd : decode cc pc = .ok (.getfield 48, 3)) : ∀ u : q_S, gz_mv p l e R s m args below meth c cells slots Q nL a (gz_GG D q_cl (m_tys kc) A s (m_wf a kc)) (pc + 3) pc [gz_r 0] u [gz_r 12] u := fun u => gz_m_get (C := R_HoldQueueModel) (T := T_HoldQueueModel) (N := 21) (ci := 3) F.1 F.2.1 (gz_hts F) _HoldQueueModel_in F.2.2.2.2.1 0 rfl rfl 17 (by decide) (gz_hts F _ mg__HoldQueueModel_48_w) (fun _ h => h) rfl hd
theorem mg__HoldQueueModel_45_w : (Cond.fieldLink R_HoldQueueModel 45 "HoldQueueModel" "rank" "[I" : Cond) ∈ lw_gd := wi_309
theorem mg__HoldQueueModel_45 {cd : Cond} (F : gz_F p s m args meth c cc nL ret (cd :: lw_gd) R_HoldQueueModel) (hd : decode cc pc = .ok (.getfield 45, 3)) : ∀ u : q_S, gz_mv p l e R s m args below meth c cells slots Q nL a (gz_GG D q_cl (m_tys kc) A s (m_wf a kc)) (pc + 3) pc [gz_r 0] u [gz_r 11] u := fun u => gz_m_get (C := R_HoldQueueModel) (T := T_HoldQueueModel) (N := 21) (ci := 3) F.1 F.2.1 (gz_hts F) _HoldQueueModel_in F.2.2.2.2.1 0 rfl rfl 16 (by decide) (gz_hts F _ mg__HoldQueueModel_45_w) (fun _ h => h) rfl hd
theorem mg__HoldQueueModel_74_w : (Cond.fieldLink R_HoldQueueModel 74 "HoldQueueModel" "holds" "I" : Cond) ∈ lw_gd := wi_296
theorem mg__HoldQueueModel_74 {cd : Cond} (F : gz_F p s m args meth c cc nL ret (cd :: lw_gd) R_HoldQueueModel) (hd : decode cc pc = .ok (.getfield 74, 3)) : ∀ u : q_S, gz_mv p l e R s m args below meth c cells slots Q nL a (gz_GG D q_cl (m_tys kc) A s (m_wf a kc)) (pc + 3) pc [gz_r 0] u [gz_i (q_nh u)] u := fun u => gz_m_get (C := R_HoldQueueModel) (T := T_HoldQueueModel) (N := 21) (ci := 3) F.1 F.2.1 (gz_hts F) _HoldQueueModel_in F.2.2.2.2.1 0 rfl rfl 3 (by decide) (gz_hts F _ mg__HoldQueueModel_74_w) (fun _ h => h) rfl hd
theorem mg__HoldQueueModel_39_w : (Cond.fieldLink R_HoldQueueModel 39 "HoldQueueModel" "record" "[I" : Cond) ∈ lw_gd := wi_307
theorem mg__HoldQueueModel_39 {cd : Cond} (F : gz_F p s m args meth c cc nL ret (cd :: lw_gd) R_HoldQueueModel) (hd : decode cc pc = .ok (.getfield 39, 3)) : ∀ u : q_S, gz_mv p l e R s m args below meth c cells slots Q nL a (gz_GG D q_cl (m_tys kc) A s (m_wf a kc)) (pc + 3) pc [gz_r 0] u [gz_r 9] u := fun u => gz_m_get (C := R_HoldQueueModel) (T := T_HoldQueueModel) (N := 21) (ci := 3) F.1 F.2.1 (gz_hts F) _HoldQueueModel_in F.2.2.2.2.1 0 rfl rfl 14 (by decide) (gz_hts F _ mg__HoldQueueModel_39_w) (fun _ h => h) rfl hd
theorem mg__HoldQueueModel_54_w : (Cond.fieldLink R_HoldQueueModel 54 "HoldQueueModel" "until" "[J" : Cond) ∈ lw_gd := wi_312
theorem mg__HoldQueueModel_54 {cd : Cond} (F : gz_F p s m args meth c cc nL ret (cd :: lw_gd) R_HoldQueueModel) (hd : decode cc pc = .ok (.getfield 54, 3)) : ∀ u : q_S, gz_mv p l e R s m args below meth c cells slots Q nL a (gz_GG D q_cl (m_tys kc) A s (m_wf a kc)) (pc + 3) pc [gz_r 0] u [gz_r 14] u := fun u => gz_m_get (C := R_HoldQueueModel) (T := T_HoldQueueModel) (N := 21) (ci := 3) F.1 F.2.1 (gz_hts F) _HoldQueueModel_in F.2.2.2.2.1 0 rfl rfl 19 (by decide) (gz_hts F _ mg__HoldQueueModel_54_w) (fun _ h => h) rfl hd
theorem mg__HoldQueueModel_81_w : (Cond.fieldLink R_HoldQueueModel 81 "HoldQueueModel" "today" "J" : Cond) ∈ lw_gd := wi_300
theorem mg__HoldQueueModel_81 {cd : Cond} (F : gz_F p s m args meth c cc nL ret (cd :: lw_gd) R_HoldQueueModel) (hd : decode cc pc = .ok (.getfield 81, 3)) : ∀ u : q_S, gz_mv p l e R s m args below meth c cells slots Q nL a (gz_GG D q_cl (m_tys kc) A s (m_wf a kc)) (pc + 3) pc [gz_r 0] u [gz_l (q_td u)] u := fun u => gz_m_get (C := R_HoldQueueModel) (T := T_HoldQueueModel) (N := 21) (ci := 3) F.1 F.2.1 (gz_hts F) _HoldQueueModel_in F.2.2.2.2.1 0 rfl rfl 7 (by decide) (gz_hts F _ mg__HoldQueueModel_81_w) (fun _ h => h) rfl hd
theorem mg__HoldQueueModel_58_w : (Cond.fieldLink R_HoldQueueModel 58 "HoldQueueModel" "end" "[J" : Cond) ∈ lw_gd := wi_313
theorem mg__HoldQueueModel_58 {cd : Cond} (F : gz_F p s m args meth c cc nL ret (cd :: lw_gd) R_HoldQueueModel) (hd : decode cc pc = .ok (.getfield 58, 3)) : ∀ u : q_S, gz_mv p l e R s m args below meth c cells slots Q nL a (gz_GG D q_cl (m_tys kc) A s (m_wf a kc)) (pc + 3) pc [gz_r 0] u [gz_r 15] u := fun u => gz_m_get (C := R_HoldQueueModel) (T := T_HoldQueueModel) (N := 21) (ci := 3) F.1 F.2.1 (gz_hts F) _HoldQueueModel_in F.2.2.2.2.1 0 rfl rfl 20 (by decide) (gz_hts F _ mg__HoldQueueModel_58_w) (fun _ h => h) rfl hd
theorem mg__HoldQueueModel_20_w : (Cond.fieldLink R_HoldQueueModel 20 "HoldQueueModel" "span" "I" : Cond) ∈ lw_gd := wi_301
theorem mg__HoldQueueModel_20 {cd : Cond} (F : gz_F p s m args meth c cc nL ret (cd :: lw_gd) R_HoldQueueModel) (hd : decode cc pc = .ok (.getfield 20, 3)) : ∀ u : q_S, gz_mv p l e R s m args below meth c cells slots Q nL a (gz_GG D q_cl (m_tys kc) A s (m_wf a kc)) (pc + 3) pc [gz_r 0] u [gz_i (q_sp u)] u := fun u => gz_m_get (C := R_HoldQueueModel) (T := T_HoldQueueModel) (N := 21) (ci := 3) F.1 F.2.1 (gz_hts F) _HoldQueueModel_in F.2.2.2.2.1 0 rfl rfl 8 (by decide) (gz_hts F _ mg__HoldQueueModel_20_w) (fun _ h => h) rfl hd
theorem mg__HoldQueueModel_51_w : (Cond.fieldLink R_HoldQueueModel 51 "HoldQueueModel" "copy" "[I" : Cond) ∈ lw_gd := wi_311
theorem mg__HoldQueueModel_51 {cd : Cond} (F : gz_F p s m args meth c cc nL ret (cd :: lw_gd) R_HoldQueueModel) (hd : decode cc pc = .ok (.getfield 51, 3)) : ∀ u : q_S, gz_mv p l e R s m args below meth c cells slots Q nL a (gz_GG D q_cl (m_tys kc) A s (m_wf a kc)) (pc + 3) pc [gz_r 0] u [gz_r 13] u := fun u => gz_m_get (C := R_HoldQueueModel) (T := T_HoldQueueModel) (N := 21) (ci := 3) F.1 F.2.1 (gz_hts F) _HoldQueueModel_in F.2.2.2.2.1 0 rfl rfl 18 (by decide) (gz_hts F _ mg__HoldQueueModel_51_w) (fun _ h => h) rfl hd
theorem mg__HoldQueueModel_42_w : (Cond.fieldLink R_HoldQueueModel 42 "HoldQueueModel" "place" "[I" : Cond) ∈ lw_gd := wi_308
theorem mg__HoldQueueModel_42 {cd : Cond} (F : gz_F p s m args meth c cc nL ret (cd :: lw_gd) R_HoldQueueModel) (hd : decode cc pc = .ok (.getfield 42, 3)) : ∀ u : q_S, gz_mv p l e R s m args below meth c cells slots Q nL a (gz_GG D q_cl (m_tys kc) A s (m_wf a kc)) (pc + 3) pc [gz_r 0] u [gz_r 10] u := fun u => gz_m_get (C := R_HoldQueueModel) (T := T_HoldQueueModel) (N := 21) (ci := 3) F.1 F.2.1 (gz_hts F) _HoldQueueModel_in F.2.2.2.2.1 0 rfl rfl 15 (by decide) (gz_hts F _ mg__HoldQueueModel_42_w) (fun _ h => h) rfl hd
theorem mg__HoldQueueModel_36_w : (Cond.fieldLink R_HoldQueueModel 36 "HoldQueueModel" "person" "[I" : Cond) ∈ lw_gd := wi_306
theorem mg__HoldQueueModel_36 {cd : Cond} (F : gz_F p s m args meth c cc nL ret (cd :: lw_gd) R_HoldQueueModel) (hd : decode cc pc = .ok (.getfield 36, 3)) : ∀ u : q_S, gz_mv p l e R s m args below meth c cells slots Q nL a (gz_GG D q_cl (m_tys kc) A s (m_wf a kc)) (pc + 3) pc [gz_r 0] u [gz_r 8] u := fun u => gz_m_get (C := R_HoldQueueModel) (T := T_HoldQueueModel) (N := 21) (ci := 3) F.1 F.2.1 (gz_hts F) _HoldQueueModel_in F.2.2.2.2.1 0 rfl rfl 13 (by decide) (gz_hts F _ mg__HoldQueueModel_36_w) (fun _ h => h) rfl hd
theorem mg__HoldQueueModel_17_w : (Cond.fieldLink R_HoldQueueModel 17 "HoldQueueModel" "most" "[I" : Cond) ∈ lw_gd := wi_299
theorem mg__HoldQueueModel_17 {cd : Cond} (F : gz_F p s m args meth c cc nL ret (cd :: lw_gd) R_HoldQueueModel) (hd : decode cc pc = .ok (.getfield 17, 3)) : ∀ u : q_S, gz_mv p l e R s m args below meth c cells slots Q nL a (gz_GG D q_cl (m_tys kc) A s (m_wf a kc)) (pc + 3) pc [gz_r 0] u [gz_r 3] u := fun u => gz_m_get (C := R_HoldQueueModel) (T := T_HoldQueueModel) (N := 21) (ci := 3) F.1 F.2.1 (gz_hts F) _HoldQueueModel_in F.2.2.2.2.1 0 rfl rfl 6 (by decide) (gz_hts F _ mg__HoldQueueModel_17_w) (fun _ h => h) rfl hd
theorem mp__HoldQueueModel_74_w : (Cond.fieldLink R_HoldQueueModel 74 "HoldQueueModel" "holds" "I" : Cond) ∈ lw_gd := wi_296
theorem mp__HoldQueueModel_74 {cd : Cond} (F : gz_F p s m args meth c cc nL ret (cd :: lw_gd) R_HoldQueueModel) (hd : decode cc pc = .ok (.putfield 74, 3)) : ∀ (u : q_S) (x : Int32), gz_mv p l e R s m args below meth c cells slots Q nL a (gz_GG D q_cl (m_tys kc) A s (m_wf a kc)) (pc + 3) pc [gz_i x, gz_r 0] u [] (q_nh_s u x) := fun u x => gz_m_put (ty := .int) (C := R_HoldQueueModel) (T := T_HoldQueueModel) (N := 21) (ci := 3) F.1 F.2.1 (gz_hts F) _HoldQueueModel_in ty_HoldQueueModel ty_HoldQueueModel_ok nm_HoldQueueModel F.2.2.2.2.1 0 rfl rfl 3 (by decide) (gz_hts F _ mp__HoldQueueModel_74_w) (fun _ h => h) rfl (by decide +kernel) rfl rfl (Nat.le_of_ble_eq_true rfl) rfl hd
theorem mp__HoldQueueModel_81_w : (Cond.fieldLink R_HoldQueueModel 81 "HoldQueueModel" "today" "J" : Cond) ∈ lw_gd := wi_300
theorem mp__HoldQueueModel_81 {cd : Cond} (F : gz_F p s m args meth c cc nL ret (cd :: lw_gd) R_HoldQueueModel) (hd : decode cc pc = .ok (.putfield 81, 3)) : ∀ (u : q_S) (x : Int64), gz_mv p l e R s m args below meth c cells slots Q nL a (gz_GG D q_cl (m_tys kc) A s (m_wf a kc)) (pc + 3) pc [gz_l x, gz_r 0] u [] (q_td_s u x) := fun u x => gz_m_put (ty := .long) (C := R_HoldQueueModel) (T := T_HoldQueueModel) (N := 21) (ci := 3) F.1 F.2.1 (gz_hts F) _HoldQueueModel_in ty_HoldQueueModel ty_HoldQueueModel_ok nm_HoldQueueModel F.2.2.2.2.1 0 rfl rfl 7 (by decide) (gz_hts F _ mp__HoldQueueModel_81_w) (fun _ h => h) rfl (by decide +kernel) rfl rfl (Nat.le_of_ble_eq_true rfl) rfl hd
theorem mp__HoldQueueModel_20_w : (Cond.fieldLink R_HoldQueueModel 20 "HoldQueueModel" "span" "I" : Cond) ∈ lw_gd := wi_301
theorem mp__HoldQueueModel_20 {cd : Cond} (F : gz_F p s m args meth c cc nL ret (cd :: lw_gd) R_HoldQueueModel) (hd : decode cc pc = .ok (.putfield 20, 3)) : ∀ (u : q_S) (x : Int32), gz_mv p l e R s m args below meth c cells slots Q nL a (gz_GG D q_cl (m_tys kc) A s (m_wf a kc)) (pc + 3) pc [gz_i x, gz_r 0] u [] (q_sp_s u x) := fun u x => gz_m_put (ty := .int) (C := R_HoldQueueModel) (T := T_HoldQueueModel) (N := 21) (ci := 3) F.1 F.2.1 (gz_hts F) _HoldQueueModel_in ty_HoldQueueModel ty_HoldQueueModel_ok nm_HoldQueueModel F.2.2.2.2.1 0 rfl rfl 8 (by decide) (gz_hts F _ mp__HoldQueueModel_20_w) (fun _ h => h) rfl (by decide +kernel) rfl rfl (Nat.le_of_ble_eq_true rfl) rfl hd
end GZX
