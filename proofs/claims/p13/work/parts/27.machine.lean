/-! THE LAW on the machine: its table holds; the walk from its entry -/
def l_a (ax am : Nat → Nat) (b : Nat) : Nat → Nat := fun i => match i with
  | 0 => ax 0
  | 1 => am 0
  | _ => b
abbrev l_G (D : va_G) (kx km : Nat → ClassId) (ax am : Nat → Nat) (s : State) : q_S × q_S → Heap → List Loc → Prop := gz_GG D q_cl (x_tys kx ++ m_tys km) (fun q => s.heap.size ≤ q) s (fun u : q_S × q_S => x_wf ax kx u.1 ++ m_wf am km u.2)
section GZL
variable {p : Program} {l : Launch} {e : Env} {s : State} {m : MethodId} {below : List Frame} {meth : Method} {c : Code} {D : va_G} {ax am : Nat → Nat} {kx km : Nat → ClassId} {b L pc : Nat} {xs : Nat → Int32}
theorem l_len (F : gz_F p s m #[Value.ref b] meth c code 4 ret lw_gd R_law) (hX : va_X b L xs s s.heap) (hbl : b < s.heap.size) (hd : decode code pc = .ok (.arraylength, 1)) : ∀ u : q_S × q_S, gz_mv p l e room_1 s m #[Value.ref b] below meth c 34 2617 (lw_Z below #[Value.ref b] s) 4 (l_a ax am b) (l_G D kx km ax am s) (pc + 1) pc [gz_r 2] u [gz_i (Int32.ofNat L)] u := by
  intro u H locs ls rest hg kk
  exact va_slen F.1 F.2.1 hX hbl (Nat.not_le.mpr hbl) hg.2.2.2 hd (kk H locs hg)
theorem l_ild (F : gz_F p s m #[Value.ref b] meth c code 4 ret lw_gd R_law) (hX : va_X b L xs s s.heap) (hbl : b < s.heap.size) (hd : decode code pc = .ok (.iaload, 1)) : gz_TI (l_ai L xs) (fun j n g _ => ∀ (u : q_S × q_S) (x : Int32), vp_in x n → gz_mv p l e room_1 s m #[Value.ref b] below meth c 34 2617 (lw_Z below #[Value.ref b] s) 4 (l_a ax am b) (l_G D kx km ax am s) (pc + 1) pc [gz_i x, gz_r j] u [gz_i (g u x.toNatClampNeg)] u) := by
  intro j k h
  unfold l_ai at h
  split at h
  · refine ⟨L, fun _ => xs, fun u _ _ => u, h, ?_⟩
    intro u x hin H locs ls rest hg kk
    exact va_sld F.1 F.2.1 hX hbl (Nat.not_le.mpr hbl) hg.2.2.2 hin hd (kk H locs hg)
  · exact False.elim h
theorem l_end (F : gz_F p s m #[Value.ref b] meth c code 4 ret lw_gd R_law) (hd : decode code pc = .ok (.ireturn, 1)) : ∀ (u : q_S × q_S) (x : Int32), some x = some 1 → ∀ (H : Heap) (locs : List Loc) (ls : Array Slot), l_G D kx km ax am s u H locs → W p l e room_1 s m #[Value.ref b] below meth c H locs 34 2617 (lw_Z below #[Value.ref b] s) (F0 m pc ls [.int x]) := by
  intro u x hx H locs ls hg
  cases hx
  refine va_forget (fun q hq => hg.2.2.2.2.2 q hq) ?_
  refine W.widen (k := 34) (n := 2617) (by omega) (by omega) ?_
  exact lw_ret F.1 F.2.1 F.2.2.1 F.2.2.2.2.2.2.1 hd
set_option maxHeartbeats 8000000 in
set_option maxRecDepth 100000 in
theorem l_o0 (F : gz_F p s m #[Value.ref b] meth c code 4 ret lw_gd R_law) (hX : va_X b L xs s s.heap) (hbl : b < s.heap.size) : gz_oks (gz_Z p l e room_1 s m #[Value.ref b] below meth c 34 2617 (lw_Z below #[Value.ref b] s) 4 (l_a ax am b) (l_G D kx km ax am s)) (fun r _ => r = some 1) ([(18, gz_ldi 19 3), (19, gz_lda 20 0), (20, gz_alen 21 2 (Int32.ofNat L)), (21, gz_push 22 (gz_i 5)), (22, gz_iop 23 (fun x y => x - y)), (23, gz_if2 26 709 (fun x y => y < x) (fun x y => ¬ y < x)), (26, gz_lda 27 0), (27, gz_ldi 28 3), (28, gz_ild 29 (l_ai L xs)), (29, gz_push 31 (gz_i 31)), (31, gz_iop 32 (fun x y => x &&& y)), (32, gz_sw [(0, 116), (1, 139), (2, 172), (3, 221), (4, 274), (5, 307), (6, 370), (7, 403), (8, 426), (9, 449), (10, 472), (11, 495), (12, 548), (13, 571), (14, 604), (15, 637), (16, 670)] 703), (116, gz_lda 117 1), (117, gz_lda 118 0), (118, gz_ldi 119 3), (119, gz_push 120 (gz_i 1)), (120, gz_iop 121 (fun x y => x + y)), (121, gz_ild 122 (l_ai L xs)), (122, gz_c1I 125 0 (fun u x => x_record_p u.1 x) (fun u x => x_record_r u.1 x) (fun u x => (x_record_s u.1 x, u.2))), (125, gz_pop 126), (126, gz_lda 127 2), (127, gz_lda 128 0), (128, gz_ldi 129 3), (129, gz_push 130 (gz_i 1)), (130, gz_iop 131 (fun x y => x + y)), (131, gz_ild 132 (l_ai L xs)), (132, gz_c1I 135 1 (fun u x => m_record_p u.2 x) (fun u x => m_record_r u.2 x) (fun u x => (u.1, m_record_s u.2 x))), (135, gz_pop 136), (136, gz_goto 703), (139, gz_lda 140 1), (140, gz_lda 141 0), (141, gz_ldi 142 3), (142, gz_push 143 (gz_i 1)), (143, gz_iop 144 (fun x y => x + y)), (144, gz_ild 145 (l_ai L xs)), (145, gz_lda 146 0), (146, gz_ldi 147 3), (147, gz_push 148 (gz_i 2)), (148, gz_iop 149 (fun x y => x + y)), (149, gz_ild 150 (l_ai L xs)), (150, gz_c2I 153 0 (fun u x y => x_copy_p u.1 x y) (fun u x y => x_copy_r u.1 x y) (fun u x y => (x_copy_s u.1 x y, u.2))), (153, gz_pop 154), (154, gz_lda 155 2), (155, gz_lda 156 0), (156, gz_ldi 157 3), (157, gz_push 158 (gz_i 1)), (158, gz_iop 159 (fun x y => x + y)), (159, gz_ild 160 (l_ai L xs)), (160, gz_lda 161 0), (161, gz_ldi 162 3), (162, gz_push 163 (gz_i 2)), (163, gz_iop 164 (fun x y => x + y)), (164, gz_ild 165 (l_ai L xs)), (165, gz_c2I 168 1 (fun u x y => m_copy_p u.2 x y) (fun u x y => m_copy_r u.2 x y) (fun u x y => (u.1, m_copy_s u.2 x y))), (168, gz_pop 169), (169, gz_goto 703), (172, gz_lda 173 1), (173, gz_lda 174 0), (174, gz_ldi 175 3), (175, gz_push 176 (gz_i 1))] : List (Nat × gz_T (q_S × q_S))) := by
  refine And.intro (gz_o_iload_n F.1 F.2.1 3 d_HoldQueueLaw_law_18 rfl) ?_
  refine And.intro (gz_o_aload_n F.1 F.2.1 0 d_HoldQueueLaw_law_19 rfl) ?_
  refine And.intro (gz_o_alen (l_len F hX hbl d_HoldQueueLaw_law_20)) ?_
  refine And.intro (gz_o_iconst F.1 F.2.1 5 d_HoldQueueLaw_law_21 (by decide)) ?_
  refine And.intro (gz_o_isub F.1 F.2.1 d_HoldQueueLaw_law_22) ?_
  refine And.intro (gz_o_ic_gt F.1 F.2.1 709 d_HoldQueueLaw_law_23 (by decide)) ?_
  refine And.intro (gz_o_aload_n F.1 F.2.1 0 d_HoldQueueLaw_law_26 rfl) ?_
  refine And.intro (gz_o_iload_n F.1 F.2.1 3 d_HoldQueueLaw_law_27 rfl) ?_
  refine And.intro (gz_o_ild (l_ild F hX hbl d_HoldQueueLaw_law_28)) ?_
  refine And.intro (gz_o_bipush F.1 F.2.1 31 d_HoldQueueLaw_law_29 (by decide)) ?_
  refine And.intro (gz_o_iand F.1 F.2.1 d_HoldQueueLaw_law_31) ?_
  refine And.intro (gz_o_sw F.1 F.2.1 [(0, 116), (1, 139), (2, 172), (3, 221), (4, 274), (5, 307), (6, 370), (7, 403), (8, 426), (9, 449), (10, 472), (11, 495), (12, 548), (13, 571), (14, 604), (15, 637), (16, 670)] 703 d_HoldQueueLaw_law_32 (by decide +kernel) (by decide +kernel) (by decide)) ?_
  refine And.intro (gz_o_aload_n F.1 F.2.1 1 d_HoldQueueLaw_law_116 rfl) ?_
  refine And.intro (gz_o_aload_n F.1 F.2.1 0 d_HoldQueueLaw_law_117 rfl) ?_
  refine And.intro (gz_o_iload_n F.1 F.2.1 3 d_HoldQueueLaw_law_118 rfl) ?_
  refine And.intro (gz_o_iconst F.1 F.2.1 1 d_HoldQueueLaw_law_119 (by decide)) ?_
  refine And.intro (gz_o_iadd F.1 F.2.1 d_HoldQueueLaw_law_120) ?_
  refine And.intro (gz_o_ild (l_ild F hX hbl d_HoldQueueLaw_law_121)) ?_
  refine And.intro (gz_o_c1I (fun u x hp => gz_cb1 (x_has ax kx) (fun _ h => h) (gz_runV (a := l_a ax am b) (i := 0) (bs := [gz_i x]) F.2.2.2.2.2.2.2 ⟨F.1, F.2.1, F.2.2.2.1, F.2.2.2.2.1, F.2.2.2.2.2.1⟩ (x_record_c l D ax kx u.1 x hp) (cwV 1 F.2.2.2.2.2.1 (gz_gV lw_good wi_112 wi_113 x_record_sl wi_1 x_record_k) rfl rfl rfl (by decide +kernel) ⟨Nat.le_of_ble_eq_true rfl, Nat.le_of_ble_eq_true rfl⟩) rfl 0 rfl rfl d_HoldQueueLaw_law_122 ⟨Nat.le_of_ble_eq_true rfl, Nat.le_of_ble_eq_true rfl⟩))) ?_
  refine And.intro (gz_o_pop F.1 F.2.1 d_HoldQueueLaw_law_125) ?_
  refine And.intro (gz_o_aload_n F.1 F.2.1 2 d_HoldQueueLaw_law_126 rfl) ?_
  refine And.intro (gz_o_aload_n F.1 F.2.1 0 d_HoldQueueLaw_law_127 rfl) ?_
  refine And.intro (gz_o_iload_n F.1 F.2.1 3 d_HoldQueueLaw_law_128 rfl) ?_
  refine And.intro (gz_o_iconst F.1 F.2.1 1 d_HoldQueueLaw_law_129 (by decide)) ?_
  refine And.intro (gz_o_iadd F.1 F.2.1 d_HoldQueueLaw_law_130) ?_
  refine And.intro (gz_o_ild (l_ild F hX hbl d_HoldQueueLaw_law_131)) ?_
  refine And.intro (gz_o_c1I (fun u x hp => gz_cb2 (m_has am km) (fun _ h => h) (gz_runV (a := l_a ax am b) (i := 1) (bs := [gz_i x]) F.2.2.2.2.2.2.2 ⟨F.1, F.2.1, F.2.2.2.1, F.2.2.2.2.1, F.2.2.2.2.2.1⟩ (m_record_c l D am km u.2 x hp) (cwV 1 F.2.2.2.2.2.1 (gz_gV lw_good wi_357 wi_358 m_record_sl wi_5 m_record_k) rfl rfl rfl (by decide +kernel) ⟨Nat.le_of_ble_eq_true rfl, Nat.le_of_ble_eq_true rfl⟩) rfl 0 rfl rfl d_HoldQueueLaw_law_132 ⟨Nat.le_of_ble_eq_true rfl, Nat.le_of_ble_eq_true rfl⟩))) ?_
  refine And.intro (gz_o_pop F.1 F.2.1 d_HoldQueueLaw_law_135) ?_
  refine And.intro (gz_o_goto F.1 F.2.1 703 d_HoldQueueLaw_law_136 (by decide)) ?_
  refine And.intro (gz_o_aload_n F.1 F.2.1 1 d_HoldQueueLaw_law_139 rfl) ?_
  refine And.intro (gz_o_aload_n F.1 F.2.1 0 d_HoldQueueLaw_law_140 rfl) ?_
  refine And.intro (gz_o_iload_n F.1 F.2.1 3 d_HoldQueueLaw_law_141 rfl) ?_
  refine And.intro (gz_o_iconst F.1 F.2.1 1 d_HoldQueueLaw_law_142 (by decide)) ?_
  refine And.intro (gz_o_iadd F.1 F.2.1 d_HoldQueueLaw_law_143) ?_
  refine And.intro (gz_o_ild (l_ild F hX hbl d_HoldQueueLaw_law_144)) ?_
  refine And.intro (gz_o_aload_n F.1 F.2.1 0 d_HoldQueueLaw_law_145 rfl) ?_
  refine And.intro (gz_o_iload_n F.1 F.2.1 3 d_HoldQueueLaw_law_146 rfl) ?_
  refine And.intro (gz_o_iconst F.1 F.2.1 2 d_HoldQueueLaw_law_147 (by decide)) ?_
  refine And.intro (gz_o_iadd F.1 F.2.1 d_HoldQueueLaw_law_148) ?_
  refine And.intro (gz_o_ild (l_ild F hX hbl d_HoldQueueLaw_law_149)) ?_
  refine And.intro (gz_o_c2I (fun u x y hp => gz_cb1 (x_has ax kx) (fun _ h => h) (gz_runV (a := l_a ax am b) (i := 0) (bs := [gz_i x, gz_i y]) F.2.2.2.2.2.2.2 ⟨F.1, F.2.1, F.2.2.2.1, F.2.2.2.2.1, F.2.2.2.2.2.1⟩ (x_copy_c l D ax kx u.1 x y hp) (cwV 2 F.2.2.2.2.2.1 (gz_gV lw_good wi_119 wi_120 x_copy_sl wi_1 x_copy_k) rfl rfl rfl (by decide +kernel) ⟨Nat.le_of_ble_eq_true rfl, Nat.le_of_ble_eq_true rfl⟩) rfl 0 rfl rfl d_HoldQueueLaw_law_150 ⟨Nat.le_of_ble_eq_true rfl, Nat.le_of_ble_eq_true rfl⟩))) ?_
  refine And.intro (gz_o_pop F.1 F.2.1 d_HoldQueueLaw_law_153) ?_
  refine And.intro (gz_o_aload_n F.1 F.2.1 2 d_HoldQueueLaw_law_154 rfl) ?_
  refine And.intro (gz_o_aload_n F.1 F.2.1 0 d_HoldQueueLaw_law_155 rfl) ?_
  refine And.intro (gz_o_iload_n F.1 F.2.1 3 d_HoldQueueLaw_law_156 rfl) ?_
  refine And.intro (gz_o_iconst F.1 F.2.1 1 d_HoldQueueLaw_law_157 (by decide)) ?_
  refine And.intro (gz_o_iadd F.1 F.2.1 d_HoldQueueLaw_law_158) ?_
  refine And.intro (gz_o_ild (l_ild F hX hbl d_HoldQueueLaw_law_159)) ?_
  refine And.intro (gz_o_aload_n F.1 F.2.1 0 d_HoldQueueLaw_law_160 rfl) ?_
  refine And.intro (gz_o_iload_n F.1 F.2.1 3 d_HoldQueueLaw_law_161 rfl) ?_
  refine And.intro (gz_o_iconst F.1 F.2.1 2 d_HoldQueueLaw_law_162 (by decide)) ?_
  refine And.intro (gz_o_iadd F.1 F.2.1 d_HoldQueueLaw_law_163) ?_
  refine And.intro (gz_o_ild (l_ild F hX hbl d_HoldQueueLaw_law_164)) ?_
  refine And.intro (gz_o_c2I (fun u x y hp => gz_cb2 (m_has am km) (fun _ h => h) (gz_runV (a := l_a ax am b) (i := 1) (bs := [gz_i x, gz_i y]) F.2.2.2.2.2.2.2 ⟨F.1, F.2.1, F.2.2.2.1, F.2.2.2.2.1, F.2.2.2.2.2.1⟩ (m_copy_c l D am km u.2 x y hp) (cwV 2 F.2.2.2.2.2.1 (gz_gV lw_good wi_364 wi_365 m_copy_sl wi_5 m_copy_k) rfl rfl rfl (by decide +kernel) ⟨Nat.le_of_ble_eq_true rfl, Nat.le_of_ble_eq_true rfl⟩) rfl 0 rfl rfl d_HoldQueueLaw_law_165 ⟨Nat.le_of_ble_eq_true rfl, Nat.le_of_ble_eq_true rfl⟩))) ?_
  refine And.intro (gz_o_pop F.1 F.2.1 d_HoldQueueLaw_law_168) ?_
  refine And.intro (gz_o_goto F.1 F.2.1 703 d_HoldQueueLaw_law_169 (by decide)) ?_
  refine And.intro (gz_o_aload_n F.1 F.2.1 1 d_HoldQueueLaw_law_172 rfl) ?_
  refine And.intro (gz_o_aload_n F.1 F.2.1 0 d_HoldQueueLaw_law_173 rfl) ?_
  refine And.intro (gz_o_iload_n F.1 F.2.1 3 d_HoldQueueLaw_law_174 rfl) ?_
  refine And.intro (gz_o_iconst F.1 F.2.1 1 d_HoldQueueLaw_law_175 (by decide)) ?_
  exact trivial
set_option maxHeartbeats 8000000 in
set_option maxRecDepth 100000 in
theorem l_o1 (F : gz_F p s m #[Value.ref b] meth c code 4 ret lw_gd R_law) (hX : va_X b L xs s s.heap) (hbl : b < s.heap.size) : gz_oks (gz_Z p l e room_1 s m #[Value.ref b] below meth c 34 2617 (lw_Z below #[Value.ref b] s) 4 (l_a ax am b) (l_G D kx km ax am s)) (fun r _ => r = some 1) ([(176, gz_iop 177 (fun x y => x + y)), (177, gz_ild 178 (l_ai L xs)), (178, gz_lda 179 0), (179, gz_ldi 180 3), (180, gz_push 181 (gz_i 2)), (181, gz_iop 182 (fun x y => x + y)), (182, gz_ild 183 (l_ai L xs)), (183, gz_if 186 190 (fun x => x = 0) (fun x => ¬ x = 0)), (186, gz_push 187 (gz_i 1)), (187, gz_goto 191), (190, gz_push 191 (gz_i 0)), (191, gz_c2I 194 0 (fun u x y => x_bar_p u.1 x y) (fun u x y => x_bar_r u.1 x y) (fun u x y => (x_bar_s u.1 x y, u.2))), (194, gz_pop 195), (195, gz_lda 196 2), (196, gz_lda 197 0), (197, gz_ldi 198 3), (198, gz_push 199 (gz_i 1)), (199, gz_iop 200 (fun x y => x + y)), (200, gz_ild 201 (l_ai L xs)), (201, gz_lda 202 0), (202, gz_ldi 203 3), (203, gz_push 204 (gz_i 2)), (204, gz_iop 205 (fun x y => x + y)), (205, gz_ild 206 (l_ai L xs)), (206, gz_if 209 213 (fun x => x = 0) (fun x => ¬ x = 0)), (209, gz_push 210 (gz_i 1)), (210, gz_goto 214), (213, gz_push 214 (gz_i 0)), (214, gz_c2I 217 1 (fun u x y => m_bar_p u.2 x y) (fun u x y => m_bar_r u.2 x y) (fun u x y => (u.1, m_bar_s u.2 x y))), (217, gz_pop 218), (218, gz_goto 703), (221, gz_lda 222 1), (222, gz_lda 223 0), (223, gz_ldi 224 3), (224, gz_push 225 (gz_i 1)), (225, gz_iop 226 (fun x y => x + y)), (226, gz_ild 227 (l_ai L xs)), (227, gz_lda 228 0), (228, gz_ldi 229 3), (229, gz_push 230 (gz_i 2)), (230, gz_iop 231 (fun x y => x + y)), (231, gz_ild 232 (l_ai L xs)), (232, gz_lda 233 0), (233, gz_ldi 234 3), (234, gz_push 235 (gz_i 3)), (235, gz_iop 236 (fun x y => x + y)), (236, gz_ild 237 (l_ai L xs)), (237, gz_lda 238 0), (238, gz_ldi 239 3), (239, gz_push 240 (gz_i 4)), (240, gz_iop 241 (fun x y => x + y)), (241, gz_ild 242 (l_ai L xs)), (242, gz_c4I 245 0 (fun u x y z w => x_hold_p u.1 x y z w) (fun u x y z w => x_hold_r u.1 x y z w) (fun u x y z w => (x_hold_s u.1 x y z w, u.2))), (245, gz_pop 246), (246, gz_lda 247 2), (247, gz_lda 248 0), (248, gz_ldi 249 3), (249, gz_push 250 (gz_i 1)), (250, gz_iop 251 (fun x y => x + y)), (251, gz_ild 252 (l_ai L xs))] : List (Nat × gz_T (q_S × q_S))) := by
  refine And.intro (gz_o_iadd F.1 F.2.1 d_HoldQueueLaw_law_176) ?_
  refine And.intro (gz_o_ild (l_ild F hX hbl d_HoldQueueLaw_law_177)) ?_
  refine And.intro (gz_o_aload_n F.1 F.2.1 0 d_HoldQueueLaw_law_178 rfl) ?_
  refine And.intro (gz_o_iload_n F.1 F.2.1 3 d_HoldQueueLaw_law_179 rfl) ?_
  refine And.intro (gz_o_iconst F.1 F.2.1 2 d_HoldQueueLaw_law_180 (by decide)) ?_
  refine And.intro (gz_o_iadd F.1 F.2.1 d_HoldQueueLaw_law_181) ?_
  refine And.intro (gz_o_ild (l_ild F hX hbl d_HoldQueueLaw_law_182)) ?_
  refine And.intro (gz_o_if_eq F.1 F.2.1 190 d_HoldQueueLaw_law_183 (by decide)) ?_
  refine And.intro (gz_o_iconst F.1 F.2.1 1 d_HoldQueueLaw_law_186 (by decide)) ?_
  refine And.intro (gz_o_goto F.1 F.2.1 191 d_HoldQueueLaw_law_187 (by decide)) ?_
  refine And.intro (gz_o_iconst F.1 F.2.1 0 d_HoldQueueLaw_law_190 (by decide)) ?_
  refine And.intro (gz_o_c2I (fun u x y hp => gz_cb1 (x_has ax kx) (fun _ h => h) (gz_runV (a := l_a ax am b) (i := 0) (bs := [gz_i x, gz_i y]) F.2.2.2.2.2.2.2 ⟨F.1, F.2.1, F.2.2.2.1, F.2.2.2.2.1, F.2.2.2.2.2.1⟩ (x_bar_c l D ax kx u.1 x y hp) (cwV 2 F.2.2.2.2.2.1 (gz_gV lw_good wi_138 wi_139 x_bar_sl wi_1 x_bar_k) rfl rfl rfl (by decide +kernel) ⟨Nat.le_of_ble_eq_true rfl, Nat.le_of_ble_eq_true rfl⟩) rfl 0 rfl rfl d_HoldQueueLaw_law_191 ⟨Nat.le_of_ble_eq_true rfl, Nat.le_of_ble_eq_true rfl⟩))) ?_
  refine And.intro (gz_o_pop F.1 F.2.1 d_HoldQueueLaw_law_194) ?_
  refine And.intro (gz_o_aload_n F.1 F.2.1 2 d_HoldQueueLaw_law_195 rfl) ?_
  refine And.intro (gz_o_aload_n F.1 F.2.1 0 d_HoldQueueLaw_law_196 rfl) ?_
  refine And.intro (gz_o_iload_n F.1 F.2.1 3 d_HoldQueueLaw_law_197 rfl) ?_
  refine And.intro (gz_o_iconst F.1 F.2.1 1 d_HoldQueueLaw_law_198 (by decide)) ?_
  refine And.intro (gz_o_iadd F.1 F.2.1 d_HoldQueueLaw_law_199) ?_
  refine And.intro (gz_o_ild (l_ild F hX hbl d_HoldQueueLaw_law_200)) ?_
  refine And.intro (gz_o_aload_n F.1 F.2.1 0 d_HoldQueueLaw_law_201 rfl) ?_
  refine And.intro (gz_o_iload_n F.1 F.2.1 3 d_HoldQueueLaw_law_202 rfl) ?_
  refine And.intro (gz_o_iconst F.1 F.2.1 2 d_HoldQueueLaw_law_203 (by decide)) ?_
  refine And.intro (gz_o_iadd F.1 F.2.1 d_HoldQueueLaw_law_204) ?_
  refine And.intro (gz_o_ild (l_ild F hX hbl d_HoldQueueLaw_law_205)) ?_
  refine And.intro (gz_o_if_eq F.1 F.2.1 213 d_HoldQueueLaw_law_206 (by decide)) ?_
  refine And.intro (gz_o_iconst F.1 F.2.1 1 d_HoldQueueLaw_law_209 (by decide)) ?_
  refine And.intro (gz_o_goto F.1 F.2.1 214 d_HoldQueueLaw_law_210 (by decide)) ?_
  refine And.intro (gz_o_iconst F.1 F.2.1 0 d_HoldQueueLaw_law_213 (by decide)) ?_
  refine And.intro (gz_o_c2I (fun u x y hp => gz_cb2 (m_has am km) (fun _ h => h) (gz_runV (a := l_a ax am b) (i := 1) (bs := [gz_i x, gz_i y]) F.2.2.2.2.2.2.2 ⟨F.1, F.2.1, F.2.2.2.1, F.2.2.2.2.1, F.2.2.2.2.2.1⟩ (m_bar_c l D am km u.2 x y hp) (cwV 2 F.2.2.2.2.2.1 (gz_gV lw_good wi_368 wi_369 m_bar_sl wi_5 m_bar_k) rfl rfl rfl (by decide +kernel) ⟨Nat.le_of_ble_eq_true rfl, Nat.le_of_ble_eq_true rfl⟩) rfl 0 rfl rfl d_HoldQueueLaw_law_214 ⟨Nat.le_of_ble_eq_true rfl, Nat.le_of_ble_eq_true rfl⟩))) ?_
  refine And.intro (gz_o_pop F.1 F.2.1 d_HoldQueueLaw_law_217) ?_
  refine And.intro (gz_o_goto F.1 F.2.1 703 d_HoldQueueLaw_law_218 (by decide)) ?_
  refine And.intro (gz_o_aload_n F.1 F.2.1 1 d_HoldQueueLaw_law_221 rfl) ?_
  refine And.intro (gz_o_aload_n F.1 F.2.1 0 d_HoldQueueLaw_law_222 rfl) ?_
  refine And.intro (gz_o_iload_n F.1 F.2.1 3 d_HoldQueueLaw_law_223 rfl) ?_
  refine And.intro (gz_o_iconst F.1 F.2.1 1 d_HoldQueueLaw_law_224 (by decide)) ?_
  refine And.intro (gz_o_iadd F.1 F.2.1 d_HoldQueueLaw_law_225) ?_
  refine And.intro (gz_o_ild (l_ild F hX hbl d_HoldQueueLaw_law_226)) ?_
  refine And.intro (gz_o_aload_n F.1 F.2.1 0 d_HoldQueueLaw_law_227 rfl) ?_
  refine And.intro (gz_o_iload_n F.1 F.2.1 3 d_HoldQueueLaw_law_228 rfl) ?_
  refine And.intro (gz_o_iconst F.1 F.2.1 2 d_HoldQueueLaw_law_229 (by decide)) ?_
  refine And.intro (gz_o_iadd F.1 F.2.1 d_HoldQueueLaw_law_230) ?_
  refine And.intro (gz_o_ild (l_ild F hX hbl d_HoldQueueLaw_law_231)) ?_
  refine And.intro (gz_o_aload_n F.1 F.2.1 0 d_HoldQueueLaw_law_232 rfl) ?_
  refine And.intro (gz_o_iload_n F.1 F.2.1 3 d_HoldQueueLaw_law_233 rfl) ?_
  refine And.intro (gz_o_iconst F.1 F.2.1 3 d_HoldQueueLaw_law_234 (by decide)) ?_
  refine And.intro (gz_o_iadd F.1 F.2.1 d_HoldQueueLaw_law_235) ?_
  refine And.intro (gz_o_ild (l_ild F hX hbl d_HoldQueueLaw_law_236)) ?_
  refine And.intro (gz_o_aload_n F.1 F.2.1 0 d_HoldQueueLaw_law_237 rfl) ?_
  refine And.intro (gz_o_iload_n F.1 F.2.1 3 d_HoldQueueLaw_law_238 rfl) ?_
  refine And.intro (gz_o_iconst F.1 F.2.1 4 d_HoldQueueLaw_law_239 (by decide)) ?_
  refine And.intro (gz_o_iadd F.1 F.2.1 d_HoldQueueLaw_law_240) ?_
  refine And.intro (gz_o_ild (l_ild F hX hbl d_HoldQueueLaw_law_241)) ?_
  refine And.intro (gz_o_c4I (fun u x y z w hp => gz_cb1 (x_has ax kx) (fun _ h => h) (gz_runV (a := l_a ax am b) (i := 0) (bs := [gz_i x, gz_i y, gz_i z, gz_i w]) F.2.2.2.2.2.2.2 ⟨F.1, F.2.1, F.2.2.2.1, F.2.2.2.2.1, F.2.2.2.2.2.1⟩ (x_hold_c l D ax kx u.1 x y z w hp) (cwV 4 F.2.2.2.2.2.1 (gz_gV lw_good wi_142 wi_143 x_hold_sl wi_1 x_hold_k) rfl rfl rfl (by decide +kernel) ⟨Nat.le_of_ble_eq_true rfl, Nat.le_of_ble_eq_true rfl⟩) rfl 0 rfl rfl d_HoldQueueLaw_law_242 ⟨Nat.le_of_ble_eq_true rfl, Nat.le_of_ble_eq_true rfl⟩))) ?_
  refine And.intro (gz_o_pop F.1 F.2.1 d_HoldQueueLaw_law_245) ?_
  refine And.intro (gz_o_aload_n F.1 F.2.1 2 d_HoldQueueLaw_law_246 rfl) ?_
  refine And.intro (gz_o_aload_n F.1 F.2.1 0 d_HoldQueueLaw_law_247 rfl) ?_
  refine And.intro (gz_o_iload_n F.1 F.2.1 3 d_HoldQueueLaw_law_248 rfl) ?_
  refine And.intro (gz_o_iconst F.1 F.2.1 1 d_HoldQueueLaw_law_249 (by decide)) ?_
  refine And.intro (gz_o_iadd F.1 F.2.1 d_HoldQueueLaw_law_250) ?_
  refine And.intro (gz_o_ild (l_ild F hX hbl d_HoldQueueLaw_law_251)) ?_
  exact trivial
set_option maxHeartbeats 8000000 in
set_option maxRecDepth 100000 in
theorem l_o2 (F : gz_F p s m #[Value.ref b] meth c code 4 ret lw_gd R_law) (hX : va_X b L xs s s.heap) (hbl : b < s.heap.size) : gz_oks (gz_Z p l e room_1 s m #[Value.ref b] below meth c 34 2617 (lw_Z below #[Value.ref b] s) 4 (l_a ax am b) (l_G D kx km ax am s)) (fun r _ => r = some 1) ([(252, gz_lda 253 0), (253, gz_ldi 254 3), (254, gz_push 255 (gz_i 2)), (255, gz_iop 256 (fun x y => x + y)), (256, gz_ild 257 (l_ai L xs)), (257, gz_lda 258 0), (258, gz_ldi 259 3), (259, gz_push 260 (gz_i 3)), (260, gz_iop 261 (fun x y => x + y)), (261, gz_ild 262 (l_ai L xs)), (262, gz_lda 263 0), (263, gz_ldi 264 3), (264, gz_push 265 (gz_i 4)), (265, gz_iop 266 (fun x y => x + y)), (266, gz_ild 267 (l_ai L xs)), (267, gz_c4I 270 1 (fun u x y z w => m_hold_p u.2 x y z w) (fun u x y z w => m_hold_r u.2 x y z w) (fun u x y z w => (u.1, m_hold_s u.2 x y z w))), (270, gz_pop 271), (271, gz_goto 703), (274, gz_lda 275 1), (275, gz_lda 276 0), (276, gz_ldi 277 3), (277, gz_push 278 (gz_i 1)), (278, gz_iop 279 (fun x y => x + y)), (279, gz_ild 280 (l_ai L xs)), (280, gz_lda 281 0), (281, gz_ldi 282 3), (282, gz_push 283 (gz_i 2)), (283, gz_iop 284 (fun x y => x + y)), (284, gz_ild 285 (l_ai L xs)), (285, gz_c2I 288 0 (fun u x y => x_most_p u.1 x y) (fun u x y => x_most_r u.1 x y) (fun u x y => (x_most_s u.1 x y, u.2))), (288, gz_pop 289), (289, gz_lda 290 2), (290, gz_lda 291 0), (291, gz_ldi 292 3), (292, gz_push 293 (gz_i 1)), (293, gz_iop 294 (fun x y => x + y)), (294, gz_ild 295 (l_ai L xs)), (295, gz_lda 296 0), (296, gz_ldi 297 3), (297, gz_push 298 (gz_i 2)), (298, gz_iop 299 (fun x y => x + y)), (299, gz_ild 300 (l_ai L xs)), (300, gz_c2I 303 1 (fun u x y => m_most_p u.2 x y) (fun u x y => m_most_r u.2 x y) (fun u x y => (u.1, m_most_s u.2 x y))), (303, gz_pop 304), (304, gz_goto 703), (307, gz_lda 308 1), (308, gz_lda 309 0), (309, gz_ldi 310 3), (310, gz_push 311 (gz_i 1)), (311, gz_iop 312 (fun x y => x + y)), (312, gz_ild 313 (l_ai L xs)), (313, gz_lda 314 0), (314, gz_ldi 315 3), (315, gz_push 316 (gz_i 2)), (316, gz_iop 317 (fun x y => x + y)), (317, gz_ild 318 (l_ai L xs)), (318, gz_itol 319), (319, gz_push 321 (gz_i 32)), (321, gz_lsh 322 (fun x y => x <<< (y.toInt64 &&& 63))), (322, gz_lda 323 0)] : List (Nat × gz_T (q_S × q_S))) := by
  refine And.intro (gz_o_aload_n F.1 F.2.1 0 d_HoldQueueLaw_law_252 rfl) ?_
  refine And.intro (gz_o_iload_n F.1 F.2.1 3 d_HoldQueueLaw_law_253 rfl) ?_
  refine And.intro (gz_o_iconst F.1 F.2.1 2 d_HoldQueueLaw_law_254 (by decide)) ?_
  refine And.intro (gz_o_iadd F.1 F.2.1 d_HoldQueueLaw_law_255) ?_
  refine And.intro (gz_o_ild (l_ild F hX hbl d_HoldQueueLaw_law_256)) ?_
  refine And.intro (gz_o_aload_n F.1 F.2.1 0 d_HoldQueueLaw_law_257 rfl) ?_
  refine And.intro (gz_o_iload_n F.1 F.2.1 3 d_HoldQueueLaw_law_258 rfl) ?_
  refine And.intro (gz_o_iconst F.1 F.2.1 3 d_HoldQueueLaw_law_259 (by decide)) ?_
  refine And.intro (gz_o_iadd F.1 F.2.1 d_HoldQueueLaw_law_260) ?_
  refine And.intro (gz_o_ild (l_ild F hX hbl d_HoldQueueLaw_law_261)) ?_
  refine And.intro (gz_o_aload_n F.1 F.2.1 0 d_HoldQueueLaw_law_262 rfl) ?_
  refine And.intro (gz_o_iload_n F.1 F.2.1 3 d_HoldQueueLaw_law_263 rfl) ?_
  refine And.intro (gz_o_iconst F.1 F.2.1 4 d_HoldQueueLaw_law_264 (by decide)) ?_
  refine And.intro (gz_o_iadd F.1 F.2.1 d_HoldQueueLaw_law_265) ?_
  refine And.intro (gz_o_ild (l_ild F hX hbl d_HoldQueueLaw_law_266)) ?_
  refine And.intro (gz_o_c4I (fun u x y z w hp => gz_cb2 (m_has am km) (fun _ h => h) (gz_runV (a := l_a ax am b) (i := 1) (bs := [gz_i x, gz_i y, gz_i z, gz_i w]) F.2.2.2.2.2.2.2 ⟨F.1, F.2.1, F.2.2.2.1, F.2.2.2.2.1, F.2.2.2.2.2.1⟩ (m_hold_c l D am km u.2 x y z w hp) (cwV 4 F.2.2.2.2.2.1 (gz_gV lw_good wi_372 wi_373 m_hold_sl wi_5 m_hold_k) rfl rfl rfl (by decide +kernel) ⟨Nat.le_of_ble_eq_true rfl, Nat.le_of_ble_eq_true rfl⟩) rfl 0 rfl rfl d_HoldQueueLaw_law_267 ⟨Nat.le_of_ble_eq_true rfl, Nat.le_of_ble_eq_true rfl⟩))) ?_
  refine And.intro (gz_o_pop F.1 F.2.1 d_HoldQueueLaw_law_270) ?_
  refine And.intro (gz_o_goto F.1 F.2.1 703 d_HoldQueueLaw_law_271 (by decide)) ?_
  refine And.intro (gz_o_aload_n F.1 F.2.1 1 d_HoldQueueLaw_law_274 rfl) ?_
  refine And.intro (gz_o_aload_n F.1 F.2.1 0 d_HoldQueueLaw_law_275 rfl) ?_
  refine And.intro (gz_o_iload_n F.1 F.2.1 3 d_HoldQueueLaw_law_276 rfl) ?_
  refine And.intro (gz_o_iconst F.1 F.2.1 1 d_HoldQueueLaw_law_277 (by decide)) ?_
  refine And.intro (gz_o_iadd F.1 F.2.1 d_HoldQueueLaw_law_278) ?_
  refine And.intro (gz_o_ild (l_ild F hX hbl d_HoldQueueLaw_law_279)) ?_
  refine And.intro (gz_o_aload_n F.1 F.2.1 0 d_HoldQueueLaw_law_280 rfl) ?_
  refine And.intro (gz_o_iload_n F.1 F.2.1 3 d_HoldQueueLaw_law_281 rfl) ?_
  refine And.intro (gz_o_iconst F.1 F.2.1 2 d_HoldQueueLaw_law_282 (by decide)) ?_
  refine And.intro (gz_o_iadd F.1 F.2.1 d_HoldQueueLaw_law_283) ?_
  refine And.intro (gz_o_ild (l_ild F hX hbl d_HoldQueueLaw_law_284)) ?_
  refine And.intro (gz_o_c2I (fun u x y hp => gz_cb1 (x_has ax kx) (fun _ h => h) (gz_runV (a := l_a ax am b) (i := 0) (bs := [gz_i x, gz_i y]) F.2.2.2.2.2.2.2 ⟨F.1, F.2.1, F.2.2.2.1, F.2.2.2.2.1, F.2.2.2.2.2.1⟩ (x_most_c l D ax kx u.1 x y hp) (cwV 2 F.2.2.2.2.2.1 (gz_gV lw_good wi_205 wi_206 x_most_sl wi_1 x_most_k) rfl rfl rfl (by decide +kernel) ⟨Nat.le_of_ble_eq_true rfl, Nat.le_of_ble_eq_true rfl⟩) rfl 0 rfl rfl d_HoldQueueLaw_law_285 ⟨Nat.le_of_ble_eq_true rfl, Nat.le_of_ble_eq_true rfl⟩))) ?_
  refine And.intro (gz_o_pop F.1 F.2.1 d_HoldQueueLaw_law_288) ?_
  refine And.intro (gz_o_aload_n F.1 F.2.1 2 d_HoldQueueLaw_law_289 rfl) ?_
  refine And.intro (gz_o_aload_n F.1 F.2.1 0 d_HoldQueueLaw_law_290 rfl) ?_
  refine And.intro (gz_o_iload_n F.1 F.2.1 3 d_HoldQueueLaw_law_291 rfl) ?_
  refine And.intro (gz_o_iconst F.1 F.2.1 1 d_HoldQueueLaw_law_292 (by decide)) ?_
  refine And.intro (gz_o_iadd F.1 F.2.1 d_HoldQueueLaw_law_293) ?_
  refine And.intro (gz_o_ild (l_ild F hX hbl d_HoldQueueLaw_law_294)) ?_
  refine And.intro (gz_o_aload_n F.1 F.2.1 0 d_HoldQueueLaw_law_295 rfl) ?_
  refine And.intro (gz_o_iload_n F.1 F.2.1 3 d_HoldQueueLaw_law_296 rfl) ?_
  refine And.intro (gz_o_iconst F.1 F.2.1 2 d_HoldQueueLaw_law_297 (by decide)) ?_
  refine And.intro (gz_o_iadd F.1 F.2.1 d_HoldQueueLaw_law_298) ?_
  refine And.intro (gz_o_ild (l_ild F hX hbl d_HoldQueueLaw_law_299)) ?_
  refine And.intro (gz_o_c2I (fun u x y hp => gz_cb2 (m_has am km) (fun _ h => h) (gz_runV (a := l_a ax am b) (i := 1) (bs := [gz_i x, gz_i y]) F.2.2.2.2.2.2.2 ⟨F.1, F.2.1, F.2.2.2.1, F.2.2.2.2.1, F.2.2.2.2.2.1⟩ (m_most_c l D am km u.2 x y hp) (cwV 2 F.2.2.2.2.2.1 (gz_gV lw_good wi_397 wi_398 m_most_sl wi_5 m_most_k) rfl rfl rfl (by decide +kernel) ⟨Nat.le_of_ble_eq_true rfl, Nat.le_of_ble_eq_true rfl⟩) rfl 0 rfl rfl d_HoldQueueLaw_law_300 ⟨Nat.le_of_ble_eq_true rfl, Nat.le_of_ble_eq_true rfl⟩))) ?_
  refine And.intro (gz_o_pop F.1 F.2.1 d_HoldQueueLaw_law_303) ?_
  refine And.intro (gz_o_goto F.1 F.2.1 703 d_HoldQueueLaw_law_304 (by decide)) ?_
  refine And.intro (gz_o_aload_n F.1 F.2.1 1 d_HoldQueueLaw_law_307 rfl) ?_
  refine And.intro (gz_o_aload_n F.1 F.2.1 0 d_HoldQueueLaw_law_308 rfl) ?_
  refine And.intro (gz_o_iload_n F.1 F.2.1 3 d_HoldQueueLaw_law_309 rfl) ?_
  refine And.intro (gz_o_iconst F.1 F.2.1 1 d_HoldQueueLaw_law_310 (by decide)) ?_
  refine And.intro (gz_o_iadd F.1 F.2.1 d_HoldQueueLaw_law_311) ?_
  refine And.intro (gz_o_ild (l_ild F hX hbl d_HoldQueueLaw_law_312)) ?_
  refine And.intro (gz_o_aload_n F.1 F.2.1 0 d_HoldQueueLaw_law_313 rfl) ?_
  refine And.intro (gz_o_iload_n F.1 F.2.1 3 d_HoldQueueLaw_law_314 rfl) ?_
  refine And.intro (gz_o_iconst F.1 F.2.1 2 d_HoldQueueLaw_law_315 (by decide)) ?_
  refine And.intro (gz_o_iadd F.1 F.2.1 d_HoldQueueLaw_law_316) ?_
  refine And.intro (gz_o_ild (l_ild F hX hbl d_HoldQueueLaw_law_317)) ?_
  refine And.intro (gz_o_i2l F.1 F.2.1 d_HoldQueueLaw_law_318) ?_
  refine And.intro (gz_o_bipush F.1 F.2.1 32 d_HoldQueueLaw_law_319 (by decide)) ?_
  refine And.intro (gz_o_lshl F.1 F.2.1 d_HoldQueueLaw_law_321) ?_
  refine And.intro (gz_o_aload_n F.1 F.2.1 0 d_HoldQueueLaw_law_322 rfl) ?_
  exact trivial
set_option maxHeartbeats 8000000 in
set_option maxRecDepth 100000 in
theorem l_o3 (F : gz_F p s m #[Value.ref b] meth c code 4 ret lw_gd R_law) (hX : va_X b L xs s s.heap) (hbl : b < s.heap.size) : gz_oks (gz_Z p l e room_1 s m #[Value.ref b] below meth c 34 2617 (lw_Z below #[Value.ref b] s) 4 (l_a ax am b) (l_G D kx km ax am s)) (fun r _ => r = some 1) ([(323, gz_ldi 324 3), (324, gz_push 325 (gz_i 3)), (325, gz_iop 326 (fun x y => x + y)), (326, gz_ild 327 (l_ai L xs)), (327, gz_itol 328), (328, gz_push 331 (gz_l 4294967295)), (331, gz_lop 332 (fun x y => x &&& y)), (332, gz_lop 333 (fun x y => x ||| y)), (333, gz_c1lI 336 0 (fun u x y => x_suspend_p u.1 x y) (fun u x y => x_suspend_r u.1 x y) (fun u x y => (x_suspend_s u.1 x y, u.2))), (336, gz_pop 337), (337, gz_lda 338 2), (338, gz_lda 339 0), (339, gz_ldi 340 3), (340, gz_push 341 (gz_i 1)), (341, gz_iop 342 (fun x y => x + y)), (342, gz_ild 343 (l_ai L xs)), (343, gz_lda 344 0), (344, gz_ldi 345 3), (345, gz_push 346 (gz_i 2)), (346, gz_iop 347 (fun x y => x + y)), (347, gz_ild 348 (l_ai L xs)), (348, gz_itol 349), (349, gz_push 351 (gz_i 32)), (351, gz_lsh 352 (fun x y => x <<< (y.toInt64 &&& 63))), (352, gz_lda 353 0), (353, gz_ldi 354 3), (354, gz_push 355 (gz_i 3)), (355, gz_iop 356 (fun x y => x + y)), (356, gz_ild 357 (l_ai L xs)), (357, gz_itol 358), (358, gz_push 361 (gz_l 4294967295)), (361, gz_lop 362 (fun x y => x &&& y)), (362, gz_lop 363 (fun x y => x ||| y)), (363, gz_c1lI 366 1 (fun u x y => m_suspend_p u.2 x y) (fun u x y => m_suspend_r u.2 x y) (fun u x y => (u.1, m_suspend_s u.2 x y))), (366, gz_pop 367), (367, gz_goto 703), (370, gz_lda 371 1), (371, gz_lda 372 0), (372, gz_ldi 373 3), (373, gz_push 374 (gz_i 1)), (374, gz_iop 375 (fun x y => x + y)), (375, gz_ild 376 (l_ai L xs)), (376, gz_lda 377 0), (377, gz_ldi 378 3), (378, gz_push 379 (gz_i 2)), (379, gz_iop 380 (fun x y => x + y)), (380, gz_ild 381 (l_ai L xs)), (381, gz_c2I 384 0 (fun u x y => x_back_p u.1 x y) (fun u x y => x_back_r u.1 x y) (fun u x y => (x_back_s u.1 x y, u.2))), (384, gz_pop 385), (385, gz_lda 386 2), (386, gz_lda 387 0), (387, gz_ldi 388 3), (388, gz_push 389 (gz_i 1)), (389, gz_iop 390 (fun x y => x + y)), (390, gz_ild 391 (l_ai L xs)), (391, gz_lda 392 0), (392, gz_ldi 393 3), (393, gz_push 394 (gz_i 2)), (394, gz_iop 395 (fun x y => x + y)), (395, gz_ild 396 (l_ai L xs))] : List (Nat × gz_T (q_S × q_S))) := by
  refine And.intro (gz_o_iload_n F.1 F.2.1 3 d_HoldQueueLaw_law_323 rfl) ?_
  refine And.intro (gz_o_iconst F.1 F.2.1 3 d_HoldQueueLaw_law_324 (by decide)) ?_
  refine And.intro (gz_o_iadd F.1 F.2.1 d_HoldQueueLaw_law_325) ?_
  refine And.intro (gz_o_ild (l_ild F hX hbl d_HoldQueueLaw_law_326)) ?_
  refine And.intro (gz_o_i2l F.1 F.2.1 d_HoldQueueLaw_law_327) ?_
  refine And.intro (gz_o_ldc2 F.1 F.2.1 4294967295 F.2.2.2.2.1 (F.2.2.2.2.2.1 (.constantLong R_law 37 4294967295) (by decide +kernel)) d_HoldQueueLaw_law_328) ?_
  refine And.intro (gz_o_land F.1 F.2.1 d_HoldQueueLaw_law_331) ?_
  refine And.intro (gz_o_lor F.1 F.2.1 d_HoldQueueLaw_law_332) ?_
  refine And.intro (gz_o_c1lI (fun u x y hp => gz_cb1 (x_has ax kx) (fun _ h => h) (gz_runV (a := l_a ax am b) (i := 0) (bs := [gz_i x, gz_l y]) F.2.2.2.2.2.2.2 ⟨F.1, F.2.1, F.2.2.2.1, F.2.2.2.2.1, F.2.2.2.2.2.1⟩ (x_suspend_c l D ax kx u.1 x y hp) (cwV 2 F.2.2.2.2.2.1 (gz_gV lw_good wi_209 wi_210 x_suspend_sl wi_1 x_suspend_k) rfl rfl rfl (by decide +kernel) ⟨Nat.le_of_ble_eq_true rfl, Nat.le_of_ble_eq_true rfl⟩) rfl 0 rfl rfl d_HoldQueueLaw_law_333 ⟨Nat.le_of_ble_eq_true rfl, Nat.le_of_ble_eq_true rfl⟩))) ?_
  refine And.intro (gz_o_pop F.1 F.2.1 d_HoldQueueLaw_law_336) ?_
  refine And.intro (gz_o_aload_n F.1 F.2.1 2 d_HoldQueueLaw_law_337 rfl) ?_
  refine And.intro (gz_o_aload_n F.1 F.2.1 0 d_HoldQueueLaw_law_338 rfl) ?_
  refine And.intro (gz_o_iload_n F.1 F.2.1 3 d_HoldQueueLaw_law_339 rfl) ?_
  refine And.intro (gz_o_iconst F.1 F.2.1 1 d_HoldQueueLaw_law_340 (by decide)) ?_
  refine And.intro (gz_o_iadd F.1 F.2.1 d_HoldQueueLaw_law_341) ?_
  refine And.intro (gz_o_ild (l_ild F hX hbl d_HoldQueueLaw_law_342)) ?_
  refine And.intro (gz_o_aload_n F.1 F.2.1 0 d_HoldQueueLaw_law_343 rfl) ?_
  refine And.intro (gz_o_iload_n F.1 F.2.1 3 d_HoldQueueLaw_law_344 rfl) ?_
  refine And.intro (gz_o_iconst F.1 F.2.1 2 d_HoldQueueLaw_law_345 (by decide)) ?_
  refine And.intro (gz_o_iadd F.1 F.2.1 d_HoldQueueLaw_law_346) ?_
  refine And.intro (gz_o_ild (l_ild F hX hbl d_HoldQueueLaw_law_347)) ?_
  refine And.intro (gz_o_i2l F.1 F.2.1 d_HoldQueueLaw_law_348) ?_
  refine And.intro (gz_o_bipush F.1 F.2.1 32 d_HoldQueueLaw_law_349 (by decide)) ?_
  refine And.intro (gz_o_lshl F.1 F.2.1 d_HoldQueueLaw_law_351) ?_
  refine And.intro (gz_o_aload_n F.1 F.2.1 0 d_HoldQueueLaw_law_352 rfl) ?_
  refine And.intro (gz_o_iload_n F.1 F.2.1 3 d_HoldQueueLaw_law_353 rfl) ?_
  refine And.intro (gz_o_iconst F.1 F.2.1 3 d_HoldQueueLaw_law_354 (by decide)) ?_
  refine And.intro (gz_o_iadd F.1 F.2.1 d_HoldQueueLaw_law_355) ?_
  refine And.intro (gz_o_ild (l_ild F hX hbl d_HoldQueueLaw_law_356)) ?_
  refine And.intro (gz_o_i2l F.1 F.2.1 d_HoldQueueLaw_law_357) ?_
  refine And.intro (gz_o_ldc2 F.1 F.2.1 4294967295 F.2.2.2.2.1 (F.2.2.2.2.2.1 (.constantLong R_law 37 4294967295) (by decide +kernel)) d_HoldQueueLaw_law_358) ?_
  refine And.intro (gz_o_land F.1 F.2.1 d_HoldQueueLaw_law_361) ?_
  refine And.intro (gz_o_lor F.1 F.2.1 d_HoldQueueLaw_law_362) ?_
  refine And.intro (gz_o_c1lI (fun u x y hp => gz_cb2 (m_has am km) (fun _ h => h) (gz_runV (a := l_a ax am b) (i := 1) (bs := [gz_i x, gz_l y]) F.2.2.2.2.2.2.2 ⟨F.1, F.2.1, F.2.2.2.1, F.2.2.2.2.1, F.2.2.2.2.2.1⟩ (m_suspend_c l D am km u.2 x y hp) (cwV 2 F.2.2.2.2.2.1 (gz_gV lw_good wi_401 wi_402 m_suspend_sl wi_5 m_suspend_k) rfl rfl rfl (by decide +kernel) ⟨Nat.le_of_ble_eq_true rfl, Nat.le_of_ble_eq_true rfl⟩) rfl 0 rfl rfl d_HoldQueueLaw_law_363 ⟨Nat.le_of_ble_eq_true rfl, Nat.le_of_ble_eq_true rfl⟩))) ?_
  refine And.intro (gz_o_pop F.1 F.2.1 d_HoldQueueLaw_law_366) ?_
  refine And.intro (gz_o_goto F.1 F.2.1 703 d_HoldQueueLaw_law_367 (by decide)) ?_
  refine And.intro (gz_o_aload_n F.1 F.2.1 1 d_HoldQueueLaw_law_370 rfl) ?_
  refine And.intro (gz_o_aload_n F.1 F.2.1 0 d_HoldQueueLaw_law_371 rfl) ?_
  refine And.intro (gz_o_iload_n F.1 F.2.1 3 d_HoldQueueLaw_law_372 rfl) ?_
  refine And.intro (gz_o_iconst F.1 F.2.1 1 d_HoldQueueLaw_law_373 (by decide)) ?_
  refine And.intro (gz_o_iadd F.1 F.2.1 d_HoldQueueLaw_law_374) ?_
  refine And.intro (gz_o_ild (l_ild F hX hbl d_HoldQueueLaw_law_375)) ?_
  refine And.intro (gz_o_aload_n F.1 F.2.1 0 d_HoldQueueLaw_law_376 rfl) ?_
  refine And.intro (gz_o_iload_n F.1 F.2.1 3 d_HoldQueueLaw_law_377 rfl) ?_
  refine And.intro (gz_o_iconst F.1 F.2.1 2 d_HoldQueueLaw_law_378 (by decide)) ?_
  refine And.intro (gz_o_iadd F.1 F.2.1 d_HoldQueueLaw_law_379) ?_
  refine And.intro (gz_o_ild (l_ild F hX hbl d_HoldQueueLaw_law_380)) ?_
  refine And.intro (gz_o_c2I (fun u x y hp => gz_cb1 (x_has ax kx) (fun _ h => h) (gz_runV (a := l_a ax am b) (i := 0) (bs := [gz_i x, gz_i y]) F.2.2.2.2.2.2.2 ⟨F.1, F.2.1, F.2.2.2.1, F.2.2.2.2.1, F.2.2.2.2.2.1⟩ (x_back_c l D ax kx u.1 x y hp) (cwV 2 F.2.2.2.2.2.1 (gz_gV lw_good wi_214 wi_215 x_back_sl wi_1 x_back_k) rfl rfl rfl (by decide +kernel) ⟨Nat.le_of_ble_eq_true rfl, Nat.le_of_ble_eq_true rfl⟩) rfl 0 rfl rfl d_HoldQueueLaw_law_381 ⟨Nat.le_of_ble_eq_true rfl, Nat.le_of_ble_eq_true rfl⟩))) ?_
  refine And.intro (gz_o_pop F.1 F.2.1 d_HoldQueueLaw_law_384) ?_
  refine And.intro (gz_o_aload_n F.1 F.2.1 2 d_HoldQueueLaw_law_385 rfl) ?_
  refine And.intro (gz_o_aload_n F.1 F.2.1 0 d_HoldQueueLaw_law_386 rfl) ?_
  refine And.intro (gz_o_iload_n F.1 F.2.1 3 d_HoldQueueLaw_law_387 rfl) ?_
  refine And.intro (gz_o_iconst F.1 F.2.1 1 d_HoldQueueLaw_law_388 (by decide)) ?_
  refine And.intro (gz_o_iadd F.1 F.2.1 d_HoldQueueLaw_law_389) ?_
  refine And.intro (gz_o_ild (l_ild F hX hbl d_HoldQueueLaw_law_390)) ?_
  refine And.intro (gz_o_aload_n F.1 F.2.1 0 d_HoldQueueLaw_law_391 rfl) ?_
  refine And.intro (gz_o_iload_n F.1 F.2.1 3 d_HoldQueueLaw_law_392 rfl) ?_
  refine And.intro (gz_o_iconst F.1 F.2.1 2 d_HoldQueueLaw_law_393 (by decide)) ?_
  refine And.intro (gz_o_iadd F.1 F.2.1 d_HoldQueueLaw_law_394) ?_
  refine And.intro (gz_o_ild (l_ild F hX hbl d_HoldQueueLaw_law_395)) ?_
  exact trivial
set_option maxHeartbeats 8000000 in
set_option maxRecDepth 100000 in
theorem l_o4 (F : gz_F p s m #[Value.ref b] meth c code 4 ret lw_gd R_law) (hX : va_X b L xs s s.heap) (hbl : b < s.heap.size) : gz_oks (gz_Z p l e room_1 s m #[Value.ref b] below meth c 34 2617 (lw_Z below #[Value.ref b] s) 4 (l_a ax am b) (l_G D kx km ax am s)) (fun r _ => r = some 1) ([(396, gz_c2I 399 1 (fun u x y => m_back_p u.2 x y) (fun u x y => m_back_r u.2 x y) (fun u x y => (u.1, m_back_s u.2 x y))), (399, gz_pop 400), (400, gz_goto 703), (403, gz_lda 404 1), (404, gz_lda 405 0), (405, gz_ldi 406 3), (406, gz_push 407 (gz_i 1)), (407, gz_iop 408 (fun x y => x + y)), (408, gz_ild 409 (l_ai L xs)), (409, gz_c1I 412 0 (fun u x => x_arrive_p u.1 x) (fun u x => x_arrive_r u.1 x) (fun u x => (x_arrive_s u.1 x, u.2))), (412, gz_pop 413), (413, gz_lda 414 2), (414, gz_lda 415 0), (415, gz_ldi 416 3), (416, gz_push 417 (gz_i 1)), (417, gz_iop 418 (fun x y => x + y)), (418, gz_ild 419 (l_ai L xs)), (419, gz_c1I 422 1 (fun u x => m_arrive_p u.2 x) (fun u x => m_arrive_r u.2 x) (fun u x => (u.1, m_arrive_s u.2 x))), (422, gz_pop 423), (423, gz_goto 703), (426, gz_lda 427 1), (427, gz_lda 428 0), (428, gz_ldi 429 3), (429, gz_push 430 (gz_i 1)), (430, gz_iop 431 (fun x y => x + y)), (431, gz_ild 432 (l_ai L xs)), (432, gz_c1I 435 0 (fun u x => x_pick_p u.1 x) (fun u x => x_pick_r u.1 x) (fun u x => (x_pick_s u.1 x, u.2))), (435, gz_pop 436), (436, gz_lda 437 2), (437, gz_lda 438 0), (438, gz_ldi 439 3), (439, gz_push 440 (gz_i 1)), (440, gz_iop 441 (fun x y => x + y)), (441, gz_ild 442 (l_ai L xs)), (442, gz_c1I 445 1 (fun u x => m_pick_p u.2 x) (fun u x => m_pick_r u.2 x) (fun u x => (u.1, m_pick_s u.2 x))), (445, gz_pop 446), (446, gz_goto 703), (449, gz_lda 450 1), (450, gz_lda 451 0), (451, gz_ldi 452 3), (452, gz_push 453 (gz_i 1)), (453, gz_iop 454 (fun x y => x + y)), (454, gz_ild 455 (l_ai L xs)), (455, gz_c1I 458 0 (fun u x => x_lend_p u.1 x) (fun u x => x_lend_r u.1 x) (fun u x => (x_lend_s u.1 x, u.2))), (458, gz_pop 459), (459, gz_lda 460 2), (460, gz_lda 461 0), (461, gz_ldi 462 3), (462, gz_push 463 (gz_i 1)), (463, gz_iop 464 (fun x y => x + y)), (464, gz_ild 465 (l_ai L xs)), (465, gz_c1I 468 1 (fun u x => m_lend_p u.2 x) (fun u x => m_lend_r u.2 x) (fun u x => (u.1, m_lend_s u.2 x))), (468, gz_pop 469), (469, gz_goto 703), (472, gz_lda 473 1), (473, gz_lda 474 0), (474, gz_ldi 475 3), (475, gz_push 476 (gz_i 1)), (476, gz_iop 477 (fun x y => x + y)), (477, gz_ild 478 (l_ai L xs))] : List (Nat × gz_T (q_S × q_S))) := by
  refine And.intro (gz_o_c2I (fun u x y hp => gz_cb2 (m_has am km) (fun _ h => h) (gz_runV (a := l_a ax am b) (i := 1) (bs := [gz_i x, gz_i y]) F.2.2.2.2.2.2.2 ⟨F.1, F.2.1, F.2.2.2.1, F.2.2.2.2.1, F.2.2.2.2.2.1⟩ (m_back_c l D am km u.2 x y hp) (cwV 2 F.2.2.2.2.2.1 (gz_gV lw_good wi_413 wi_414 m_back_sl wi_5 m_back_k) rfl rfl rfl (by decide +kernel) ⟨Nat.le_of_ble_eq_true rfl, Nat.le_of_ble_eq_true rfl⟩) rfl 0 rfl rfl d_HoldQueueLaw_law_396 ⟨Nat.le_of_ble_eq_true rfl, Nat.le_of_ble_eq_true rfl⟩))) ?_
  refine And.intro (gz_o_pop F.1 F.2.1 d_HoldQueueLaw_law_399) ?_
  refine And.intro (gz_o_goto F.1 F.2.1 703 d_HoldQueueLaw_law_400 (by decide)) ?_
  refine And.intro (gz_o_aload_n F.1 F.2.1 1 d_HoldQueueLaw_law_403 rfl) ?_
  refine And.intro (gz_o_aload_n F.1 F.2.1 0 d_HoldQueueLaw_law_404 rfl) ?_
  refine And.intro (gz_o_iload_n F.1 F.2.1 3 d_HoldQueueLaw_law_405 rfl) ?_
  refine And.intro (gz_o_iconst F.1 F.2.1 1 d_HoldQueueLaw_law_406 (by decide)) ?_
  refine And.intro (gz_o_iadd F.1 F.2.1 d_HoldQueueLaw_law_407) ?_
  refine And.intro (gz_o_ild (l_ild F hX hbl d_HoldQueueLaw_law_408)) ?_
  refine And.intro (gz_o_c1I (fun u x hp => gz_cb1 (x_has ax kx) (fun _ h => h) (gz_runV (a := l_a ax am b) (i := 0) (bs := [gz_i x]) F.2.2.2.2.2.2.2 ⟨F.1, F.2.1, F.2.2.2.1, F.2.2.2.2.1, F.2.2.2.2.2.1⟩ (x_arrive_c l D ax kx u.1 x hp) (cwV 1 F.2.2.2.2.2.1 (gz_gV lw_good wi_226 wi_227 x_arrive_sl wi_1 x_arrive_k) rfl rfl rfl (by decide +kernel) ⟨Nat.le_of_ble_eq_true rfl, Nat.le_of_ble_eq_true rfl⟩) rfl 0 rfl rfl d_HoldQueueLaw_law_409 ⟨Nat.le_of_ble_eq_true rfl, Nat.le_of_ble_eq_true rfl⟩))) ?_
  refine And.intro (gz_o_pop F.1 F.2.1 d_HoldQueueLaw_law_412) ?_
  refine And.intro (gz_o_aload_n F.1 F.2.1 2 d_HoldQueueLaw_law_413 rfl) ?_
  refine And.intro (gz_o_aload_n F.1 F.2.1 0 d_HoldQueueLaw_law_414 rfl) ?_
  refine And.intro (gz_o_iload_n F.1 F.2.1 3 d_HoldQueueLaw_law_415 rfl) ?_
  refine And.intro (gz_o_iconst F.1 F.2.1 1 d_HoldQueueLaw_law_416 (by decide)) ?_
  refine And.intro (gz_o_iadd F.1 F.2.1 d_HoldQueueLaw_law_417) ?_
  refine And.intro (gz_o_ild (l_ild F hX hbl d_HoldQueueLaw_law_418)) ?_
  refine And.intro (gz_o_c1I (fun u x hp => gz_cb2 (m_has am km) (fun _ h => h) (gz_runV (a := l_a ax am b) (i := 1) (bs := [gz_i x]) F.2.2.2.2.2.2.2 ⟨F.1, F.2.1, F.2.2.2.1, F.2.2.2.2.1, F.2.2.2.2.2.1⟩ (m_arrive_c l D am km u.2 x hp) (cwV 1 F.2.2.2.2.2.1 (gz_gV lw_good wi_421 wi_422 m_arrive_sl wi_5 m_arrive_k) rfl rfl rfl (by decide +kernel) ⟨Nat.le_of_ble_eq_true rfl, Nat.le_of_ble_eq_true rfl⟩) rfl 0 rfl rfl d_HoldQueueLaw_law_419 ⟨Nat.le_of_ble_eq_true rfl, Nat.le_of_ble_eq_true rfl⟩))) ?_
  refine And.intro (gz_o_pop F.1 F.2.1 d_HoldQueueLaw_law_422) ?_
  refine And.intro (gz_o_goto F.1 F.2.1 703 d_HoldQueueLaw_law_423 (by decide)) ?_
  refine And.intro (gz_o_aload_n F.1 F.2.1 1 d_HoldQueueLaw_law_426 rfl) ?_
  refine And.intro (gz_o_aload_n F.1 F.2.1 0 d_HoldQueueLaw_law_427 rfl) ?_
  refine And.intro (gz_o_iload_n F.1 F.2.1 3 d_HoldQueueLaw_law_428 rfl) ?_
  refine And.intro (gz_o_iconst F.1 F.2.1 1 d_HoldQueueLaw_law_429 (by decide)) ?_
  refine And.intro (gz_o_iadd F.1 F.2.1 d_HoldQueueLaw_law_430) ?_
  refine And.intro (gz_o_ild (l_ild F hX hbl d_HoldQueueLaw_law_431)) ?_
  refine And.intro (gz_o_c1I (fun u x hp => gz_cb1 (x_has ax kx) (fun _ h => h) (gz_runV (a := l_a ax am b) (i := 0) (bs := [gz_i x]) F.2.2.2.2.2.2.2 ⟨F.1, F.2.1, F.2.2.2.1, F.2.2.2.2.1, F.2.2.2.2.2.1⟩ (x_pick_c l D ax kx u.1 x hp) (cwV 1 F.2.2.2.2.2.1 (gz_gV lw_good wi_234 wi_235 x_pick_sl wi_1 x_pick_k) rfl rfl rfl (by decide +kernel) ⟨Nat.le_of_ble_eq_true rfl, Nat.le_of_ble_eq_true rfl⟩) rfl 0 rfl rfl d_HoldQueueLaw_law_432 ⟨Nat.le_of_ble_eq_true rfl, Nat.le_of_ble_eq_true rfl⟩))) ?_
  refine And.intro (gz_o_pop F.1 F.2.1 d_HoldQueueLaw_law_435) ?_
  refine And.intro (gz_o_aload_n F.1 F.2.1 2 d_HoldQueueLaw_law_436 rfl) ?_
  refine And.intro (gz_o_aload_n F.1 F.2.1 0 d_HoldQueueLaw_law_437 rfl) ?_
  refine And.intro (gz_o_iload_n F.1 F.2.1 3 d_HoldQueueLaw_law_438 rfl) ?_
  refine And.intro (gz_o_iconst F.1 F.2.1 1 d_HoldQueueLaw_law_439 (by decide)) ?_
  refine And.intro (gz_o_iadd F.1 F.2.1 d_HoldQueueLaw_law_440) ?_
  refine And.intro (gz_o_ild (l_ild F hX hbl d_HoldQueueLaw_law_441)) ?_
  refine And.intro (gz_o_c1I (fun u x hp => gz_cb2 (m_has am km) (fun _ h => h) (gz_runV (a := l_a ax am b) (i := 1) (bs := [gz_i x]) F.2.2.2.2.2.2.2 ⟨F.1, F.2.1, F.2.2.2.1, F.2.2.2.2.1, F.2.2.2.2.2.1⟩ (m_pick_c l D am km u.2 x hp) (cwV 1 F.2.2.2.2.2.1 (gz_gV lw_good wi_425 wi_426 m_pick_sl wi_5 m_pick_k) rfl rfl rfl (by decide +kernel) ⟨Nat.le_of_ble_eq_true rfl, Nat.le_of_ble_eq_true rfl⟩) rfl 0 rfl rfl d_HoldQueueLaw_law_442 ⟨Nat.le_of_ble_eq_true rfl, Nat.le_of_ble_eq_true rfl⟩))) ?_
  refine And.intro (gz_o_pop F.1 F.2.1 d_HoldQueueLaw_law_445) ?_
  refine And.intro (gz_o_goto F.1 F.2.1 703 d_HoldQueueLaw_law_446 (by decide)) ?_
  refine And.intro (gz_o_aload_n F.1 F.2.1 1 d_HoldQueueLaw_law_449 rfl) ?_
  refine And.intro (gz_o_aload_n F.1 F.2.1 0 d_HoldQueueLaw_law_450 rfl) ?_
  refine And.intro (gz_o_iload_n F.1 F.2.1 3 d_HoldQueueLaw_law_451 rfl) ?_
  refine And.intro (gz_o_iconst F.1 F.2.1 1 d_HoldQueueLaw_law_452 (by decide)) ?_
  refine And.intro (gz_o_iadd F.1 F.2.1 d_HoldQueueLaw_law_453) ?_
  refine And.intro (gz_o_ild (l_ild F hX hbl d_HoldQueueLaw_law_454)) ?_
  refine And.intro (gz_o_c1I (fun u x hp => gz_cb1 (x_has ax kx) (fun _ h => h) (gz_runV (a := l_a ax am b) (i := 0) (bs := [gz_i x]) F.2.2.2.2.2.2.2 ⟨F.1, F.2.1, F.2.2.2.1, F.2.2.2.2.1, F.2.2.2.2.2.1⟩ (x_lend_c l D ax kx u.1 x hp) (cwV 1 F.2.2.2.2.2.1 (gz_gV lw_good wi_238 wi_239 x_lend_sl wi_1 x_lend_k) rfl rfl rfl (by decide +kernel) ⟨Nat.le_of_ble_eq_true rfl, Nat.le_of_ble_eq_true rfl⟩) rfl 0 rfl rfl d_HoldQueueLaw_law_455 ⟨Nat.le_of_ble_eq_true rfl, Nat.le_of_ble_eq_true rfl⟩))) ?_
  refine And.intro (gz_o_pop F.1 F.2.1 d_HoldQueueLaw_law_458) ?_
  refine And.intro (gz_o_aload_n F.1 F.2.1 2 d_HoldQueueLaw_law_459 rfl) ?_
  refine And.intro (gz_o_aload_n F.1 F.2.1 0 d_HoldQueueLaw_law_460 rfl) ?_
  refine And.intro (gz_o_iload_n F.1 F.2.1 3 d_HoldQueueLaw_law_461 rfl) ?_
  refine And.intro (gz_o_iconst F.1 F.2.1 1 d_HoldQueueLaw_law_462 (by decide)) ?_
  refine And.intro (gz_o_iadd F.1 F.2.1 d_HoldQueueLaw_law_463) ?_
  refine And.intro (gz_o_ild (l_ild F hX hbl d_HoldQueueLaw_law_464)) ?_
  refine And.intro (gz_o_c1I (fun u x hp => gz_cb2 (m_has am km) (fun _ h => h) (gz_runV (a := l_a ax am b) (i := 1) (bs := [gz_i x]) F.2.2.2.2.2.2.2 ⟨F.1, F.2.1, F.2.2.2.1, F.2.2.2.2.1, F.2.2.2.2.2.1⟩ (m_lend_c l D am km u.2 x hp) (cwV 1 F.2.2.2.2.2.1 (gz_gV lw_good wi_429 wi_430 m_lend_sl wi_5 m_lend_k) rfl rfl rfl (by decide +kernel) ⟨Nat.le_of_ble_eq_true rfl, Nat.le_of_ble_eq_true rfl⟩) rfl 0 rfl rfl d_HoldQueueLaw_law_465 ⟨Nat.le_of_ble_eq_true rfl, Nat.le_of_ble_eq_true rfl⟩))) ?_
  refine And.intro (gz_o_pop F.1 F.2.1 d_HoldQueueLaw_law_468) ?_
  refine And.intro (gz_o_goto F.1 F.2.1 703 d_HoldQueueLaw_law_469 (by decide)) ?_
  refine And.intro (gz_o_aload_n F.1 F.2.1 1 d_HoldQueueLaw_law_472 rfl) ?_
  refine And.intro (gz_o_aload_n F.1 F.2.1 0 d_HoldQueueLaw_law_473 rfl) ?_
  refine And.intro (gz_o_iload_n F.1 F.2.1 3 d_HoldQueueLaw_law_474 rfl) ?_
  refine And.intro (gz_o_iconst F.1 F.2.1 1 d_HoldQueueLaw_law_475 (by decide)) ?_
  refine And.intro (gz_o_iadd F.1 F.2.1 d_HoldQueueLaw_law_476) ?_
  refine And.intro (gz_o_ild (l_ild F hX hbl d_HoldQueueLaw_law_477)) ?_
  exact trivial
set_option maxHeartbeats 8000000 in
set_option maxRecDepth 100000 in
theorem l_o5 (F : gz_F p s m #[Value.ref b] meth c code 4 ret lw_gd R_law) (hX : va_X b L xs s s.heap) (hbl : b < s.heap.size) : gz_oks (gz_Z p l e room_1 s m #[Value.ref b] below meth c 34 2617 (lw_Z below #[Value.ref b] s) 4 (l_a ax am b) (l_G D kx km ax am s)) (fun r _ => r = some 1) ([(478, gz_c1I 481 0 (fun u x => x_cancel_p u.1 x) (fun u x => x_cancel_r u.1 x) (fun u x => (x_cancel_s u.1 x, u.2))), (481, gz_pop 482), (482, gz_lda 483 2), (483, gz_lda 484 0), (484, gz_ldi 485 3), (485, gz_push 486 (gz_i 1)), (486, gz_iop 487 (fun x y => x + y)), (487, gz_ild 488 (l_ai L xs)), (488, gz_c1I 491 1 (fun u x => m_cancel_p u.2 x) (fun u x => m_cancel_r u.2 x) (fun u x => (u.1, m_cancel_s u.2 x))), (491, gz_pop 492), (492, gz_goto 703), (495, gz_lda 496 1), (496, gz_lda 497 0), (497, gz_ldi 498 3), (498, gz_push 499 (gz_i 1)), (499, gz_iop 500 (fun x y => x + y)), (500, gz_ild 501 (l_ai L xs)), (501, gz_itol 502), (502, gz_push 504 (gz_i 32)), (504, gz_lsh 505 (fun x y => x <<< (y.toInt64 &&& 63))), (505, gz_lda 506 0), (506, gz_ldi 507 3), (507, gz_push 508 (gz_i 2)), (508, gz_iop 509 (fun x y => x + y)), (509, gz_ild 510 (l_ai L xs)), (510, gz_itol 511), (511, gz_push 514 (gz_l 4294967295)), (514, gz_lop 515 (fun x y => x &&& y)), (515, gz_lop 516 (fun x y => x ||| y)), (516, gz_clI 519 0 (fun u x => x_tick_p u.1 x) (fun u x => x_tick_r u.1 x) (fun u x => (x_tick_s u.1 x, u.2))), (519, gz_lda 520 2), (520, gz_lda 521 0), (521, gz_ldi 522 3), (522, gz_push 523 (gz_i 1)), (523, gz_iop 524 (fun x y => x + y)), (524, gz_ild 525 (l_ai L xs)), (525, gz_itol 526), (526, gz_push 528 (gz_i 32)), (528, gz_lsh 529 (fun x y => x <<< (y.toInt64 &&& 63))), (529, gz_lda 530 0), (530, gz_ldi 531 3), (531, gz_push 532 (gz_i 2)), (532, gz_iop 533 (fun x y => x + y)), (533, gz_ild 534 (l_ai L xs)), (534, gz_itol 535), (535, gz_push 538 (gz_l 4294967295)), (538, gz_lop 539 (fun x y => x &&& y)), (539, gz_lop 540 (fun x y => x ||| y)), (540, gz_clI 543 1 (fun u x => m_tick_p u.2 x) (fun u x => m_tick_r u.2 x) (fun u x => (u.1, m_tick_s u.2 x))), (543, gz_if2 546 703 (fun x y => x = y) (fun x y => ¬ x = y)), (546, gz_push 547 (gz_i 0)), (547, gz_iret), (548, gz_lda 549 1), (549, gz_lda 550 0), (550, gz_ldi 551 3), (551, gz_push 552 (gz_i 1)), (552, gz_iop 553 (fun x y => x + y)), (553, gz_ild 554 (l_ai L xs)), (554, gz_c1I 557 0 (fun u x => x_span_p u.1 x) (fun u x => x_span_r u.1 x) (fun u x => (x_span_s u.1 x, u.2))), (557, gz_pop 558)] : List (Nat × gz_T (q_S × q_S))) := by
  refine And.intro (gz_o_c1I (fun u x hp => gz_cb1 (x_has ax kx) (fun _ h => h) (gz_runV (a := l_a ax am b) (i := 0) (bs := [gz_i x]) F.2.2.2.2.2.2.2 ⟨F.1, F.2.1, F.2.2.2.1, F.2.2.2.2.1, F.2.2.2.2.2.1⟩ (x_cancel_c l D ax kx u.1 x hp) (cwV 1 F.2.2.2.2.2.1 (gz_gV lw_good wi_242 wi_243 x_cancel_sl wi_1 x_cancel_k) rfl rfl rfl (by decide +kernel) ⟨Nat.le_of_ble_eq_true rfl, Nat.le_of_ble_eq_true rfl⟩) rfl 0 rfl rfl d_HoldQueueLaw_law_478 ⟨Nat.le_of_ble_eq_true rfl, Nat.le_of_ble_eq_true rfl⟩))) ?_
  refine And.intro (gz_o_pop F.1 F.2.1 d_HoldQueueLaw_law_481) ?_
  refine And.intro (gz_o_aload_n F.1 F.2.1 2 d_HoldQueueLaw_law_482 rfl) ?_
  refine And.intro (gz_o_aload_n F.1 F.2.1 0 d_HoldQueueLaw_law_483 rfl) ?_
  refine And.intro (gz_o_iload_n F.1 F.2.1 3 d_HoldQueueLaw_law_484 rfl) ?_
  refine And.intro (gz_o_iconst F.1 F.2.1 1 d_HoldQueueLaw_law_485 (by decide)) ?_
  refine And.intro (gz_o_iadd F.1 F.2.1 d_HoldQueueLaw_law_486) ?_
  refine And.intro (gz_o_ild (l_ild F hX hbl d_HoldQueueLaw_law_487)) ?_
  refine And.intro (gz_o_c1I (fun u x hp => gz_cb2 (m_has am km) (fun _ h => h) (gz_runV (a := l_a ax am b) (i := 1) (bs := [gz_i x]) F.2.2.2.2.2.2.2 ⟨F.1, F.2.1, F.2.2.2.1, F.2.2.2.2.1, F.2.2.2.2.2.1⟩ (m_cancel_c l D am km u.2 x hp) (cwV 1 F.2.2.2.2.2.1 (gz_gV lw_good wi_433 wi_434 m_cancel_sl wi_5 m_cancel_k) rfl rfl rfl (by decide +kernel) ⟨Nat.le_of_ble_eq_true rfl, Nat.le_of_ble_eq_true rfl⟩) rfl 0 rfl rfl d_HoldQueueLaw_law_488 ⟨Nat.le_of_ble_eq_true rfl, Nat.le_of_ble_eq_true rfl⟩))) ?_
  refine And.intro (gz_o_pop F.1 F.2.1 d_HoldQueueLaw_law_491) ?_
  refine And.intro (gz_o_goto F.1 F.2.1 703 d_HoldQueueLaw_law_492 (by decide)) ?_
  refine And.intro (gz_o_aload_n F.1 F.2.1 1 d_HoldQueueLaw_law_495 rfl) ?_
  refine And.intro (gz_o_aload_n F.1 F.2.1 0 d_HoldQueueLaw_law_496 rfl) ?_
  refine And.intro (gz_o_iload_n F.1 F.2.1 3 d_HoldQueueLaw_law_497 rfl) ?_
  refine And.intro (gz_o_iconst F.1 F.2.1 1 d_HoldQueueLaw_law_498 (by decide)) ?_
  refine And.intro (gz_o_iadd F.1 F.2.1 d_HoldQueueLaw_law_499) ?_
  refine And.intro (gz_o_ild (l_ild F hX hbl d_HoldQueueLaw_law_500)) ?_
  refine And.intro (gz_o_i2l F.1 F.2.1 d_HoldQueueLaw_law_501) ?_
  refine And.intro (gz_o_bipush F.1 F.2.1 32 d_HoldQueueLaw_law_502 (by decide)) ?_
  refine And.intro (gz_o_lshl F.1 F.2.1 d_HoldQueueLaw_law_504) ?_
  refine And.intro (gz_o_aload_n F.1 F.2.1 0 d_HoldQueueLaw_law_505 rfl) ?_
  refine And.intro (gz_o_iload_n F.1 F.2.1 3 d_HoldQueueLaw_law_506 rfl) ?_
  refine And.intro (gz_o_iconst F.1 F.2.1 2 d_HoldQueueLaw_law_507 (by decide)) ?_
  refine And.intro (gz_o_iadd F.1 F.2.1 d_HoldQueueLaw_law_508) ?_
  refine And.intro (gz_o_ild (l_ild F hX hbl d_HoldQueueLaw_law_509)) ?_
  refine And.intro (gz_o_i2l F.1 F.2.1 d_HoldQueueLaw_law_510) ?_
  refine And.intro (gz_o_ldc2 F.1 F.2.1 4294967295 F.2.2.2.2.1 (F.2.2.2.2.2.1 (.constantLong R_law 37 4294967295) (by decide +kernel)) d_HoldQueueLaw_law_511) ?_
  refine And.intro (gz_o_land F.1 F.2.1 d_HoldQueueLaw_law_514) ?_
  refine And.intro (gz_o_lor F.1 F.2.1 d_HoldQueueLaw_law_515) ?_
  refine And.intro (gz_o_clI (fun u x hp => gz_cb1 (x_has ax kx) (fun _ h => h) (gz_runV (a := l_a ax am b) (i := 0) (bs := [gz_l x]) F.2.2.2.2.2.2.2 ⟨F.1, F.2.1, F.2.2.2.1, F.2.2.2.2.1, F.2.2.2.2.2.1⟩ (x_tick_c l D ax kx u.1 x hp) (cwV 1 F.2.2.2.2.2.1 (gz_gV lw_good wi_251 wi_252 x_tick_sl wi_1 x_tick_k) rfl rfl rfl (by decide +kernel) ⟨Nat.le_of_ble_eq_true rfl, Nat.le_of_ble_eq_true rfl⟩) rfl 0 rfl rfl d_HoldQueueLaw_law_516 ⟨Nat.le_of_ble_eq_true rfl, Nat.le_of_ble_eq_true rfl⟩))) ?_
  refine And.intro (gz_o_aload_n F.1 F.2.1 2 d_HoldQueueLaw_law_519 rfl) ?_
  refine And.intro (gz_o_aload_n F.1 F.2.1 0 d_HoldQueueLaw_law_520 rfl) ?_
  refine And.intro (gz_o_iload_n F.1 F.2.1 3 d_HoldQueueLaw_law_521 rfl) ?_
  refine And.intro (gz_o_iconst F.1 F.2.1 1 d_HoldQueueLaw_law_522 (by decide)) ?_
  refine And.intro (gz_o_iadd F.1 F.2.1 d_HoldQueueLaw_law_523) ?_
  refine And.intro (gz_o_ild (l_ild F hX hbl d_HoldQueueLaw_law_524)) ?_
  refine And.intro (gz_o_i2l F.1 F.2.1 d_HoldQueueLaw_law_525) ?_
  refine And.intro (gz_o_bipush F.1 F.2.1 32 d_HoldQueueLaw_law_526 (by decide)) ?_
  refine And.intro (gz_o_lshl F.1 F.2.1 d_HoldQueueLaw_law_528) ?_
  refine And.intro (gz_o_aload_n F.1 F.2.1 0 d_HoldQueueLaw_law_529 rfl) ?_
  refine And.intro (gz_o_iload_n F.1 F.2.1 3 d_HoldQueueLaw_law_530 rfl) ?_
  refine And.intro (gz_o_iconst F.1 F.2.1 2 d_HoldQueueLaw_law_531 (by decide)) ?_
  refine And.intro (gz_o_iadd F.1 F.2.1 d_HoldQueueLaw_law_532) ?_
  refine And.intro (gz_o_ild (l_ild F hX hbl d_HoldQueueLaw_law_533)) ?_
  refine And.intro (gz_o_i2l F.1 F.2.1 d_HoldQueueLaw_law_534) ?_
  refine And.intro (gz_o_ldc2 F.1 F.2.1 4294967295 F.2.2.2.2.1 (F.2.2.2.2.2.1 (.constantLong R_law 37 4294967295) (by decide +kernel)) d_HoldQueueLaw_law_535) ?_
  refine And.intro (gz_o_land F.1 F.2.1 d_HoldQueueLaw_law_538) ?_
  refine And.intro (gz_o_lor F.1 F.2.1 d_HoldQueueLaw_law_539) ?_
  refine And.intro (gz_o_clI (fun u x hp => gz_cb2 (m_has am km) (fun _ h => h) (gz_runV (a := l_a ax am b) (i := 1) (bs := [gz_l x]) F.2.2.2.2.2.2.2 ⟨F.1, F.2.1, F.2.2.2.1, F.2.2.2.2.1, F.2.2.2.2.2.1⟩ (m_tick_c l D am km u.2 x hp) (cwV 1 F.2.2.2.2.2.1 (gz_gV lw_good wi_441 wi_442 m_tick_sl wi_5 m_tick_k) rfl rfl rfl (by decide +kernel) ⟨Nat.le_of_ble_eq_true rfl, Nat.le_of_ble_eq_true rfl⟩) rfl 0 rfl rfl d_HoldQueueLaw_law_540 ⟨Nat.le_of_ble_eq_true rfl, Nat.le_of_ble_eq_true rfl⟩))) ?_
  refine And.intro (gz_o_ic_eq F.1 F.2.1 703 d_HoldQueueLaw_law_543 (by decide)) ?_
  refine And.intro (gz_o_iconst F.1 F.2.1 0 d_HoldQueueLaw_law_546 (by decide)) ?_
  refine And.intro (gz_o_iret (l_end F d_HoldQueueLaw_law_547)) ?_
  refine And.intro (gz_o_aload_n F.1 F.2.1 1 d_HoldQueueLaw_law_548 rfl) ?_
  refine And.intro (gz_o_aload_n F.1 F.2.1 0 d_HoldQueueLaw_law_549 rfl) ?_
  refine And.intro (gz_o_iload_n F.1 F.2.1 3 d_HoldQueueLaw_law_550 rfl) ?_
  refine And.intro (gz_o_iconst F.1 F.2.1 1 d_HoldQueueLaw_law_551 (by decide)) ?_
  refine And.intro (gz_o_iadd F.1 F.2.1 d_HoldQueueLaw_law_552) ?_
  refine And.intro (gz_o_ild (l_ild F hX hbl d_HoldQueueLaw_law_553)) ?_
  refine And.intro (gz_o_c1I (fun u x hp => gz_cb1 (x_has ax kx) (fun _ h => h) (gz_runV (a := l_a ax am b) (i := 0) (bs := [gz_i x]) F.2.2.2.2.2.2.2 ⟨F.1, F.2.1, F.2.2.2.1, F.2.2.2.2.1, F.2.2.2.2.2.1⟩ (x_span_c l D ax kx u.1 x) (cwV 1 F.2.2.2.2.2.1 (gz_gV lw_good wi_256 wi_257 x_span_sl wi_1 x_span_k) rfl rfl rfl (by decide +kernel) ⟨Nat.le_of_ble_eq_true rfl, Nat.le_of_ble_eq_true rfl⟩) rfl 0 rfl rfl d_HoldQueueLaw_law_554 ⟨Nat.le_of_ble_eq_true rfl, Nat.le_of_ble_eq_true rfl⟩))) ?_
  refine And.intro (gz_o_pop F.1 F.2.1 d_HoldQueueLaw_law_557) ?_
  exact trivial
set_option maxHeartbeats 8000000 in
set_option maxRecDepth 100000 in
theorem l_o6 (F : gz_F p s m #[Value.ref b] meth c code 4 ret lw_gd R_law) (hX : va_X b L xs s s.heap) (hbl : b < s.heap.size) : gz_oks (gz_Z p l e room_1 s m #[Value.ref b] below meth c 34 2617 (lw_Z below #[Value.ref b] s) 4 (l_a ax am b) (l_G D kx km ax am s)) (fun r _ => r = some 1) ([(558, gz_lda 559 2), (559, gz_lda 560 0), (560, gz_ldi 561 3), (561, gz_push 562 (gz_i 1)), (562, gz_iop 563 (fun x y => x + y)), (563, gz_ild 564 (l_ai L xs)), (564, gz_c1I 567 1 (fun u x => m_span_p u.2 x) (fun u x => m_span_r u.2 x) (fun u x => (u.1, m_span_s u.2 x))), (567, gz_pop 568), (568, gz_goto 703), (571, gz_lda 572 1), (572, gz_lda 573 0), (573, gz_ldi 574 3), (574, gz_push 575 (gz_i 1)), (575, gz_iop 576 (fun x y => x + y)), (576, gz_ild 577 (l_ai L xs)), (577, gz_lda 578 0), (578, gz_ldi 579 3), (579, gz_push 580 (gz_i 2)), (580, gz_iop 581 (fun x y => x + y)), (581, gz_ild 582 (l_ai L xs)), (582, gz_c2I 585 0 (fun u x y => x_rank_p u.1 x y) (fun u x y => x_rank_r u.1 x y) (fun u x y => (x_rank_s u.1 x y, u.2))), (585, gz_pop 586), (586, gz_lda 587 2), (587, gz_lda 588 0), (588, gz_ldi 589 3), (589, gz_push 590 (gz_i 1)), (590, gz_iop 591 (fun x y => x + y)), (591, gz_ild 592 (l_ai L xs)), (592, gz_lda 593 0), (593, gz_ldi 594 3), (594, gz_push 595 (gz_i 2)), (595, gz_iop 596 (fun x y => x + y)), (596, gz_ild 597 (l_ai L xs)), (597, gz_c2I 600 1 (fun u x y => m_rank_p u.2 x y) (fun u x y => m_rank_r u.2 x y) (fun u x y => (u.1, m_rank_s u.2 x y))), (600, gz_pop 601), (601, gz_goto 703), (604, gz_lda 605 1), (605, gz_lda 606 0), (606, gz_ldi 607 3), (607, gz_push 608 (gz_i 1)), (608, gz_iop 609 (fun x y => x + y)), (609, gz_ild 610 (l_ai L xs)), (610, gz_lda 611 0), (611, gz_ldi 612 3), (612, gz_push 613 (gz_i 2)), (613, gz_iop 614 (fun x y => x + y)), (614, gz_ild 615 (l_ai L xs)), (615, gz_c2I 618 0 (fun u x y => x_order_p u.1 x y) (fun u x y => x_order u.1 x y) (fun u x y => u)), (618, gz_pop 619), (619, gz_lda 620 2), (620, gz_lda 621 0), (621, gz_ldi 622 3), (622, gz_push 623 (gz_i 1)), (623, gz_iop 624 (fun x y => x + y)), (624, gz_ild 625 (l_ai L xs)), (625, gz_lda 626 0), (626, gz_ldi 627 3), (627, gz_push 628 (gz_i 2)), (628, gz_iop 629 (fun x y => x + y)), (629, gz_ild 630 (l_ai L xs))] : List (Nat × gz_T (q_S × q_S))) := by
  refine And.intro (gz_o_aload_n F.1 F.2.1 2 d_HoldQueueLaw_law_558 rfl) ?_
  refine And.intro (gz_o_aload_n F.1 F.2.1 0 d_HoldQueueLaw_law_559 rfl) ?_
  refine And.intro (gz_o_iload_n F.1 F.2.1 3 d_HoldQueueLaw_law_560 rfl) ?_
  refine And.intro (gz_o_iconst F.1 F.2.1 1 d_HoldQueueLaw_law_561 (by decide)) ?_
  refine And.intro (gz_o_iadd F.1 F.2.1 d_HoldQueueLaw_law_562) ?_
  refine And.intro (gz_o_ild (l_ild F hX hbl d_HoldQueueLaw_law_563)) ?_
  refine And.intro (gz_o_c1I (fun u x hp => gz_cb2 (m_has am km) (fun _ h => h) (gz_runV (a := l_a ax am b) (i := 1) (bs := [gz_i x]) F.2.2.2.2.2.2.2 ⟨F.1, F.2.1, F.2.2.2.1, F.2.2.2.2.1, F.2.2.2.2.2.1⟩ (m_span_c l D am km u.2 x) (cwV 1 F.2.2.2.2.2.1 (gz_gV lw_good wi_446 wi_447 m_span_sl wi_5 m_span_k) rfl rfl rfl (by decide +kernel) ⟨Nat.le_of_ble_eq_true rfl, Nat.le_of_ble_eq_true rfl⟩) rfl 0 rfl rfl d_HoldQueueLaw_law_564 ⟨Nat.le_of_ble_eq_true rfl, Nat.le_of_ble_eq_true rfl⟩))) ?_
  refine And.intro (gz_o_pop F.1 F.2.1 d_HoldQueueLaw_law_567) ?_
  refine And.intro (gz_o_goto F.1 F.2.1 703 d_HoldQueueLaw_law_568 (by decide)) ?_
  refine And.intro (gz_o_aload_n F.1 F.2.1 1 d_HoldQueueLaw_law_571 rfl) ?_
  refine And.intro (gz_o_aload_n F.1 F.2.1 0 d_HoldQueueLaw_law_572 rfl) ?_
  refine And.intro (gz_o_iload_n F.1 F.2.1 3 d_HoldQueueLaw_law_573 rfl) ?_
  refine And.intro (gz_o_iconst F.1 F.2.1 1 d_HoldQueueLaw_law_574 (by decide)) ?_
  refine And.intro (gz_o_iadd F.1 F.2.1 d_HoldQueueLaw_law_575) ?_
  refine And.intro (gz_o_ild (l_ild F hX hbl d_HoldQueueLaw_law_576)) ?_
  refine And.intro (gz_o_aload_n F.1 F.2.1 0 d_HoldQueueLaw_law_577 rfl) ?_
  refine And.intro (gz_o_iload_n F.1 F.2.1 3 d_HoldQueueLaw_law_578 rfl) ?_
  refine And.intro (gz_o_iconst F.1 F.2.1 2 d_HoldQueueLaw_law_579 (by decide)) ?_
  refine And.intro (gz_o_iadd F.1 F.2.1 d_HoldQueueLaw_law_580) ?_
  refine And.intro (gz_o_ild (l_ild F hX hbl d_HoldQueueLaw_law_581)) ?_
  refine And.intro (gz_o_c2I (fun u x y hp => gz_cb1 (x_has ax kx) (fun _ h => h) (gz_runV (a := l_a ax am b) (i := 0) (bs := [gz_i x, gz_i y]) F.2.2.2.2.2.2.2 ⟨F.1, F.2.1, F.2.2.2.1, F.2.2.2.2.1, F.2.2.2.2.2.1⟩ (x_rank_c l D ax kx u.1 x y hp) (cwV 2 F.2.2.2.2.2.1 (gz_gV lw_good wi_260 wi_261 x_rank_sl wi_1 x_rank_k) rfl rfl rfl (by decide +kernel) ⟨Nat.le_of_ble_eq_true rfl, Nat.le_of_ble_eq_true rfl⟩) rfl 0 rfl rfl d_HoldQueueLaw_law_582 ⟨Nat.le_of_ble_eq_true rfl, Nat.le_of_ble_eq_true rfl⟩))) ?_
  refine And.intro (gz_o_pop F.1 F.2.1 d_HoldQueueLaw_law_585) ?_
  refine And.intro (gz_o_aload_n F.1 F.2.1 2 d_HoldQueueLaw_law_586 rfl) ?_
  refine And.intro (gz_o_aload_n F.1 F.2.1 0 d_HoldQueueLaw_law_587 rfl) ?_
  refine And.intro (gz_o_iload_n F.1 F.2.1 3 d_HoldQueueLaw_law_588 rfl) ?_
  refine And.intro (gz_o_iconst F.1 F.2.1 1 d_HoldQueueLaw_law_589 (by decide)) ?_
  refine And.intro (gz_o_iadd F.1 F.2.1 d_HoldQueueLaw_law_590) ?_
  refine And.intro (gz_o_ild (l_ild F hX hbl d_HoldQueueLaw_law_591)) ?_
  refine And.intro (gz_o_aload_n F.1 F.2.1 0 d_HoldQueueLaw_law_592 rfl) ?_
  refine And.intro (gz_o_iload_n F.1 F.2.1 3 d_HoldQueueLaw_law_593 rfl) ?_
  refine And.intro (gz_o_iconst F.1 F.2.1 2 d_HoldQueueLaw_law_594 (by decide)) ?_
  refine And.intro (gz_o_iadd F.1 F.2.1 d_HoldQueueLaw_law_595) ?_
  refine And.intro (gz_o_ild (l_ild F hX hbl d_HoldQueueLaw_law_596)) ?_
  refine And.intro (gz_o_c2I (fun u x y hp => gz_cb2 (m_has am km) (fun _ h => h) (gz_runV (a := l_a ax am b) (i := 1) (bs := [gz_i x, gz_i y]) F.2.2.2.2.2.2.2 ⟨F.1, F.2.1, F.2.2.2.1, F.2.2.2.2.1, F.2.2.2.2.2.1⟩ (m_rank_c l D am km u.2 x y hp) (cwV 2 F.2.2.2.2.2.1 (gz_gV lw_good wi_450 wi_451 m_rank_sl wi_5 m_rank_k) rfl rfl rfl (by decide +kernel) ⟨Nat.le_of_ble_eq_true rfl, Nat.le_of_ble_eq_true rfl⟩) rfl 0 rfl rfl d_HoldQueueLaw_law_597 ⟨Nat.le_of_ble_eq_true rfl, Nat.le_of_ble_eq_true rfl⟩))) ?_
  refine And.intro (gz_o_pop F.1 F.2.1 d_HoldQueueLaw_law_600) ?_
  refine And.intro (gz_o_goto F.1 F.2.1 703 d_HoldQueueLaw_law_601 (by decide)) ?_
  refine And.intro (gz_o_aload_n F.1 F.2.1 1 d_HoldQueueLaw_law_604 rfl) ?_
  refine And.intro (gz_o_aload_n F.1 F.2.1 0 d_HoldQueueLaw_law_605 rfl) ?_
  refine And.intro (gz_o_iload_n F.1 F.2.1 3 d_HoldQueueLaw_law_606 rfl) ?_
  refine And.intro (gz_o_iconst F.1 F.2.1 1 d_HoldQueueLaw_law_607 (by decide)) ?_
  refine And.intro (gz_o_iadd F.1 F.2.1 d_HoldQueueLaw_law_608) ?_
  refine And.intro (gz_o_ild (l_ild F hX hbl d_HoldQueueLaw_law_609)) ?_
  refine And.intro (gz_o_aload_n F.1 F.2.1 0 d_HoldQueueLaw_law_610 rfl) ?_
  refine And.intro (gz_o_iload_n F.1 F.2.1 3 d_HoldQueueLaw_law_611 rfl) ?_
  refine And.intro (gz_o_iconst F.1 F.2.1 2 d_HoldQueueLaw_law_612 (by decide)) ?_
  refine And.intro (gz_o_iadd F.1 F.2.1 d_HoldQueueLaw_law_613) ?_
  refine And.intro (gz_o_ild (l_ild F hX hbl d_HoldQueueLaw_law_614)) ?_
  refine And.intro (gz_o_c2I (fun u x y hp => gz_cb1 (x_has ax kx) (fun _ h => h) (gz_runV (a := l_a ax am b) (i := 0) (bs := [gz_i x, gz_i y]) F.2.2.2.2.2.2.2 ⟨F.1, F.2.1, F.2.2.2.1, F.2.2.2.2.1, F.2.2.2.2.2.1⟩ (x_order_c l D ax kx u.1 x y hp) (cwV 2 F.2.2.2.2.2.1 (gz_gV lw_good wi_268 wi_269 x_order_sl wi_1 x_order_k) rfl rfl rfl (by decide +kernel) ⟨Nat.le_of_ble_eq_true rfl, Nat.le_of_ble_eq_true rfl⟩) rfl 0 rfl rfl d_HoldQueueLaw_law_615 ⟨Nat.le_of_ble_eq_true rfl, Nat.le_of_ble_eq_true rfl⟩))) ?_
  refine And.intro (gz_o_pop F.1 F.2.1 d_HoldQueueLaw_law_618) ?_
  refine And.intro (gz_o_aload_n F.1 F.2.1 2 d_HoldQueueLaw_law_619 rfl) ?_
  refine And.intro (gz_o_aload_n F.1 F.2.1 0 d_HoldQueueLaw_law_620 rfl) ?_
  refine And.intro (gz_o_iload_n F.1 F.2.1 3 d_HoldQueueLaw_law_621 rfl) ?_
  refine And.intro (gz_o_iconst F.1 F.2.1 1 d_HoldQueueLaw_law_622 (by decide)) ?_
  refine And.intro (gz_o_iadd F.1 F.2.1 d_HoldQueueLaw_law_623) ?_
  refine And.intro (gz_o_ild (l_ild F hX hbl d_HoldQueueLaw_law_624)) ?_
  refine And.intro (gz_o_aload_n F.1 F.2.1 0 d_HoldQueueLaw_law_625 rfl) ?_
  refine And.intro (gz_o_iload_n F.1 F.2.1 3 d_HoldQueueLaw_law_626 rfl) ?_
  refine And.intro (gz_o_iconst F.1 F.2.1 2 d_HoldQueueLaw_law_627 (by decide)) ?_
  refine And.intro (gz_o_iadd F.1 F.2.1 d_HoldQueueLaw_law_628) ?_
  refine And.intro (gz_o_ild (l_ild F hX hbl d_HoldQueueLaw_law_629)) ?_
  exact trivial
set_option maxHeartbeats 8000000 in
set_option maxRecDepth 100000 in
theorem l_o7 (F : gz_F p s m #[Value.ref b] meth c code 4 ret lw_gd R_law) (hX : va_X b L xs s s.heap) (hbl : b < s.heap.size) : gz_oks (gz_Z p l e room_1 s m #[Value.ref b] below meth c 34 2617 (lw_Z below #[Value.ref b] s) 4 (l_a ax am b) (l_G D kx km ax am s)) (fun r _ => r = some 1) ([(630, gz_c2I 633 1 (fun u x y => m_order_p u.2 x y) (fun u x y => m_order_r u.2 x y) (fun u x y => (u.1, m_order_s u.2 x y))), (633, gz_pop 634), (634, gz_goto 703), (637, gz_lda 638 1), (638, gz_lda 639 0), (639, gz_ldi 640 3), (640, gz_push 641 (gz_i 1)), (641, gz_iop 642 (fun x y => x + y)), (642, gz_ild 643 (l_ai L xs)), (643, gz_lda 644 0), (644, gz_ldi 645 3), (645, gz_push 646 (gz_i 2)), (646, gz_iop 647 (fun x y => x + y)), (647, gz_ild 648 (l_ai L xs)), (648, gz_c2I 651 0 (fun u x y => x_state_p u.1 x y) (fun u x y => x_state u.1 x y) (fun u x y => u)), (651, gz_pop 652), (652, gz_lda 653 2), (653, gz_lda 654 0), (654, gz_ldi 655 3), (655, gz_push 656 (gz_i 1)), (656, gz_iop 657 (fun x y => x + y)), (657, gz_ild 658 (l_ai L xs)), (658, gz_lda 659 0), (659, gz_ldi 660 3), (660, gz_push 661 (gz_i 2)), (661, gz_iop 662 (fun x y => x + y)), (662, gz_ild 663 (l_ai L xs)), (663, gz_c2I 666 1 (fun u x y => m_state_p u.2 x y) (fun u x y => m_state_r u.2 x y) (fun u x y => (u.1, m_state_s u.2 x y))), (666, gz_pop 667), (667, gz_goto 703), (670, gz_lda 671 1), (671, gz_lda 672 0), (672, gz_ldi 673 3), (673, gz_push 674 (gz_i 1)), (674, gz_iop 675 (fun x y => x + y)), (675, gz_ild 676 (l_ai L xs)), (676, gz_lda 677 0), (677, gz_ldi 678 3), (678, gz_push 679 (gz_i 2)), (679, gz_iop 680 (fun x y => x + y)), (680, gz_ild 681 (l_ai L xs)), (681, gz_c2I 684 0 (fun u x y => x_where_p u.1 x y) (fun u x y => x_where u.1 x y) (fun u x y => u)), (684, gz_pop 685), (685, gz_lda 686 2), (686, gz_lda 687 0), (687, gz_ldi 688 3), (688, gz_push 689 (gz_i 1)), (689, gz_iop 690 (fun x y => x + y)), (690, gz_ild 691 (l_ai L xs)), (691, gz_lda 692 0), (692, gz_ldi 693 3), (693, gz_push 694 (gz_i 2)), (694, gz_iop 695 (fun x y => x + y)), (695, gz_ild 696 (l_ai L xs)), (696, gz_c2I 699 1 (fun u x y => m_where_p u.2 x y) (fun u x y => m_where_r u.2 x y) (fun u x y => (u.1, m_where_s u.2 x y))), (699, gz_pop 700), (700, gz_goto 703), (703, gz_iinc 706 3 5), (706, gz_goto 18), (709, gz_push 710 (gz_i 1))] : List (Nat × gz_T (q_S × q_S))) := by
  refine And.intro (gz_o_c2I (fun u x y hp => gz_cb2 (m_has am km) (fun _ h => h) (gz_runV (a := l_a ax am b) (i := 1) (bs := [gz_i x, gz_i y]) F.2.2.2.2.2.2.2 ⟨F.1, F.2.1, F.2.2.2.1, F.2.2.2.2.1, F.2.2.2.2.2.1⟩ (m_order_c l D am km u.2 x y hp) (cwV 2 F.2.2.2.2.2.1 (gz_gV lw_good wi_458 wi_459 m_order_sl wi_5 m_order_k) rfl rfl rfl (by decide +kernel) ⟨Nat.le_of_ble_eq_true rfl, Nat.le_of_ble_eq_true rfl⟩) rfl 0 rfl rfl d_HoldQueueLaw_law_630 ⟨Nat.le_of_ble_eq_true rfl, Nat.le_of_ble_eq_true rfl⟩))) ?_
  refine And.intro (gz_o_pop F.1 F.2.1 d_HoldQueueLaw_law_633) ?_
  refine And.intro (gz_o_goto F.1 F.2.1 703 d_HoldQueueLaw_law_634 (by decide)) ?_
  refine And.intro (gz_o_aload_n F.1 F.2.1 1 d_HoldQueueLaw_law_637 rfl) ?_
  refine And.intro (gz_o_aload_n F.1 F.2.1 0 d_HoldQueueLaw_law_638 rfl) ?_
  refine And.intro (gz_o_iload_n F.1 F.2.1 3 d_HoldQueueLaw_law_639 rfl) ?_
  refine And.intro (gz_o_iconst F.1 F.2.1 1 d_HoldQueueLaw_law_640 (by decide)) ?_
  refine And.intro (gz_o_iadd F.1 F.2.1 d_HoldQueueLaw_law_641) ?_
  refine And.intro (gz_o_ild (l_ild F hX hbl d_HoldQueueLaw_law_642)) ?_
  refine And.intro (gz_o_aload_n F.1 F.2.1 0 d_HoldQueueLaw_law_643 rfl) ?_
  refine And.intro (gz_o_iload_n F.1 F.2.1 3 d_HoldQueueLaw_law_644 rfl) ?_
  refine And.intro (gz_o_iconst F.1 F.2.1 2 d_HoldQueueLaw_law_645 (by decide)) ?_
  refine And.intro (gz_o_iadd F.1 F.2.1 d_HoldQueueLaw_law_646) ?_
  refine And.intro (gz_o_ild (l_ild F hX hbl d_HoldQueueLaw_law_647)) ?_
  refine And.intro (gz_o_c2I (fun u x y hp => gz_cb1 (x_has ax kx) (fun _ h => h) (gz_runV (a := l_a ax am b) (i := 0) (bs := [gz_i x, gz_i y]) F.2.2.2.2.2.2.2 ⟨F.1, F.2.1, F.2.2.2.1, F.2.2.2.2.1, F.2.2.2.2.2.1⟩ (x_state_c l D ax kx u.1 x y hp) (cwV 2 F.2.2.2.2.2.1 (gz_gV lw_good wi_277 wi_278 x_state_sl wi_1 x_state_k) rfl rfl rfl (by decide +kernel) ⟨Nat.le_of_ble_eq_true rfl, Nat.le_of_ble_eq_true rfl⟩) rfl 0 rfl rfl d_HoldQueueLaw_law_648 ⟨Nat.le_of_ble_eq_true rfl, Nat.le_of_ble_eq_true rfl⟩))) ?_
  refine And.intro (gz_o_pop F.1 F.2.1 d_HoldQueueLaw_law_651) ?_
  refine And.intro (gz_o_aload_n F.1 F.2.1 2 d_HoldQueueLaw_law_652 rfl) ?_
  refine And.intro (gz_o_aload_n F.1 F.2.1 0 d_HoldQueueLaw_law_653 rfl) ?_
  refine And.intro (gz_o_iload_n F.1 F.2.1 3 d_HoldQueueLaw_law_654 rfl) ?_
  refine And.intro (gz_o_iconst F.1 F.2.1 1 d_HoldQueueLaw_law_655 (by decide)) ?_
  refine And.intro (gz_o_iadd F.1 F.2.1 d_HoldQueueLaw_law_656) ?_
  refine And.intro (gz_o_ild (l_ild F hX hbl d_HoldQueueLaw_law_657)) ?_
  refine And.intro (gz_o_aload_n F.1 F.2.1 0 d_HoldQueueLaw_law_658 rfl) ?_
  refine And.intro (gz_o_iload_n F.1 F.2.1 3 d_HoldQueueLaw_law_659 rfl) ?_
  refine And.intro (gz_o_iconst F.1 F.2.1 2 d_HoldQueueLaw_law_660 (by decide)) ?_
  refine And.intro (gz_o_iadd F.1 F.2.1 d_HoldQueueLaw_law_661) ?_
  refine And.intro (gz_o_ild (l_ild F hX hbl d_HoldQueueLaw_law_662)) ?_
  refine And.intro (gz_o_c2I (fun u x y hp => gz_cb2 (m_has am km) (fun _ h => h) (gz_runV (a := l_a ax am b) (i := 1) (bs := [gz_i x, gz_i y]) F.2.2.2.2.2.2.2 ⟨F.1, F.2.1, F.2.2.2.1, F.2.2.2.2.1, F.2.2.2.2.2.1⟩ (m_state_c l D am km u.2 x y hp) (cwV 2 F.2.2.2.2.2.1 (gz_gV lw_good wi_462 wi_463 m_state_sl wi_5 m_state_k) rfl rfl rfl (by decide +kernel) ⟨Nat.le_of_ble_eq_true rfl, Nat.le_of_ble_eq_true rfl⟩) rfl 0 rfl rfl d_HoldQueueLaw_law_663 ⟨Nat.le_of_ble_eq_true rfl, Nat.le_of_ble_eq_true rfl⟩))) ?_
  refine And.intro (gz_o_pop F.1 F.2.1 d_HoldQueueLaw_law_666) ?_
  refine And.intro (gz_o_goto F.1 F.2.1 703 d_HoldQueueLaw_law_667 (by decide)) ?_
  refine And.intro (gz_o_aload_n F.1 F.2.1 1 d_HoldQueueLaw_law_670 rfl) ?_
  refine And.intro (gz_o_aload_n F.1 F.2.1 0 d_HoldQueueLaw_law_671 rfl) ?_
  refine And.intro (gz_o_iload_n F.1 F.2.1 3 d_HoldQueueLaw_law_672 rfl) ?_
  refine And.intro (gz_o_iconst F.1 F.2.1 1 d_HoldQueueLaw_law_673 (by decide)) ?_
  refine And.intro (gz_o_iadd F.1 F.2.1 d_HoldQueueLaw_law_674) ?_
  refine And.intro (gz_o_ild (l_ild F hX hbl d_HoldQueueLaw_law_675)) ?_
  refine And.intro (gz_o_aload_n F.1 F.2.1 0 d_HoldQueueLaw_law_676 rfl) ?_
  refine And.intro (gz_o_iload_n F.1 F.2.1 3 d_HoldQueueLaw_law_677 rfl) ?_
  refine And.intro (gz_o_iconst F.1 F.2.1 2 d_HoldQueueLaw_law_678 (by decide)) ?_
  refine And.intro (gz_o_iadd F.1 F.2.1 d_HoldQueueLaw_law_679) ?_
  refine And.intro (gz_o_ild (l_ild F hX hbl d_HoldQueueLaw_law_680)) ?_
  refine And.intro (gz_o_c2I (fun u x y hp => gz_cb1 (x_has ax kx) (fun _ h => h) (gz_runV (a := l_a ax am b) (i := 0) (bs := [gz_i x, gz_i y]) F.2.2.2.2.2.2.2 ⟨F.1, F.2.1, F.2.2.2.1, F.2.2.2.2.1, F.2.2.2.2.2.1⟩ (x_where_c l D ax kx u.1 x y hp) (cwV 2 F.2.2.2.2.2.1 (gz_gV lw_good wi_282 wi_283 x_where_sl wi_1 x_where_k) rfl rfl rfl (by decide +kernel) ⟨Nat.le_of_ble_eq_true rfl, Nat.le_of_ble_eq_true rfl⟩) rfl 0 rfl rfl d_HoldQueueLaw_law_681 ⟨Nat.le_of_ble_eq_true rfl, Nat.le_of_ble_eq_true rfl⟩))) ?_
  refine And.intro (gz_o_pop F.1 F.2.1 d_HoldQueueLaw_law_684) ?_
  refine And.intro (gz_o_aload_n F.1 F.2.1 2 d_HoldQueueLaw_law_685 rfl) ?_
  refine And.intro (gz_o_aload_n F.1 F.2.1 0 d_HoldQueueLaw_law_686 rfl) ?_
  refine And.intro (gz_o_iload_n F.1 F.2.1 3 d_HoldQueueLaw_law_687 rfl) ?_
  refine And.intro (gz_o_iconst F.1 F.2.1 1 d_HoldQueueLaw_law_688 (by decide)) ?_
  refine And.intro (gz_o_iadd F.1 F.2.1 d_HoldQueueLaw_law_689) ?_
  refine And.intro (gz_o_ild (l_ild F hX hbl d_HoldQueueLaw_law_690)) ?_
  refine And.intro (gz_o_aload_n F.1 F.2.1 0 d_HoldQueueLaw_law_691 rfl) ?_
  refine And.intro (gz_o_iload_n F.1 F.2.1 3 d_HoldQueueLaw_law_692 rfl) ?_
  refine And.intro (gz_o_iconst F.1 F.2.1 2 d_HoldQueueLaw_law_693 (by decide)) ?_
  refine And.intro (gz_o_iadd F.1 F.2.1 d_HoldQueueLaw_law_694) ?_
  refine And.intro (gz_o_ild (l_ild F hX hbl d_HoldQueueLaw_law_695)) ?_
  refine And.intro (gz_o_c2I (fun u x y hp => gz_cb2 (m_has am km) (fun _ h => h) (gz_runV (a := l_a ax am b) (i := 1) (bs := [gz_i x, gz_i y]) F.2.2.2.2.2.2.2 ⟨F.1, F.2.1, F.2.2.2.1, F.2.2.2.2.1, F.2.2.2.2.2.1⟩ (m_where_c l D am km u.2 x y hp) (cwV 2 F.2.2.2.2.2.1 (gz_gV lw_good wi_466 wi_467 m_where_sl wi_5 m_where_k) rfl rfl rfl (by decide +kernel) ⟨Nat.le_of_ble_eq_true rfl, Nat.le_of_ble_eq_true rfl⟩) rfl 0 rfl rfl d_HoldQueueLaw_law_696 ⟨Nat.le_of_ble_eq_true rfl, Nat.le_of_ble_eq_true rfl⟩))) ?_
  refine And.intro (gz_o_pop F.1 F.2.1 d_HoldQueueLaw_law_699) ?_
  refine And.intro (gz_o_goto F.1 F.2.1 703 d_HoldQueueLaw_law_700 (by decide)) ?_
  refine And.intro (gz_o_iinc F.1 F.2.1 3 5 d_HoldQueueLaw_law_703 (by decide) (by decide)) ?_
  refine And.intro (gz_o_goto F.1 F.2.1 18 d_HoldQueueLaw_law_706 (by decide)) ?_
  refine And.intro (gz_o_iconst F.1 F.2.1 1 d_HoldQueueLaw_law_709 (by decide)) ?_
  exact trivial
set_option maxHeartbeats 8000000 in
set_option maxRecDepth 100000 in
theorem l_o8 (F : gz_F p s m #[Value.ref b] meth c code 4 ret lw_gd R_law) (hX : va_X b L xs s s.heap) (hbl : b < s.heap.size) : gz_oks (gz_Z p l e room_1 s m #[Value.ref b] below meth c 34 2617 (lw_Z below #[Value.ref b] s) 4 (l_a ax am b) (l_G D kx km ax am s)) (fun r _ => r = some 1) ([(710, gz_iret)] : List (Nat × gz_T (q_S × q_S))) := by
  refine And.intro (gz_o_iret (l_end F d_HoldQueueLaw_law_710)) ?_
  exact trivial
theorem gz_oks_app {S : Type} {Z : gz_K S} {Kr : Option Int32 → S → Prop} : ∀ {t1 t2 : List (Nat × gz_T S)}, gz_oks Z Kr t1 → gz_oks Z Kr t2 → gz_oks Z Kr (t1 ++ t2)
  | [], _, _, h => h
  | _ :: _, _, h1, h2 => ⟨h1.1, gz_oks_app h1.2 h2⟩
set_option maxHeartbeats 8000000 in
set_option maxRecDepth 100000 in
theorem l_o (F : gz_F p s m #[Value.ref b] meth c code 4 ret lw_gd R_law) (hX : va_X b L xs s s.heap) (hbl : b < s.heap.size) : gz_oks (gz_Z p l e room_1 s m #[Value.ref b] below meth c 34 2617 (lw_Z below #[Value.ref b] s) 4 (l_a ax am b) (l_G D kx km ax am s)) (fun r _ => r = some 1) (l_t L xs) := gz_oks_app (l_o0 F hX hbl) (gz_oks_app (l_o1 F hX hbl) (gz_oks_app (l_o2 F hX hbl) (gz_oks_app (l_o3 F hX hbl) (gz_oks_app (l_o4 F hX hbl) (gz_oks_app (l_o5 F hX hbl) (gz_oks_app (l_o6 F hX hbl) (gz_oks_app (l_o7 F hX hbl) (l_o8 F hX hbl))))))))
end GZL
