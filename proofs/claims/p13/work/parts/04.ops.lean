/-! OWN ENGINE, second part: each transformer holds of the machine -/
/-- what is shown at a point of a walk: G is what the heap must hold of the state u -/
def gz_Z (p : Program) (l : Launch) (e : Env) (R : Room) (s : State) (m : MethodId) (args : Array Value) (below : List Frame) (meth : Method) (c : Code) (cells slots : Nat) (Q : State → Prop) (nL : Nat) (a : Nat → Nat) {S : Type} (G : S → Heap → List Loc → Prop) : gz_K S :=
  fun pc L st u => ∀ (H : Heap) (locs : List Loc) (ls : Array Slot), lv_has ls nL (gz_cl a L) → G u H locs → W p l e R s m args below meth c H locs cells slots Q (F0 m pc ls (gz_cs a st))
section GZO
variable {S : Type} {p : Program} {l : Launch} {e : Env} {R : Room} {s : State} {m : MethodId} {args : Array Value} {below : List Frame} {meth : Method} {c : Code} {cells slots : Nat} {Q : State → Prop} {cc : ByteArray} {nL : Nat} {a : Nat → Nat} {G : S → Heap → List Loc → Prop} {Kr : Option Int32 → S → Prop} {pc : Nat}
theorem gz_o_iconst (hx : p.tables.exec = Jvm.exec) (hb : c.code = cc) {n : Int} (v : Int32) (hd : decode cc pc = .ok (.iconst n, 1)) (hv : Int32.ofInt n = v) : gz_ok (gz_Z p l e R s m args below meth c cells slots Q nL a G) Kr pc (gz_push (pc + 1) (gz_i v)) := by
  intro K hK L st u h
  intro H locs ls hl hg
  exact lv_iconst hx hb hd hv (hK _ _ _ _ h H locs ls hl hg)
theorem gz_o_bipush (hx : p.tables.exec = Jvm.exec) (hb : c.code = cc) {n : Int} (v : Int32) (hd : decode cc pc = .ok (.bipush n, 2)) (hv : (Int8.ofInt n).toInt32 = v) : gz_ok (gz_Z p l e R s m args below meth c cells slots Q nL a G) Kr pc (gz_push (pc + 2) (gz_i v)) := by
  intro K hK L st u h
  intro H locs ls hl hg
  exact lv_bipush hx hb hd hv (hK _ _ _ _ h H locs ls hl hg)
theorem gz_o_sipush (hx : p.tables.exec = Jvm.exec) (hb : c.code = cc) {n : Int} (v : Int32) (hd : decode cc pc = .ok (.sipush n, 3)) (hv : (Int16.ofInt n).toInt32 = v) : gz_ok (gz_Z p l e R s m args below meth c cells slots Q nL a G) Kr pc (gz_push (pc + 3) (gz_i v)) := by
  intro K hK L st u h
  intro H locs ls hl hg
  exact lv_sipush hx hb hd hv (hK _ _ _ _ h H locs ls hl hg)
theorem gz_o_lconst (hx : p.tables.exec = Jvm.exec) (hb : c.code = cc) {n : Fin 2} (v : Int64) (hd : decode cc pc = .ok (.lconst n, 1)) (hv : Int64.ofNat (n : Nat) = v) : gz_ok (gz_Z p l e R s m args below meth c cells slots Q nL a G) Kr pc (gz_push (pc + 1) (gz_l v)) := by
  intro K hK L st u h
  intro H locs ls hl hg
  exact lv_lconst hx hb hd hv (hK _ _ _ _ h H locs ls hl hg)
theorem gz_o_ldc2 (hx : p.tables.exec = Jvm.exec) (hb : c.code = cc) {own : String} {index : Nat} (v : Int64) (hown : s.vm.findClass own = some m.cls) (hc : (Jvm.Cond.constantLong own index v).before args s = true) (hd : decode cc pc = .ok (.ldc2_w index, 3)) : gz_ok (gz_Z p l e R s m args below meth c cells slots Q nL a G) Kr pc (gz_push (pc + 3) (gz_l v)) := by
  intro K hK L st u h
  intro H locs ls hl hg
  exact lv_ldc2 hx hb hown hc hd (hK _ _ _ _ h H locs ls hl hg)
theorem gz_o_iload_n (hx : p.tables.exec = Jvm.exec) (hb : c.code = cc) {k : Fin 4} (i : Nat) (hd : decode cc pc = .ok (.iload_n k, 1)) (hi : (k : Nat) = i) : gz_ok (gz_Z p l e R s m args below meth c cells slots Q nL a G) Kr pc (gz_ldi (pc + 1) i) := by
  intro K hK L st u h
  replace h := gz_some_inv h
  obtain ⟨v, hv, h⟩ := h
  replace h := gz_popi_inv h
  obtain ⟨x, r, e1, h⟩ := h
  cases e1
  intro H locs ls hl hg
  exact lv_iload_n hx hb hd hi (gz_lk hl hv) (hK _ _ _ _ h H locs ls hl hg)
theorem gz_o_iload (hx : p.tables.exec = Jvm.exec) (hb : c.code = cc) (i : Nat) (hd : decode cc pc = .ok (.iload i, 2)) : gz_ok (gz_Z p l e R s m args below meth c cells slots Q nL a G) Kr pc (gz_ldi (pc + 2) i) := by
  intro K hK L st u h
  replace h := gz_some_inv h
  obtain ⟨v, hv, h⟩ := h
  replace h := gz_popi_inv h
  obtain ⟨x, r, e1, h⟩ := h
  cases e1
  intro H locs ls hl hg
  exact lv_iload hx hb hd (gz_lk hl hv) (hK _ _ _ _ h H locs ls hl hg)
theorem gz_o_lload_n (hx : p.tables.exec = Jvm.exec) (hb : c.code = cc) {k : Fin 4} (i : Nat) (hd : decode cc pc = .ok (.lload_n k, 1)) (hi : (k : Nat) = i) : gz_ok (gz_Z p l e R s m args below meth c cells slots Q nL a G) Kr pc (gz_ldl (pc + 1) i) := by
  intro K hK L st u h
  replace h := gz_some_inv h
  obtain ⟨v, hv, h⟩ := h
  replace h := gz_popl_inv h
  obtain ⟨x, r, e1, h⟩ := h
  cases e1
  intro H locs ls hl hg
  exact lv_lload_n hx hb hd hi (gz_lk hl hv) (hK _ _ _ _ h H locs ls hl hg)
theorem gz_o_lload (hx : p.tables.exec = Jvm.exec) (hb : c.code = cc) (i : Nat) (hd : decode cc pc = .ok (.lload i, 2)) : gz_ok (gz_Z p l e R s m args below meth c cells slots Q nL a G) Kr pc (gz_ldl (pc + 2) i) := by
  intro K hK L st u h
  replace h := gz_some_inv h
  obtain ⟨v, hv, h⟩ := h
  replace h := gz_popl_inv h
  obtain ⟨x, r, e1, h⟩ := h
  cases e1
  intro H locs ls hl hg
  exact lv_lload hx hb hd (gz_lk hl hv) (hK _ _ _ _ h H locs ls hl hg)
theorem gz_o_aload_n (hx : p.tables.exec = Jvm.exec) (hb : c.code = cc) {k : Fin 4} (i : Nat) (hd : decode cc pc = .ok (.aload_n k, 1)) (hi : (k : Nat) = i) : gz_ok (gz_Z p l e R s m args below meth c cells slots Q nL a G) Kr pc (gz_lda (pc + 1) i) := by
  intro K hK L st u h
  replace h := gz_some_inv h
  obtain ⟨v, hv, h⟩ := h
  replace h := gz_popr_inv h
  obtain ⟨x, r, e1, h⟩ := h
  cases e1
  intro H locs ls hl hg
  exact lv_aload_n hx hb hd hi (gz_lk hl hv) (hK _ _ _ _ h H locs ls hl hg)
theorem gz_o_aload (hx : p.tables.exec = Jvm.exec) (hb : c.code = cc) (i : Nat) (hd : decode cc pc = .ok (.aload i, 2)) : gz_ok (gz_Z p l e R s m args below meth c cells slots Q nL a G) Kr pc (gz_lda (pc + 2) i) := by
  intro K hK L st u h
  replace h := gz_some_inv h
  obtain ⟨v, hv, h⟩ := h
  replace h := gz_popr_inv h
  obtain ⟨x, r, e1, h⟩ := h
  cases e1
  intro H locs ls hl hg
  exact lv_aload hx hb hd (gz_lk hl hv) (hK _ _ _ _ h H locs ls hl hg)
theorem gz_o_istore_n (hx : p.tables.exec = Jvm.exec) (hb : c.code = cc) {k : Fin 4} (i : Nat) (hd : decode cc pc = .ok (.istore_n k, 1)) (hi : (k : Nat) = i) (hn : i < nL) : gz_ok (gz_Z p l e R s m args below meth c cells slots Q nL a G) Kr pc (gz_stor (pc + 1) i) := by
  intro K hK L st u h
  replace h := gz_popi_inv h
  obtain ⟨x, r, rfl, h⟩ := h
  intro H locs ls hl hg
  exact lv_istore_n hx hb hd hi hl hn rfl (fun ls2 h2 => hK _ _ _ _ h H locs ls2 (gz_has_ins h2) hg)
theorem gz_o_istore (hx : p.tables.exec = Jvm.exec) (hb : c.code = cc) (i : Nat) (hd : decode cc pc = .ok (.istore i, 2)) (hn : i < nL) : gz_ok (gz_Z p l e R s m args below meth c cells slots Q nL a G) Kr pc (gz_stor (pc + 2) i) := by
  intro K hK L st u h
  replace h := gz_popi_inv h
  obtain ⟨x, r, rfl, h⟩ := h
  intro H locs ls hl hg
  exact lv_istore hx hb hd hl hn rfl (fun ls2 h2 => hK _ _ _ _ h H locs ls2 (gz_has_ins h2) hg)
theorem gz_o_astore_n (hx : p.tables.exec = Jvm.exec) (hb : c.code = cc) {k : Fin 4} (i : Nat) (hd : decode cc pc = .ok (.astore_n k, 1)) (hi : (k : Nat) = i) (hn : i < nL) : gz_ok (gz_Z p l e R s m args below meth c cells slots Q nL a G) Kr pc (gz_storR (pc + 1) i) := by
  intro K hK L st u h
  replace h := gz_popr_inv h
  obtain ⟨x, r, rfl, h⟩ := h
  intro H locs ls hl hg
  exact lv_astore_n hx hb hd hi hl hn rfl (fun ls2 h2 => hK _ _ _ _ h H locs ls2 (gz_has_ins h2) hg)
theorem gz_o_astore (hx : p.tables.exec = Jvm.exec) (hb : c.code = cc) (i : Nat) (hd : decode cc pc = .ok (.astore i, 2)) (hn : i < nL) : gz_ok (gz_Z p l e R s m args below meth c cells slots Q nL a G) Kr pc (gz_storR (pc + 2) i) := by
  intro K hK L st u h
  replace h := gz_popr_inv h
  obtain ⟨x, r, rfl, h⟩ := h
  intro H locs ls hl hg
  exact lv_astore hx hb hd hl hn rfl (fun ls2 h2 => hK _ _ _ _ h H locs ls2 (gz_has_ins h2) hg)
theorem gz_o_iinc (hx : p.tables.exec = Jvm.exec) (hb : c.code = cc) {n : Int} (i : Nat) (v : Int32) (hd : decode cc pc = .ok (.iinc i n, 3)) (hv : Int32.ofInt n = v) (hn : i < nL) : gz_ok (gz_Z p l e R s m args below meth c cells slots Q nL a G) Kr pc (gz_iinc (pc + 3) i v) := by
  intro K hK L st u h
  replace h := gz_some_inv h
  obtain ⟨w, hw, h⟩ := h
  replace h := gz_popi_inv h
  obtain ⟨x, r, e1, h⟩ := h
  cases e1
  intro H locs ls hl hg
  have hmem : (i, Value.int x) ∈ gz_cl a L := List.mem_map.mpr ⟨(i, gz_i x), gz_look_mem L i _ hw, rfl⟩
  obtain ⟨k, hk⟩ := List.getElem?_of_mem hmem
  exact lv_iinc hx hb hd hl hk (by rw [hv]) hn rfl (fun ls2 h2 => hK _ _ _ _ h H locs ls2 (gz_has_ins h2) hg)
theorem gz_o_iadd (hx : p.tables.exec = Jvm.exec) (hb : c.code = cc) (hd : decode cc pc = .ok (.iadd, 1)) : gz_ok (gz_Z p l e R s m args below meth c cells slots Q nL a G) Kr pc (gz_iop (pc + 1) (fun x y => x + y)) := by
  intro K hK L st u h
  replace h := gz_popi_inv h
  obtain ⟨y, r1, rfl, h⟩ := h
  replace h := gz_popi_inv h
  obtain ⟨x, r, rfl, h⟩ := h
  intro H locs ls hl hg
  exact lv_iadd hx hb hd (hK _ _ _ _ h H locs ls hl hg)
theorem gz_o_isub (hx : p.tables.exec = Jvm.exec) (hb : c.code = cc) (hd : decode cc pc = .ok (.isub, 1)) : gz_ok (gz_Z p l e R s m args below meth c cells slots Q nL a G) Kr pc (gz_iop (pc + 1) (fun x y => x - y)) := by
  intro K hK L st u h
  replace h := gz_popi_inv h
  obtain ⟨y, r1, rfl, h⟩ := h
  replace h := gz_popi_inv h
  obtain ⟨x, r, rfl, h⟩ := h
  intro H locs ls hl hg
  exact lv_isub hx hb hd (hK _ _ _ _ h H locs ls hl hg)
theorem gz_o_iand (hx : p.tables.exec = Jvm.exec) (hb : c.code = cc) (hd : decode cc pc = .ok (.iand, 1)) : gz_ok (gz_Z p l e R s m args below meth c cells slots Q nL a G) Kr pc (gz_iop (pc + 1) (fun x y => x &&& y)) := by
  intro K hK L st u h
  replace h := gz_popi_inv h
  obtain ⟨y, r1, rfl, h⟩ := h
  replace h := gz_popi_inv h
  obtain ⟨x, r, rfl, h⟩ := h
  intro H locs ls hl hg
  exact lv_iand hx hb hd (hK _ _ _ _ h H locs ls hl hg)
theorem gz_o_ladd (hx : p.tables.exec = Jvm.exec) (hb : c.code = cc) (hd : decode cc pc = .ok (.ladd, 1)) : gz_ok (gz_Z p l e R s m args below meth c cells slots Q nL a G) Kr pc (gz_lop (pc + 1) (fun x y => x + y)) := by
  intro K hK L st u h
  replace h := gz_popl_inv h
  obtain ⟨y, r1, rfl, h⟩ := h
  replace h := gz_popl_inv h
  obtain ⟨x, r, rfl, h⟩ := h
  intro H locs ls hl hg
  exact lv_ladd hx hb hd (hK _ _ _ _ h H locs ls hl hg)
theorem gz_o_lsub (hx : p.tables.exec = Jvm.exec) (hb : c.code = cc) (hd : decode cc pc = .ok (.lsub, 1)) : gz_ok (gz_Z p l e R s m args below meth c cells slots Q nL a G) Kr pc (gz_lop (pc + 1) (fun x y => x - y)) := by
  intro K hK L st u h
  replace h := gz_popl_inv h
  obtain ⟨y, r1, rfl, h⟩ := h
  replace h := gz_popl_inv h
  obtain ⟨x, r, rfl, h⟩ := h
  intro H locs ls hl hg
  exact lv_lsub hx hb hd (hK _ _ _ _ h H locs ls hl hg)
theorem gz_o_land (hx : p.tables.exec = Jvm.exec) (hb : c.code = cc) (hd : decode cc pc = .ok (.land, 1)) : gz_ok (gz_Z p l e R s m args below meth c cells slots Q nL a G) Kr pc (gz_lop (pc + 1) (fun x y => x &&& y)) := by
  intro K hK L st u h
  replace h := gz_popl_inv h
  obtain ⟨y, r1, rfl, h⟩ := h
  replace h := gz_popl_inv h
  obtain ⟨x, r, rfl, h⟩ := h
  intro H locs ls hl hg
  exact lv_land hx hb hd (hK _ _ _ _ h H locs ls hl hg)
theorem gz_o_lor (hx : p.tables.exec = Jvm.exec) (hb : c.code = cc) (hd : decode cc pc = .ok (.lor, 1)) : gz_ok (gz_Z p l e R s m args below meth c cells slots Q nL a G) Kr pc (gz_lop (pc + 1) (fun x y => x ||| y)) := by
  intro K hK L st u h
  replace h := gz_popl_inv h
  obtain ⟨y, r1, rfl, h⟩ := h
  replace h := gz_popl_inv h
  obtain ⟨x, r, rfl, h⟩ := h
  intro H locs ls hl hg
  exact lv_lor hx hb hd (hK _ _ _ _ h H locs ls hl hg)
theorem gz_o_lshl (hx : p.tables.exec = Jvm.exec) (hb : c.code = cc) (hd : decode cc pc = .ok (.lshl, 1)) : gz_ok (gz_Z p l e R s m args below meth c cells slots Q nL a G) Kr pc (gz_lsh (pc + 1) (fun x y => x <<< (y.toInt64 &&& 63))) := by
  intro K hK L st u h
  replace h := gz_popi_inv h
  obtain ⟨y, r1, rfl, h⟩ := h
  replace h := gz_popl_inv h
  obtain ⟨x, r, rfl, h⟩ := h
  intro H locs ls hl hg
  exact lv_lshl hx hb hd rfl (hK _ _ _ _ h H locs ls hl hg)
theorem gz_o_i2l (hx : p.tables.exec = Jvm.exec) (hb : c.code = cc) (hd : decode cc pc = .ok (.i2l, 1)) : gz_ok (gz_Z p l e R s m args below meth c cells slots Q nL a G) Kr pc (gz_itol (pc + 1)) := by
  intro K hK L st u h
  replace h := gz_popi_inv h
  obtain ⟨x, r, rfl, h⟩ := h
  intro H locs ls hl hg
  exact lv_i2l hx hb hd rfl (hK _ _ _ _ h H locs ls hl hg)
theorem gz_o_lcmp (hx : p.tables.exec = Jvm.exec) (hb : c.code = cc) (hd : decode cc pc = .ok (.lcmp, 1)) : gz_ok (gz_Z p l e R s m args below meth c cells slots Q nL a G) Kr pc (gz_lcmp (pc + 1)) := by
  intro K hK L st u h
  replace h := gz_popl_inv h
  obtain ⟨y, r1, rfl, h⟩ := h
  replace h := gz_popl_inv h
  obtain ⟨x, r, rfl, h⟩ := h
  intro H locs ls hl hg
  exact W.lcmp hx hb hd (hK _ _ _ _ h H locs ls hl hg)
theorem gz_o_dup (hx : p.tables.exec = Jvm.exec) (hb : c.code = cc) (hd : decode cc pc = .ok (.dup, 1)) : gz_ok (gz_Z p l e R s m args below meth c cells slots Q nL a G) Kr pc (gz_dup (pc + 1)) := by
  intro K hK L st u h
  replace h := gz_popa_inv h
  obtain ⟨v, r, rfl, hc, h⟩ := h
  intro H locs ls hl hg
  exact lv_dup hx hb hd ((gz_cv_cat a v).trans hc) (hK _ _ _ _ h H locs ls hl hg)
theorem gz_o_pop (hx : p.tables.exec = Jvm.exec) (hb : c.code = cc) (hd : decode cc pc = .ok (.pop, 1)) : gz_ok (gz_Z p l e R s m args below meth c cells slots Q nL a G) Kr pc (gz_pop (pc + 1)) := by
  intro K hK L st u h
  replace h := gz_popa_inv h
  obtain ⟨v, r, rfl, hc, h⟩ := h
  intro H locs ls hl hg
  exact lv_pop hx hb hd ((gz_cv_cat a v).trans hc) (hK _ _ _ _ h H locs ls hl hg)
theorem gz_o_if_eq (hx : p.tables.exec = Jvm.exec) (hb : c.code = cc) {off : Int} (tgt : Nat) (hd : decode cc pc = .ok (.ifCond .eq off, 3)) (ht : (pc : Int) + off = (tgt : Int)) : gz_ok (gz_Z p l e R s m args below meth c cells slots Q nL a G) Kr pc (gz_if (pc + 3) tgt (fun x => x = 0) (fun x => ¬ x = 0)) := by
  intro K hK L st u h
  replace h := gz_popi_inv h
  obtain ⟨x, r, rfl, h⟩ := h
  intro H locs ls hl hg
  exact lv_if_eq hx hb hd ht (fun q => hK _ _ _ _ (h.1 q) H locs ls hl hg) (fun q => hK _ _ _ _ (h.2 q) H locs ls hl hg)
theorem gz_o_if_ne (hx : p.tables.exec = Jvm.exec) (hb : c.code = cc) {off : Int} (tgt : Nat) (hd : decode cc pc = .ok (.ifCond .ne off, 3)) (ht : (pc : Int) + off = (tgt : Int)) : gz_ok (gz_Z p l e R s m args below meth c cells slots Q nL a G) Kr pc (gz_if (pc + 3) tgt (fun x => ¬ x = 0) (fun x => x = 0)) := by
  intro K hK L st u h
  replace h := gz_popi_inv h
  obtain ⟨x, r, rfl, h⟩ := h
  intro H locs ls hl hg
  exact lv_if_ne hx hb hd ht (fun q => hK _ _ _ _ (h.1 q) H locs ls hl hg) (fun q => hK _ _ _ _ (h.2 q) H locs ls hl hg)
theorem gz_o_if_lt (hx : p.tables.exec = Jvm.exec) (hb : c.code = cc) {off : Int} (tgt : Nat) (hd : decode cc pc = .ok (.ifCond .lt off, 3)) (ht : (pc : Int) + off = (tgt : Int)) : gz_ok (gz_Z p l e R s m args below meth c cells slots Q nL a G) Kr pc (gz_if (pc + 3) tgt (fun x => x < 0) (fun x => ¬ x < 0)) := by
  intro K hK L st u h
  replace h := gz_popi_inv h
  obtain ⟨x, r, rfl, h⟩ := h
  intro H locs ls hl hg
  exact lv_if_lt hx hb hd ht (fun q => hK _ _ _ _ (h.1 q) H locs ls hl hg) (fun q => hK _ _ _ _ (h.2 q) H locs ls hl hg)
theorem gz_o_if_ge (hx : p.tables.exec = Jvm.exec) (hb : c.code = cc) {off : Int} (tgt : Nat) (hd : decode cc pc = .ok (.ifCond .ge off, 3)) (ht : (pc : Int) + off = (tgt : Int)) : gz_ok (gz_Z p l e R s m args below meth c cells slots Q nL a G) Kr pc (gz_if (pc + 3) tgt (fun x => 0 ≤ x) (fun x => ¬ 0 ≤ x)) := by
  intro K hK L st u h
  replace h := gz_popi_inv h
  obtain ⟨x, r, rfl, h⟩ := h
  intro H locs ls hl hg
  exact lv_if_ge hx hb hd ht (fun q => hK _ _ _ _ (h.1 q) H locs ls hl hg) (fun q => hK _ _ _ _ (h.2 q) H locs ls hl hg)
theorem gz_o_if_gt (hx : p.tables.exec = Jvm.exec) (hb : c.code = cc) {off : Int} (tgt : Nat) (hd : decode cc pc = .ok (.ifCond .gt off, 3)) (ht : (pc : Int) + off = (tgt : Int)) : gz_ok (gz_Z p l e R s m args below meth c cells slots Q nL a G) Kr pc (gz_if (pc + 3) tgt (fun x => 0 < x) (fun x => ¬ 0 < x)) := by
  intro K hK L st u h
  replace h := gz_popi_inv h
  obtain ⟨x, r, rfl, h⟩ := h
  intro H locs ls hl hg
  exact lv_if_gt hx hb hd ht (fun q => hK _ _ _ _ (h.1 q) H locs ls hl hg) (fun q => hK _ _ _ _ (h.2 q) H locs ls hl hg)
theorem gz_o_if_le (hx : p.tables.exec = Jvm.exec) (hb : c.code = cc) {off : Int} (tgt : Nat) (hd : decode cc pc = .ok (.ifCond .le off, 3)) (ht : (pc : Int) + off = (tgt : Int)) : gz_ok (gz_Z p l e R s m args below meth c cells slots Q nL a G) Kr pc (gz_if (pc + 3) tgt (fun x => x ≤ 0) (fun x => ¬ x ≤ 0)) := by
  intro K hK L st u h
  replace h := gz_popi_inv h
  obtain ⟨x, r, rfl, h⟩ := h
  intro H locs ls hl hg
  exact lv_if_le hx hb hd ht (fun q => hK _ _ _ _ (h.1 q) H locs ls hl hg) (fun q => hK _ _ _ _ (h.2 q) H locs ls hl hg)
theorem gz_o_ic_eq (hx : p.tables.exec = Jvm.exec) (hb : c.code = cc) {off : Int} (tgt : Nat) (hd : decode cc pc = .ok (.if_icmp .eq off, 3)) (ht : (pc : Int) + off = (tgt : Int)) : gz_ok (gz_Z p l e R s m args below meth c cells slots Q nL a G) Kr pc (gz_if2 (pc + 3) tgt (fun x y => x = y) (fun x y => ¬ x = y)) := by
  intro K hK L st u h
  replace h := gz_popi_inv h
  obtain ⟨y, r1, rfl, h⟩ := h
  replace h := gz_popi_inv h
  obtain ⟨x, r, rfl, h⟩ := h
  intro H locs ls hl hg
  exact lv_icmp_eq hx hb hd ht (fun q => hK _ _ _ _ (h.1 q) H locs ls hl hg) (fun q => hK _ _ _ _ (h.2 q) H locs ls hl hg)
theorem gz_o_ic_ne (hx : p.tables.exec = Jvm.exec) (hb : c.code = cc) {off : Int} (tgt : Nat) (hd : decode cc pc = .ok (.if_icmp .ne off, 3)) (ht : (pc : Int) + off = (tgt : Int)) : gz_ok (gz_Z p l e R s m args below meth c cells slots Q nL a G) Kr pc (gz_if2 (pc + 3) tgt (fun x y => ¬ x = y) (fun x y => x = y)) := by
  intro K hK L st u h
  replace h := gz_popi_inv h
  obtain ⟨y, r1, rfl, h⟩ := h
  replace h := gz_popi_inv h
  obtain ⟨x, r, rfl, h⟩ := h
  intro H locs ls hl hg
  exact lv_icmp_ne hx hb hd ht (fun q => hK _ _ _ _ (h.1 q) H locs ls hl hg) (fun q => hK _ _ _ _ (h.2 q) H locs ls hl hg)
theorem gz_o_ic_lt (hx : p.tables.exec = Jvm.exec) (hb : c.code = cc) {off : Int} (tgt : Nat) (hd : decode cc pc = .ok (.if_icmp .lt off, 3)) (ht : (pc : Int) + off = (tgt : Int)) : gz_ok (gz_Z p l e R s m args below meth c cells slots Q nL a G) Kr pc (gz_if2 (pc + 3) tgt (fun x y => x < y) (fun x y => ¬ x < y)) := by
  intro K hK L st u h
  replace h := gz_popi_inv h
  obtain ⟨y, r1, rfl, h⟩ := h
  replace h := gz_popi_inv h
  obtain ⟨x, r, rfl, h⟩ := h
  intro H locs ls hl hg
  exact lv_icmp_lt hx hb hd ht (fun q => hK _ _ _ _ (h.1 q) H locs ls hl hg) (fun q => hK _ _ _ _ (h.2 q) H locs ls hl hg)
theorem gz_o_ic_ge (hx : p.tables.exec = Jvm.exec) (hb : c.code = cc) {off : Int} (tgt : Nat) (hd : decode cc pc = .ok (.if_icmp .ge off, 3)) (ht : (pc : Int) + off = (tgt : Int)) : gz_ok (gz_Z p l e R s m args below meth c cells slots Q nL a G) Kr pc (gz_if2 (pc + 3) tgt (fun x y => y ≤ x) (fun x y => ¬ y ≤ x)) := by
  intro K hK L st u h
  replace h := gz_popi_inv h
  obtain ⟨y, r1, rfl, h⟩ := h
  replace h := gz_popi_inv h
  obtain ⟨x, r, rfl, h⟩ := h
  intro H locs ls hl hg
  exact lv_icmp_ge hx hb hd ht (fun q => hK _ _ _ _ (h.1 q) H locs ls hl hg) (fun q => hK _ _ _ _ (h.2 q) H locs ls hl hg)
theorem gz_o_ic_gt (hx : p.tables.exec = Jvm.exec) (hb : c.code = cc) {off : Int} (tgt : Nat) (hd : decode cc pc = .ok (.if_icmp .gt off, 3)) (ht : (pc : Int) + off = (tgt : Int)) : gz_ok (gz_Z p l e R s m args below meth c cells slots Q nL a G) Kr pc (gz_if2 (pc + 3) tgt (fun x y => y < x) (fun x y => ¬ y < x)) := by
  intro K hK L st u h
  replace h := gz_popi_inv h
  obtain ⟨y, r1, rfl, h⟩ := h
  replace h := gz_popi_inv h
  obtain ⟨x, r, rfl, h⟩ := h
  intro H locs ls hl hg
  exact lv_icmp_gt hx hb hd ht (fun q => hK _ _ _ _ (h.1 q) H locs ls hl hg) (fun q => hK _ _ _ _ (h.2 q) H locs ls hl hg)
theorem gz_o_ic_le (hx : p.tables.exec = Jvm.exec) (hb : c.code = cc) {off : Int} (tgt : Nat) (hd : decode cc pc = .ok (.if_icmp .le off, 3)) (ht : (pc : Int) + off = (tgt : Int)) : gz_ok (gz_Z p l e R s m args below meth c cells slots Q nL a G) Kr pc (gz_if2 (pc + 3) tgt (fun x y => x ≤ y) (fun x y => ¬ x ≤ y)) := by
  intro K hK L st u h
  replace h := gz_popi_inv h
  obtain ⟨y, r1, rfl, h⟩ := h
  replace h := gz_popi_inv h
  obtain ⟨x, r, rfl, h⟩ := h
  intro H locs ls hl hg
  exact lv_icmp_le hx hb hd ht (fun q => hK _ _ _ _ (h.1 q) H locs ls hl hg) (fun q => hK _ _ _ _ (h.2 q) H locs ls hl hg)
theorem gz_o_goto (hx : p.tables.exec = Jvm.exec) (hb : c.code = cc) {off : Int} (tgt : Nat) (hd : decode cc pc = .ok (.goto off, 3)) (ht : (pc : Int) + off = (tgt : Int)) : gz_ok (gz_Z p l e R s m args below meth c cells slots Q nL a G) Kr pc (gz_goto tgt) := by
  intro K hK L st u h
  intro H locs ls hl hg
  exact lv_goto hx hb hd ht (hK _ _ _ _ h H locs ls hl hg)
theorem gz_o_sw (hx : p.tables.exec = Jvm.exec) (hb : c.code = cc) {dflt lo hi : Int} {offs : Array Int} {len : Nat} (ts : List (Int32 × Nat)) (d : Nat) (hd : decode cc pc = .ok (.tableswitch dflt lo hi offs, len)) (h1 : ∀ q ∈ ts, ¬ q.1.toInt < lo ∧ ¬ hi < q.1.toInt ∧ (offs[(q.1.toInt - lo).toNat]?).map (fun o => (pc : Int) + o) = some (q.2 : Int)) (h2 : ∀ n : Nat, n < (hi - lo + 1).toNat → ∃ q ∈ ts, q.1.toInt = lo + n) (h3 : (pc : Int) + dflt = (d : Int)) : gz_ok (gz_Z p l e R s m args below meth c cells slots Q nL a G) Kr pc (gz_sw ts d) := by
  intro K hK L st u h
  replace h := gz_popi_inv h
  obtain ⟨x, r, rfl, h⟩ := h
  intro H locs ls hl hg
  have key : ∀ (l1 : List (Int32 × Nat)), (∀ q ∈ l1, q ∈ ts) → gz_swc x (fun t => K t L r u) d l1 → (∃ q ∈ l1, x = q.1 ∧ K q.2 L r u) ∨ ((∀ q ∈ l1, ¬ x = q.1) ∧ K d L r u) := by
    intro l1
    induction l1 with
    | nil => exact fun _ hh => Or.inr ⟨fun q hq => absurd hq List.not_mem_nil, hh⟩
    | cons q l2 ih =>
      intro hs hh
      by_cases hq : x = q.1
      · exact Or.inl ⟨q, List.mem_cons_self, hq, hh.1 hq⟩
      · rcases ih (fun z hz => hs z (List.mem_cons_of_mem _ hz)) (hh.2 hq) with ⟨z, hz, hz2⟩ | ⟨hz, hz2⟩
        · exact Or.inl ⟨z, List.mem_cons_of_mem _ hz, hz2⟩
        · refine Or.inr ⟨fun z hz3 => ?_, hz2⟩
          rcases List.mem_cons.mp hz3 with h5 | h5
          · rw [h5]; exact hq
          · exact hz z h5
  rcases key ts (fun _ hq => hq) h with ⟨q, hq, e1, hk⟩ | ⟨hno, hk⟩
  · obtain ⟨g1, g2, g3⟩ := h1 q hq
    cases ho : offs[(q.1.toInt - lo).toNat]? with
    | none => rw [ho] at g3; cases g3
    | some o =>
      rw [ho] at g3
      subst e1
      exact lv_tableIn hx hb hd g1 g2 ho (Option.some.inj g3) (hK _ _ _ _ hk H locs ls hl hg)
  · refine lv_tableOut hx hb hd ?_ h3 (hK _ _ _ _ hk H locs ls hl hg)
    by_cases k1 : x.toInt < lo
    · exact Or.inl k1
    · by_cases k2 : hi < x.toInt
      · exact Or.inr k2
      · exfalso
        obtain ⟨q, hq, e1⟩ := h2 (x.toInt - lo).toNat (by omega)
        refine hno q hq (Int32.toInt_inj.mp ?_)
        rw [e1]
        omega
/-- what an instruction of the heap gives: from av on the stack and the state u to r on the stack and the state z -/
def gz_mv (p : Program) (l : Launch) (e : Env) (R : Room) (s : State) (m : MethodId) (args : Array Value) (below : List Frame) (meth : Method) (c : Code) (cells slots : Nat) (Q : State → Prop) (nL : Nat) (a : Nat → Nat) {S : Type} (G : S → Heap → List Loc → Prop) (nx pc : Nat) (av : List gz_V) (u : S) (r : List gz_V) (z : S) : Prop :=
  ∀ (H : Heap) (locs : List Loc) (ls : Array Slot) (rest : List gz_V), G u H locs → (∀ (H1 : Heap) (locs1 : List Loc), G z H1 locs1 → W p l e R s m args below meth c H1 locs1 cells slots Q (F0 m nx ls (gz_cs a (r ++ rest)))) → W p l e R s m args below meth c H locs cells slots Q (F0 m pc ls (gz_cs a (av ++ rest)))
/-- a call likewise: little lies below it -/
def gz_cb (p : Program) (l : Launch) (e : Env) (R : Room) (s : State) (m : MethodId) (args : Array Value) (below : List Frame) (meth : Method) (c : Code) (cells slots : Nat) (Q : State → Prop) (nL : Nat) (a : Nat → Nat) {S : Type} (G : S → Heap → List Loc → Prop) (nx pc : Nat) (av : List gz_V) (u : S) (r : List gz_V) (z : S) : Prop :=
  ∀ (H : Heap) (locs : List Loc) (ls : Array Slot) (rest : List gz_V), gz_dep rest ≤ 8 → ls.size = nL → G u H locs → (∀ (H1 : Heap) (locs1 : List Loc), G z H1 locs1 → W p l e R s m args below meth c H1 locs1 cells slots Q (F0 m nx ls (gz_cs a (r ++ rest)))) → W p l e R s m args below meth c H locs cells slots Q (F0 m pc ls (gz_cs a (av ++ rest)))
theorem gz_o_getR {i j : Nat} (hr : ∀ u : S, gz_mv p l e R s m args below meth c cells slots Q nL a G (pc + 3) pc [gz_r i] u [gz_r j] u) : gz_ok (gz_Z p l e R s m args below meth c cells slots Q nL a G) Kr pc (gz_getR (pc + 3) i j) := by
  intro K hK L st u h
  replace h := gz_popj_inv h
  obtain ⟨r, rfl, h⟩ := h
  intro H locs ls hl hg
  exact hr u H locs ls r hg (fun H1 locs1 hg1 => hK _ _ _ _ h H1 locs1 ls hl hg1)
theorem gz_o_getI {i : Nat} {g : S → Int32} (hr : ∀ u : S, gz_mv p l e R s m args below meth c cells slots Q nL a G (pc + 3) pc [gz_r i] u [gz_i (g u)] u) : gz_ok (gz_Z p l e R s m args below meth c cells slots Q nL a G) Kr pc (gz_getI (pc + 3) i g) := by
  intro K hK L st u h
  replace h := gz_popj_inv h
  obtain ⟨r, rfl, h⟩ := h
  intro H locs ls hl hg
  exact hr u H locs ls r hg (fun H1 locs1 hg1 => hK _ _ _ _ h H1 locs1 ls hl hg1)
theorem gz_o_getL {i : Nat} {g : S → Int64} (hr : ∀ u : S, gz_mv p l e R s m args below meth c cells slots Q nL a G (pc + 3) pc [gz_r i] u [gz_l (g u)] u) : gz_ok (gz_Z p l e R s m args below meth c cells slots Q nL a G) Kr pc (gz_getL (pc + 3) i g) := by
  intro K hK L st u h
  replace h := gz_popj_inv h
  obtain ⟨r, rfl, h⟩ := h
  intro H locs ls hl hg
  exact hr u H locs ls r hg (fun H1 locs1 hg1 => hK _ _ _ _ h H1 locs1 ls hl hg1)
theorem gz_o_putI {i : Nat} {f : S → Int32 → S} (hr : ∀ (u : S) (x : Int32), gz_mv p l e R s m args below meth c cells slots Q nL a G (pc + 3) pc [gz_i x, gz_r i] u [] (f u x)) : gz_ok (gz_Z p l e R s m args below meth c cells slots Q nL a G) Kr pc (gz_putI (pc + 3) i f) := by
  intro K hK L st u h
  replace h := gz_popi_inv h
  obtain ⟨x, r1, rfl, h⟩ := h
  replace h := gz_popj_inv h
  obtain ⟨r, rfl, h⟩ := h
  intro H locs ls hl hg
  exact hr u x H locs ls r hg (fun H1 locs1 hg1 => hK _ _ _ _ h H1 locs1 ls hl hg1)
theorem gz_o_putL {i : Nat} {f : S → Int64 → S} (hr : ∀ (u : S) (x : Int64), gz_mv p l e R s m args below meth c cells slots Q nL a G (pc + 3) pc [gz_l x, gz_r i] u [] (f u x)) : gz_ok (gz_Z p l e R s m args below meth c cells slots Q nL a G) Kr pc (gz_putL (pc + 3) i f) := by
  intro K hK L st u h
  replace h := gz_popl_inv h
  obtain ⟨x, r1, rfl, h⟩ := h
  replace h := gz_popj_inv h
  obtain ⟨r, rfl, h⟩ := h
  intro H locs ls hl hg
  exact hr u x H locs ls r hg (fun H1 locs1 hg1 => hK _ _ _ _ h H1 locs1 ls hl hg1)
/-- a table of arrays: what is said of a cell is said of some length, reading and writing, for which the machine's row holds -/
def gz_TI (tab : gz_AI S) (row : Nat → Nat → (S → Nat → Int32) → (S → Int32 → Int32 → S) → Prop) : Prop := ∀ (j : Nat) (k : Nat → (S → Nat → Int32) → (S → Int32 → Int32 → S) → Prop), tab j k → ∃ n g f, k n g f ∧ row j n g f
def gz_TL (tab : gz_AL S) (row : Nat → Nat → (S → Nat → Int64) → (S → Int32 → Int64 → S) → Prop) : Prop := ∀ (j : Nat) (k : Nat → (S → Nat → Int64) → (S → Int32 → Int64 → S) → Prop), tab j k → ∃ n g f, k n g f ∧ row j n g f
theorem gz_o_ild {tab : gz_AI S} (ht : gz_TI tab (fun j n g _ => ∀ (u : S) (x : Int32), vp_in x n → gz_mv p l e R s m args below meth c cells slots Q nL a G (pc + 1) pc [gz_i x, gz_r j] u [gz_i (g u x.toNatClampNeg)] u)) : gz_ok (gz_Z p l e R s m args below meth c cells slots Q nL a G) Kr pc (gz_ild (pc + 1) tab) := by
  intro K hK L st u h
  replace h := gz_popi_inv h
  obtain ⟨x, r1, rfl, h⟩ := h
  replace h := gz_popr_inv h
  obtain ⟨j, r, rfl, h⟩ := h
  replace h := ht j _ h
  obtain ⟨n, g, f, ⟨hi, h⟩, hr⟩ := h
  intro H locs ls hl hg
  exact hr u x hi H locs ls r hg (fun H1 locs1 hg1 => hK _ _ _ _ h H1 locs1 ls hl hg1)
theorem gz_o_lld {tab : gz_AL S} (ht : gz_TL tab (fun j n g _ => ∀ (u : S) (x : Int32), vp_in x n → gz_mv p l e R s m args below meth c cells slots Q nL a G (pc + 1) pc [gz_i x, gz_r j] u [gz_l (g u x.toNatClampNeg)] u)) : gz_ok (gz_Z p l e R s m args below meth c cells slots Q nL a G) Kr pc (gz_lld (pc + 1) tab) := by
  intro K hK L st u h
  replace h := gz_popi_inv h
  obtain ⟨x, r1, rfl, h⟩ := h
  replace h := gz_popr_inv h
  obtain ⟨j, r, rfl, h⟩ := h
  replace h := ht j _ h
  obtain ⟨n, g, f, ⟨hi, h⟩, hr⟩ := h
  intro H locs ls hl hg
  exact hr u x hi H locs ls r hg (fun H1 locs1 hg1 => hK _ _ _ _ h H1 locs1 ls hl hg1)
theorem gz_o_ist {tab : gz_AI S} (ht : gz_TI tab (fun j n g f => ∀ (u : S) (x y : Int32), vp_in x n → gz_mv p l e R s m args below meth c cells slots Q nL a G (pc + 1) pc [gz_i y, gz_i x, gz_r j] u [] (f u x y))) : gz_ok (gz_Z p l e R s m args below meth c cells slots Q nL a G) Kr pc (gz_ist (pc + 1) tab) := by
  intro K hK L st u h
  replace h := gz_popi_inv h
  obtain ⟨y, r2, rfl, h⟩ := h
  replace h := gz_popi_inv h
  obtain ⟨x, r1, rfl, h⟩ := h
  replace h := gz_popr_inv h
  obtain ⟨j, r, rfl, h⟩ := h
  replace h := ht j _ h
  obtain ⟨n, g, f, ⟨hi, h⟩, hr⟩ := h
  intro H locs ls hl hg
  exact hr u x y hi H locs ls r hg (fun H1 locs1 hg1 => hK _ _ _ _ h H1 locs1 ls hl hg1)
theorem gz_o_zst {tab : gz_AI S} (ht : gz_TI tab (fun j n g f => ∀ (u : S) (x y : Int32), vp_in x n → gz_mv p l e R s m args below meth c cells slots Q nL a G (pc + 1) pc [gz_i y, gz_i x, gz_r j] u [] (f u x (vp_nar .boolean y)))) : gz_ok (gz_Z p l e R s m args below meth c cells slots Q nL a G) Kr pc (gz_zst (pc + 1) tab) := by
  intro K hK L st u h
  replace h := gz_popi_inv h
  obtain ⟨y, r2, rfl, h⟩ := h
  replace h := gz_popi_inv h
  obtain ⟨x, r1, rfl, h⟩ := h
  replace h := gz_popr_inv h
  obtain ⟨j, r, rfl, h⟩ := h
  replace h := ht j _ h
  obtain ⟨n, g, f, ⟨hi, h⟩, hr⟩ := h
  intro H locs ls hl hg
  exact hr u x y hi H locs ls r hg (fun H1 locs1 hg1 => hK _ _ _ _ h H1 locs1 ls hl hg1)
theorem gz_o_lst {tab : gz_AL S} (ht : gz_TL tab (fun j n g f => ∀ (u : S) (x : Int32) (y : Int64), vp_in x n → gz_mv p l e R s m args below meth c cells slots Q nL a G (pc + 1) pc [gz_l y, gz_i x, gz_r j] u [] (f u x y))) : gz_ok (gz_Z p l e R s m args below meth c cells slots Q nL a G) Kr pc (gz_lst (pc + 1) tab) := by
  intro K hK L st u h
  replace h := gz_popl_inv h
  obtain ⟨y, r2, rfl, h⟩ := h
  replace h := gz_popi_inv h
  obtain ⟨x, r1, rfl, h⟩ := h
  replace h := gz_popr_inv h
  obtain ⟨j, r, rfl, h⟩ := h
  replace h := ht j _ h
  obtain ⟨n, g, f, ⟨hi, h⟩, hr⟩ := h
  intro H locs ls hl hg
  exact hr u x y hi H locs ls r hg (fun H1 locs1 hg1 => hK _ _ _ _ h H1 locs1 ls hl hg1)
theorem gz_o_s1P {f : Int32 → Int32} (hr : ∀ (u : S) (x : Int32), gz_cb p l e R s m args below meth c cells slots Q nL a G (pc + 3) pc [gz_i x] u [gz_i (f x)] (u)) : gz_ok (gz_Z p l e R s m args below meth c cells slots Q nL a G) Kr pc (gz_s1P (pc + 3) f) := by
  intro K hK L st u h
  replace h := gz_popi_inv h
  obtain ⟨x, r, rfl, h⟩ := h
  replace h := gz_low_inv h
  obtain ⟨hlow, h⟩ := h
  intro H locs ls hl hg
  exact hr u x H locs ls r hlow hl.1 hg (fun H1 locs1 hg1 => hK _ _ _ _ h H1 locs1 ls hl hg1)
theorem gz_o_s3P {f : Int32 → Int32 → Int32 → Int32} (hr : ∀ (u : S) (x y z : Int32), gz_cb p l e R s m args below meth c cells slots Q nL a G (pc + 3) pc [gz_i z, gz_i y, gz_i x] u [gz_i (f x y z)] (u)) : gz_ok (gz_Z p l e R s m args below meth c cells slots Q nL a G) Kr pc (gz_s3P (pc + 3) f) := by
  intro K hK L st u h
  replace h := gz_popi_inv h
  obtain ⟨z, r3, rfl, h⟩ := h
  replace h := gz_popi_inv h
  obtain ⟨y, r2, rfl, h⟩ := h
  replace h := gz_popi_inv h
  obtain ⟨x, r, rfl, h⟩ := h
  replace h := gz_low_inv h
  obtain ⟨hlow, h⟩ := h
  intro H locs ls hl hg
  exact hr u x y z H locs ls r hlow hl.1 hg (fun H1 locs1 hg1 => hK _ _ _ _ h H1 locs1 ls hl hg1)
theorem gz_o_c0P {i : Nat} {f : S → Int32} (hr : ∀ (u : S), gz_cb p l e R s m args below meth c cells slots Q nL a G (pc + 3) pc [gz_r i] u [gz_i (f u)] (u)) : gz_ok (gz_Z p l e R s m args below meth c cells slots Q nL a G) Kr pc (gz_c0P (pc + 3) i f) := by
  intro K hK L st u h
  replace h := gz_popj_inv h
  obtain ⟨r, rfl, h⟩ := h
  replace h := gz_low_inv h
  obtain ⟨hlow, h⟩ := h
  intro H locs ls hl hg
  exact hr u H locs ls r hlow hl.1 hg (fun H1 locs1 hg1 => hK _ _ _ _ h H1 locs1 ls hl hg1)
theorem gz_o_c1P {i : Nat} {pre : S → Int32 → Prop} {f : S → Int32 → Int32} (hr : ∀ (u : S) (x : Int32), pre u x → gz_cb p l e R s m args below meth c cells slots Q nL a G (pc + 3) pc [gz_i x, gz_r i] u [gz_i (f u x)] (u)) : gz_ok (gz_Z p l e R s m args below meth c cells slots Q nL a G) Kr pc (gz_c1P (pc + 3) i pre f) := by
  intro K hK L st u h
  replace h := gz_popi_inv h
  obtain ⟨x, r1, rfl, h⟩ := h
  replace h := gz_popj_inv h
  obtain ⟨r, rfl, h⟩ := h
  replace h := gz_low_inv h
  obtain ⟨hlow, hp, h⟩ := h
  intro H locs ls hl hg
  exact hr u x hp H locs ls r hlow hl.1 hg (fun H1 locs1 hg1 => hK _ _ _ _ h H1 locs1 ls hl hg1)
theorem gz_o_c2P {i : Nat} {pre : S → Int32 → Int32 → Prop} {f : S → Int32 → Int32 → Int32} (hr : ∀ (u : S) (x y : Int32), pre u x y → gz_cb p l e R s m args below meth c cells slots Q nL a G (pc + 3) pc [gz_i y, gz_i x, gz_r i] u [gz_i (f u x y)] (u)) : gz_ok (gz_Z p l e R s m args below meth c cells slots Q nL a G) Kr pc (gz_c2P (pc + 3) i pre f) := by
  intro K hK L st u h
  replace h := gz_popi_inv h
  obtain ⟨y, r2, rfl, h⟩ := h
  replace h := gz_popi_inv h
  obtain ⟨x, r1, rfl, h⟩ := h
  replace h := gz_popj_inv h
  obtain ⟨r, rfl, h⟩ := h
  replace h := gz_low_inv h
  obtain ⟨hlow, hp, h⟩ := h
  intro H locs ls hl hg
  exact hr u x y hp H locs ls r hlow hl.1 hg (fun H1 locs1 hg1 => hK _ _ _ _ h H1 locs1 ls hl hg1)
theorem gz_o_c1lP {i : Nat} {pre : S → Int32 → Int64 → Prop} {f : S → Int32 → Int64 → Int32} (hr : ∀ (u : S) (x : Int32) (y : Int64), pre u x y → gz_cb p l e R s m args below meth c cells slots Q nL a G (pc + 3) pc [gz_l y, gz_i x, gz_r i] u [gz_i (f u x y)] (u)) : gz_ok (gz_Z p l e R s m args below meth c cells slots Q nL a G) Kr pc (gz_c1lP (pc + 3) i pre f) := by
  intro K hK L st u h
  replace h := gz_popl_inv h
  obtain ⟨y, r2, rfl, h⟩ := h
  replace h := gz_popi_inv h
  obtain ⟨x, r1, rfl, h⟩ := h
  replace h := gz_popj_inv h
  obtain ⟨r, rfl, h⟩ := h
  replace h := gz_low_inv h
  obtain ⟨hlow, hp, h⟩ := h
  intro H locs ls hl hg
  exact hr u x y hp H locs ls r hlow hl.1 hg (fun H1 locs1 hg1 => hK _ _ _ _ h H1 locs1 ls hl hg1)
theorem gz_o_c1I {i : Nat} {pre : S → Int32 → Prop} {f : S → Int32 → Int32} {g : S → Int32 → S} (hr : ∀ (u : S) (x : Int32), pre u x → gz_cb p l e R s m args below meth c cells slots Q nL a G (pc + 3) pc [gz_i x, gz_r i] u [gz_i (f u x)] (g u x)) : gz_ok (gz_Z p l e R s m args below meth c cells slots Q nL a G) Kr pc (gz_c1I (pc + 3) i pre f g) := by
  intro K hK L st u h
  replace h := gz_popi_inv h
  obtain ⟨x, r1, rfl, h⟩ := h
  replace h := gz_popj_inv h
  obtain ⟨r, rfl, h⟩ := h
  replace h := gz_low_inv h
  obtain ⟨hlow, hp, h⟩ := h
  intro H locs ls hl hg
  exact hr u x hp H locs ls r hlow hl.1 hg (fun H1 locs1 hg1 => hK _ _ _ _ h H1 locs1 ls hl hg1)
theorem gz_o_c2I {i : Nat} {pre : S → Int32 → Int32 → Prop} {f : S → Int32 → Int32 → Int32} {g : S → Int32 → Int32 → S} (hr : ∀ (u : S) (x y : Int32), pre u x y → gz_cb p l e R s m args below meth c cells slots Q nL a G (pc + 3) pc [gz_i y, gz_i x, gz_r i] u [gz_i (f u x y)] (g u x y)) : gz_ok (gz_Z p l e R s m args below meth c cells slots Q nL a G) Kr pc (gz_c2I (pc + 3) i pre f g) := by
  intro K hK L st u h
  replace h := gz_popi_inv h
  obtain ⟨y, r2, rfl, h⟩ := h
  replace h := gz_popi_inv h
  obtain ⟨x, r1, rfl, h⟩ := h
  replace h := gz_popj_inv h
  obtain ⟨r, rfl, h⟩ := h
  replace h := gz_low_inv h
  obtain ⟨hlow, hp, h⟩ := h
  intro H locs ls hl hg
  exact hr u x y hp H locs ls r hlow hl.1 hg (fun H1 locs1 hg1 => hK _ _ _ _ h H1 locs1 ls hl hg1)
theorem gz_o_c4I {i : Nat} {pre : S → Int32 → Int32 → Int32 → Int32 → Prop} {f : S → Int32 → Int32 → Int32 → Int32 → Int32} {g : S → Int32 → Int32 → Int32 → Int32 → S} (hr : ∀ (u : S) (x y z w : Int32), pre u x y z w → gz_cb p l e R s m args below meth c cells slots Q nL a G (pc + 3) pc [gz_i w, gz_i z, gz_i y, gz_i x, gz_r i] u [gz_i (f u x y z w)] (g u x y z w)) : gz_ok (gz_Z p l e R s m args below meth c cells slots Q nL a G) Kr pc (gz_c4I (pc + 3) i pre f g) := by
  intro K hK L st u h
  replace h := gz_popi_inv h
  obtain ⟨w, r4, rfl, h⟩ := h
  replace h := gz_popi_inv h
  obtain ⟨z, r3, rfl, h⟩ := h
  replace h := gz_popi_inv h
  obtain ⟨y, r2, rfl, h⟩ := h
  replace h := gz_popi_inv h
  obtain ⟨x, r1, rfl, h⟩ := h
  replace h := gz_popj_inv h
  obtain ⟨r, rfl, h⟩ := h
  replace h := gz_low_inv h
  obtain ⟨hlow, hp, h⟩ := h
  intro H locs ls hl hg
  exact hr u x y z w hp H locs ls r hlow hl.1 hg (fun H1 locs1 hg1 => hK _ _ _ _ h H1 locs1 ls hl hg1)
theorem gz_o_c1V {i : Nat} {pre : S → Int32 → Prop} {g : S → Int32 → S} (hr : ∀ (u : S) (x : Int32), pre u x → gz_cb p l e R s m args below meth c cells slots Q nL a G (pc + 3) pc [gz_i x, gz_r i] u [] (g u x)) : gz_ok (gz_Z p l e R s m args below meth c cells slots Q nL a G) Kr pc (gz_c1V (pc + 3) i pre g) := by
  intro K hK L st u h
  replace h := gz_popi_inv h
  obtain ⟨x, r1, rfl, h⟩ := h
  replace h := gz_popj_inv h
  obtain ⟨r, rfl, h⟩ := h
  replace h := gz_low_inv h
  obtain ⟨hlow, hp, h⟩ := h
  intro H locs ls hl hg
  exact hr u x hp H locs ls r hlow hl.1 hg (fun H1 locs1 hg1 => hK _ _ _ _ h H1 locs1 ls hl hg1)
theorem gz_o_c2V {i : Nat} {pre : S → Int32 → Int32 → Prop} {g : S → Int32 → Int32 → S} (hr : ∀ (u : S) (x y : Int32), pre u x y → gz_cb p l e R s m args below meth c cells slots Q nL a G (pc + 3) pc [gz_i y, gz_i x, gz_r i] u [] (g u x y)) : gz_ok (gz_Z p l e R s m args below meth c cells slots Q nL a G) Kr pc (gz_c2V (pc + 3) i pre g) := by
  intro K hK L st u h
  replace h := gz_popi_inv h
  obtain ⟨y, r2, rfl, h⟩ := h
  replace h := gz_popi_inv h
  obtain ⟨x, r1, rfl, h⟩ := h
  replace h := gz_popj_inv h
  obtain ⟨r, rfl, h⟩ := h
  replace h := gz_low_inv h
  obtain ⟨hlow, hp, h⟩ := h
  intro H locs ls hl hg
  exact hr u x y hp H locs ls r hlow hl.1 hg (fun H1 locs1 hg1 => hK _ _ _ _ h H1 locs1 ls hl hg1)
theorem gz_o_c1lI {i : Nat} {pre : S → Int32 → Int64 → Prop} {f : S → Int32 → Int64 → Int32} {g : S → Int32 → Int64 → S} (hr : ∀ (u : S) (x : Int32) (y : Int64), pre u x y → gz_cb p l e R s m args below meth c cells slots Q nL a G (pc + 3) pc [gz_l y, gz_i x, gz_r i] u [gz_i (f u x y)] (g u x y)) : gz_ok (gz_Z p l e R s m args below meth c cells slots Q nL a G) Kr pc (gz_c1lI (pc + 3) i pre f g) := by
  intro K hK L st u h
  replace h := gz_popl_inv h
  obtain ⟨y, r2, rfl, h⟩ := h
  replace h := gz_popi_inv h
  obtain ⟨x, r1, rfl, h⟩ := h
  replace h := gz_popj_inv h
  obtain ⟨r, rfl, h⟩ := h
  replace h := gz_low_inv h
  obtain ⟨hlow, hp, h⟩ := h
  intro H locs ls hl hg
  exact hr u x y hp H locs ls r hlow hl.1 hg (fun H1 locs1 hg1 => hK _ _ _ _ h H1 locs1 ls hl hg1)
theorem gz_o_clI {i : Nat} {pre : S → Int64 → Prop} {f : S → Int64 → Int32} {g : S → Int64 → S} (hr : ∀ (u : S) (x : Int64), pre u x → gz_cb p l e R s m args below meth c cells slots Q nL a G (pc + 3) pc [gz_l x, gz_r i] u [gz_i (f u x)] (g u x)) : gz_ok (gz_Z p l e R s m args below meth c cells slots Q nL a G) Kr pc (gz_clI (pc + 3) i pre f g) := by
  intro K hK L st u h
  replace h := gz_popl_inv h
  obtain ⟨x, r1, rfl, h⟩ := h
  replace h := gz_popj_inv h
  obtain ⟨r, rfl, h⟩ := h
  replace h := gz_low_inv h
  obtain ⟨hlow, hp, h⟩ := h
  intro H locs ls hl hg
  exact hr u x hp H locs ls r hlow hl.1 hg (fun H1 locs1 hg1 => hK _ _ _ _ h H1 locs1 ls hl hg1)
theorem gz_o_alen {i : Nat} {n : Int32} (hr : ∀ u : S, gz_mv p l e R s m args below meth c cells slots Q nL a G (pc + 1) pc [gz_r i] u [gz_i n] u) : gz_ok (gz_Z p l e R s m args below meth c cells slots Q nL a G) Kr pc (gz_alen (pc + 1) i n) := by
  intro K hK L st u h
  replace h := gz_popj_inv h
  obtain ⟨r, rfl, h⟩ := h
  intro H locs ls hl hg
  exact hr u H locs ls r hg (fun H1 locs1 hg1 => hK _ _ _ _ h H1 locs1 ls hl hg1)
/-- the ends: fin r u: the machine's row of a return with r -/
theorem gz_o_iret (hr : ∀ (u : S) (x : Int32), Kr (some x) u → ∀ (H : Heap) (locs : List Loc) (ls : Array Slot), G u H locs → W p l e R s m args below meth c H locs cells slots Q (F0 m pc ls [.int x])) : gz_ok (gz_Z p l e R s m args below meth c cells slots Q nL a G) Kr pc gz_iret := by
  intro K hK L st u h
  replace h := gz_popi_inv h
  obtain ⟨x, r, rfl, h⟩ := h
  replace h := gz_nil_inv h
  obtain ⟨rfl, h⟩ := h
  intro H locs ls hl hg
  exact hr u x h H locs ls hg
theorem gz_o_zret (hr : ∀ (u : S) (x : Int32), narrow .boolean (.int x) = .int x → Kr (some x) u → ∀ (H : Heap) (locs : List Loc) (ls : Array Slot), G u H locs → W p l e R s m args below meth c H locs cells slots Q (F0 m pc ls [.int x])) : gz_ok (gz_Z p l e R s m args below meth c cells slots Q nL a G) Kr pc gz_zret := by
  intro K hK L st u h
  replace h := gz_popi_inv h
  obtain ⟨x, r, rfl, h⟩ := h
  replace h := gz_nil_inv h
  obtain ⟨rfl, hn, h⟩ := h
  intro H locs ls hl hg
  exact hr u x hn h H locs ls hg
theorem gz_o_vret (hr : ∀ (u : S), Kr none u → ∀ (H : Heap) (locs : List Loc) (ls : Array Slot), G u H locs → W p l e R s m args below meth c H locs cells slots Q (F0 m pc ls [])) : gz_ok (gz_Z p l e R s m args below meth c cells slots Q nL a G) Kr pc gz_vret := by
  intro K hK L st u h
  replace h := gz_nil_inv h
  obtain ⟨rfl, h⟩ := h
  intro H locs ls hl hg
  exact hr u h H locs ls hg
end GZO
