/-! OWN ENGINE, third part: what the heap's rows and the calls give where G is a world; contracts out of a table's run -/
/-- fewer places of a list, by their places in it -/
def gz_pick (L : gz_L) (ks : List Nat) : gz_L := ks.filterMap (fun k => L[k]?)
/-- what a table does from its entry: of every predicate that is closed under runs of the table, and that may forget places -/
def gz_shut {S : Type} (tb : List (Nat × gz_T S)) (Kr : Option Int32 → S → Prop) (Z : gz_K S) : Prop :=
  (∀ (stops : List Nat) (n pc : Nat) (L : gz_L) (st : List gz_V) (u : S), gz_one tb (gz_run tb stops Z Kr n) Kr pc L st u → Z pc L st u) ∧ ∀ (ks : List Nat) (pc : Nat) (L : gz_L) (st : List gz_V) (u : S), Z pc (gz_pick L ks) st u → Z pc L st u
def gz_does {S : Type} (tb : List (Nat × gz_T S)) (Kr : Option Int32 → S → Prop) (L0 : gz_L) (u : S) : Prop := ∀ Z : gz_K S, gz_shut tb Kr Z → Z 0 L0 [] u
theorem gz_shut_Z {S : Type} {p : Program} {l : Launch} {e : Env} {R : Room} {s : State} {m : MethodId} {args : Array Value} {below : List Frame} {meth : Method} {c : Code} {cells slots : Nat} {Q : State → Prop} {nL : Nat} {a : Nat → Nat} {G : S → Heap → List Loc → Prop} {Kr : Option Int32 → S → Prop} {tb : List (Nat × gz_T S)} (ho : gz_oks (gz_Z p l e R s m args below meth c cells slots Q nL a G) Kr tb) : gz_shut tb Kr (gz_Z p l e R s m args below meth c cells slots Q nL a G) := by
  refine ⟨fun stops n pc L st u h => gz_go ho stops n h, fun ks pc L st u h => ?_⟩
  intro H locs ls hl hg
  refine h H locs ls ⟨hl.1, hl.2.1, fun q hq => ?_⟩ hg
  obtain ⟨w, hw, rfl⟩ := List.mem_map.mp hq
  obtain ⟨k, -, hk⟩ := List.mem_filterMap.mp hw
  exact hl.2.2 _ (List.mem_map.mpr ⟨w, List.mem_of_getElem? hk, rfl⟩)
section GZR
variable {S : Type} {p : Program} {l : Launch} {e : Env} {R : Room} {s : State} {m : MethodId} {args : Array Value} {below : List Frame} {meth : Method} {c : Code} {cells slots : Nat} {Q : State → Prop} {cc : ByteArray} {nL : Nat} {a : Nat → Nat} {Kr : Option Int32 → S → Prop} {pc : Nat}
variable {D : va_G} {cl : List vw_C} {tys : List (ClassId × FieldType)} {A : Nat → Prop} {wf : S → va_W} {as : List Nat} {u z : S} {own ref C host : String} {T : u_T} {N ci index i : Nat} {Ts : List Cond} {fs : List Value} {v : gz_V}
abbrev gz_GG (D : va_G) (cl : List vw_C) (tys : List (ClassId × FieldType)) (A : Nat → Prop) (s : State) {S : Type} (wf : S → va_W) : S → Heap → List Loc → Prop := fun u H locs => gz_G D cl tys A s (wf u) H locs
theorem gz_m_get (hx : p.tables.exec = Jvm.exec) (hb : c.code = cc) (hts : ∀ w ∈ Ts, w.before args s = true) (hin : ∀ w ∈ u_ws C T N, w ∈ Ts) (hown : s.vm.findClass own = some m.cls) (q0 : Nat) (he : (wf u)[q0]? = some (a i, .inr (ci, fs))) (hc : cl[ci]? = some (C, T, N)) (k : Nat) (hk : k < N) (hlink : (Cond.fieldLink own index ref (T k).2.1 (T k).2.2.1).before args s = true) (hsame : ∀ x, s.fieldFound? (T k).1 (T k).2.1 (T k).2.2.1 = some x → s.fieldFound? ref (T k).2.1 (T k).2.2.1 = some x) (hv : fs[k]? = some (gz_cv a v)) (hdg : decode cc pc = .ok (.getfield index, 3)) :
    gz_mv p l e R s m args below meth c cells slots Q nL a (gz_GG D cl tys A s wf) (pc + 3) pc [gz_r i] u [v] u := by
  intro H locs ls rest hg kk
  exact va_get hx hb hts hin hown hg.1 hg.2.1 q0 he hc k hk hlink hsame hv hdg (kk H locs hg)
theorem gz_m_getN (hx : p.tables.exec = Jvm.exec) (hb : c.code = cc) (hts : ∀ w ∈ Ts, w.before args s = true) (hin : ∀ w ∈ u_ws C T N, w ∈ Ts) (hown : s.vm.findClass own = some m.cls) (q0 : Nat) (he : (wf u)[q0]? = some (a i, .inr (ci, fs))) (hc : cl[ci]? = some (C, T, N)) (k : Nat) (hk : k < N) (hlink : (Cond.fieldLinkNest own index ref (T k).2.1 (T k).2.2.1 host).before args s = true) (hsame : ∀ x, s.fieldFound? (T k).1 (T k).2.1 (T k).2.2.1 = some x → s.fieldFound? ref (T k).2.1 (T k).2.2.1 = some x) (hv : fs[k]? = some (gz_cv a v)) (hdg : decode cc pc = .ok (.getfield index, 3)) :
    gz_mv p l e R s m args below meth c cells slots Q nL a (gz_GG D cl tys A s wf) (pc + 3) pc [gz_r i] u [v] u := by
  intro H locs ls rest hg kk
  exact va_getN hx hb hts hin hown hg.1 hg.2.1 q0 he hc k hk hlink hsame hv hdg (kk H locs hg)
theorem gz_m_put (hx : p.tables.exec = Jvm.exec) (hb : c.code = cc) (hts : ∀ w ∈ Ts, w.before args s = true) (hin : ∀ w ∈ u_ws C T N, w ∈ Ts) (ty0 : Nat → FieldType) (hty : ∀ k, k < N → parseFieldDescriptor (T k).2.2.1 = some (ty0 k)) (hnm : ∀ a, a < N → ∀ b, b < N → a ≠ b → (T a).2.1 ≠ (T b).2.1) (hown : s.vm.findClass own = some m.cls) (q0 : Nat) (he : (wf u)[q0]? = some (a i, .inr (ci, fs))) (hc : cl[ci]? = some (C, T, N)) (k : Nat) (hk : k < N) (hlink : (Cond.fieldLink own index ref (T k).2.1 (T k).2.2.1).before args s = true) (hsame : ∀ x, s.fieldFound? (T k).1 (T k).2.1 (T k).2.2.1 = some x → s.fieldFound? ref (T k).2.1 (T k).2.2.1 = some x) (hfin : (T k).2.2.2 = false) {ty : FieldType} (hd : parseFieldDescriptor (T k).2.2.1 = some ty) (hn : narrow ty (gz_cv a v) = gz_cv a v) (hfit : fits ty (gz_cv a v) = true) (hl : k < fs.length) (hset : (wf u).set q0 (a i, .inr (ci, fs.set k (gz_cv a v))) = wf z) (hdg : decode cc pc = .ok (.putfield index, 3)) :
    gz_mv p l e R s m args below meth c cells slots Q nL a (gz_GG D cl tys A s wf) (pc + 3) pc [v, gz_r i] u [] z := by
  intro H locs ls rest hg kk
  exact va_put hx hb hts hin ty0 hty hnm hown hg.1 hg.2.1 hg.2.2.1 hg.2.2.2 q0 he hc k hk hlink hsame hfin hd hn hfit hl hdg (fun H1 locs1 hP hD hS => kk H1 locs1 ⟨hg.1, by rw [← hset]; exact hP, by rw [← hset]; exact hD, hS⟩)
theorem gz_m_putN (hx : p.tables.exec = Jvm.exec) (hb : c.code = cc) (hts : ∀ w ∈ Ts, w.before args s = true) (hin : ∀ w ∈ u_ws C T N, w ∈ Ts) (ty0 : Nat → FieldType) (hty : ∀ k, k < N → parseFieldDescriptor (T k).2.2.1 = some (ty0 k)) (hnm : ∀ a, a < N → ∀ b, b < N → a ≠ b → (T a).2.1 ≠ (T b).2.1) (hown : s.vm.findClass own = some m.cls) (q0 : Nat) (he : (wf u)[q0]? = some (a i, .inr (ci, fs))) (hc : cl[ci]? = some (C, T, N)) (k : Nat) (hk : k < N) (hlink : (Cond.fieldLinkNest own index ref (T k).2.1 (T k).2.2.1 host).before args s = true) (hsame : ∀ x, s.fieldFound? (T k).1 (T k).2.1 (T k).2.2.1 = some x → s.fieldFound? ref (T k).2.1 (T k).2.2.1 = some x) (hfin : (T k).2.2.2 = false) {ty : FieldType} (hd : parseFieldDescriptor (T k).2.2.1 = some ty) (hn : narrow ty (gz_cv a v) = gz_cv a v) (hfit : fits ty (gz_cv a v) = true) (hl : k < fs.length) (hset : (wf u).set q0 (a i, .inr (ci, fs.set k (gz_cv a v))) = wf z) (hdg : decode cc pc = .ok (.putfield index, 3)) :
    gz_mv p l e R s m args below meth c cells slots Q nL a (gz_GG D cl tys A s wf) (pc + 3) pc [v, gz_r i] u [] z := by
  intro H locs ls rest hg kk
  exact va_putN hx hb hts hin ty0 hty hnm hown hg.1 hg.2.1 hg.2.2.1 hg.2.2.2 q0 he hc k hk hlink hsame hfin hd hn hfit hl hdg (fun H1 locs1 hP hD hS => kk H1 locs1 ⟨hg.1, by rw [← hset]; exact hP, by rw [← hset]; exact hD, hS⟩)
theorem gz_m_ild (hx : p.tables.exec = Jvm.exec) (hb : c.code = cc) (q0 t0 : Nat) {cA : ClassId} {n : Nat} {f : Nat → Int32} (ha : (wf u)[q0]? = some (a i, .inl (cA, n, .inl f))) (ht : tys[t0]? = some (cA, .int)) (hdg : decode cc pc = .ok (.iaload, 1)) {x : Int32} (hin : vp_in x n) :
    gz_mv p l e R s m args below meth c cells slots Q nL a (gz_GG D cl tys A s wf) (pc + 1) pc [gz_i x, gz_r i] u [gz_i (f x.toNatClampNeg)] u := by
  intro H locs ls rest hg kk
  exact va_iald hx hb hg.1 hg.2.1 q0 t0 ha ht hin hdg (kk H locs hg)
theorem gz_m_zld (hx : p.tables.exec = Jvm.exec) (hb : c.code = cc) (q0 t0 : Nat) {cA : ClassId} {n : Nat} {f : Nat → Int32} (ha : (wf u)[q0]? = some (a i, .inl (cA, n, .inl f))) (ht : tys[t0]? = some (cA, .boolean)) (hdg : decode cc pc = .ok (.baload, 1)) {x : Int32} (hin : vp_in x n) :
    gz_mv p l e R s m args below meth c cells slots Q nL a (gz_GG D cl tys A s wf) (pc + 1) pc [gz_i x, gz_r i] u [gz_i (f x.toNatClampNeg)] u := by
  intro H locs ls rest hg kk
  exact va_zald hx hb hg.1 hg.2.1 q0 t0 ha ht hin hdg (kk H locs hg)
theorem gz_m_lld (hx : p.tables.exec = Jvm.exec) (hb : c.code = cc) (q0 t0 : Nat) {cA : ClassId} {n : Nat} {f : Nat → Int64} (ha : (wf u)[q0]? = some (a i, .inl (cA, n, .inr (.inl f)))) (ht : tys[t0]? = some (cA, .long)) (hdg : decode cc pc = .ok (.laload, 1)) {x : Int32} (hin : vp_in x n) :
    gz_mv p l e R s m args below meth c cells slots Q nL a (gz_GG D cl tys A s wf) (pc + 1) pc [gz_i x, gz_r i] u [gz_l (f x.toNatClampNeg)] u := by
  intro H locs ls rest hg kk
  exact va_lald hx hb hg.1 hg.2.1 q0 t0 ha ht hin hdg (kk H locs hg)
theorem gz_m_ist (hx : p.tables.exec = Jvm.exec) (hb : c.code = cc) (q0 t0 : Nat) {cA : ClassId} {n : Nat} {f : Nat → Int32} (ha : (wf u)[q0]? = some (a i, .inl (cA, n, .inl f))) (ht : tys[t0]? = some (cA, .int)) (hdg : decode cc pc = .ok (.iastore, 1)) {x y : Int32} (hin : vp_in x n) (hset : (wf u).set q0 (a i, .inl (cA, n, .inl (upd f x.toNatClampNeg y))) = wf z) :
    gz_mv p l e R s m args below meth c cells slots Q nL a (gz_GG D cl tys A s wf) (pc + 1) pc [gz_i y, gz_i x, gz_r i] u [] z := by
  intro H locs ls rest hg kk
  exact va_iast hx hb hg.1 hg.2.1 hg.2.2.1 hg.2.2.2 q0 t0 ha ht hin hdg (fun H1 locs1 hP hD hS => kk H1 locs1 ⟨hg.1, by rw [← hset]; exact hP, by rw [← hset]; exact hD, hS⟩)
theorem gz_m_zst (hx : p.tables.exec = Jvm.exec) (hb : c.code = cc) (q0 t0 : Nat) {cA : ClassId} {n : Nat} {f : Nat → Int32} (ha : (wf u)[q0]? = some (a i, .inl (cA, n, .inl f))) (ht : tys[t0]? = some (cA, .boolean)) (hdg : decode cc pc = .ok (.bastore, 1)) {x y : Int32} (hin : vp_in x n) (hset : (wf u).set q0 (a i, .inl (cA, n, .inl (upd f x.toNatClampNeg (vp_nar .boolean y)))) = wf z) :
    gz_mv p l e R s m args below meth c cells slots Q nL a (gz_GG D cl tys A s wf) (pc + 1) pc [gz_i y, gz_i x, gz_r i] u [] z := by
  intro H locs ls rest hg kk
  exact va_zast hx hb hg.1 hg.2.1 hg.2.2.1 hg.2.2.2 q0 t0 ha ht hin hdg (fun H1 locs1 hP hD hS => kk H1 locs1 ⟨hg.1, by rw [← hset]; exact hP, by rw [← hset]; exact hD, hS⟩)
theorem gz_m_lst (hx : p.tables.exec = Jvm.exec) (hb : c.code = cc) (q0 t0 : Nat) {cA : ClassId} {n : Nat} {f : Nat → Int64} (ha : (wf u)[q0]? = some (a i, .inl (cA, n, .inr (.inl f)))) (ht : tys[t0]? = some (cA, .long)) (hdg : decode cc pc = .ok (.lastore, 1)) {x : Int32} {y : Int64} (hin : vp_in x n) (hset : (wf u).set q0 (a i, .inl (cA, n, .inr (.inl (vp_updL f x.toNatClampNeg y)))) = wf z) :
    gz_mv p l e R s m args below meth c cells slots Q nL a (gz_GG D cl tys A s wf) (pc + 1) pc [gz_l y, gz_i x, gz_r i] u [] z := by
  intro H locs ls rest hg kk
  exact va_last hx hb hg.1 hg.2.1 hg.2.2.1 hg.2.2.2 q0 t0 ha ht hin hdg (fun H1 locs1 hP hD hS => kk H1 locs1 ⟨hg.1, by rw [← hset]; exact hP, by rw [← hset]; exact hD, hS⟩)
/-- calls: what the machine's run of a callee gives -/
theorem gz_cbI {av : List gz_V} {ar : Array Value} {r0 : Int32} {z0 : S} (has : ∀ z : S, (wf z).map (fun q => q.1) = as) (hA : ∀ q, s.heap.size ≤ q → A q)
    (hr : ∀ (H : Heap) (locs : List Loc) (ls : Array Slot) (rest : List gz_V), gz_dep rest ≤ 8 → ls.size = nL → gz_G D cl tys A s (wf u) H locs → va_Run p l e R s m args below meth c H locs cells slots 0 0 (F0 m pc ls (gz_cs a (av ++ rest))) (gz_cs a rest) (va_Qi (fun r z => some r = some r0 ∧ z = z0) (gz_B D cl tys wf (gz_A as H.size)) (gz_A as H.size) ar) (gz_A as H.size)) :
    gz_cb p l e R s m args below meth c cells slots Q nL a (gz_GG D cl tys A s wf) (pc + 3) pc av u [gz_i r0] z0 := by
  intro H locs ls rest hd hs hg kk
  refine gz_goi has hg hA (hr H locs ls rest hd hs hg) (fun r z H1 locs1 hp hG => ?_)
  obtain ⟨h1, h2⟩ := hp
  cases h1
  subst h2
  exact kk H1 locs1 hG
theorem gz_cbV {av : List gz_V} {ar : Array Value} {z0 : S} (has : ∀ z : S, (wf z).map (fun q => q.1) = as) (hA : ∀ q, s.heap.size ≤ q → A q)
    (hr : ∀ (H : Heap) (locs : List Loc) (ls : Array Slot) (rest : List gz_V), gz_dep rest ≤ 8 → ls.size = nL → gz_G D cl tys A s (wf u) H locs → va_Run p l e R s m args below meth c H locs cells slots 0 0 (F0 m pc ls (gz_cs a (av ++ rest))) (gz_cs a rest) (va_Qv (fun z => (none : Option Int32) = none ∧ z = z0) (gz_B D cl tys wf (gz_A as H.size)) (gz_A as H.size) ar) (gz_A as H.size)) :
    gz_cb p l e R s m args below meth c cells slots Q nL a (gz_GG D cl tys A s wf) (pc + 3) pc av u [] z0 := by
  intro H locs ls rest hd hs hg kk
  refine gz_gov has hg hA (hr H locs ls rest hd hs hg) (fun z H1 locs1 hp hG => ?_)
  obtain ⟨-, h2⟩ := hp
  subst h2
  exact kk H1 locs1 hG
theorem gz_mon {rest : List gz_V} {ls : Array Slot} {st : List Value} (h : gz_dep rest ≤ 8) : 2 * (F0 m pc ls st).monitorRoom + ((gz_cs a rest).map fun v => v.category).sum ≤ 8 := by
  show 2 * 0 + _ ≤ 8
  rw [gz_dep_cs]
  omega
/-- a callee's contract by cells: av in the order of the arguments -/
def gz_MI (l : Launch) (y : MethodName) (ws : List Cond) (rm : Room) (D : va_G) (cl : List vw_C) (tys : List (ClassId × FieldType)) {S : Type} (wf : S → va_W) (as : List Nat) (a : Nat → Nat) (av : List gz_V) (u : S) (r0 : Int32) (z0 : S) : Prop := gz_Ci l y ws rm D cl tys wf as (gz_cs a av) u (fun r z => some r = some r0 ∧ z = z0)
def gz_MV (l : Launch) (y : MethodName) (ws : List Cond) (rm : Room) (D : va_G) (cl : List vw_C) (tys : List (ClassId × FieldType)) {S : Type} (wf : S → va_W) (as : List Nat) (a : Nat → Nat) (av : List gz_V) (u : S) (z0 : S) : Prop := gz_Cv l y ws rm D cl tys wf as (gz_cs a av) u (fun z => (none : Option Int32) = none ∧ z = z0)
theorem gz_stk {i : Nat} {bs rest : List gz_V} : gz_cs a ((bs.reverse ++ [gz_r i]) ++ rest) = (gz_cs a bs).reverse ++ Value.ref (a i) :: gz_cs a rest := by
  simp [gz_cs, gz_cv, List.map_append, List.map_reverse]
theorem gz_stkS {bs rest : List gz_V} : gz_cs a (bs.reverse ++ rest) = (gz_cs a bs).reverse ++ gz_cs a rest := by
  simp [gz_cs, List.map_append, List.map_reverse]
section GZC
variable {y : MethodName} {bytes : ByteArray} {maxL n : Nat} {ret : Option FieldType} {ws : List Cond} {rm : Room} {Qc : Nat → Array Value → State → Outcome → State → Prop} {bs : List gz_V}
theorem gz_runV (hN : gz_N s) (F : CallFix p m c cc nL s args Ts own) (hM : ∀ sz : Nat, Met l y ws rm (va_Pc (gz_cs a (gz_r i :: bs)) (gz_P D cl tys (wf u) sz)) (Qc sz) 0 0 (gz_A as sz)) (cw : CallW R s args own C index y bytes maxL ret ws rm 0 0 n) (hc : cl[ci]? = some (C, T, N)) (q0 : Nat) (he : (wf u)[q0]? = some (a i, .inr (ci, fs))) (hn : bs.length = n) (hdg : decode cc pc = .ok (.invokevirtual index, 3)) (hf : cells ≤ R.cells ∧ slots ≤ R.slots) :
    ∀ (H : Heap) (locs : List Loc) (ls : Array Slot) (rest : List gz_V), gz_dep rest ≤ 8 → ls.size = nL → gz_G D cl tys A s (wf u) H locs → va_Run p l e R s m args below meth c H locs cells slots 0 0 (F0 m pc ls (gz_cs a ((bs.reverse ++ [gz_r i]) ++ rest))) (gz_cs a rest) (Qc H.size (gz_cs a (gz_r i :: bs)).toArray) (gz_A as H.size) := by
  intro H locs ls rest hd hs hg
  exact va_runV (As := gz_cs a bs) (rest := gz_cs a rest) (b := a i) F (hM H.size) cw ⟨(gz_pre gz_nw_ok hN hg).1, va_recv hg.1 hg.2.1 hc he, (gz_pre gz_nw_ok hN hg).2⟩ rfl (by rw [← hn]; exact List.length_map ..) hs gz_stk (gz_mon hd) hdg hf
theorem gz_runN (hN : gz_N s) (F : CallFix p m c cc nL s args Ts own) (hM : ∀ sz : Nat, Met l y ws rm (va_Pc (gz_cs a (gz_r i :: bs)) (gz_P D cl tys (wf u) sz)) (Qc sz) 0 0 (gz_A as sz)) (cw : va_CN R s args own index y host bytes maxL ret ws rm 0 0 n ∧ (Cond.instanceMethod y).before args s = true ∧ (Cond.selects C y y).before args s = true) (hc : cl[ci]? = some (C, T, N)) (q0 : Nat) (he : (wf u)[q0]? = some (a i, .inr (ci, fs))) (hn : bs.length = n) (hdg : decode cc pc = .ok (.invokevirtual index, 3)) (hf : cells ≤ R.cells ∧ slots ≤ R.slots) :
    ∀ (H : Heap) (locs : List Loc) (ls : Array Slot) (rest : List gz_V), gz_dep rest ≤ 8 → ls.size = nL → gz_G D cl tys A s (wf u) H locs → va_Run p l e R s m args below meth c H locs cells slots 0 0 (F0 m pc ls (gz_cs a ((bs.reverse ++ [gz_r i]) ++ rest))) (gz_cs a rest) (Qc H.size (gz_cs a (gz_r i :: bs)).toArray) (gz_A as H.size) := by
  intro H locs ls rest hd hs hg
  exact va_runVN (As := gz_cs a bs) (rest := gz_cs a rest) (b := a i) F (hM H.size) cw ⟨(gz_pre gz_nw_ok hN hg).1, va_recv hg.1 hg.2.1 hc he, (gz_pre gz_nw_ok hN hg).2⟩ rfl (by rw [← hn]; exact List.length_map ..) hs gz_stk (gz_mon hd) hdg hf
theorem gz_runS (hN : gz_N s) (F : CallFix p m c cc nL s args Ts own) (hM : ∀ sz : Nat, Met l y ws rm (va_Pc (gz_cs a bs) (gz_P D cl tys (wf u) sz)) (Qc sz) 0 0 (gz_A as sz)) (cw : CallB R s args own index y bytes maxL ret ws rm 0 0 n ∧ (Cond.static y).before args s = true) (hn : bs.length = n) (hdg : decode cc pc = .ok (.invokestatic index, 3)) (hf : cells ≤ R.cells ∧ slots ≤ R.slots) :
    ∀ (H : Heap) (locs : List Loc) (ls : Array Slot) (rest : List gz_V), gz_dep rest ≤ 8 → ls.size = nL → gz_G D cl tys A s (wf u) H locs → va_Run p l e R s m args below meth c H locs cells slots 0 0 (F0 m pc ls (gz_cs a (bs.reverse ++ rest))) (gz_cs a rest) (Qc H.size (gz_cs a bs).toArray) (gz_A as H.size) := by
  intro H locs ls rest hd hs hg
  exact va_runS (As := gz_cs a bs) (rest := gz_cs a rest) F (hM H.size) cw (gz_pre gz_nw_ok hN hg) rfl (by rw [← hn]; exact List.length_map ..) hs gz_stkS (gz_mon hd) hdg hf
theorem gz_runSN (hN : gz_N s) (F : CallFix p m c cc nL s args Ts own) (hM : ∀ sz : Nat, Met l y ws rm (va_Pc (gz_cs a bs) (gz_P D cl tys (wf u) sz)) (Qc sz) 0 0 (gz_A as sz)) (cw : va_CN R s args own index y host bytes maxL ret ws rm 0 0 n ∧ (Cond.static y).before args s = true ∧ True) (hn : bs.length = n) (hdg : decode cc pc = .ok (.invokestatic index, 3)) (hf : cells ≤ R.cells ∧ slots ≤ R.slots) :
    ∀ (H : Heap) (locs : List Loc) (ls : Array Slot) (rest : List gz_V), gz_dep rest ≤ 8 → ls.size = nL → gz_G D cl tys A s (wf u) H locs → va_Run p l e R s m args below meth c H locs cells slots 0 0 (F0 m pc ls (gz_cs a (bs.reverse ++ rest))) (gz_cs a rest) (Qc H.size (gz_cs a bs).toArray) (gz_A as H.size) := by
  intro H locs ls rest hd hs hg
  exact va_runSN (As := gz_cs a bs) (rest := gz_cs a rest) F (hM H.size) cw (gz_pre gz_nw_ok hN hg) rfl (by rw [← hn]; exact List.length_map ..) hs gz_stkS (gz_mon hd) hdg hf
/-- the ends of a method whose world is all that it may change -/
theorem gz_e_i {post : Option Int32 → S → Prop} {args : Array Value} {own : String} {maxL : Nat} (F : gz_F p s m args meth c cc maxL (some .int) ws own) (hdg : decode cc pc = .ok (.ireturn, 1)) : ∀ (u : S) (x : Int32), post (some x) u → ∀ (H : Heap) (locs : List Loc) (ls : Array Slot), gz_GG D cl tys (gz_A as s.heap.size) s wf u H locs → W p l e R s m args below meth c H locs 0 0 (MQ below (va_Qi (fun r z => post (some r) z) (gz_B D cl tys wf (gz_A as s.heap.size)) (gz_A as s.heap.size)) args s 0 0 (gz_A as s.heap.size)) (F0 m pc ls [.int x]) := by
  intro u x hp H locs ls hg
  exact gz_ri F hg hdg hp
theorem gz_e_z {post : Option Int32 → S → Prop} {args : Array Value} {own : String} {maxL : Nat} (F : gz_F p s m args meth c cc maxL (some .boolean) ws own) (hdg : decode cc pc = .ok (.ireturn, 1)) : ∀ (u : S) (x : Int32), narrow .boolean (.int x) = .int x → post (some x) u → ∀ (H : Heap) (locs : List Loc) (ls : Array Slot), gz_GG D cl tys (gz_A as s.heap.size) s wf u H locs → W p l e R s m args below meth c H locs 0 0 (MQ below (va_Qi (fun r z => post (some r) z) (gz_B D cl tys wf (gz_A as s.heap.size)) (gz_A as s.heap.size)) args s 0 0 (gz_A as s.heap.size)) (F0 m pc ls [.int x]) := by
  intro u x hn hp H locs ls hg
  exact gz_rz F hg hdg hn hp
theorem gz_e_v {post : Option Int32 → S → Prop} {args : Array Value} {own : String} {maxL : Nat} (F : gz_F p s m args meth c cc maxL none ws own) (hdg : decode cc pc = .ok (.return_, 1)) : ∀ (u : S), post none u → ∀ (H : Heap) (locs : List Loc) (ls : Array Slot), gz_GG D cl tys (gz_A as s.heap.size) s wf u H locs → W p l e R s m args below meth c H locs 0 0 (MQ below (va_Qv (fun z => post none z) (gz_B D cl tys wf (gz_A as s.heap.size)) (gz_A as s.heap.size)) args s 0 0 (gz_A as s.heap.size)) (F0 m pc ls []) := by
  intro u hp H locs ls hg
  exact gz_rv F hg hdg hp
/-- a contract out of a table's run -/
theorem gz_metI {ws' : List Cond} {av : List gz_V} {L0 : gz_L} {tb : List (Nat × gz_T S)} {r0 : Int32} {z0 : S} (hy : plainName y.cls = true) (hw : ws = Cond.code y cc maxL ret :: ws') (has : ∀ z : S, (wf z).map (fun q => q.1) = as) (hn : (lg_sl (gz_cs a av)).length ≤ maxL) (hL : lv_args 0 (gz_cs a av) = gz_cl a L0) (hd : gz_does tb (fun r z => r = some r0 ∧ z = z0) L0 u)
    (ho : ∀ (p : Program) (e : Env) (s : State) (m : MethodId) (below : List Frame) (meth : Method) (c : Code), gz_F p s m (gz_cs a av).toArray meth c cc maxL ret ws y.cls → gz_oks (gz_Z p l e rm s m (gz_cs a av).toArray below meth c 0 0 (MQ below (va_Qi (fun r z => some r = some r0 ∧ z = z0) (gz_B D cl tys wf (gz_A as s.heap.size)) (gz_A as s.heap.size)) (gz_cs a av).toArray s 0 0 (gz_A as s.heap.size)) maxL a (gz_GG D cl tys (gz_A as s.heap.size) s wf)) (fun r z => r = some r0 ∧ z = z0) tb) :
    gz_MI l y ws rm D cl tys wf as a av u r0 z0 :=
  gz_enter hy hw (has u) hn (fun p e s m below meth c ls F G hl => hd _ (gz_shut_Z (ho p e s m below meth c F)) s.heap [] ls (by rw [← hL]; exact hl) G)
theorem gz_metV {ws' : List Cond} {av : List gz_V} {L0 : gz_L} {tb : List (Nat × gz_T S)} {z0 : S} (hy : plainName y.cls = true) (hw : ws = Cond.code y cc maxL ret :: ws') (has : ∀ z : S, (wf z).map (fun q => q.1) = as) (hn : (lg_sl (gz_cs a av)).length ≤ maxL) (hL : lv_args 0 (gz_cs a av) = gz_cl a L0) (hd : gz_does tb (fun r z => r = none ∧ z = z0) L0 u)
    (ho : ∀ (p : Program) (e : Env) (s : State) (m : MethodId) (below : List Frame) (meth : Method) (c : Code), gz_F p s m (gz_cs a av).toArray meth c cc maxL ret ws y.cls → gz_oks (gz_Z p l e rm s m (gz_cs a av).toArray below meth c 0 0 (MQ below (va_Qv (fun z => (none : Option Int32) = none ∧ z = z0) (gz_B D cl tys wf (gz_A as s.heap.size)) (gz_A as s.heap.size)) (gz_cs a av).toArray s 0 0 (gz_A as s.heap.size)) maxL a (gz_GG D cl tys (gz_A as s.heap.size) s wf)) (fun r z => r = none ∧ z = z0) tb) :
    gz_MV l y ws rm D cl tys wf as a av u z0 :=
  gz_enterV hy hw (has u) hn (fun p e s m below meth c ls F G hl => hd _ (gz_shut_Z (ho p e s m below meth c F)) s.heap [] ls (by rw [← hL]; exact hl) G)
end GZC
end GZR
