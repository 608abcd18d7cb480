/-! OWN GENERIC ROWS: a contract over a world whose addresses are fixed and whose contents are a value u : S; entry, return, call -/
/-- words of nest mates: they are not among a callee's words (they don't keep), so they go with the state; gz_nw: the claim's, from its names -/
def gz_isN : Cond → Bool
  | .fieldLinkNest .. => true
  | .methodLinkNest .. => true
  | _ => false
theorem gz_nw_ok : ∀ w ∈ gz_nw, gz_isN w = true := by decide +kernel
/-- the tables' words that keep -/
def lw_gd : List Cond := lw_tbl.filter goodWord
def gz_N (s : State) : Prop := ∀ w ∈ gz_nw, va_Nw w s
theorem gz_isN_on {w : Cond} (h : gz_isN w = true) : w.onTables = true := by
  cases w <;> first | rfl | (exact absurd h (by simp [gz_isN]))
theorem gz_N_warm (hN : ∀ w ∈ gz_nw, gz_isN w = true) {s U : State} (hW : s.WarmedH U.vm) (h : gz_N s) : gz_N U := by
  intro w hw
  have h1 := hN w hw
  have h2 := h w hw
  cases w <;> first | exact va_Nw.warmF hW h2 | exact va_Nw.warmM hW h2 | (exact absurd h1 (by simp [gz_isN]))
theorem gz_N_same (hN : ∀ w ∈ gz_nw, gz_isN w = true) {s U : State} (hW : s.vm = U.vm) (h : gz_N s) : gz_N U := fun w hw => va_Nw.same (gz_isN_on (hN w hw)) hW (h w hw)
def gz_A (as : List Nat) (sz : Nat) : Nat → Prop := fun q => q ∈ as ∨ sz ≤ q
/-- what holds of the world w at a point of a walk -/
def gz_G (D : va_G) (cl : List vw_C) (tys : List (ClassId × FieldType)) (A : Nat → Prop) (s : State) (w : va_W) (H : Heap) (locs : List Loc) : Prop :=
  va_K D cl tys s ∧ va_P D cl w H ∧ va_D A w ∧ va_S A s.heap H locs
def gz_P (D : va_G) (cl : List vw_C) (tys : List (ClassId × FieldType)) (w : va_W) (sz : Nat) (U : State) : Prop := U.heap.size = sz ∧ va_P D cl w U.heap ∧ va_K D cl tys U ∧ va_D (fun _ => True) w ∧ gz_N U
def gz_B {S : Type} (D : va_G) (cl : List vw_C) (tys : List (ClassId × FieldType)) (wf : S → va_W) (A : Nat → Prop) (u : S) (t : State) : Prop := va_P D cl (wf u) t.heap ∧ va_K D cl tys t ∧ va_D A (wf u)
/-- contract of a method that answers an int (or a boolean) -/
def gz_Ci {S : Type} (l : Launch) (y : MethodName) (ws : List Cond) (rm : Room) (D : va_G) (cl : List vw_C) (tys : List (ClassId × FieldType)) (wf : S → va_W) (as : List Nat) (av : List Value) (u : S) (post : Int32 → S → Prop) : Prop :=
  ∀ sz : Nat, Met l y ws rm (va_Pc av (gz_P D cl tys (wf u) sz)) (va_Qi post (gz_B D cl tys wf (gz_A as sz)) (gz_A as sz)) 0 0 (gz_A as sz)
/-- contract of a method that answers nothing -/
def gz_Cv {S : Type} (l : Launch) (y : MethodName) (ws : List Cond) (rm : Room) (D : va_G) (cl : List vw_C) (tys : List (ClassId × FieldType)) (wf : S → va_W) (as : List Nat) (av : List Value) (u : S) (post : S → Prop) : Prop :=
  ∀ sz : Nat, Met l y ws rm (va_Pc av (gz_P D cl tys (wf u) sz)) (va_Qv post (gz_B D cl tys wf (gz_A as sz)) (gz_A as sz)) 0 0 (gz_A as sz)
/-- the fixed facts of a walk -/
def gz_F (p : Program) (s : State) (m : MethodId) (args : Array Value) (meth : Method) (c : Code) (cc : ByteArray) (maxL : Nat) (ret : Option FieldType) (ws : List Cond) (own : String) : Prop :=
  p.tables.exec = Jvm.exec ∧ c.code = cc ∧ meth.sig.returnType = ret ∧ c.maxLocals = maxL ∧ s.vm.findClass own = some m.cls ∧ (∀ w ∈ ws, w.before args s = true) ∧ meth.locks = false ∧ gz_N s
theorem gz_D {w w' : va_W} {A B : Nat → Prop} (h : va_D A w) (e : w'.map (fun q => q.1) = w.map (fun q => q.1)) (hB : ∀ a ∈ w.map (fun q => q.1), B a) : va_D B w' := by
  have key : ∀ (i : Nat) (q : Nat × va_E), w'[i]? = some q → ∃ q0, w[i]? = some q0 ∧ q0.1 = q.1 := by
    intro i q hq
    have h1 : (w'.map (fun q => q.1))[i]? = some q.1 := by rw [List.getElem?_map, hq]; rfl
    rw [e, List.getElem?_map] at h1
    cases hw : w[i]? with
    | none => rw [hw] at h1; cases h1
    | some q0 => rw [hw] at h1; exact ⟨q0, rfl, Option.some.inj h1⟩
  refine ⟨fun i j a b ha hb hab => ?_, fun k q hq => ?_⟩
  · obtain ⟨a0, h1, h2⟩ := key i a ha
    obtain ⟨b0, h3, h4⟩ := key j b hb
    exact h.1 i j a0 b0 h1 h3 (by rw [h2, h4, hab])
  · obtain ⟨q0, h1, h2⟩ := key k q hq
    rw [← h2]
    exact hB _ (List.mem_map.mpr ⟨q0, List.mem_of_getElem? h1, rfl⟩)
section GZ
variable {p : Program} {l : Launch} {e : Env} {R : Room} {s : State} {m : MethodId} {args : Array Value} {below : List Frame} {meth : Method} {c : Code} {H : Heap} {locs : List Loc} {cells slots : Nat} {Q : State → Prop}
variable {cc : ByteArray} {pc : Nat} {ls : Array Slot} {rest : List Value} {D : va_G} {cl : List vw_C} {tys : List (ClassId × FieldType)} {A : Nat → Prop} {S : Type} {wf : S → va_W} {as : List Nat} {u : S} {y : MethodName} {ws : List Cond} {maxL : Nat} {ret : Option FieldType} {own : String}
theorem gz_enter {ws' : List Cond} {rm : Room} {av : List Value} {post : Int32 → S → Prop}
    (hy : plainName y.cls = true) (hw : ws = Cond.code y cc maxL ret :: ws') (has : (wf u).map (fun q => q.1) = as) (hn : (lg_sl av).length ≤ maxL)
    (body : ∀ (p : Program) (e : Env) (s : State) (m : MethodId) (below : List Frame) (meth : Method) (c : Code) (ls : Array Slot), gz_F p s m av.toArray meth c cc maxL ret ws y.cls → gz_G D cl tys (gz_A as s.heap.size) s (wf u) s.heap [] → lv_has ls maxL (lv_args 0 av) →
      W p l e rm s m av.toArray below meth c s.heap [] 0 0 (MQ below (va_Qi post (gz_B D cl tys wf (gz_A as s.heap.size)) (gz_A as s.heap.size)) av.toArray s 0 0 (gz_A as s.heap.size)) (F0 m 0 ls [])) :
    gz_Ci l y ws rm D cl tys wf as av u post := by
  intro sz
  refine Met.ofW (cc := cc) (maxL := maxL) (ret := ret) hy hw ?_
  intro p e s m args below meth c s₁ B hml hv
  obtain ⟨rfl, hsz, hP, hK, hD0, hN0⟩ := hv
  subst hsz
  have hl := lv_entry av (n := maxL) hn
  rw [lg_entry_eq]
  exact body p e s m below meth c _ ⟨B.exec, B.bytes, B.returns, hml, findClass_of_methodNamed B.named, atoms_spec (ws := ws) B.pre, B.notSynchronized, hN0⟩
    ⟨hK, hP, gz_D hD0 rfl (fun a ha => Or.inl (has ▸ ha)), va_S.rf⟩ hl
theorem gz_enterV {ws' : List Cond} {rm : Room} {av : List Value} {post : S → Prop}
    (hy : plainName y.cls = true) (hw : ws = Cond.code y cc maxL ret :: ws') (has : (wf u).map (fun q => q.1) = as) (hn : (lg_sl av).length ≤ maxL)
    (body : ∀ (p : Program) (e : Env) (s : State) (m : MethodId) (below : List Frame) (meth : Method) (c : Code) (ls : Array Slot), gz_F p s m av.toArray meth c cc maxL ret ws y.cls → gz_G D cl tys (gz_A as s.heap.size) s (wf u) s.heap [] → lv_has ls maxL (lv_args 0 av) →
      W p l e rm s m av.toArray below meth c s.heap [] 0 0 (MQ below (va_Qv post (gz_B D cl tys wf (gz_A as s.heap.size)) (gz_A as s.heap.size)) av.toArray s 0 0 (gz_A as s.heap.size)) (F0 m 0 ls [])) :
    gz_Cv l y ws rm D cl tys wf as av u post := by
  intro sz
  refine Met.ofW (cc := cc) (maxL := maxL) (ret := ret) hy hw ?_
  intro p e s m args below meth c s₁ B hml hv
  obtain ⟨rfl, hsz, hP, hK, hD0, hN0⟩ := hv
  subst hsz
  have hl := lv_entry av (n := maxL) hn
  rw [lg_entry_eq]
  exact body p e s m below meth c _ ⟨B.exec, B.bytes, B.returns, hml, findClass_of_methodNamed B.named, atoms_spec (ws := ws) B.pre, B.notSynchronized, hN0⟩
    ⟨hK, hP, gz_D hD0 rfl (fun a ha => Or.inl (has ▸ ha)), va_S.rf⟩ hl
theorem gz_ri {v : Int32} {post : Int32 → S → Prop} (F : gz_F p s m args meth c cc maxL (some .int) ws own) (G : gz_G D cl tys (gz_A as s.heap.size) s (wf u) H locs) (hdg : decode cc pc = .ok (.ireturn, 1)) (hp : post v u) :
    W p l e R s m args below meth c H locs 0 0 (MQ below (va_Qi post (gz_B D cl tys wf (gz_A as s.heap.size)) (gz_A as s.heap.size)) args s 0 0 (gz_A as s.heap.size)) (F0 m pc ls [.int v]) :=
  W.iret (v := v) F.1 F.2.1 F.2.2.1 (fun t ht hW => ⟨⟨v, u, rfl, hp, by rw [ht]; exact G.2.1, va_K.moved hW.alike G.1, G.2.2.1⟩, G.2.2.2.F ht⟩) G.2.2.2.2.2 hdg F.2.2.2.2.2.2.1
theorem gz_rz {v : Int32} {post : Int32 → S → Prop} (F : gz_F p s m args meth c cc maxL (some .boolean) ws own) (G : gz_G D cl tys (gz_A as s.heap.size) s (wf u) H locs) (hdg : decode cc pc = .ok (.ireturn, 1)) (hn : narrow .boolean (.int v) = .int v) (hp : post v u) :
    W p l e R s m args below meth c H locs 0 0 (MQ below (va_Qi post (gz_B D cl tys wf (gz_A as s.heap.size)) (gz_A as s.heap.size)) args s 0 0 (gz_A as s.heap.size)) (F0 m pc ls [.int v]) :=
  W.zret (v := v) F.1 F.2.1 F.2.2.1 hn (fun t ht hW => ⟨⟨v, u, rfl, hp, by rw [ht]; exact G.2.1, va_K.moved hW.alike G.1, G.2.2.1⟩, G.2.2.2.F ht⟩) G.2.2.2.2.2 hdg F.2.2.2.2.2.2.1
theorem gz_rv {post : S → Prop} (F : gz_F p s m args meth c cc maxL none ws own) (G : gz_G D cl tys (gz_A as s.heap.size) s (wf u) H locs) (hdg : decode cc pc = .ok (.return_, 1)) (hp : post u) :
    W p l e R s m args below meth c H locs 0 0 (MQ below (va_Qv post (gz_B D cl tys wf (gz_A as s.heap.size)) (gz_A as s.heap.size)) args s 0 0 (gz_A as s.heap.size)) (F0 m pc ls []) :=
  W.vret F.1 F.2.1 F.2.2.1 (fun t ht hW => ⟨⟨u, rfl, hp, by rw [ht]; exact G.2.1, va_K.moved hW.alike G.1, G.2.2.1⟩, G.2.2.2.F ht⟩) G.2.2.2.2.2 hdg F.2.2.2.2.2.2.1
/-- the world as a callee wants it -/
theorem gz_pre {w : va_W} {av : List Value} (hNo : ∀ w ∈ gz_nw, gz_isN w = true) (hN : gz_N s) (G : gz_G D cl tys A s w H locs) : FrameBlind (va_Pc av (gz_P D cl tys w H.size)) ∧ ∀ U : State, U.heap = H → s.WarmedH U.vm → va_Pc av (gz_P D cl tys w H.size) av.toArray U :=
  ⟨fun a U g mk q => by obtain ⟨q0, q1, qP, qK, qD, qN⟩ := q; exact ⟨q0, q1, qP, va_K.moved (u := U) (U := U.calling g mk a) (Vm.Alike.refl U.vm) qK, qD, gz_N_same hNo (s := U) (U := U.calling g mk a) rfl qN⟩,
   fun U hU hW => ⟨rfl, by rw [hU], by rw [hU]; exact G.2.1, va_K.moved hW.alike G.1, G.2.2.1.weaken (fun _ _ _ _ => trivial), gz_N_warm hNo hW hN⟩⟩
/-- what comes back from a callee -/
theorem gz_back {w : va_W} {u' : S} {H1 : Heap} {locs1 : List Loc} {t : State} (has : (wf u').map (fun q => q.1) = w.map (fun q => q.1)) (G : gz_G D cl tys A s w H locs) (ht : t.heap = H1) (hB : gz_B D cl tys wf (gz_A as H.size) u' t) (hvm : s.vm.Alike t.vm) (hS : va_S A s.heap H1 locs1) : gz_G D cl tys A s (wf u') H1 locs1 := by
  refine ⟨G.1, by rw [← ht]; exact hB.1, gz_D G.2.2.1 has (fun a ha => ?_), hS⟩
  obtain ⟨q, hq, rfl⟩ := List.mem_map.mp ha
  obtain ⟨k, hk⟩ := List.getElem?_of_mem hq
  exact G.2.2.1.2 k q hk
/-- the callee's cells are ours -/
theorem gz_own {w : va_W} (G : gz_G D cl tys A s w H locs) (has : w.map (fun q => q.1) = as) (hA : ∀ q, s.heap.size ≤ q → A q) : ∀ q, gz_A as H.size q → A q := by
  intro q hq
  rcases hq with h | h
  · rw [← has] at h
    obtain ⟨x, hx, rfl⟩ := List.mem_map.mp h
    obtain ⟨k, hk⟩ := List.getElem?_of_mem hx
    exact G.2.2.1.2 k x hk
  · exact hA q (Nat.le_trans G.2.2.2.1 h)
/-- a call behind its run: int -/
theorem gz_goi {post : Int32 → S → Prop} {a : Array Value} {st0 : List Value} (has : ∀ z : S, (wf z).map (fun q => q.1) = as) (G : gz_G D cl tys A s (wf u) H locs) (hA : ∀ q, s.heap.size ≤ q → A q)
    (hr : va_Run p l e R s m args below meth c H locs cells slots 0 0 (F0 m pc ls st0) rest (va_Qi post (gz_B D cl tys wf (gz_A as H.size)) (gz_A as H.size) a) (gz_A as H.size))
    (kk : ∀ (r : Int32) (z : S) (H1 : Heap) (locs1 : List Loc), post r z → gz_G D cl tys A s (wf z) H1 locs1 → W p l e R s m args below meth c H1 locs1 cells slots Q (F0 m (pc + 3) ls (.int r :: rest))) : W p l e R s m args below meth c H locs cells slots Q (F0 m pc ls st0) :=
  va_calli hr G.2.2.2 (fun q _ h => gz_own G (has u) hA q h) (gz_own G (has u) hA) (fun r z t H1 locs1 ht hvm hp hB hz hk hS => kk r z H1 locs1 hp (gz_back ((has z).trans (has u).symm) G ht hB hvm hS))
theorem gz_gov {post : S → Prop} {a : Array Value} {st0 : List Value} (has : ∀ z : S, (wf z).map (fun q => q.1) = as) (G : gz_G D cl tys A s (wf u) H locs) (hA : ∀ q, s.heap.size ≤ q → A q)
    (hr : va_Run p l e R s m args below meth c H locs cells slots 0 0 (F0 m pc ls st0) rest (va_Qv post (gz_B D cl tys wf (gz_A as H.size)) (gz_A as H.size) a) (gz_A as H.size))
    (kk : ∀ (z : S) (H1 : Heap) (locs1 : List Loc), post z → gz_G D cl tys A s (wf z) H1 locs1 → W p l e R s m args below meth c H1 locs1 cells slots Q (F0 m (pc + 3) ls rest)) : W p l e R s m args below meth c H locs cells slots Q (F0 m pc ls st0) :=
  va_callv hr G.2.2.2 (fun q _ h => gz_own G (has u) hA q h) (gz_own G (has u) hA) (fun z t H1 locs1 ht hvm hp hB hz hk hS => kk z H1 locs1 hp (gz_back ((has z).trans (has u).symm) G ht hB hvm hS))
end GZ
