/-! OWN: two worlds side by side (the landed code's and the reference's), as the law has them -/
theorem gz_ap1 {α : Type} {l1 l2 : List α} {k : Nat} {q : α} (h : l1[k]? = some q) : (l1 ++ l2)[k]? = some q := by
  rw [List.getElem?_append_left (List.getElem?_eq_some_iff.mp h).1]; exact h
theorem gz_ap2 {α : Type} {l1 l2 : List α} {k : Nat} {q : α} (h : l2[k]? = some q) : (l1 ++ l2)[l1.length + k]? = some q := by
  rw [List.getElem?_append_right (by omega), Nat.add_sub_cancel_left]; exact h
section GZ2
variable {p : Program} {l : Launch} {e : Env} {R : Room} {s : State} {m : MethodId} {args : Array Value} {below : List Frame} {meth : Method} {c : Code} {cells slots : Nat} {Q : State → Prop} {nL : Nat} {a : Nat → Nat} {pc : Nat} {H : Heap} {locs : List Loc}
variable {D : va_G} {cl : List vw_C} {t1 t2 : List (ClassId × FieldType)} {A : Nat → Prop} {w1 w2 : va_W}
theorem gz_left (G : gz_G D cl (t1 ++ t2) A s (w1 ++ w2) H locs) : gz_G D cl t1 A s w1 H locs :=
  ⟨⟨G.1.1, fun k q h => G.1.2 k q (gz_ap1 h)⟩, fun k q h => G.2.1 k q (gz_ap1 h), ⟨fun i j x y hi hj e => G.2.2.1.1 i j x y (gz_ap1 hi) (gz_ap1 hj) e, fun k q h => G.2.2.1.2 k q (gz_ap1 h)⟩, G.2.2.2⟩
theorem gz_right (G : gz_G D cl (t1 ++ t2) A s (w1 ++ w2) H locs) : gz_G D cl t2 A s w2 H locs := by
  refine ⟨⟨G.1.1, fun k q h => G.1.2 _ q (gz_ap2 h)⟩, fun k q h => G.2.1 _ q (gz_ap2 h), ⟨fun i j x y hi hj e => ?_, fun k q h => G.2.2.1.2 _ q (gz_ap2 h)⟩, G.2.2.2⟩
  have h := G.2.2.1.1 _ _ x y (gz_ap2 hi) (gz_ap2 hj) e
  omega
theorem gz_inA {w : va_W} (h : va_D A w) : ∀ x ∈ w.map (fun q => q.1), A x := by
  intro x hx
  obtain ⟨q, hq, rfl⟩ := List.mem_map.mp hx
  obtain ⟨k, hk⟩ := List.getElem?_of_mem hq
  exact h.2 k q hk
/-- the first world has changed, the second has not -/
theorem gz_new1 {w1' : va_W} {as : List Nat} {H1 : Heap} {locs1 : List Loc} (G : gz_G D cl (t1 ++ t2) A s (w1 ++ w2) H locs) (has : w1.map (fun q => q.1) = as) (has' : w1'.map (fun q => q.1) = as) (hP : va_P D cl w1' H1) (hk : ∀ q : Nat, q < H.size → ¬ gz_A as H.size q → H1[q]? = H[q]?) (hS : va_S A s.heap H1 locs1) : gz_G D cl (t1 ++ t2) A s (w1' ++ w2) H1 locs1 := by
  refine ⟨G.1, va_P.app hP (fun k q h => ?_), gz_D G.2.2.1 ?_ (gz_inA G.2.2.1), hS⟩
  · have hat := G.2.1 _ q (gz_ap2 h)
    have hlt := hat.lt
    refine hat.kept (hk q.1 hlt (fun hq => ?_))
    rcases hq with hm | hge
    · rw [← has] at hm
      obtain ⟨x, hx, ex⟩ := List.mem_map.mp hm
      obtain ⟨i, hi⟩ := List.getElem?_of_mem hx
      have h1 := G.2.2.1.1 i (w1.length + k) x q (gz_ap1 hi) (gz_ap2 h) ex
      have h2 := (List.getElem?_eq_some_iff.mp hi).1
      omega
    · omega
  · rw [List.map_append, List.map_append, has, has']
/-- the second world has changed, the first has not -/
theorem gz_new2 {w2' : va_W} {as : List Nat} {H1 : Heap} {locs1 : List Loc} (G : gz_G D cl (t1 ++ t2) A s (w1 ++ w2) H locs) (has : w2.map (fun q => q.1) = as) (has' : w2'.map (fun q => q.1) = as) (hP : va_P D cl w2' H1) (hk : ∀ q : Nat, q < H.size → ¬ gz_A as H.size q → H1[q]? = H[q]?) (hS : va_S A s.heap H1 locs1) : gz_G D cl (t1 ++ t2) A s (w1 ++ w2') H1 locs1 := by
  refine ⟨G.1, va_P.app (fun k q h => ?_) hP, gz_D G.2.2.1 ?_ (gz_inA G.2.2.1), hS⟩
  · have hat := G.2.1 _ q (gz_ap1 h)
    have hlt := hat.lt
    refine hat.kept (hk q.1 hlt (fun hq => ?_))
    rcases hq with hm | hge
    · rw [← has] at hm
      obtain ⟨x, hx, ex⟩ := List.mem_map.mp hm
      obtain ⟨i, hi⟩ := List.getElem?_of_mem hx
      have h1 := G.2.2.1.1 (w1.length + i) k x q (gz_ap2 hi) (gz_ap1 h) ex
      have h2 := (List.getElem?_eq_some_iff.mp h).1
      omega
    · omega
  · rw [List.map_append, List.map_append, has, has']
variable {S1 S2 : Type} {f1 : S1 → va_W} {f2 : S2 → va_W} {as : List Nat}
theorem gz_cb1 {av : List gz_V} {ar : Array Value} {u : S1 × S2} {r0 : Int32} {z0 : S1} (has : ∀ z : S1, (f1 z).map (fun q => q.1) = as) (hA : ∀ q, s.heap.size ≤ q → A q)
    (hr : ∀ (H : Heap) (locs : List Loc) (ls : Array Slot) (rest : List gz_V), gz_dep rest ≤ 8 → ls.size = nL → gz_G D cl t1 A s (f1 u.1) H locs → va_Run p l e R s m args below meth c H locs cells slots 0 0 (F0 m pc ls (gz_cs a (av ++ rest))) (gz_cs a rest) (va_Qi (fun r z => some r = some r0 ∧ z = z0) (gz_B D cl t1 f1 (gz_A as H.size)) (gz_A as H.size) ar) (gz_A as H.size)) :
    gz_cb p l e R s m args below meth c cells slots Q nL a (gz_GG D cl (t1 ++ t2) A s (fun u : S1 × S2 => f1 u.1 ++ f2 u.2)) (pc + 3) pc av u [gz_i r0] (z0, u.2) := by
  intro H locs ls rest hd hs hg kk
  have hg1 := gz_left hg
  refine va_calli (hr H locs ls rest hd hs hg1) hg.2.2.2 (fun q _ h => gz_own hg1 (has u.1) hA q h) (gz_own hg1 (has u.1) hA) (fun r z t H1 locs1 ht hvm hp hB hz hk hS => ?_)
  obtain ⟨e1, e2⟩ := hp
  cases e1
  subst e2
  exact kk H1 locs1 (gz_new1 hg (has u.1) (has z) (by rw [← ht]; exact hB.1) hk hS)
theorem gz_cb2 {av : List gz_V} {ar : Array Value} {u : S1 × S2} {r0 : Int32} {z0 : S2} (has : ∀ z : S2, (f2 z).map (fun q => q.1) = as) (hA : ∀ q, s.heap.size ≤ q → A q)
    (hr : ∀ (H : Heap) (locs : List Loc) (ls : Array Slot) (rest : List gz_V), gz_dep rest ≤ 8 → ls.size = nL → gz_G D cl t2 A s (f2 u.2) H locs → va_Run p l e R s m args below meth c H locs cells slots 0 0 (F0 m pc ls (gz_cs a (av ++ rest))) (gz_cs a rest) (va_Qi (fun r z => some r = some r0 ∧ z = z0) (gz_B D cl t2 f2 (gz_A as H.size)) (gz_A as H.size) ar) (gz_A as H.size)) :
    gz_cb p l e R s m args below meth c cells slots Q nL a (gz_GG D cl (t1 ++ t2) A s (fun u : S1 × S2 => f1 u.1 ++ f2 u.2)) (pc + 3) pc av u [gz_i r0] (u.1, z0) := by
  intro H locs ls rest hd hs hg kk
  have hg1 := gz_right hg
  refine va_calli (hr H locs ls rest hd hs hg1) hg.2.2.2 (fun q _ h => gz_own hg1 (has u.2) hA q h) (gz_own hg1 (has u.2) hA) (fun r z t H1 locs1 ht hvm hp hB hz hk hS => ?_)
  obtain ⟨e1, e2⟩ := hp
  cases e1
  subst e2
  exact kk H1 locs1 (gz_new2 hg (has u.2) (has z) (by rw [← ht]; exact hB.1) hk hS)
end GZ2
