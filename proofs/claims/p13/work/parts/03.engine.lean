/-! OWN ENGINE: a method's bytes as a table of (pc, predicate transformer); what a run of the table gives, holds of the machine.
A value of a walk is a cell of the world by its place, an int, or a long. -/
abbrev gz_V : Type := Nat ⊕ (Int32 ⊕ Int64)
abbrev gz_r (i : Nat) : gz_V := Sum.inl i
abbrev gz_i (x : Int32) : gz_V := Sum.inr (Sum.inl x)
abbrev gz_l (x : Int64) : gz_V := Sum.inr (Sum.inr x)
def gz_cv (a : Nat → Nat) : gz_V → Value
  | .inl i => .ref (a i)
  | .inr (.inl x) => .int x
  | .inr (.inr x) => .long x
def gz_cat : gz_V → Nat
  | .inr (.inr _) => 2
  | _ => 1
theorem gz_cv_cat (a : Nat → Nat) (v : gz_V) : (gz_cv a v).category = gz_cat v := by
  rcases v with i | x | y <;> rfl
abbrev gz_L : Type := List (Nat × gz_V)
def gz_cl (a : Nat → Nat) (L : gz_L) : List (Nat × Value) := L.map (fun q => (q.1, gz_cv a q.2))
def gz_cs (a : Nat → Nat) (st : List gz_V) : List Value := st.map (gz_cv a)
/-- units of depth of a stack -/
def gz_dep : List gz_V → Nat
  | [] => 0
  | v :: st => gz_cat v + gz_dep st
theorem gz_dep_cs (a : Nat → Nat) : ∀ st : List gz_V, ((gz_cs a st).map fun v => v.category).sum = gz_dep st
  | [] => rfl
  | v :: st => by
    show (gz_cv a v).category + ((gz_cs a st).map fun v => v.category).sum = gz_cat v + gz_dep st
    rw [gz_cv_cat, gz_dep_cs a st]
def gz_look : gz_L → Nat → Option gz_V
  | [], _ => none
  | q :: l, i => cond (Nat.beq q.1 i) (some q.2) (gz_look l i)
theorem gz_look_mem : ∀ (L : gz_L) (i : Nat) (v : gz_V), gz_look L i = some v → (i, v) ∈ L
  | [], _, _, h => by cases h
  | q :: l, i, v, h => by
    unfold gz_look at h
    cases hb : Nat.beq q.1 i with
    | true =>
      rw [hb] at h
      have h1 : q.1 = i := Nat.eq_of_beq_eq_true hb
      have h2 : q.2 = v := Option.some.inj h
      rw [← h1, ← h2]
      exact List.mem_cons_self
    | false =>
      rw [hb] at h
      exact List.mem_cons_of_mem _ (gz_look_mem l i v h)
theorem gz_lk {a : Nat → Nat} {ls : Array Slot} {n : Nat} {L : gz_L} {i : Nat} {v : gz_V} (h : lv_has ls n (gz_cl a L)) (hv : gz_look L i = some v) : ls[i]? = some (.val (gz_cv a v)) :=
  h.2.2 (i, gz_cv a v) (List.mem_map.mpr ⟨(i, v), gz_look_mem L i v hv, rfl⟩)
def gz_del (i : Nat) : gz_L → gz_L
  | [] => []
  | q :: l => cond (Nat.beq q.1 i) (gz_del i l) (cond (Nat.beq (q.1 + 1) i && Nat.beq (gz_cat q.2) 2) (gz_del i l) (q :: gz_del i l))
/-- the list with v at i, kept in the order of the places -/
def gz_ins (i : Nat) (v : gz_V) : gz_L → gz_L
  | [] => [(i, v)]
  | q :: l => cond (Nat.blt i q.1) ((i, v) :: gz_del i (q :: l)) (cond (Nat.beq q.1 i) ((i, v) :: gz_del i l) (cond (Nat.beq (q.1 + 1) i && Nat.beq (gz_cat q.2) 2) (gz_ins i v l) (q :: gz_ins i v l)))
def gz_far (i : Nat) (q : Nat × gz_V) : Prop := q.1 ≠ i ∧ ¬ (q.1 + 1 = i ∧ gz_cat q.2 = 2)
theorem gz_far_of {i : Nat} {q : Nat × gz_V} (h1 : Nat.beq q.1 i = false) (h2 : (Nat.beq (q.1 + 1) i && Nat.beq (gz_cat q.2) 2) = false) : gz_far i q := by
  refine ⟨Nat.ne_of_beq_eq_false h1, fun hh => ?_⟩
  have e1 : Nat.beq (q.1 + 1) i = true := by rw [hh.1]; exact Nat.beq_refl i
  have e2 : Nat.beq (gz_cat q.2) 2 = true := by rw [hh.2]; rfl
  rw [e1, e2] at h2
  cases h2
theorem gz_del_far (i : Nat) : ∀ (L : gz_L) (q : Nat × gz_V), q ∈ gz_del i L → q ∈ L ∧ gz_far i q
  | [], q, h => by cases h
  | x :: l, q, h => by
    unfold gz_del at h
    cases h1 : Nat.beq x.1 i with
    | true =>
      rw [h1] at h
      exact ⟨List.mem_cons_of_mem _ (gz_del_far i l q h).1, (gz_del_far i l q h).2⟩
    | false =>
      rw [h1] at h
      cases h2 : (Nat.beq (x.1 + 1) i && Nat.beq (gz_cat x.2) 2) with
      | true =>
        rw [h2] at h
        exact ⟨List.mem_cons_of_mem _ (gz_del_far i l q h).1, (gz_del_far i l q h).2⟩
      | false =>
        rw [h2] at h
        rcases List.mem_cons.mp h with h3 | h3
        · subst h3
          exact ⟨List.mem_cons_self, gz_far_of h1 h2⟩
        · exact ⟨List.mem_cons_of_mem _ (gz_del_far i l q h3).1, (gz_del_far i l q h3).2⟩
theorem gz_ins_far (i : Nat) (v : gz_V) : ∀ (L : gz_L) (q : Nat × gz_V), q ∈ gz_ins i v L → q = (i, v) ∨ (q ∈ L ∧ gz_far i q)
  | [], q, h => by
    rcases List.mem_cons.mp h with h3 | h3
    · exact Or.inl h3
    · cases h3
  | x :: l, q, h => by
    unfold gz_ins at h
    cases h0 : Nat.blt i x.1 with
    | true =>
      rw [h0] at h
      rcases List.mem_cons.mp h with h3 | h3
      · exact Or.inl h3
      · exact Or.inr (gz_del_far i (x :: l) q h3)
    | false =>
      rw [h0] at h
      cases h1 : Nat.beq x.1 i with
      | true =>
        rw [h1] at h
        rcases List.mem_cons.mp h with h3 | h3
        · exact Or.inl h3
        · exact Or.inr ⟨List.mem_cons_of_mem _ (gz_del_far i l q h3).1, (gz_del_far i l q h3).2⟩
      | false =>
        rw [h1] at h
        cases h2 : (Nat.beq (x.1 + 1) i && Nat.beq (gz_cat x.2) 2) with
        | true =>
          rw [h2] at h
          rcases gz_ins_far i v l q h with h3 | h3
          · exact Or.inl h3
          · exact Or.inr ⟨List.mem_cons_of_mem _ h3.1, h3.2⟩
        | false =>
          rw [h2] at h
          rcases List.mem_cons.mp h with h3 | h3
          · subst h3
            exact Or.inr ⟨List.mem_cons_self, gz_far_of h1 h2⟩
          · rcases gz_ins_far i v l q h3 with h4 | h4
            · exact Or.inl h4
            · exact Or.inr ⟨List.mem_cons_of_mem _ h4.1, h4.2⟩
theorem gz_has_ins {a : Nat → Nat} {ls : Array Slot} {n i : Nat} {L : gz_L} {v : gz_V} (h : lv_has ls n ((i, gz_cv a v) :: (gz_cl a L).filter (fun q => !(q.1 == i) && !(q.1 + 1 == i && q.2.category == 2)))) : lv_has ls n (gz_cl a (gz_ins i v L)) := by
  refine ⟨h.1, h.2.1, fun q hq => ?_⟩
  obtain ⟨w, hw, rfl⟩ := List.mem_map.mp hq
  rcases gz_ins_far i v L w hw with h1 | ⟨h1, h2, h3⟩
  · subst h1
    exact h.2.2 (i, gz_cv a v) List.mem_cons_self
  · refine h.2.2 (w.1, gz_cv a w.2) (List.mem_cons_of_mem _ (List.mem_filter.mpr ⟨List.mem_map.mpr ⟨w, h1, rfl⟩, ?_⟩))
    show (!(w.1 == i) && !(w.1 + 1 == i && (gz_cv a w.2).category == 2)) = true
    rw [gz_cv_cat]
    have e1 : (w.1 == i) = false := by simp [h2]
    have e2 : (w.1 + 1 == i && gz_cat w.2 == 2) = false := by
      by_cases k1 : w.1 + 1 = i
      · by_cases k2 : gz_cat w.2 = 2
        · exact absurd ⟨k1, k2⟩ h3
        · simp [k2]
      · simp [k1]
    rw [e1, e2]
    rfl
-- what comes next, and one instruction
abbrev gz_K (S : Type) : Type := Nat → gz_L → List gz_V → S → Prop
abbrev gz_T (S : Type) : Type := gz_L → List gz_V → S → gz_K S → (Option Int32 → S → Prop) → Prop
/-- taking from the stack: an int, a long, the cell i, a cell, anything of one unit -/
def gz_popi (st : List gz_V) (k : Int32 → List gz_V → Prop) : Prop := match st with
  | .inr (.inl x) :: r => k x r
  | _ => False
def gz_popl (st : List gz_V) (k : Int64 → List gz_V → Prop) : Prop := match st with
  | .inr (.inr x) :: r => k x r
  | _ => False
def gz_popr (st : List gz_V) (k : Nat → List gz_V → Prop) : Prop := match st with
  | .inl j :: r => k j r
  | _ => False
def gz_popj (i : Nat) (st : List gz_V) (k : List gz_V → Prop) : Prop := match st with
  | .inl j :: r => cond (Nat.beq j i) (k r) False
  | _ => False
def gz_popa (st : List gz_V) (k : gz_V → List gz_V → Prop) : Prop := match st with
  | v :: r => cond (Nat.beq (gz_cat v) 1) (k v r) False
  | _ => False
theorem gz_popi_inv {st : List gz_V} {k : Int32 → List gz_V → Prop} (h : gz_popi st k) : ∃ x r, st = gz_i x :: r ∧ k x r := by
  cases st with
  | nil => exact False.elim h
  | cons v r =>
    rcases v with i | x | y
    · exact False.elim h
    · exact ⟨x, r, rfl, h⟩
    · exact False.elim h
theorem gz_popl_inv {st : List gz_V} {k : Int64 → List gz_V → Prop} (h : gz_popl st k) : ∃ x r, st = gz_l x :: r ∧ k x r := by
  cases st with
  | nil => exact False.elim h
  | cons v r =>
    rcases v with i | x | y
    · exact False.elim h
    · exact False.elim h
    · exact ⟨y, r, rfl, h⟩
theorem gz_popr_inv {st : List gz_V} {k : Nat → List gz_V → Prop} (h : gz_popr st k) : ∃ x r, st = gz_r x :: r ∧ k x r := by
  cases st with
  | nil => exact False.elim h
  | cons v r =>
    rcases v with i | x | y
    · exact ⟨i, r, rfl, h⟩
    · exact False.elim h
    · exact False.elim h
theorem gz_popj_inv {i : Nat} {st : List gz_V} {k : List gz_V → Prop} (h : gz_popj i st k) : ∃ r, st = gz_r i :: r ∧ k r := by
  cases st with
  | nil => exact False.elim h
  | cons v r =>
    rcases v with j | x | y
    · have h1 : cond (Nat.beq j i) (k r) False := h
      cases hb : Nat.beq j i with
      | true =>
        rw [hb] at h1
        rw [Nat.eq_of_beq_eq_true hb]
        exact ⟨r, rfl, h1⟩
      | false =>
        rw [hb] at h1
        exact False.elim h1
    · exact False.elim h
    · exact False.elim h
theorem gz_popa_inv {st : List gz_V} {k : gz_V → List gz_V → Prop} (h : gz_popa st k) : ∃ v r, st = v :: r ∧ gz_cat v = 1 ∧ k v r := by
  cases st with
  | nil => exact False.elim h
  | cons v r =>
    have h1 : cond (Nat.beq (gz_cat v) 1) (k v r) False := h
    cases hb : Nat.beq (gz_cat v) 1 with
    | true =>
      rw [hb] at h1
      exact ⟨v, r, rfl, Nat.eq_of_beq_eq_true hb, h1⟩
    | false =>
      rw [hb] at h1
      exact False.elim h1
def gz_some {α : Type} (o : Option α) (k : α → Prop) : Prop := match o with
  | some v => k v
  | none => False
theorem gz_some_inv {α : Type} {o : Option α} {k : α → Prop} (h : gz_some o k) : ∃ v, o = some v ∧ k v := by
  cases o with
  | none => exact False.elim h
  | some v => exact ⟨v, rfl, h⟩
def gz_nil (st : List gz_V) (P : Prop) : Prop := match st with
  | [] => P
  | _ => False
theorem gz_nil_inv {st : List gz_V} {P : Prop} (h : gz_nil st P) : st = [] ∧ P := by
  cases st with
  | nil => exact ⟨rfl, h⟩
  | cons v r => exact False.elim h
/-- things of depth at most 8 below a call -/
def gz_low (st : List gz_V) (P : Prop) : Prop := cond (Nat.ble (gz_dep st) 8) P False
theorem gz_low_inv {st : List gz_V} {P : Prop} (h : gz_low st P) : gz_dep st ≤ 8 ∧ P := by
  have h1 : cond (Nat.ble (gz_dep st) 8) P False := h
  cases hb : Nat.ble (gz_dep st) 8 with
  | true =>
    rw [hb] at h1
    exact ⟨Nat.le_of_ble_eq_true hb, h1⟩
  | false =>
    rw [hb] at h1
    exact False.elim h1
-- the transformers; nx: the pc behind the instruction
section GZT
variable {S : Type}
def gz_push (nx : Nat) (v : gz_V) : gz_T S := fun L st u K _ => K nx L (v :: st) u
def gz_ldi (nx i : Nat) : gz_T S := fun L st u K _ => gz_some (gz_look L i) fun v => gz_popi [v] fun x _ => K nx L (gz_i x :: st) u
def gz_ldl (nx i : Nat) : gz_T S := fun L st u K _ => gz_some (gz_look L i) fun v => gz_popl [v] fun x _ => K nx L (gz_l x :: st) u
def gz_lda (nx i : Nat) : gz_T S := fun L st u K _ => gz_some (gz_look L i) fun v => gz_popr [v] fun x _ => K nx L (gz_r x :: st) u
def gz_stor (nx i : Nat) : gz_T S := fun L st u K _ => gz_popi st fun x r => K nx (gz_ins i (gz_i x) L) r u
def gz_storR (nx i : Nat) : gz_T S := fun L st u K _ => gz_popr st fun x r => K nx (gz_ins i (gz_r x) L) r u
def gz_iinc (nx i : Nat) (c : Int32) : gz_T S := fun L st u K _ => gz_some (gz_look L i) fun v => gz_popi [v] fun x _ => K nx (gz_ins i (gz_i (x + c)) L) st u
def gz_iop (nx : Nat) (f : Int32 → Int32 → Int32) : gz_T S := fun L st u K _ => gz_popi st fun y r => gz_popi r fun x q => K nx L (gz_i (f x y) :: q) u
def gz_lop (nx : Nat) (f : Int64 → Int64 → Int64) : gz_T S := fun L st u K _ => gz_popl st fun y r => gz_popl r fun x q => K nx L (gz_l (f x y) :: q) u
def gz_lsh (nx : Nat) (f : Int64 → Int32 → Int64) : gz_T S := fun L st u K _ => gz_popi st fun y r => gz_popl r fun x q => K nx L (gz_l (f x y) :: q) u
def gz_itol (nx : Nat) : gz_T S := fun L st u K _ => gz_popi st fun x r => K nx L (gz_l x.toInt64 :: r) u
def gz_lcmp (nx : Nat) : gz_T S := fun L st u K _ => gz_popl st fun y r => gz_popl r fun x q => K nx L (gz_i (lg_cmp x y) :: q) u
def gz_dup (nx : Nat) : gz_T S := fun L st u K _ => gz_popa st fun v r => K nx L (v :: v :: r) u
def gz_pop (nx : Nat) : gz_T S := fun L st u K _ => gz_popa st fun _ r => K nx L r u
/-- branches: P where it jumps, N where it goes on -/
def gz_if (nx tgt : Nat) (P N : Int32 → Prop) : gz_T S := fun L st u K _ => gz_popi st fun x r => (P x → K tgt L r u) ∧ (N x → K nx L r u)
def gz_if2 (nx tgt : Nat) (P N : Int32 → Int32 → Prop) : gz_T S := fun L st u K _ => gz_popi st fun y r => gz_popi r fun x q => (P x y → K tgt L q u) ∧ (N x y → K nx L q u)
def gz_swc (x : Int32) (k : Nat → Prop) (d : Nat) : List (Int32 × Nat) → Prop
  | [] => k d
  | q :: l => (x = q.1 → k q.2) ∧ (¬ x = q.1 → gz_swc x k d l)
def gz_sw (ts : List (Int32 × Nat)) (d : Nat) : gz_T S := fun L st u K _ => gz_popi st fun x r => gz_swc x (fun t => K t L r u) d ts
def gz_goto (tgt : Nat) : gz_T S := fun L st u K _ => K tgt L st u
def gz_getR (nx i j : Nat) : gz_T S := fun L st u K _ => gz_popj i st fun r => K nx L (gz_r j :: r) u
def gz_getI (nx i : Nat) (g : S → Int32) : gz_T S := fun L st u K _ => gz_popj i st fun r => K nx L (gz_i (g u) :: r) u
def gz_getL (nx i : Nat) (g : S → Int64) : gz_T S := fun L st u K _ => gz_popj i st fun r => K nx L (gz_l (g u) :: r) u
def gz_putI (nx i : Nat) (f : S → Int32 → S) : gz_T S := fun L st u K _ => gz_popi st fun x r => gz_popj i r fun q => K nx L q (f u x)
def gz_putL (nx i : Nat) (f : S → Int64 → S) : gz_T S := fun L st u K _ => gz_popl st fun x r => gz_popj i r fun q => K nx L q (f u x)
/-- arrays: tab j k: the array at cell j, by its length, its reading and its writing -/
abbrev gz_AI (S : Type) : Type := Nat → (Nat → (S → Nat → Int32) → (S → Int32 → Int32 → S) → Prop) → Prop
abbrev gz_AL (S : Type) : Type := Nat → (Nat → (S → Nat → Int64) → (S → Int32 → Int64 → S) → Prop) → Prop
def gz_ild (nx : Nat) (tab : gz_AI S) : gz_T S := fun L st u K _ => gz_popi st fun x r => gz_popr r fun j q => tab j fun n g _ => vp_in x n ∧ K nx L (gz_i (g u x.toNatClampNeg) :: q) u
def gz_ist (nx : Nat) (tab : gz_AI S) : gz_T S := fun L st u K _ => gz_popi st fun y r => gz_popi r fun x q => gz_popr q fun j o => tab j fun n _ f => vp_in x n ∧ K nx L o (f u x y)
def gz_zst (nx : Nat) (tab : gz_AI S) : gz_T S := fun L st u K _ => gz_popi st fun y r => gz_popi r fun x q => gz_popr q fun j o => tab j fun n _ f => vp_in x n ∧ K nx L o (f u x (vp_nar .boolean y))
def gz_lld (nx : Nat) (tab : gz_AL S) : gz_T S := fun L st u K _ => gz_popi st fun x r => gz_popr r fun j q => tab j fun n g _ => vp_in x n ∧ K nx L (gz_l (g u x.toNatClampNeg) :: q) u
def gz_lst (nx : Nat) (tab : gz_AL S) : gz_T S := fun L st u K _ => gz_popl st fun y r => gz_popi r fun x q => gz_popr q fun j o => tab j fun n _ f => vp_in x n ∧ K nx L o (f u x y)
/-- the ends -/
def gz_iret : gz_T S := fun _ st u _ Kr => gz_popi st fun x r => gz_nil r (Kr (some x) u)
def gz_zret : gz_T S := fun _ st u _ Kr => gz_popi st fun x r => gz_nil r (narrow .boolean (.int x) = .int x ∧ Kr (some x) u)
def gz_vret : gz_T S := fun _ st u _ Kr => gz_nil st (Kr none u)
/-- calls: static (s), of the cell i (c); arguments ints but for a long (l); an answer and the same state (P), an answer and a new state (I), a new state (V) -/
def gz_s1P (nx : Nat) (f : Int32 → Int32) : gz_T S := fun L st u K _ => gz_popi st fun x r => gz_low r (K nx L (gz_i (f x) :: r) u)
def gz_s3P (nx : Nat) (f : Int32 → Int32 → Int32 → Int32) : gz_T S := fun L st u K _ => gz_popi st fun z r3 => gz_popi r3 fun y r2 => gz_popi r2 fun x r => gz_low r (K nx L (gz_i (f x y z) :: r) u)
def gz_c0P (nx i : Nat) (f : S → Int32) : gz_T S := fun L st u K _ => gz_popj i st fun r => gz_low r (K nx L (gz_i (f u) :: r) u)
def gz_c1P (nx i : Nat) (pre : S → Int32 → Prop) (f : S → Int32 → Int32) : gz_T S := fun L st u K _ => gz_popi st fun x r1 => gz_popj i r1 fun r => gz_low r (pre u x ∧ K nx L (gz_i (f u x) :: r) u)
def gz_c2P (nx i : Nat) (pre : S → Int32 → Int32 → Prop) (f : S → Int32 → Int32 → Int32) : gz_T S := fun L st u K _ => gz_popi st fun y r2 => gz_popi r2 fun x r1 => gz_popj i r1 fun r => gz_low r (pre u x y ∧ K nx L (gz_i (f u x y) :: r) u)
def gz_c1lP (nx i : Nat) (pre : S → Int32 → Int64 → Prop) (f : S → Int32 → Int64 → Int32) : gz_T S := fun L st u K _ => gz_popl st fun y r2 => gz_popi r2 fun x r1 => gz_popj i r1 fun r => gz_low r (pre u x y ∧ K nx L (gz_i (f u x y) :: r) u)
def gz_c1I (nx i : Nat) (pre : S → Int32 → Prop) (f : S → Int32 → Int32) (g : S → Int32 → S) : gz_T S := fun L st u K _ => gz_popi st fun x r1 => gz_popj i r1 fun r => gz_low r (pre u x ∧ K nx L (gz_i (f u x) :: r) (g u x))
def gz_c2I (nx i : Nat) (pre : S → Int32 → Int32 → Prop) (f : S → Int32 → Int32 → Int32) (g : S → Int32 → Int32 → S) : gz_T S := fun L st u K _ => gz_popi st fun y r2 => gz_popi r2 fun x r1 => gz_popj i r1 fun r => gz_low r (pre u x y ∧ K nx L (gz_i (f u x y) :: r) (g u x y))
def gz_c4I (nx i : Nat) (pre : S → Int32 → Int32 → Int32 → Int32 → Prop) (f : S → Int32 → Int32 → Int32 → Int32 → Int32) (g : S → Int32 → Int32 → Int32 → Int32 → S) : gz_T S := fun L st u K _ => gz_popi st fun w r4 => gz_popi r4 fun z r3 => gz_popi r3 fun y r2 => gz_popi r2 fun x r1 => gz_popj i r1 fun r => gz_low r (pre u x y z w ∧ K nx L (gz_i (f u x y z w) :: r) (g u x y z w))
def gz_c1lI (nx i : Nat) (pre : S → Int32 → Int64 → Prop) (f : S → Int32 → Int64 → Int32) (g : S → Int32 → Int64 → S) : gz_T S := fun L st u K _ => gz_popl st fun y r2 => gz_popi r2 fun x r1 => gz_popj i r1 fun r => gz_low r (pre u x y ∧ K nx L (gz_i (f u x y) :: r) (g u x y))
def gz_clI (nx i : Nat) (pre : S → Int64 → Prop) (f : S → Int64 → Int32) (g : S → Int64 → S) : gz_T S := fun L st u K _ => gz_popl st fun x r1 => gz_popj i r1 fun r => gz_low r (pre u x ∧ K nx L (gz_i (f u x) :: r) (g u x))
/-- the length of the array at the cell i -/
def gz_alen (nx i : Nat) (n : Int32) : gz_T S := fun L st u K _ => gz_popj i st fun r => K nx L (gz_i n :: r) u
def gz_c1V (nx i : Nat) (pre : S → Int32 → Prop) (g : S → Int32 → S) : gz_T S := fun L st u K _ => gz_popi st fun x r1 => gz_popj i r1 fun r => gz_low r (pre u x ∧ K nx L r (g u x))
def gz_c2V (nx i : Nat) (pre : S → Int32 → Int32 → Prop) (g : S → Int32 → Int32 → S) : gz_T S := fun L st u K _ => gz_popi st fun y r2 => gz_popi r2 fun x r1 => gz_popj i r1 fun r => gz_low r (pre u x y ∧ K nx L r (g u x y))
/-- a table's instruction, and a run of it up to the stops -/
def gz_at : List (Nat × gz_T S) → Nat → Option (gz_T S)
  | [], _ => none
  | q :: l, pc => cond (Nat.beq q.1 pc) (some q.2) (gz_at l pc)
def gz_mem : List Nat → Nat → Bool
  | [], _ => false
  | q :: l, pc => cond (Nat.beq q pc) true (gz_mem l pc)
def gz_one (tb : List (Nat × gz_T S)) (K : gz_K S) (Kr : Option Int32 → S → Prop) : gz_K S := fun pc L st u => gz_some (gz_at tb pc) fun T => T L st u K Kr
def gz_run (tb : List (Nat × gz_T S)) (stops : List Nat) (K0 : gz_K S) (Kr : Option Int32 → S → Prop) : Nat → gz_K S
  | 0 => K0
  | n + 1 => fun pc L st u => cond (gz_mem stops pc) (K0 pc L st u) (gz_one tb (gz_run tb stops K0 Kr n) Kr pc L st u)
def gz_ok (Z : gz_K S) (Kr : Option Int32 → S → Prop) (pc : Nat) (T : gz_T S) : Prop := ∀ K : gz_K S, (∀ (pc : Nat) (L : gz_L) (st : List gz_V) (u : S), K pc L st u → Z pc L st u) → ∀ (L : gz_L) (st : List gz_V) (u : S), T L st u K Kr → Z pc L st u
def gz_oks (Z : gz_K S) (Kr : Option Int32 → S → Prop) : List (Nat × gz_T S) → Prop
  | [] => True
  | q :: l => gz_ok Z Kr q.1 q.2 ∧ gz_oks Z Kr l
theorem gz_at_ok {Z : gz_K S} {Kr : Option Int32 → S → Prop} : ∀ (tb : List (Nat × gz_T S)), gz_oks Z Kr tb → ∀ (pc : Nat) (T : gz_T S), gz_at tb pc = some T → gz_ok Z Kr pc T
  | [], _, pc, T, h => by cases h
  | q :: l, ho, pc, T, h => by
    unfold gz_at at h
    cases hb : Nat.beq q.1 pc with
    | true =>
      rw [hb] at h
      have h1 : q.1 = pc := Nat.eq_of_beq_eq_true hb
      have h2 : q.2 = T := Option.some.inj h
      rw [← h1, ← h2]
      exact ho.1
    | false =>
      rw [hb] at h
      exact gz_at_ok l ho.2 pc T h
theorem gz_one_ok {Z K : gz_K S} {Kr : Option Int32 → S → Prop} {tb : List (Nat × gz_T S)} (ho : gz_oks Z Kr tb) (hK : ∀ (pc : Nat) (L : gz_L) (st : List gz_V) (u : S), K pc L st u → Z pc L st u) {pc : Nat} {L : gz_L} {st : List gz_V} {u : S} (h : gz_one tb K Kr pc L st u) : Z pc L st u := by
  obtain ⟨T, h1, h2⟩ := gz_some_inv h
  exact gz_at_ok tb ho pc T h1 K hK L st u h2
theorem gz_run_ok {Z : gz_K S} {Kr : Option Int32 → S → Prop} {tb : List (Nat × gz_T S)} (ho : gz_oks Z Kr tb) (stops : List Nat) : ∀ (n pc : Nat) (L : gz_L) (st : List gz_V) (u : S), gz_run tb stops Z Kr n pc L st u → Z pc L st u
  | 0, _, _, _, _, h => h
  | n + 1, pc, L, st, u, h => by
    have h1 : cond (gz_mem stops pc) (Z pc L st u) (gz_one tb (gz_run tb stops Z Kr n) Kr pc L st u) := h
    cases hb : gz_mem stops pc with
    | true =>
      rw [hb] at h1
      exact h1
    | false =>
      rw [hb] at h1
      exact gz_one_ok ho (gz_run_ok ho stops n) h1
/-- from a loop's head: one instruction, then a run -/
theorem gz_go {Z : gz_K S} {Kr : Option Int32 → S → Prop} {tb : List (Nat × gz_T S)} (ho : gz_oks Z Kr tb) (stops : List Nat) (n : Nat) {pc : Nat} {L : gz_L} {st : List gz_V} {u : S} (h : gz_one tb (gz_run tb stops Z Kr n) Kr pc L st u) : Z pc L st u := gz_one_ok ho (gz_run_ok ho stops n) h
end GZT
