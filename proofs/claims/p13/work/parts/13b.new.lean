/-! WHAT IS MADE: the constructors -/
/-- the first k places hold v -/
def q_fl (v : Int32) (k : Nat) (f : Nat → Int32) : Nat → Int32 := fun i => if i < k then v else f i
theorem q_fl_0 (v : Int32) (f : Nat → Int32) : q_fl v 0 f = f := by
  funext i
  unfold q_fl
  rw [if_neg (by omega)]
theorem q_fl_s (v : Int32) (k : Nat) (f : Nat → Int32) (hk : k < 1000) : upd (q_fl v k f) (nI k).toNatClampNeg v = q_fl v (k + 1) f := by
  have e : (nI k).toNatClampNeg = k := nI_clamp (by omega)
  rw [e]
  funext i
  by_cases h : i = k
  · subst h
    rw [pk_us]
    unfold q_fl
    rw [if_pos (by omega)]
  · rw [pk_un h]
    unfold q_fl
    by_cases h2 : i < k
    · rw [if_pos h2, if_pos (by omega)]
    · rw [if_neg h2, if_neg (by omega)]
section GZW
variable {p : Program} {l : Launch} {e : Env} {R : Room} {s : State} {m : MethodId} {args : Array Value} {below : List Frame} {meth : Method} {c : Code} {cells slots : Nat} {Q : State → Prop}
/-- a loop whose place counts up to N -/
theorem gz_loop (P : Nat → Heap → List Loc → Array Slot → Prop) (N : Nat) (g : Array Slot → JFrame)
    (step : ∀ k : Nat, k < N → ∀ (H : Heap) (locs : List Loc) (ls : Array Slot), P k H locs ls → (∀ (H1 : Heap) (locs1 : List Loc) (ls1 : Array Slot), P (k + 1) H1 locs1 ls1 → W p l e R s m args below meth c H1 locs1 cells slots Q (g ls1)) → W p l e R s m args below meth c H locs cells slots Q (g ls))
    (done : ∀ (H : Heap) (locs : List Loc) (ls : Array Slot), P N H locs ls → W p l e R s m args below meth c H locs cells slots Q (g ls)) :
    ∀ n k : Nat, k + n = N → ∀ (H : Heap) (locs : List Loc) (ls : Array Slot), P k H locs ls → W p l e R s m args below meth c H locs cells slots Q (g ls) := by
  intro n
  induction n with
  | zero => intro k hk H locs ls h; rw [Nat.add_zero] at hk; subst hk; exact done H locs ls h
  | succ n ih => intro k hk H locs ls h; exact step k (by omega) H locs ls h (fun H1 locs1 ls1 h1 => ih (k + 1) (by omega) H1 locs1 ls1 h1)
end GZW
theorem va_S.drop {A : Nat → Prop} {H0 H : Heap} {locs : List Loc} (h : va_S A H0 H locs) : va_S A H0 H [] := ⟨h.1, h.2.1, fun _ q => by cases q⟩
def q_new : q_S := (0, 0, 0, 0, 7, 0, fun _ => 0, fun _ => 0, q_fl 3 40 (fun _ => 0), fun _ => 0, fun _ => 0, fun _ => 0, fun _ => 0, fun _ => 0, fun _ => 0, fun _ => 0, fun _ => 0, fun _ => 0, fun _ => 0, fun _ => 0, fun _ => 0)
