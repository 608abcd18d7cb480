section
-- ===== PART A: goes FIRST, ahead of the names: the tables' words, and 'selects' of the private methods out of them =====
/-- a private method of a class that the tables say can be made, by its rows of tables_1 -/
def lw_okq (q : MethodName × Nat) : Prop := (q.1.cls ≠ "java/lang/invoke/MethodHandle" ∧ q.1.cls ≠ "java/lang/invoke/VarHandle") ∧ Cond.instantiable q.1.cls q.2 ∈ tables_1 ∧ Cond.privateMethod q.1 ∈ tables_1 ∧ Cond.instanceMethod q.1 ∈ tables_1
theorem lw_p0 : lw_okq (⟨"HoldQueue", "isRecord", "(I)Z"⟩, 8) := ⟨⟨by decide +kernel, by decide +kernel⟩, List.mem_of_getElem? (i := 7) (by decide +kernel), List.mem_of_getElem? (i := 124) (by decide +kernel), List.mem_of_getElem? (i := 125) (by decide +kernel)⟩
theorem lw_p1 : lw_okq (⟨"HoldQueue$Copies", "areFull", "()Z"⟩, 5) := ⟨⟨by decide +kernel, by decide +kernel⟩, List.mem_of_getElem? (i := 15) (by decide +kernel), List.mem_of_getElem? (i := 131) (by decide +kernel), List.mem_of_getElem? (i := 132) (by decide +kernel)⟩
theorem lw_p2 : lw_okq (⟨"HoldQueue$Copies", "add", "(II)I"⟩, 5) := ⟨⟨by decide +kernel, by decide +kernel⟩, List.mem_of_getElem? (i := 15) (by decide +kernel), List.mem_of_getElem? (i := 135) (by decide +kernel), List.mem_of_getElem? (i := 136) (by decide +kernel)⟩
theorem lw_p3 : lw_okq (⟨"HoldQueue$Holds", "hasOpen", "(II)Z"⟩, 9) := ⟨⟨by decide +kernel, by decide +kernel⟩, List.mem_of_getElem? (i := 43) (by decide +kernel), List.mem_of_getElem? (i := 150) (by decide +kernel), List.mem_of_getElem? (i := 151) (by decide +kernel)⟩
theorem lw_p4 : lw_okq (⟨"HoldQueue$Holds", "isOpen", "(I)Z"⟩, 9) := ⟨⟨by decide +kernel, by decide +kernel⟩, List.mem_of_getElem? (i := 43) (by decide +kernel), List.mem_of_getElem? (i := 154) (by decide +kernel), List.mem_of_getElem? (i := 155) (by decide +kernel)⟩
theorem lw_p5 : lw_okq (⟨"HoldQueue$Holds", "isIn", "(II)Z"⟩, 9) := ⟨⟨by decide +kernel, by decide +kernel⟩, List.mem_of_getElem? (i := 43) (by decide +kernel), List.mem_of_getElem? (i := 158) (by decide +kernel), List.mem_of_getElem? (i := 159) (by decide +kernel)⟩
theorem lw_p6 : lw_okq (⟨"HoldQueue$Holds", "has", "(I)Z"⟩, 9) := ⟨⟨by decide +kernel, by decide +kernel⟩, List.mem_of_getElem? (i := 43) (by decide +kernel), List.mem_of_getElem? (i := 162) (by decide +kernel), List.mem_of_getElem? (i := 163) (by decide +kernel)⟩
theorem lw_p7 : lw_okq (⟨"HoldQueue$Holds", "areFull", "()Z"⟩, 9) := ⟨⟨by decide +kernel, by decide +kernel⟩, List.mem_of_getElem? (i := 43) (by decide +kernel), List.mem_of_getElem? (i := 166) (by decide +kernel), List.mem_of_getElem? (i := 167) (by decide +kernel)⟩
theorem lw_p8 : lw_okq (⟨"HoldQueue$Holds", "countOpen", "(I)I"⟩, 9) := ⟨⟨by decide +kernel, by decide +kernel⟩, List.mem_of_getElem? (i := 43) (by decide +kernel), List.mem_of_getElem? (i := 170) (by decide +kernel), List.mem_of_getElem? (i := 171) (by decide +kernel)⟩
theorem lw_p9 : lw_okq (⟨"HoldQueue$Holds", "add", "(IIII)I"⟩, 9) := ⟨⟨by decide +kernel, by decide +kernel⟩, List.mem_of_getElem? (i := 43) (by decide +kernel), List.mem_of_getElem? (i := 174) (by decide +kernel), List.mem_of_getElem? (i := 175) (by decide +kernel)⟩
theorem lw_p10 : lw_okq (⟨"HoldQueue$Copies", "leastFree", "(I)I"⟩, 5) := ⟨⟨by decide +kernel, by decide +kernel⟩, List.mem_of_getElem? (i := 15) (by decide +kernel), List.mem_of_getElem? (i := 178) (by decide +kernel), List.mem_of_getElem? (i := 179) (by decide +kernel)⟩
theorem lw_p11 : lw_okq (⟨"HoldQueue", "settle", "(I)I"⟩, 8) := ⟨⟨by decide +kernel, by decide +kernel⟩, List.mem_of_getElem? (i := 7) (by decide +kernel), List.mem_of_getElem? (i := 182) (by decide +kernel), List.mem_of_getElem? (i := 183) (by decide +kernel)⟩
theorem lw_p12 : lw_okq (⟨"HoldQueue$Holds", "firstFitting", "(IJ)I"⟩, 9) := ⟨⟨by decide +kernel, by decide +kernel⟩, List.mem_of_getElem? (i := 43) (by decide +kernel), List.mem_of_getElem? (i := 186) (by decide +kernel), List.mem_of_getElem? (i := 187) (by decide +kernel)⟩
theorem lw_p13 : lw_okq (⟨"HoldQueue$Holds", "isQueued", "(II)Z"⟩, 9) := ⟨⟨by decide +kernel, by decide +kernel⟩, List.mem_of_getElem? (i := 43) (by decide +kernel), List.mem_of_getElem? (i := 190) (by decide +kernel), List.mem_of_getElem? (i := 191) (by decide +kernel)⟩
theorem lw_p14 : lw_okq (⟨"HoldQueue$Holds", "comesBefore", "(II)Z"⟩, 9) := ⟨⟨by decide +kernel, by decide +kernel⟩, List.mem_of_getElem? (i := 43) (by decide +kernel), List.mem_of_getElem? (i := 194) (by decide +kernel), List.mem_of_getElem? (i := 195) (by decide +kernel)⟩
theorem lw_p15 : lw_okq (⟨"HoldQueue", "layReady", "(II)V"⟩, 8) := ⟨⟨by decide +kernel, by decide +kernel⟩, List.mem_of_getElem? (i := 7) (by decide +kernel), List.mem_of_getElem? (i := 198) (by decide +kernel), List.mem_of_getElem? (i := 199) (by decide +kernel)⟩
def lw_privs_1 : List (MethodName × Nat) := [(⟨"HoldQueue", "isRecord", "(I)Z"⟩, 8), (⟨"HoldQueue$Copies", "areFull", "()Z"⟩, 5), (⟨"HoldQueue$Copies", "add", "(II)I"⟩, 5), (⟨"HoldQueue$Holds", "hasOpen", "(II)Z"⟩, 9), (⟨"HoldQueue$Holds", "isOpen", "(I)Z"⟩, 9), (⟨"HoldQueue$Holds", "isIn", "(II)Z"⟩, 9), (⟨"HoldQueue$Holds", "has", "(I)Z"⟩, 9), (⟨"HoldQueue$Holds", "areFull", "()Z"⟩, 9), (⟨"HoldQueue$Holds", "countOpen", "(I)I"⟩, 9), (⟨"HoldQueue$Holds", "add", "(IIII)I"⟩, 9), (⟨"HoldQueue$Copies", "leastFree", "(I)I"⟩, 5), (⟨"HoldQueue", "settle", "(I)I"⟩, 8), (⟨"HoldQueue$Holds", "firstFitting", "(IJ)I"⟩, 9), (⟨"HoldQueue$Holds", "isQueued", "(II)Z"⟩, 9), (⟨"HoldQueue$Holds", "comesBefore", "(II)Z"⟩, 9), (⟨"HoldQueue", "layReady", "(II)V"⟩, 8)]
theorem lw_r1 : ∀ q ∈ lw_privs_1, lw_okq q := List.forall_mem_cons.mpr ⟨lw_p0, List.forall_mem_cons.mpr ⟨lw_p1, List.forall_mem_cons.mpr ⟨lw_p2, List.forall_mem_cons.mpr ⟨lw_p3, List.forall_mem_cons.mpr ⟨lw_p4, List.forall_mem_cons.mpr ⟨lw_p5, List.forall_mem_cons.mpr ⟨lw_p6, List.forall_mem_cons.mpr ⟨lw_p7, List.forall_mem_cons.mpr ⟨lw_p8, List.forall_mem_cons.mpr ⟨lw_p9, List.forall_mem_cons.mpr ⟨lw_p10, List.forall_mem_cons.mpr ⟨lw_p11, List.forall_mem_cons.mpr ⟨lw_p12, List.forall_mem_cons.mpr ⟨lw_p13, List.forall_mem_cons.mpr ⟨lw_p14, List.forall_mem_cons.mpr ⟨lw_p15, fun _ h => absurd h List.not_mem_nil⟩⟩⟩⟩⟩⟩⟩⟩⟩⟩⟩⟩⟩⟩⟩⟩
theorem lw_p16 : lw_okq (⟨"HoldQueue", "send", "(II)V"⟩, 8) := ⟨⟨by decide +kernel, by decide +kernel⟩, List.mem_of_getElem? (i := 7) (by decide +kernel), List.mem_of_getElem? (i := 202) (by decide +kernel), List.mem_of_getElem? (i := 203) (by decide +kernel)⟩
theorem lw_p17 : lw_okq (⟨"HoldQueue$Copies", "isIn", "(II)Z"⟩, 5) := ⟨⟨by decide +kernel, by decide +kernel⟩, List.mem_of_getElem? (i := 15) (by decide +kernel), List.mem_of_getElem? (i := 219) (by decide +kernel), List.mem_of_getElem? (i := 220) (by decide +kernel)⟩
theorem lw_p18 : lw_okq (⟨"HoldQueue$Copies", "has", "(I)Z"⟩, 5) := ⟨⟨by decide +kernel, by decide +kernel⟩, List.mem_of_getElem? (i := 15) (by decide +kernel), List.mem_of_getElem? (i := 223) (by decide +kernel), List.mem_of_getElem? (i := 224) (by decide +kernel)⟩
theorem lw_p19 : lw_okq (⟨"HoldQueue", "untie", "(II)V"⟩, 8) := ⟨⟨by decide +kernel, by decide +kernel⟩, List.mem_of_getElem? (i := 7) (by decide +kernel), List.mem_of_getElem? (i := 231) (by decide +kernel), List.mem_of_getElem? (i := 232) (by decide +kernel)⟩
theorem lw_p20 : lw_okq (⟨"HoldQueue", "letGo", "(I)V"⟩, 8) := ⟨⟨by decide +kernel, by decide +kernel⟩, List.mem_of_getElem? (i := 7) (by decide +kernel), List.mem_of_getElem? (i := 248) (by decide +kernel), List.mem_of_getElem? (i := 249) (by decide +kernel)⟩
theorem lw_p21 : lw_okq (⟨"HoldQueue$Holds", "placeInQueue", "(I)I"⟩, 9) := ⟨⟨by decide +kernel, by decide +kernel⟩, List.mem_of_getElem? (i := 43) (by decide +kernel), List.mem_of_getElem? (i := 265) (by decide +kernel), List.mem_of_getElem? (i := 266) (by decide +kernel)⟩
theorem lw_p22 : lw_okq (⟨"HoldQueue$Holds", "atPlaceInQueue", "(II)I"⟩, 9) := ⟨⟨by decide +kernel, by decide +kernel⟩, List.mem_of_getElem? (i := 43) (by decide +kernel), List.mem_of_getElem? (i := 273) (by decide +kernel), List.mem_of_getElem? (i := 274) (by decide +kernel)⟩
theorem lw_p23 : lw_okq (⟨"HoldQueueModel", "isOpen", "(I)Z"⟩, 21) := ⟨⟨by decide +kernel, by decide +kernel⟩, List.mem_of_getElem? (i := 288) (by decide +kernel), List.mem_of_getElem? (i := 377) (by decide +kernel), List.mem_of_getElem? (i := 378) (by decide +kernel)⟩
theorem lw_p24 : lw_okq (⟨"HoldQueueModel", "goes", "(I)I"⟩, 21) := ⟨⟨by decide +kernel, by decide +kernel⟩, List.mem_of_getElem? (i := 288) (by decide +kernel), List.mem_of_getElem? (i := 382) (by decide +kernel), List.mem_of_getElem? (i := 383) (by decide +kernel)⟩
theorem lw_p25 : lw_okq (⟨"HoldQueueModel", "fits", "(I)I"⟩, 21) := ⟨⟨by decide +kernel, by decide +kernel⟩, List.mem_of_getElem? (i := 288) (by decide +kernel), List.mem_of_getElem? (i := 386) (by decide +kernel), List.mem_of_getElem? (i := 387) (by decide +kernel)⟩
theorem lw_p26 : lw_okq (⟨"HoldQueueModel", "isAhead", "(II)Z"⟩, 21) := ⟨⟨by decide +kernel, by decide +kernel⟩, List.mem_of_getElem? (i := 288) (by decide +kernel), List.mem_of_getElem? (i := 390) (by decide +kernel), List.mem_of_getElem? (i := 391) (by decide +kernel)⟩
theorem lw_p27 : lw_okq (⟨"HoldQueueModel", "lies", "(II)V"⟩, 21) := ⟨⟨by decide +kernel, by decide +kernel⟩, List.mem_of_getElem? (i := 288) (by decide +kernel), List.mem_of_getElem? (i := 394) (by decide +kernel), List.mem_of_getElem? (i := 395) (by decide +kernel)⟩
theorem lw_p28 : lw_okq (⟨"HoldQueueModel", "isWaiting", "(I)Z"⟩, 21) := ⟨⟨by decide +kernel, by decide +kernel⟩, List.mem_of_getElem? (i := 288) (by decide +kernel), List.mem_of_getElem? (i := 406) (by decide +kernel), List.mem_of_getElem? (i := 407) (by decide +kernel)⟩
theorem lw_p29 : lw_okq (⟨"HoldQueueModel", "isHold", "(I)Z"⟩, 21) := ⟨⟨by decide +kernel, by decide +kernel⟩, List.mem_of_getElem? (i := 288) (by decide +kernel), List.mem_of_getElem? (i := 410) (by decide +kernel), List.mem_of_getElem? (i := 411) (by decide +kernel)⟩
theorem lw_p30 : lw_okq (⟨"HoldQueueModel", "isCopy", "(II)Z"⟩, 21) := ⟨⟨by decide +kernel, by decide +kernel⟩, List.mem_of_getElem? (i := 288) (by decide +kernel), List.mem_of_getElem? (i := 418) (by decide +kernel), List.mem_of_getElem? (i := 419) (by decide +kernel)⟩
theorem lw_p31 : lw_okq (⟨"HoldQueueModel", "ends", "(II)V"⟩, 21) := ⟨⟨by decide +kernel, by decide +kernel⟩, List.mem_of_getElem? (i := 288) (by decide +kernel), List.mem_of_getElem? (i := 438) (by decide +kernel), List.mem_of_getElem? (i := 439) (by decide +kernel)⟩
def lw_privs_2 : List (MethodName × Nat) := [(⟨"HoldQueue", "send", "(II)V"⟩, 8), (⟨"HoldQueue$Copies", "isIn", "(II)Z"⟩, 5), (⟨"HoldQueue$Copies", "has", "(I)Z"⟩, 5), (⟨"HoldQueue", "untie", "(II)V"⟩, 8), (⟨"HoldQueue", "letGo", "(I)V"⟩, 8), (⟨"HoldQueue$Holds", "placeInQueue", "(I)I"⟩, 9), (⟨"HoldQueue$Holds", "atPlaceInQueue", "(II)I"⟩, 9), (⟨"HoldQueueModel", "isOpen", "(I)Z"⟩, 21), (⟨"HoldQueueModel", "goes", "(I)I"⟩, 21), (⟨"HoldQueueModel", "fits", "(I)I"⟩, 21), (⟨"HoldQueueModel", "isAhead", "(II)Z"⟩, 21), (⟨"HoldQueueModel", "lies", "(II)V"⟩, 21), (⟨"HoldQueueModel", "isWaiting", "(I)Z"⟩, 21), (⟨"HoldQueueModel", "isHold", "(I)Z"⟩, 21), (⟨"HoldQueueModel", "isCopy", "(II)Z"⟩, 21), (⟨"HoldQueueModel", "ends", "(II)V"⟩, 21)]
theorem lw_r2 : ∀ q ∈ lw_privs_2, lw_okq q := List.forall_mem_cons.mpr ⟨lw_p16, List.forall_mem_cons.mpr ⟨lw_p17, List.forall_mem_cons.mpr ⟨lw_p18, List.forall_mem_cons.mpr ⟨lw_p19, List.forall_mem_cons.mpr ⟨lw_p20, List.forall_mem_cons.mpr ⟨lw_p21, List.forall_mem_cons.mpr ⟨lw_p22, List.forall_mem_cons.mpr ⟨lw_p23, List.forall_mem_cons.mpr ⟨lw_p24, List.forall_mem_cons.mpr ⟨lw_p25, List.forall_mem_cons.mpr ⟨lw_p26, List.forall_mem_cons.mpr ⟨lw_p27, List.forall_mem_cons.mpr ⟨lw_p28, List.forall_mem_cons.mpr ⟨lw_p29, List.forall_mem_cons.mpr ⟨lw_p30, List.forall_mem_cons.mpr ⟨lw_p31, fun _ h => absurd h List.not_mem_nil⟩⟩⟩⟩⟩⟩⟩⟩⟩⟩⟩⟩⟩⟩⟩⟩
theorem lw_p32 : lw_okq (⟨"HoldQueueModel", "placeOf", "(I)I"⟩, 21) := ⟨⟨by decide +kernel, by decide +kernel⟩, List.mem_of_getElem? (i := 288) (by decide +kernel), List.mem_of_getElem? (i := 455) (by decide +kernel), List.mem_of_getElem? (i := 456) (by decide +kernel)⟩
def lw_privs_3 : List (MethodName × Nat) := [(⟨"HoldQueueModel", "placeOf", "(I)I"⟩, 21)]
theorem lw_r3 : ∀ q ∈ lw_privs_3, lw_okq q := List.forall_mem_cons.mpr ⟨lw_p32, fun _ h => absurd h List.not_mem_nil⟩
def lw_privs : List (MethodName × Nat) := lw_privs_1 ++ (lw_privs_2 ++ (lw_privs_3))
def lw_tbl : List Cond := k2_sels lw_privs ++ tables_1
theorem lw_privs_ok : ∀ q ∈ lw_privs, lw_okq q := by
  show ∀ q ∈ lw_privs_1 ++ (lw_privs_2 ++ (lw_privs_3)), lw_okq q
  exact List.forall_mem_append.mpr ⟨lw_r1, List.forall_mem_append.mpr ⟨lw_r2, lw_r3⟩⟩
end
section
/-- the words of nest mates among the tables -/
def gz_nw : List Cond := [(Jvm.Cond.methodLinkNest "HoldQueue" (26 : Nat) ({ cls := "HoldQueue$Copies", name := "<init>", desc := "()V" } : Jvm.MethodName) "HoldQueue"), (Jvm.Cond.fieldLinkNest "HoldQueue" (146 : Nat) "HoldQueue$Copies" "recordOf" "[I" "HoldQueue"), (Jvm.Cond.fieldLinkNest "HoldQueue" (98 : Nat) "HoldQueue$Copies" "placeOf" "[I" "HoldQueue"), (Jvm.Cond.fieldLinkNest "HoldQueue" (117 : Nat) "HoldQueue$Copies" "stateOf" "[I" "HoldQueue"), (Jvm.Cond.fieldLinkNest "HoldQueue" (101 : Nat) "HoldQueue$Copies" "holdOf" "[I" "HoldQueue"), (Jvm.Cond.methodLinkNest "HoldQueue" (33 : Nat) ({ cls := "HoldQueue$Holds", name := "<init>", desc := "()V" } : Jvm.MethodName) "HoldQueue"), (Jvm.Cond.fieldLinkNest "HoldQueue" (127 : Nat) "HoldQueue$Holds" "count" "I" "HoldQueue"), (Jvm.Cond.fieldLinkNest "HoldQueue" (153 : Nat) "HoldQueue$Holds" "placeOf" "[I" "HoldQueue"), (Jvm.Cond.fieldLinkNest "HoldQueue" (133 : Nat) "HoldQueue$Holds" "rankOf" "[I" "HoldQueue"), (Jvm.Cond.fieldLinkNest "HoldQueue" (114 : Nat) "HoldQueue$Holds" "stateOf" "[I" "HoldQueue"), (Jvm.Cond.fieldLinkNest "HoldQueue" (111 : Nat) "HoldQueue$Holds" "copyOf" "[I" "HoldQueue"), (Jvm.Cond.fieldLinkNest "HoldQueue" (93 : Nat) "HoldQueue$Holds" "suspendedUntil" "[J" "HoldQueue"), (Jvm.Cond.fieldLinkNest "HoldQueue" (130 : Nat) "HoldQueue$Holds" "endOf" "[J" "HoldQueue"), (Jvm.Cond.methodLinkNest "HoldQueue" (61 : Nat) ({ cls := "HoldQueue$Copies", name := "areFull", desc := "()Z" } : Jvm.MethodName) "HoldQueue"), (Jvm.Cond.methodLinkNest "HoldQueue" (65 : Nat) ({ cls := "HoldQueue$Copies", name := "add", desc := "(II)I" } : Jvm.MethodName) "HoldQueue"), (Jvm.Cond.methodLinkNest "HoldQueue" (72 : Nat) ({ cls := "HoldQueue$Holds", name := "hasOpen", desc := "(II)Z" } : Jvm.MethodName) "HoldQueue"), (Jvm.Cond.methodLinkNest "HoldQueue" (76 : Nat) ({ cls := "HoldQueue$Holds", name := "areFull", desc := "()Z" } : Jvm.MethodName) "HoldQueue"), (Jvm.Cond.methodLinkNest "HoldQueue" (77 : Nat) ({ cls := "HoldQueue$Holds", name := "countOpen", desc := "(I)I" } : Jvm.MethodName) "HoldQueue"), (Jvm.Cond.methodLinkNest "HoldQueue" (81 : Nat) ({ cls := "HoldQueue$Holds", name := "add", desc := "(IIII)I" } : Jvm.MethodName) "HoldQueue"), (Jvm.Cond.methodLinkNest "HoldQueue" (84 : Nat) ({ cls := "HoldQueue$Copies", name := "leastFree", desc := "(I)I" } : Jvm.MethodName) "HoldQueue"), (Jvm.Cond.methodLinkNest "HoldQueue" (149 : Nat) ({ cls := "HoldQueue$Holds", name := "firstFitting", desc := "(IJ)I" } : Jvm.MethodName) "HoldQueue"), (Jvm.Cond.methodLinkNest "HoldQueue" (90 : Nat) ({ cls := "HoldQueue$Holds", name := "isIn", desc := "(II)Z" } : Jvm.MethodName) "HoldQueue"), (Jvm.Cond.methodLinkNest "HoldQueue" (97 : Nat) ({ cls := "HoldQueue$Copies", name := "isIn", desc := "(II)Z" } : Jvm.MethodName) "HoldQueue"), (Jvm.Cond.methodLinkNest "HoldQueue" (118 : Nat) ({ cls := "HoldQueue$Holds", name := "isOpen", desc := "(I)Z" } : Jvm.MethodName) "HoldQueue"), (Jvm.Cond.methodLinkNest "HoldQueue" (136 : Nat) ({ cls := "HoldQueue$Holds", name := "placeInQueue", desc := "(I)I" } : Jvm.MethodName) "HoldQueue"), (Jvm.Cond.methodLinkNest "HoldQueue" (139 : Nat) ({ cls := "HoldQueue$Holds", name := "atPlaceInQueue", desc := "(II)I" } : Jvm.MethodName) "HoldQueue"), (Jvm.Cond.methodLinkNest "HoldQueue" (142 : Nat) ({ cls := "HoldQueue$Holds", name := "has", desc := "(I)Z" } : Jvm.MethodName) "HoldQueue"), (Jvm.Cond.methodLinkNest "HoldQueue" (145 : Nat) ({ cls := "HoldQueue$Copies", name := "has", desc := "(I)Z" } : Jvm.MethodName) "HoldQueue")]
end
section
/-! OWN GENERIC ROWS: a contract over a world whose addresses are fixed and whose contents are a value u : S; entry, return, call -/
/-- words of nest mates: they are not among a callee's words (they don't keep), so they go with the state; gz_nw: the claim's, from its names -/
def gz_isN : Cond → Bool
  | .fieldLinkNest .. => true
  | .methodLinkNest .. => true
  | _ => false
theorem gz_nw_ok : ∀ w ∈ gz_nw, gz_isN w = true := by decide +kernel
/-- the tables' words but for those -/
def lw_gd : List Cond := lw_tbl.filter (fun w => !gz_isN w)
def gz_N (s : State) : Prop := ∀ w ∈ gz_nw, va_Nw w s
theorem gz_isN_on {w : Cond} (h : gz_isN w = true) : w.onTables = true := by
  cases w <;> first | rfl | (exact absurd h (by simp [gz_isN]))
theorem gz_N_warm (hN : ∀ w ∈ gz_nw, gz_isN w = true) {s U : State} (hW : s.WarmedH U.vm) (h : gz_N s) : gz_N U := by
  intro w hw
  have h1 := hN w hw
  have h2 := h w hw
  cases w <;> first | exact va_Nw.warmF hW h2 | exact va_Nw.warmM hW h2 | (exact absurd h1 (by simp [gz_isN]))
theorem gz_N_same (hN : ∀ w ∈ gz_nw, gz_isN w = true) {s U : State} (hW : s.vm = U.vm) (h : gz_N s) : gz_N U := fun w hw => va_Nw.same (gz_isN_on (hN w hw)) hW (h w hw)
def gz_A (as : List Nat) (sz : Nat) : Nat → Prop := fun q => q ∈ as ∨ sz ≤ q
/-- what holds of the world w at a point of a walk -/
def gz_G (D : va_G) (cl : List vw_C) (tys : List (ClassId × FieldType)) (A : Nat → Prop) (s : State) (w : va_W) (H : Heap) (locs : List Loc) : Prop :=
  va_K D cl tys s ∧ va_P D cl w H ∧ va_D A w ∧ va_S A s.heap H locs
def gz_P (D : va_G) (cl : List vw_C) (tys : List (ClassId × FieldType)) (w : va_W) (sz : Nat) (U : State) : Prop := U.heap.size = sz ∧ va_P D cl w U.heap ∧ va_K D cl tys U ∧ va_D (fun _ => True) w ∧ gz_N U
def gz_B {S : Type} (D : va_G) (cl : List vw_C) (tys : List (ClassId × FieldType)) (wf : S → va_W) (A : Nat → Prop) (u : S) (t : State) : Prop := va_P D cl (wf u) t.heap ∧ va_K D cl tys t ∧ va_D A (wf u)
/-- contract of a method that answers an int (or a boolean) -/
def gz_Ci {S : Type} (l : Launch) (y : MethodName) (ws : List Cond) (rm : Room) (D : va_G) (cl : List vw_C) (tys : List (ClassId × FieldType)) (wf : S → va_W) (as : List Nat) (av : List Value) (u : S) (post : Int32 → S → Prop) : Prop :=
  ∀ sz : Nat, Met l y ws rm (va_Pc av (gz_P D cl tys (wf u) sz)) (va_Qi post (gz_B D cl tys wf (gz_A as sz)) (gz_A as sz)) 0 0 (gz_A as sz)
/-- contract of a method that answers nothing -/
def gz_Cv {S : Type} (l : Launch) (y : MethodName) (ws : List Cond) (rm : Room) (D : va_G) (cl : List vw_C) (tys : List (ClassId × FieldType)) (wf : S → va_W) (as : List Nat) (av : List Value) (u : S) (post : S → Prop) : Prop :=
  ∀ sz : Nat, Met l y ws rm (va_Pc av (gz_P D cl tys (wf u) sz)) (va_Qv post (gz_B D cl tys wf (gz_A as sz)) (gz_A as sz)) 0 0 (gz_A as sz)
/-- the fixed facts of a walk -/
def gz_F (p : Program) (s : State) (m : MethodId) (args : Array Value) (meth : Method) (c : Code) (cc : ByteArray) (maxL : Nat) (ret : Option FieldType) (ws : List Cond) (own : String) : Prop :=
  p.tables.exec = Jvm.exec ∧ c.code = cc ∧ meth.sig.returnType = ret ∧ c.maxLocals = maxL ∧ s.vm.findClass own = some m.cls ∧ (∀ w ∈ ws, w.before args s = true) ∧ meth.locks = false ∧ gz_N s
theorem gz_D {w w' : va_W} {A B : Nat → Prop} (h : va_D A w) (e : w'.map (fun q => q.1) = w.map (fun q => q.1)) (hB : ∀ a ∈ w.map (fun q => q.1), B a) : va_D B w' := by
  have key : ∀ (i : Nat) (q : Nat × va_E), w'[i]? = some q → ∃ q0, w[i]? = some q0 ∧ q0.1 = q.1 := by
    intro i q hq
    have h1 : (w'.map (fun q => q.1))[i]? = some q.1 := by rw [List.getElem?_map, hq]; rfl
    rw [e, List.getElem?_map] at h1
    cases hw : w[i]? with
    | none => rw [hw] at h1; cases h1
    | some q0 => rw [hw] at h1; exact ⟨q0, rfl, Option.some.inj h1⟩
  refine ⟨fun i j a b ha hb hab => ?_, fun k q hq => ?_⟩
  · obtain ⟨a0, h1, h2⟩ := key i a ha
    obtain ⟨b0, h3, h4⟩ := key j b hb
    exact h.1 i j a0 b0 h1 h3 (by rw [h2, h4, hab])
  · obtain ⟨q0, h1, h2⟩ := key k q hq
    rw [← h2]
    exact hB _ (List.mem_map.mpr ⟨q0, List.mem_of_getElem? h1, rfl⟩)
section GZ
variable {p : Program} {l : Launch} {e : Env} {R : Room} {s : State} {m : MethodId} {args : Array Value} {below : List Frame} {meth : Method} {c : Code} {H : Heap} {locs : List Loc} {cells slots : Nat} {Q : State → Prop}
variable {cc : ByteArray} {pc : Nat} {ls : Array Slot} {rest : List Value} {D : va_G} {cl : List vw_C} {tys : List (ClassId × FieldType)} {A : Nat → Prop} {S : Type} {wf : S → va_W} {as : List Nat} {u : S} {y : MethodName} {ws : List Cond} {maxL : Nat} {ret : Option FieldType} {own : String}
theorem gz_enter {ws' : List Cond} {rm : Room} {av : List Value} {post : Int32 → S → Prop}
    (hy : plainName y.cls = true) (hw : ws = Cond.code y cc maxL ret :: ws') (has : (wf u).map (fun q => q.1) = as) (hn : (lg_sl av).length ≤ maxL)
    (body : ∀ (p : Program) (e : Env) (s : State) (m : MethodId) (below : List Frame) (meth : Method) (c : Code) (ls : Array Slot), gz_F p s m av.toArray meth c cc maxL ret ws y.cls → gz_G D cl tys (gz_A as s.heap.size) s (wf u) s.heap [] → lv_has ls maxL (lv_args 0 av) →
      W p l e rm s m av.toArray below meth c s.heap [] 0 0 (MQ below (va_Qi post (gz_B D cl tys wf (gz_A as s.heap.size)) (gz_A as s.heap.size)) av.toArray s 0 0 (gz_A as s.heap.size)) (F0 m 0 ls [])) :
    gz_Ci l y ws rm D cl tys wf as av u post := by
  intro sz
  refine Met.ofW (cc := cc) (maxL := maxL) (ret := ret) hy hw ?_
  intro p e s m args below meth c s₁ B hml hv
  obtain ⟨rfl, hsz, hP, hK, hD0, hN0⟩ := hv
  subst hsz
  have hl := lv_entry av (n := maxL) hn
  rw [lg_entry_eq]
  exact body p e s m below meth c _ ⟨B.exec, B.bytes, B.returns, hml, findClass_of_methodNamed B.named, atoms_spec (ws := ws) B.pre, B.notSynchronized, hN0⟩
    ⟨hK, hP, gz_D hD0 rfl (fun a ha => Or.inl (has ▸ ha)), va_S.rf⟩ hl
theorem gz_enterV {ws' : List Cond} {rm : Room} {av : List Value} {post : S → Prop}
    (hy : plainName y.cls = true) (hw : ws = Cond.code y cc maxL ret :: ws') (has : (wf u).map (fun q => q.1) = as) (hn : (lg_sl av).length ≤ maxL)
    (body : ∀ (p : Program) (e : Env) (s : State) (m : MethodId) (below : List Frame) (meth : Method) (c : Code) (ls : Array Slot), gz_F p s m av.toArray meth c cc maxL ret ws y.cls → gz_G D cl tys (gz_A as s.heap.size) s (wf u) s.heap [] → lv_has ls maxL (lv_args 0 av) →
      W p l e rm s m av.toArray below meth c s.heap [] 0 0 (MQ below (va_Qv post (gz_B D cl tys wf (gz_A as s.heap.size)) (gz_A as s.heap.size)) av.toArray s 0 0 (gz_A as s.heap.size)) (F0 m 0 ls [])) :
    gz_Cv l y ws rm D cl tys wf as av u post := by
  intro sz
  refine Met.ofW (cc := cc) (maxL := maxL) (ret := ret) hy hw ?_
  intro p e s m args below meth c s₁ B hml hv
  obtain ⟨rfl, hsz, hP, hK, hD0, hN0⟩ := hv
  subst hsz
  have hl := lv_entry av (n := maxL) hn
  rw [lg_entry_eq]
  exact body p e s m below meth c _ ⟨B.exec, B.bytes, B.returns, hml, findClass_of_methodNamed B.named, atoms_spec (ws := ws) B.pre, B.notSynchronized, hN0⟩
    ⟨hK, hP, gz_D hD0 rfl (fun a ha => Or.inl (has ▸ ha)), va_S.rf⟩ hl
theorem gz_ri {v : Int32} {post : Int32 → S → Prop} (F : gz_F p s m args meth c cc maxL (some .int) ws own) (G : gz_G D cl tys (gz_A as s.heap.size) s (wf u) H locs) (hdg : decode cc pc = .ok (.ireturn, 1)) (hp : post v u) :
    W p l e R s m args below meth c H locs 0 0 (MQ below (va_Qi post (gz_B D cl tys wf (gz_A as s.heap.size)) (gz_A as s.heap.size)) args s 0 0 (gz_A as s.heap.size)) (F0 m pc ls [.int v]) :=
  W.iret (v := v) F.1 F.2.1 F.2.2.1 (fun t ht hW => ⟨⟨v, u, rfl, hp, by rw [ht]; exact G.2.1, va_K.moved hW.alike G.1, G.2.2.1⟩, G.2.2.2.F ht⟩) G.2.2.2.2.2 hdg F.2.2.2.2.2.2.1
theorem gz_rz {v : Int32} {post : Int32 → S → Prop} (F : gz_F p s m args meth c cc maxL (some .boolean) ws own) (G : gz_G D cl tys (gz_A as s.heap.size) s (wf u) H locs) (hdg : decode cc pc = .ok (.ireturn, 1)) (hn : narrow .boolean (.int v) = .int v) (hp : post v u) :
    W p l e R s m args below meth c H locs 0 0 (MQ below (va_Qi post (gz_B D cl tys wf (gz_A as s.heap.size)) (gz_A as s.heap.size)) args s 0 0 (gz_A as s.heap.size)) (F0 m pc ls [.int v]) :=
  W.zret (v := v) F.1 F.2.1 F.2.2.1 hn (fun t ht hW => ⟨⟨v, u, rfl, hp, by rw [ht]; exact G.2.1, va_K.moved hW.alike G.1, G.2.2.1⟩, G.2.2.2.F ht⟩) G.2.2.2.2.2 hdg F.2.2.2.2.2.2.1
theorem gz_rv {post : S → Prop} (F : gz_F p s m args meth c cc maxL none ws own) (G : gz_G D cl tys (gz_A as s.heap.size) s (wf u) H locs) (hdg : decode cc pc = .ok (.return_, 1)) (hp : post u) :
    W p l e R s m args below meth c H locs 0 0 (MQ below (va_Qv post (gz_B D cl tys wf (gz_A as s.heap.size)) (gz_A as s.heap.size)) args s 0 0 (gz_A as s.heap.size)) (F0 m pc ls []) :=
  W.vret F.1 F.2.1 F.2.2.1 (fun t ht hW => ⟨⟨u, rfl, hp, by rw [ht]; exact G.2.1, va_K.moved hW.alike G.1, G.2.2.1⟩, G.2.2.2.F ht⟩) G.2.2.2.2.2 hdg F.2.2.2.2.2.2.1
/-- the world as a callee wants it -/
theorem gz_pre {w : va_W} {av : List Value} (hNo : ∀ w ∈ gz_nw, gz_isN w = true) (hN : gz_N s) (G : gz_G D cl tys A s w H locs) : FrameBlind (va_Pc av (gz_P D cl tys w H.size)) ∧ ∀ U : State, U.heap = H → s.WarmedH U.vm → va_Pc av (gz_P D cl tys w H.size) av.toArray U :=
  ⟨fun a U g mk q => by obtain ⟨q0, q1, qP, qK, qD, qN⟩ := q; exact ⟨q0, q1, qP, va_K.moved (u := U) (U := U.calling g mk a) (Vm.Alike.refl U.vm) qK, qD, gz_N_same hNo (s := U) (U := U.calling g mk a) rfl qN⟩,
   fun U hU hW => ⟨rfl, by rw [hU], by rw [hU]; exact G.2.1, va_K.moved hW.alike G.1, G.2.2.1.weaken (fun _ _ _ _ => trivial), gz_N_warm hNo hW hN⟩⟩
/-- what comes back from a callee -/
theorem gz_back {w : va_W} {u' : S} {H1 : Heap} {locs1 : List Loc} {t : State} (has : (wf u').map (fun q => q.1) = w.map (fun q => q.1)) (G : gz_G D cl tys A s w H locs) (ht : t.heap = H1) (hB : gz_B D cl tys wf (gz_A as H.size) u' t) (hvm : s.vm.Alike t.vm) (hS : va_S A s.heap H1 locs1) : gz_G D cl tys A s (wf u') H1 locs1 := by
  refine ⟨G.1, by rw [← ht]; exact hB.1, gz_D G.2.2.1 has (fun a ha => ?_), hS⟩
  obtain ⟨q, hq, rfl⟩ := List.mem_map.mp ha
  obtain ⟨k, hk⟩ := List.getElem?_of_mem hq
  exact G.2.2.1.2 k q hk
/-- the callee's cells are ours -/
theorem gz_own {w : va_W} (G : gz_G D cl tys A s w H locs) (has : w.map (fun q => q.1) = as) (hA : ∀ q, s.heap.size ≤ q → A q) : ∀ q, gz_A as H.size q → A q := by
  intro q hq
  rcases hq with h | h
  · rw [← has] at h
    obtain ⟨x, hx, rfl⟩ := List.mem_map.mp h
    obtain ⟨k, hk⟩ := List.getElem?_of_mem hx
    exact G.2.2.1.2 k x hk
  · exact hA q (Nat.le_trans G.2.2.2.1 h)
/-- a call behind its run: int -/
theorem gz_goi {post : Int32 → S → Prop} {a : Array Value} {st0 : List Value} (has : ∀ z : S, (wf z).map (fun q => q.1) = as) (G : gz_G D cl tys A s (wf u) H locs) (hA : ∀ q, s.heap.size ≤ q → A q)
    (hr : va_Run p l e R s m args below meth c H locs cells slots 0 0 (F0 m pc ls st0) rest (va_Qi post (gz_B D cl tys wf (gz_A as H.size)) (gz_A as H.size) a) (gz_A as H.size))
    (kk : ∀ (r : Int32) (z : S) (H1 : Heap) (locs1 : List Loc), post r z → gz_G D cl tys A s (wf z) H1 locs1 → W p l e R s m args below meth c H1 locs1 cells slots Q (F0 m (pc + 3) ls (.int r :: rest))) : W p l e R s m args below meth c H locs cells slots Q (F0 m pc ls st0) :=
  va_calli hr G.2.2.2 (fun q _ h => gz_own G (has u) hA q h) (gz_own G (has u) hA) (fun r z t H1 locs1 ht hvm hp hB hz hk hS => kk r z H1 locs1 hp (gz_back ((has z).trans (has u).symm) G ht hB hvm hS))
theorem gz_gov {post : S → Prop} {a : Array Value} {st0 : List Value} (has : ∀ z : S, (wf z).map (fun q => q.1) = as) (G : gz_G D cl tys A s (wf u) H locs) (hA : ∀ q, s.heap.size ≤ q → A q)
    (hr : va_Run p l e R s m args below meth c H locs cells slots 0 0 (F0 m pc ls st0) rest (va_Qv post (gz_B D cl tys wf (gz_A as H.size)) (gz_A as H.size) a) (gz_A as H.size))
    (kk : ∀ (z : S) (H1 : Heap) (locs1 : List Loc), post z → gz_G D cl tys A s (wf z) H1 locs1 → W p l e R s m args below meth c H1 locs1 cells slots Q (F0 m (pc + 3) ls rest)) : W p l e R s m args below meth c H locs cells slots Q (F0 m pc ls st0) :=
  va_callv hr G.2.2.2 (fun q _ h => gz_own G (has u) hA q h) (gz_own G (has u) hA) (fun z t H1 locs1 ht hvm hp hB hz hk hS => kk z H1 locs1 hp (gz_back ((has z).trans (has u).symm) G ht hB hvm hS))
end GZ
end
section
/-! OWN ENGINE: a method's bytes as a table of (pc, predicate transformer); what a run of the table gives, holds of the machine.
A value of a walk is a cell of the world by its place, an int, or a long. -/
abbrev gz_V : Type := Nat ⊕ (Int32 ⊕ Int64)
abbrev gz_r (i : Nat) : gz_V := Sum.inl i
abbrev gz_i (x : Int32) : gz_V := Sum.inr (Sum.inl x)
abbrev gz_l (x : Int64) : gz_V := Sum.inr (Sum.inr x)
def gz_cv (a : Nat → Nat) : gz_V → Value
  | .inl i => .ref (a i)
  | .inr (.inl x) => .int x
  | .inr (.inr x) => .long x
def gz_cat : gz_V → Nat
  | .inr (.inr _) => 2
  | _ => 1
theorem gz_cv_cat (a : Nat → Nat) (v : gz_V) : (gz_cv a v).category = gz_cat v := by
  rcases v with i | x | y <;> rfl
abbrev gz_L : Type := List (Nat × gz_V)
def gz_cl (a : Nat → Nat) (L : gz_L) : List (Nat × Value) := L.map (fun q => (q.1, gz_cv a q.2))
def gz_cs (a : Nat → Nat) (st : List gz_V) : List Value := st.map (gz_cv a)
/-- units of depth of a stack -/
def gz_dep : List gz_V → Nat
  | [] => 0
  | v :: st => gz_cat v + gz_dep st
theorem gz_dep_cs (a : Nat → Nat) : ∀ st : List gz_V, ((gz_cs a st).map fun v => v.category).sum = gz_dep st
  | [] => rfl
  | v :: st => by
    show (gz_cv a v).category + ((gz_cs a st).map fun v => v.category).sum = gz_cat v + gz_dep st
    rw [gz_cv_cat, gz_dep_cs a st]
def gz_look : gz_L → Nat → Option gz_V
  | [], _ => none
  | q :: l, i => cond (Nat.beq q.1 i) (some q.2) (gz_look l i)
theorem gz_look_mem : ∀ (L : gz_L) (i : Nat) (v : gz_V), gz_look L i = some v → (i, v) ∈ L
  | [], _, _, h => by cases h
  | q :: l, i, v, h => by
    unfold gz_look at h
    cases hb : Nat.beq q.1 i with
    | true =>
      rw [hb] at h
      have h1 : q.1 = i := Nat.eq_of_beq_eq_true hb
      have h2 : q.2 = v := Option.some.inj h
      rw [← h1, ← h2]
      exact List.mem_cons_self
    | false =>
      rw [hb] at h
      exact List.mem_cons_of_mem _ (gz_look_mem l i v h)
theorem gz_lk {a : Nat → Nat} {ls : Array Slot} {n : Nat} {L : gz_L} {i : Nat} {v : gz_V} (h : lv_has ls n (gz_cl a L)) (hv : gz_look L i = some v) : ls[i]? = some (.val (gz_cv a v)) :=
  h.2.2 (i, gz_cv a v) (List.mem_map.mpr ⟨(i, v), gz_look_mem L i v hv, rfl⟩)
def gz_del (i : Nat) : gz_L → gz_L
  | [] => []
  | q :: l => cond (Nat.beq q.1 i) (gz_del i l) (cond (Nat.beq (q.1 + 1) i && Nat.beq (gz_cat q.2) 2) (gz_del i l) (q :: gz_del i l))
/-- the list with v at i, kept in the order of the places -/
def gz_ins (i : Nat) (v : gz_V) : gz_L → gz_L
  | [] => [(i, v)]
  | q :: l => cond (Nat.blt i q.1) ((i, v) :: gz_del i (q :: l)) (cond (Nat.beq q.1 i) ((i, v) :: gz_del i l) (cond (Nat.beq (q.1 + 1) i && Nat.beq (gz_cat q.2) 2) (gz_ins i v l) (q :: gz_ins i v l)))
def gz_far (i : Nat) (q : Nat × gz_V) : Prop := q.1 ≠ i ∧ ¬ (q.1 + 1 = i ∧ gz_cat q.2 = 2)
theorem gz_far_of {i : Nat} {q : Nat × gz_V} (h1 : Nat.beq q.1 i = false) (h2 : (Nat.beq (q.1 + 1) i && Nat.beq (gz_cat q.2) 2) = false) : gz_far i q := by
  refine ⟨Nat.ne_of_beq_eq_false h1, fun hh => ?_⟩
  have e1 : Nat.beq (q.1 + 1) i = true := by rw [hh.1]; exact Nat.beq_refl i
  have e2 : Nat.beq (gz_cat q.2) 2 = true := by rw [hh.2]; rfl
  rw [e1, e2] at h2
  cases h2
theorem gz_del_far (i : Nat) : ∀ (L : gz_L) (q : Nat × gz_V), q ∈ gz_del i L → q ∈ L ∧ gz_far i q
  | [], q, h => by cases h
  | x :: l, q, h => by
    unfold gz_del at h
    cases h1 : Nat.beq x.1 i with
    | true =>
      rw [h1] at h
      exact ⟨List.mem_cons_of_mem _ (gz_del_far i l q h).1, (gz_del_far i l q h).2⟩
    | false =>
      rw [h1] at h
      cases h2 : (Nat.beq (x.1 + 1) i && Nat.beq (gz_cat x.2) 2) with
      | true =>
        rw [h2] at h
        exact ⟨List.mem_cons_of_mem _ (gz_del_far i l q h).1, (gz_del_far i l q h).2⟩
      | false =>
        rw [h2] at h
        rcases List.mem_cons.mp h with h3 | h3
        · subst h3
          exact ⟨List.mem_cons_self, gz_far_of h1 h2⟩
        · exact ⟨List.mem_cons_of_mem _ (gz_del_far i l q h3).1, (gz_del_far i l q h3).2⟩
theorem gz_ins_far (i : Nat) (v : gz_V) : ∀ (L : gz_L) (q : Nat × gz_V), q ∈ gz_ins i v L → q = (i, v) ∨ (q ∈ L ∧ gz_far i q)
  | [], q, h => by
    rcases List.mem_cons.mp h with h3 | h3
    · exact Or.inl h3
    · cases h3
  | x :: l, q, h => by
    unfold gz_ins at h
    cases h0 : Nat.blt i x.1 with
    | true =>
      rw [h0] at h
      rcases List.mem_cons.mp h with h3 | h3
      · exact Or.inl h3
      · exact Or.inr (gz_del_far i (x :: l) q h3)
    | false =>
      rw [h0] at h
      cases h1 : Nat.beq x.1 i with
      | true =>
        rw [h1] at h
        rcases List.mem_cons.mp h with h3 | h3
        · exact Or.inl h3
        · exact Or.inr ⟨List.mem_cons_of_mem _ (gz_del_far i l q h3).1, (gz_del_far i l q h3).2⟩
      | false =>
        rw [h1] at h
        cases h2 : (Nat.beq (x.1 + 1) i && Nat.beq (gz_cat x.2) 2) with
        | true =>
          rw [h2] at h
          rcases gz_ins_far i v l q h with h3 | h3
          · exact Or.inl h3
          · exact Or.inr ⟨List.mem_cons_of_mem _ h3.1, h3.2⟩
        | false =>
          rw [h2] at h
          rcases List.mem_cons.mp h with h3 | h3
          · subst h3
            exact Or.inr ⟨List.mem_cons_self, gz_far_of h1 h2⟩
          · rcases gz_ins_far i v l q h3 with h4 | h4
            · exact Or.inl h4
            · exact Or.inr ⟨List.mem_cons_of_mem _ h4.1, h4.2⟩
theorem gz_has_ins {a : Nat → Nat} {ls : Array Slot} {n i : Nat} {L : gz_L} {v : gz_V} (h : lv_has ls n ((i, gz_cv a v) :: (gz_cl a L).filter (fun q => !(q.1 == i) && !(q.1 + 1 == i && q.2.category == 2)))) : lv_has ls n (gz_cl a (gz_ins i v L)) := by
  refine ⟨h.1, h.2.1, fun q hq => ?_⟩
  obtain ⟨w, hw, rfl⟩ := List.mem_map.mp hq
  rcases gz_ins_far i v L w hw with h1 | ⟨h1, h2, h3⟩
  · subst h1
    exact h.2.2 (i, gz_cv a v) List.mem_cons_self
  · refine h.2.2 (w.1, gz_cv a w.2) (List.mem_cons_of_mem _ (List.mem_filter.mpr ⟨List.mem_map.mpr ⟨w, h1, rfl⟩, ?_⟩))
    show (!(w.1 == i) && !(w.1 + 1 == i && (gz_cv a w.2).category == 2)) = true
    rw [gz_cv_cat]
    have e1 : (w.1 == i) = false := by simp [h2]
    have e2 : (w.1 + 1 == i && gz_cat w.2 == 2) = false := by
      by_cases k1 : w.1 + 1 = i
      · by_cases k2 : gz_cat w.2 = 2
        · exact absurd ⟨k1, k2⟩ h3
        · simp [k2]
      · simp [k1]
    rw [e1, e2]
    rfl
-- what comes next, and one instruction
abbrev gz_K (S : Type) : Type := Nat → gz_L → List gz_V → S → Prop
abbrev gz_T (S : Type) : Type := gz_L → List gz_V → S → gz_K S → (Option Int32 → S → Prop) → Prop
/-- taking from the stack: an int, a long, the cell i, a cell, anything of one unit -/
def gz_popi (st : List gz_V) (k : Int32 → List gz_V → Prop) : Prop := match st with
  | .inr (.inl x) :: r => k x r
  | _ => False
def gz_popl (st : List gz_V) (k : Int64 → List gz_V → Prop) : Prop := match st with
  | .inr (.inr x) :: r => k x r
  | _ => False
def gz_popr (st : List gz_V) (k : Nat → List gz_V → Prop) : Prop := match st with
  | .inl j :: r => k j r
  | _ => False
def gz_popj (i : Nat) (st : List gz_V) (k : List gz_V → Prop) : Prop := match st with
  | .inl j :: r => cond (Nat.beq j i) (k r) False
  | _ => False
def gz_popa (st : List gz_V) (k : gz_V → List gz_V → Prop) : Prop := match st with
  | v :: r => cond (Nat.beq (gz_cat v) 1) (k v r) False
  | _ => False
theorem gz_popi_inv {st : List gz_V} {k : Int32 → List gz_V → Prop} (h : gz_popi st k) : ∃ x r, st = gz_i x :: r ∧ k x r := by
  cases st with
  | nil => exact False.elim h
  | cons v r =>
    rcases v with i | x | y
    · exact False.elim h
    · exact ⟨x, r, rfl, h⟩
    · exact False.elim h
theorem gz_popl_inv {st : List gz_V} {k : Int64 → List gz_V → Prop} (h : gz_popl st k) : ∃ x r, st = gz_l x :: r ∧ k x r := by
  cases st with
  | nil => exact False.elim h
  | cons v r =>
    rcases v with i | x | y
    · exact False.elim h
    · exact False.elim h
    · exact ⟨y, r, rfl, h⟩
theorem gz_popr_inv {st : List gz_V} {k : Nat → List gz_V → Prop} (h : gz_popr st k) : ∃ x r, st = gz_r x :: r ∧ k x r := by
  cases st with
  | nil => exact False.elim h
  | cons v r =>
    rcases v with i | x | y
    · exact ⟨i, r, rfl, h⟩
    · exact False.elim h
    · exact False.elim h
theorem gz_popj_inv {i : Nat} {st : List gz_V} {k : List gz_V → Prop} (h : gz_popj i st k) : ∃ r, st = gz_r i :: r ∧ k r := by
  cases st with
  | nil => exact False.elim h
  | cons v r =>
    rcases v with j | x | y
    · have h1 : cond (Nat.beq j i) (k r) False := h
      cases hb : Nat.beq j i with
      | true =>
        rw [hb] at h1
        rw [Nat.eq_of_beq_eq_true hb]
        exact ⟨r, rfl, h1⟩
      | false =>
        rw [hb] at h1
        exact False.elim h1
    · exact False.elim h
    · exact False.elim h
theorem gz_popa_inv {st : List gz_V} {k : gz_V → List gz_V → Prop} (h : gz_popa st k) : ∃ v r, st = v :: r ∧ gz_cat v = 1 ∧ k v r := by
  cases st with
  | nil => exact False.elim h
  | cons v r =>
    have h1 : cond (Nat.beq (gz_cat v) 1) (k v r) False := h
    cases hb : Nat.beq (gz_cat v) 1 with
    | true =>
      rw [hb] at h1
      exact ⟨v, r, rfl, Nat.eq_of_beq_eq_true hb, h1⟩
    | false =>
      rw [hb] at h1
      exact False.elim h1
def gz_some {α : Type} (o : Option α) (k : α → Prop) : Prop := match o with
  | some v => k v
  | none => False
theorem gz_some_inv {α : Type} {o : Option α} {k : α → Prop} (h : gz_some o k) : ∃ v, o = some v ∧ k v := by
  cases o with
  | none => exact False.elim h
  | some v => exact ⟨v, rfl, h⟩
def gz_nil (st : List gz_V) (P : Prop) : Prop := match st with
  | [] => P
  | _ => False
theorem gz_nil_inv {st : List gz_V} {P : Prop} (h : gz_nil st P) : st = [] ∧ P := by
  cases st with
  | nil => exact ⟨rfl, h⟩
  | cons v r => exact False.elim h
/-- things of depth at most 8 below a call -/
def gz_low (st : List gz_V) (P : Prop) : Prop := cond (Nat.ble (gz_dep st) 8) P False
theorem gz_low_inv {st : List gz_V} {P : Prop} (h : gz_low st P) : gz_dep st ≤ 8 ∧ P := by
  have h1 : cond (Nat.ble (gz_dep st) 8) P False := h
  cases hb : Nat.ble (gz_dep st) 8 with
  | true =>
    rw [hb] at h1
    exact ⟨Nat.le_of_ble_eq_true hb, h1⟩
  | false =>
    rw [hb] at h1
    exact False.elim h1
-- the transformers; nx: the pc behind the instruction
section GZT
variable {S : Type}
def gz_push (nx : Nat) (v : gz_V) : gz_T S := fun L st u K _ => K nx L (v :: st) u
def gz_ldi (nx i : Nat) : gz_T S := fun L st u K _ => gz_some (gz_look L i) fun v => gz_popi [v] fun x _ => K nx L (gz_i x :: st) u
def gz_ldl (nx i : Nat) : gz_T S := fun L st u K _ => gz_some (gz_look L i) fun v => gz_popl [v] fun x _ => K nx L (gz_l x :: st) u
def gz_lda (nx i : Nat) : gz_T S := fun L st u K _ => gz_some (gz_look L i) fun v => gz_popr [v] fun x _ => K nx L (gz_r x :: st) u
def gz_stor (nx i : Nat) : gz_T S := fun L st u K _ => gz_popi st fun x r => K nx (gz_ins i (gz_i x) L) r u
def gz_storR (nx i : Nat) : gz_T S := fun L st u K _ => gz_popr st fun x r => K nx (gz_ins i (gz_r x) L) r u
def gz_iinc (nx i : Nat) (c : Int32) : gz_T S := fun L st u K _ => gz_some (gz_look L i) fun v => gz_popi [v] fun x _ => K nx (gz_ins i (gz_i (x + c)) L) st u
def gz_iop (nx : Nat) (f : Int32 → Int32 → Int32) : gz_T S := fun L st u K _ => gz_popi st fun y r => gz_popi r fun x q => K nx L (gz_i (f x y) :: q) u
def gz_lop (nx : Nat) (f : Int64 → Int64 → Int64) : gz_T S := fun L st u K _ => gz_popl st fun y r => gz_popl r fun x q => K nx L (gz_l (f x y) :: q) u
def gz_lsh (nx : Nat) (f : Int64 → Int32 → Int64) : gz_T S := fun L st u K _ => gz_popi st fun y r => gz_popl r fun x q => K nx L (gz_l (f x y) :: q) u
def gz_itol (nx : Nat) : gz_T S := fun L st u K _ => gz_popi st fun x r => K nx L (gz_l x.toInt64 :: r) u
def gz_lcmp (nx : Nat) : gz_T S := fun L st u K _ => gz_popl st fun y r => gz_popl r fun x q => K nx L (gz_i (lg_cmp x y) :: q) u
def gz_dup (nx : Nat) : gz_T S := fun L st u K _ => gz_popa st fun v r => K nx L (v :: v :: r) u
def gz_pop (nx : Nat) : gz_T S := fun L st u K _ => gz_popa st fun _ r => K nx L r u
/-- branches: P where it jumps, N where it goes on -/
def gz_if (nx tgt : Nat) (P N : Int32 → Prop) : gz_T S := fun L st u K _ => gz_popi st fun x r => (P x → K tgt L r u) ∧ (N x → K nx L r u)
def gz_if2 (nx tgt : Nat) (P N : Int32 → Int32 → Prop) : gz_T S := fun L st u K _ => gz_popi st fun y r => gz_popi r fun x q => (P x y → K tgt L q u) ∧ (N x y → K nx L q u)
def gz_swc (x : Int32) (k : Nat → Prop) (d : Nat) : List (Int32 × Nat) → Prop
  | [] => k d
  | q :: l => (x = q.1 → k q.2) ∧ (¬ x = q.1 → gz_swc x k d l)
def gz_sw (ts : List (Int32 × Nat)) (d : Nat) : gz_T S := fun L st u K _ => gz_popi st fun x r => gz_swc x (fun t => K t L r u) d ts
def gz_goto (tgt : Nat) : gz_T S := fun L st u K _ => K tgt L st u
def gz_getR (nx i j : Nat) : gz_T S := fun L st u K _ => gz_popj i st fun r => K nx L (gz_r j :: r) u
def gz_getI (nx i : Nat) (g : S → Int32) : gz_T S := fun L st u K _ => gz_popj i st fun r => K nx L (gz_i (g u) :: r) u
def gz_getL (nx i : Nat) (g : S → Int64) : gz_T S := fun L st u K _ => gz_popj i st fun r => K nx L (gz_l (g u) :: r) u
def gz_putI (nx i : Nat) (f : S → Int32 → S) : gz_T S := fun L st u K _ => gz_popi st fun x r => gz_popj i r fun q => K nx L q (f u x)
def gz_putL (nx i : Nat) (f : S → Int64 → S) : gz_T S := fun L st u K _ => gz_popl st fun x r => gz_popj i r fun q => K nx L q (f u x)
/-- arrays: tab j k: the array at cell j, by its length, its reading and its writing -/
abbrev gz_AI (S : Type) : Type := Nat → (Nat → (S → Nat → Int32) → (S → Int32 → Int32 → S) → Prop) → Prop
abbrev gz_AL (S : Type) : Type := Nat → (Nat → (S → Nat → Int64) → (S → Int32 → Int64 → S) → Prop) → Prop
def gz_ild (nx : Nat) (tab : gz_AI S) : gz_T S := fun L st u K _ => gz_popi st fun x r => gz_popr r fun j q => tab j fun n g _ => vp_in x n ∧ K nx L (gz_i (g u x.toNatClampNeg) :: q) u
def gz_ist (nx : Nat) (tab : gz_AI S) : gz_T S := fun L st u K _ => gz_popi st fun y r => gz_popi r fun x q => gz_popr q fun j o => tab j fun n _ f => vp_in x n ∧ K nx L o (f u x y)
def gz_zst (nx : Nat) (tab : gz_AI S) : gz_T S := fun L st u K _ => gz_popi st fun y r => gz_popi r fun x q => gz_popr q fun j o => tab j fun n _ f => vp_in x n ∧ K nx L o (f u x (vp_nar .boolean y))
def gz_lld (nx : Nat) (tab : gz_AL S) : gz_T S := fun L st u K _ => gz_popi st fun x r => gz_popr r fun j q => tab j fun n g _ => vp_in x n ∧ K nx L (gz_l (g u x.toNatClampNeg) :: q) u
def gz_lst (nx : Nat) (tab : gz_AL S) : gz_T S := fun L st u K _ => gz_popl st fun y r => gz_popi r fun x q => gz_popr q fun j o => tab j fun n _ f => vp_in x n ∧ K nx L o (f u x y)
/-- the ends -/
def gz_iret : gz_T S := fun _ st u _ Kr => gz_popi st fun x r => gz_nil r (Kr (some x) u)
def gz_zret : gz_T S := fun _ st u _ Kr => gz_popi st fun x r => gz_nil r (narrow .boolean (.int x) = .int x ∧ Kr (some x) u)
def gz_vret : gz_T S := fun _ st u _ Kr => gz_nil st (Kr none u)
/-- calls: static (s), of the cell i (c); arguments ints but for a long (l); an answer and the same state (P), an answer and a new state (I), a new state (V) -/
def gz_s1P (nx : Nat) (f : Int32 → Int32) : gz_T S := fun L st u K _ => gz_popi st fun x r => gz_low r (K nx L (gz_i (f x) :: r) u)
def gz_s3P (nx : Nat) (f : Int32 → Int32 → Int32 → Int32) : gz_T S := fun L st u K _ => gz_popi st fun z r3 => gz_popi r3 fun y r2 => gz_popi r2 fun x r => gz_low r (K nx L (gz_i (f x y z) :: r) u)
def gz_c0P (nx i : Nat) (f : S → Int32) : gz_T S := fun L st u K _ => gz_popj i st fun r => gz_low r (K nx L (gz_i (f u) :: r) u)
def gz_c1P (nx i : Nat) (pre : S → Int32 → Prop) (f : S → Int32 → Int32) : gz_T S := fun L st u K _ => gz_popi st fun x r1 => gz_popj i r1 fun r => gz_low r (pre u x ∧ K nx L (gz_i (f u x) :: r) u)
def gz_c2P (nx i : Nat) (pre : S → Int32 → Int32 → Prop) (f : S → Int32 → Int32 → Int32) : gz_T S := fun L st u K _ => gz_popi st fun y r2 => gz_popi r2 fun x r1 => gz_popj i r1 fun r => gz_low r (pre u x y ∧ K nx L (gz_i (f u x y) :: r) u)
def gz_c1lP (nx i : Nat) (pre : S → Int32 → Int64 → Prop) (f : S → Int32 → Int64 → Int32) : gz_T S := fun L st u K _ => gz_popl st fun y r2 => gz_popi r2 fun x r1 => gz_popj i r1 fun r => gz_low r (pre u x y ∧ K nx L (gz_i (f u x y) :: r) u)
def gz_c1I (nx i : Nat) (pre : S → Int32 → Prop) (f : S → Int32 → Int32) (g : S → Int32 → S) : gz_T S := fun L st u K _ => gz_popi st fun x r1 => gz_popj i r1 fun r => gz_low r (pre u x ∧ K nx L (gz_i (f u x) :: r) (g u x))
def gz_c2I (nx i : Nat) (pre : S → Int32 → Int32 → Prop) (f : S → Int32 → Int32 → Int32) (g : S → Int32 → Int32 → S) : gz_T S := fun L st u K _ => gz_popi st fun y r2 => gz_popi r2 fun x r1 => gz_popj i r1 fun r => gz_low r (pre u x y ∧ K nx L (gz_i (f u x y) :: r) (g u x y))
def gz_c4I (nx i : Nat) (pre : S → Int32 → Int32 → Int32 → Int32 → Prop) (f : S → Int32 → Int32 → Int32 → Int32 → Int32) (g : S → Int32 → Int32 → Int32 → Int32 → S) : gz_T S := fun L st u K _ => gz_popi st fun w r4 => gz_popi r4 fun z r3 => gz_popi r3 fun y r2 => gz_popi r2 fun x r1 => gz_popj i r1 fun r => gz_low r (pre u x y z w ∧ K nx L (gz_i (f u x y z w) :: r) (g u x y z w))
def gz_c1lI (nx i : Nat) (pre : S → Int32 → Int64 → Prop) (f : S → Int32 → Int64 → Int32) (g : S → Int32 → Int64 → S) : gz_T S := fun L st u K _ => gz_popl st fun y r2 => gz_popi r2 fun x r1 => gz_popj i r1 fun r => gz_low r (pre u x y ∧ K nx L (gz_i (f u x y) :: r) (g u x y))
def gz_clI (nx i : Nat) (pre : S → Int64 → Prop) (f : S → Int64 → Int32) (g : S → Int64 → S) : gz_T S := fun L st u K _ => gz_popl st fun x r1 => gz_popj i r1 fun r => gz_low r (pre u x ∧ K nx L (gz_i (f u x) :: r) (g u x))
/-- the length of the array at the cell i -/
def gz_alen (nx i : Nat) (n : Int32) : gz_T S := fun L st u K _ => gz_popj i st fun r => K nx L (gz_i n :: r) u
def gz_c1V (nx i : Nat) (pre : S → Int32 → Prop) (g : S → Int32 → S) : gz_T S := fun L st u K _ => gz_popi st fun x r1 => gz_popj i r1 fun r => gz_low r (pre u x ∧ K nx L r (g u x))
def gz_c2V (nx i : Nat) (pre : S → Int32 → Int32 → Prop) (g : S → Int32 → Int32 → S) : gz_T S := fun L st u K _ => gz_popi st fun y r2 => gz_popi r2 fun x r1 => gz_popj i r1 fun r => gz_low r (pre u x y ∧ K nx L r (g u x y))
/-- a table's instruction, and a run of it up to the stops -/
def gz_at : List (Nat × gz_T S) → Nat → Option (gz_T S)
  | [], _ => none
  | q :: l, pc => cond (Nat.beq q.1 pc) (some q.2) (gz_at l pc)
def gz_mem : List Nat → Nat → Bool
  | [], _ => false
  | q :: l, pc => cond (Nat.beq q pc) true (gz_mem l pc)
def gz_one (tb : List (Nat × gz_T S)) (K : gz_K S) (Kr : Option Int32 → S → Prop) : gz_K S := fun pc L st u => gz_some (gz_at tb pc) fun T => T L st u K Kr
def gz_run (tb : List (Nat × gz_T S)) (stops : List Nat) (K0 : gz_K S) (Kr : Option Int32 → S → Prop) : Nat → gz_K S
  | 0 => K0
  | n + 1 => fun pc L st u => cond (gz_mem stops pc) (K0 pc L st u) (gz_one tb (gz_run tb stops K0 Kr n) Kr pc L st u)
def gz_ok (Z : gz_K S) (Kr : Option Int32 → S → Prop) (pc : Nat) (T : gz_T S) : Prop := ∀ K : gz_K S, (∀ (pc : Nat) (L : gz_L) (st : List gz_V) (u : S), K pc L st u → Z pc L st u) → ∀ (L : gz_L) (st : List gz_V) (u : S), T L st u K Kr → Z pc L st u
def gz_oks (Z : gz_K S) (Kr : Option Int32 → S → Prop) : List (Nat × gz_T S) → Prop
  | [] => True
  | q :: l => gz_ok Z Kr q.1 q.2 ∧ gz_oks Z Kr l
theorem gz_at_ok {Z : gz_K S} {Kr : Option Int32 → S → Prop} : ∀ (tb : List (Nat × gz_T S)), gz_oks Z Kr tb → ∀ (pc : Nat) (T : gz_T S), gz_at tb pc = some T → gz_ok Z Kr pc T
  | [], _, pc, T, h => by cases h
  | q :: l, ho, pc, T, h => by
    unfold gz_at at h
    cases hb : Nat.beq q.1 pc with
    | true =>
      rw [hb] at h
      have h1 : q.1 = pc := Nat.eq_of_beq_eq_true hb
      have h2 : q.2 = T := Option.some.inj h
      rw [← h1, ← h2]
      exact ho.1
    | false =>
      rw [hb] at h
      exact gz_at_ok l ho.2 pc T h
theorem gz_one_ok {Z K : gz_K S} {Kr : Option Int32 → S → Prop} {tb : List (Nat × gz_T S)} (ho : gz_oks Z Kr tb) (hK : ∀ (pc : Nat) (L : gz_L) (st : List gz_V) (u : S), K pc L st u → Z pc L st u) {pc : Nat} {L : gz_L} {st : List gz_V} {u : S} (h : gz_one tb K Kr pc L st u) : Z pc L st u := by
  obtain ⟨T, h1, h2⟩ := gz_some_inv h
  exact gz_at_ok tb ho pc T h1 K hK L st u h2
theorem gz_run_ok {Z : gz_K S} {Kr : Option Int32 → S → Prop} {tb : List (Nat × gz_T S)} (ho : gz_oks Z Kr tb) (stops : List Nat) : ∀ (n pc : Nat) (L : gz_L) (st : List gz_V) (u : S), gz_run tb stops Z Kr n pc L st u → Z pc L st u
  | 0, _, _, _, _, h => h
  | n + 1, pc, L, st, u, h => by
    have h1 : cond (gz_mem stops pc) (Z pc L st u) (gz_one tb (gz_run tb stops Z Kr n) Kr pc L st u) := h
    cases hb : gz_mem stops pc with
    | true =>
      rw [hb] at h1
      exact h1
    | false =>
      rw [hb] at h1
      exact gz_one_ok ho (gz_run_ok ho stops n) h1
/-- from a loop's head: one instruction, then a run -/
theorem gz_go {Z : gz_K S} {Kr : Option Int32 → S → Prop} {tb : List (Nat × gz_T S)} (ho : gz_oks Z Kr tb) (stops : List Nat) (n : Nat) {pc : Nat} {L : gz_L} {st : List gz_V} {u : S} (h : gz_one tb (gz_run tb stops Z Kr n) Kr pc L st u) : Z pc L st u := gz_one_ok ho (gz_run_ok ho stops n) h
end GZT
end
section
/-! OWN ENGINE, second part: each transformer holds of the machine -/
/-- what is shown at a point of a walk: G is what the heap must hold of the state u -/
def gz_Z (p : Program) (l : Launch) (e : Env) (R : Room) (s : State) (m : MethodId) (args : Array Value) (below : List Frame) (meth : Method) (c : Code) (cells slots : Nat) (Q : State → Prop) (nL : Nat) (a : Nat → Nat) {S : Type} (G : S → Heap → List Loc → Prop) : gz_K S :=
  fun pc L st u => ∀ (H : Heap) (locs : List Loc) (ls : Array Slot), lv_has ls nL (gz_cl a L) → G u H locs → W p l e R s m args below meth c H locs cells slots Q (F0 m pc ls (gz_cs a st))
section GZO
variable {S : Type} {p : Program} {l : Launch} {e : Env} {R : Room} {s : State} {m : MethodId} {args : Array Value} {below : List Frame} {meth : Method} {c : Code} {cells slots : Nat} {Q : State → Prop} {cc : ByteArray} {nL : Nat} {a : Nat → Nat} {G : S → Heap → List Loc → Prop} {Kr : Option Int32 → S → Prop} {pc : Nat}
theorem gz_o_iconst (hx : p.tables.exec = Jvm.exec) (hb : c.code = cc) {n : Int} (v : Int32) (hd : decode cc pc = .ok (.iconst n, 1)) (hv : Int32.ofInt n = v) : gz_ok (gz_Z p l e R s m args below meth c cells slots Q nL a G) Kr pc (gz_push (pc + 1) (gz_i v)) := by
  intro K hK L st u h
  intro H locs ls hl hg
  exact lv_iconst hx hb hd hv (hK _ _ _ _ h H locs ls hl hg)
theorem gz_o_bipush (hx : p.tables.exec = Jvm.exec) (hb : c.code = cc) {n : Int} (v : Int32) (hd : decode cc pc = .ok (.bipush n, 2)) (hv : (Int8.ofInt n).toInt32 = v) : gz_ok (gz_Z p l e R s m args below meth c cells slots Q nL a G) Kr pc (gz_push (pc + 2) (gz_i v)) := by
  intro K hK L st u h
  intro H locs ls hl hg
  exact lv_bipush hx hb hd hv (hK _ _ _ _ h H locs ls hl hg)
theorem gz_o_sipush (hx : p.tables.exec = Jvm.exec) (hb : c.code = cc) {n : Int} (v : Int32) (hd : decode cc pc = .ok (.sipush n, 3)) (hv : (Int16.ofInt n).toInt32 = v) : gz_ok (gz_Z p l e R s m args below meth c cells slots Q nL a G) Kr pc (gz_push (pc + 3) (gz_i v)) := by
  intro K hK L st u h
  intro H locs ls hl hg
  exact lv_sipush hx hb hd hv (hK _ _ _ _ h H locs ls hl hg)
theorem gz_o_lconst (hx : p.tables.exec = Jvm.exec) (hb : c.code = cc) {n : Fin 2} (v : Int64) (hd : decode cc pc = .ok (.lconst n, 1)) (hv : Int64.ofNat (n : Nat) = v) : gz_ok (gz_Z p l e R s m args below meth c cells slots Q nL a G) Kr pc (gz_push (pc + 1) (gz_l v)) := by
  intro K hK L st u h
  intro H locs ls hl hg
  exact lv_lconst hx hb hd hv (hK _ _ _ _ h H locs ls hl hg)
theorem gz_o_ldc2 (hx : p.tables.exec = Jvm.exec) (hb : c.code = cc) {own : String} {index : Nat} (v : Int64) (hown : s.vm.findClass own = some m.cls) (hc : (Jvm.Cond.constantLong own index v).before args s = true) (hd : decode cc pc = .ok (.ldc2_w index, 3)) : gz_ok (gz_Z p l e R s m args below meth c cells slots Q nL a G) Kr pc (gz_push (pc + 3) (gz_l v)) := by
  intro K hK L st u h
  intro H locs ls hl hg
  exact lv_ldc2 hx hb hown hc hd (hK _ _ _ _ h H locs ls hl hg)
theorem gz_o_iload_n (hx : p.tables.exec = Jvm.exec) (hb : c.code = cc) {k : Fin 4} (i : Nat) (hd : decode cc pc = .ok (.iload_n k, 1)) (hi : (k : Nat) = i) : gz_ok (gz_Z p l e R s m args below meth c cells slots Q nL a G) Kr pc (gz_ldi (pc + 1) i) := by
  intro K hK L st u h
  replace h := gz_some_inv h
  obtain ⟨v, hv, h⟩ := h
  replace h := gz_popi_inv h
  obtain ⟨x, r, e1, h⟩ := h
  cases e1
  intro H locs ls hl hg
  exact lv_iload_n hx hb hd hi (gz_lk hl hv) (hK _ _ _ _ h H locs ls hl hg)
theorem gz_o_iload (hx : p.tables.exec = Jvm.exec) (hb : c.code = cc) (i : Nat) (hd : decode cc pc = .ok (.iload i, 2)) : gz_ok (gz_Z p l e R s m args below meth c cells slots Q nL a G) Kr pc (gz_ldi (pc + 2) i) := by
  intro K hK L st u h
  replace h := gz_some_inv h
  obtain ⟨v, hv, h⟩ := h
  replace h := gz_popi_inv h
  obtain ⟨x, r, e1, h⟩ := h
  cases e1
  intro H locs ls hl hg
  exact lv_iload hx hb hd (gz_lk hl hv) (hK _ _ _ _ h H locs ls hl hg)
theorem gz_o_lload_n (hx : p.tables.exec = Jvm.exec) (hb : c.code = cc) {k : Fin 4} (i : Nat) (hd : decode cc pc = .ok (.lload_n k, 1)) (hi : (k : Nat) = i) : gz_ok (gz_Z p l e R s m args below meth c cells slots Q nL a G) Kr pc (gz_ldl (pc + 1) i) := by
  intro K hK L st u h
  replace h := gz_some_inv h
  obtain ⟨v, hv, h⟩ := h
  replace h := gz_popl_inv h
  obtain ⟨x, r, e1, h⟩ := h
  cases e1
  intro H locs ls hl hg
  exact lv_lload_n hx hb hd hi (gz_lk hl hv) (hK _ _ _ _ h H locs ls hl hg)
theorem gz_o_lload (hx : p.tables.exec = Jvm.exec) (hb : c.code = cc) (i : Nat) (hd : decode cc pc = .ok (.lload i, 2)) : gz_ok (gz_Z p l e R s m args below meth c cells slots Q nL a G) Kr pc (gz_ldl (pc + 2) i) := by
  intro K hK L st u h
  replace h := gz_some_inv h
  obtain ⟨v, hv, h⟩ := h
  replace h := gz_popl_inv h
  obtain ⟨x, r, e1, h⟩ := h
  cases e1
  intro H locs ls hl hg
  exact lv_lload hx hb hd (gz_lk hl hv) (hK _ _ _ _ h H locs ls hl hg)
theorem gz_o_aload_n (hx : p.tables.exec = Jvm.exec) (hb : c.code = cc) {k : Fin 4} (i : Nat) (hd : decode cc pc = .ok (.aload_n k, 1)) (hi : (k : Nat) = i) : gz_ok (gz_Z p l e R s m args below meth c cells slots Q nL a G) Kr pc (gz_lda (pc + 1) i) := by
  intro K hK L st u h
  replace h := gz_some_inv h
  obtain ⟨v, hv, h⟩ := h
  replace h := gz_popr_inv h
  obtain ⟨x, r, e1, h⟩ := h
  cases e1
  intro H locs ls hl hg
  exact lv_aload_n hx hb hd hi (gz_lk hl hv) (hK _ _ _ _ h H locs ls hl hg)
theorem gz_o_aload (hx : p.tables.exec = Jvm.exec) (hb : c.code = cc) (i : Nat) (hd : decode cc pc = .ok (.aload i, 2)) : gz_ok (gz_Z p l e R s m args below meth c cells slots Q nL a G) Kr pc (gz_lda (pc + 2) i) := by
  intro K hK L st u h
  replace h := gz_some_inv h
  obtain ⟨v, hv, h⟩ := h
  replace h := gz_popr_inv h
  obtain ⟨x, r, e1, h⟩ := h
  cases e1
  intro H locs ls hl hg
  exact lv_aload hx hb hd (gz_lk hl hv) (hK _ _ _ _ h H locs ls hl hg)
theorem gz_o_istore_n (hx : p.tables.exec = Jvm.exec) (hb : c.code = cc) {k : Fin 4} (i : Nat) (hd : decode cc pc = .ok (.istore_n k, 1)) (hi : (k : Nat) = i) (hn : i < nL) : gz_ok (gz_Z p l e R s m args below meth c cells slots Q nL a G) Kr pc (gz_stor (pc + 1) i) := by
  intro K hK L st u h
  replace h := gz_popi_inv h
  obtain ⟨x, r, rfl, h⟩ := h
  intro H locs ls hl hg
  exact lv_istore_n hx hb hd hi hl hn rfl (fun ls2 h2 => hK _ _ _ _ h H locs ls2 (gz_has_ins h2) hg)
theorem gz_o_istore (hx : p.tables.exec = Jvm.exec) (hb : c.code = cc) (i : Nat) (hd : decode cc pc = .ok (.istore i, 2)) (hn : i < nL) : gz_ok (gz_Z p l e R s m args below meth c cells slots Q nL a G) Kr pc (gz_stor (pc + 2) i) := by
  intro K hK L st u h
  replace h := gz_popi_inv h
  obtain ⟨x, r, rfl, h⟩ := h
  intro H locs ls hl hg
  exact lv_istore hx hb hd hl hn rfl (fun ls2 h2 => hK _ _ _ _ h H locs ls2 (gz_has_ins h2) hg)
theorem gz_o_astore_n (hx : p.tables.exec = Jvm.exec) (hb : c.code = cc) {k : Fin 4} (i : Nat) (hd : decode cc pc = .ok (.astore_n k, 1)) (hi : (k : Nat) = i) (hn : i < nL) : gz_ok (gz_Z p l e R s m args below meth c cells slots Q nL a G) Kr pc (gz_storR (pc + 1) i) := by
  intro K hK L st u h
  replace h := gz_popr_inv h
  obtain ⟨x, r, rfl, h⟩ := h
  intro H locs ls hl hg
  exact lv_astore_n hx hb hd hi hl hn rfl (fun ls2 h2 => hK _ _ _ _ h H locs ls2 (gz_has_ins h2) hg)
theorem gz_o_astore (hx : p.tables.exec = Jvm.exec) (hb : c.code = cc) (i : Nat) (hd : decode cc pc = .ok (.astore i, 2)) (hn : i < nL) : gz_ok (gz_Z p l e R s m args below meth c cells slots Q nL a G) Kr pc (gz_storR (pc + 2) i) := by
  intro K hK L st u h
  replace h := gz_popr_inv h
  obtain ⟨x, r, rfl, h⟩ := h
  intro H locs ls hl hg
  exact lv_astore hx hb hd hl hn rfl (fun ls2 h2 => hK _ _ _ _ h H locs ls2 (gz_has_ins h2) hg)
theorem gz_o_iinc (hx : p.tables.exec = Jvm.exec) (hb : c.code = cc) {n : Int} (i : Nat) (v : Int32) (hd : decode cc pc = .ok (.iinc i n, 3)) (hv : Int32.ofInt n = v) (hn : i < nL) : gz_ok (gz_Z p l e R s m args below meth c cells slots Q nL a G) Kr pc (gz_iinc (pc + 3) i v) := by
  intro K hK L st u h
  replace h := gz_some_inv h
  obtain ⟨w, hw, h⟩ := h
  replace h := gz_popi_inv h
  obtain ⟨x, r, e1, h⟩ := h
  cases e1
  intro H locs ls hl hg
  have hmem : (i, Value.int x) ∈ gz_cl a L := List.mem_map.mpr ⟨(i, gz_i x), gz_look_mem L i _ hw, rfl⟩
  obtain ⟨k, hk⟩ := List.getElem?_of_mem hmem
  exact lv_iinc hx hb hd hl hk (by rw [hv]) hn rfl (fun ls2 h2 => hK _ _ _ _ h H locs ls2 (gz_has_ins h2) hg)
theorem gz_o_iadd (hx : p.tables.exec = Jvm.exec) (hb : c.code = cc) (hd : decode cc pc = .ok (.iadd, 1)) : gz_ok (gz_Z p l e R s m args below meth c cells slots Q nL a G) Kr pc (gz_iop (pc + 1) (fun x y => x + y)) := by
  intro K hK L st u h
  replace h := gz_popi_inv h
  obtain ⟨y, r1, rfl, h⟩ := h
  replace h := gz_popi_inv h
  obtain ⟨x, r, rfl, h⟩ := h
  intro H locs ls hl hg
  exact lv_iadd hx hb hd (hK _ _ _ _ h H locs ls hl hg)
theorem gz_o_isub (hx : p.tables.exec = Jvm.exec) (hb : c.code = cc) (hd : decode cc pc = .ok (.isub, 1)) : gz_ok (gz_Z p l e R s m args below meth c cells slots Q nL a G) Kr pc (gz_iop (pc + 1) (fun x y => x - y)) := by
  intro K hK L st u h
  replace h := gz_popi_inv h
  obtain ⟨y, r1, rfl, h⟩ := h
  replace h := gz_popi_inv h
  obtain ⟨x, r, rfl, h⟩ := h
  intro H locs ls hl hg
  exact lv_isub hx hb hd (hK _ _ _ _ h H locs ls hl hg)
theorem gz_o_iand (hx : p.tables.exec = Jvm.exec) (hb : c.code = cc) (hd : decode cc pc = .ok (.iand, 1)) : gz_ok (gz_Z p l e R s m args below meth c cells slots Q nL a G) Kr pc (gz_iop (pc + 1) (fun x y => x &&& y)) := by
  intro K hK L st u h
  replace h := gz_popi_inv h
  obtain ⟨y, r1, rfl, h⟩ := h
  replace h := gz_popi_inv h
  obtain ⟨x, r, rfl, h⟩ := h
  intro H locs ls hl hg
  exact lv_iand hx hb hd (hK _ _ _ _ h H locs ls hl hg)
theorem gz_o_ladd (hx : p.tables.exec = Jvm.exec) (hb : c.code = cc) (hd : decode cc pc = .ok (.ladd, 1)) : gz_ok (gz_Z p l e R s m args below meth c cells slots Q nL a G) Kr pc (gz_lop (pc + 1) (fun x y => x + y)) := by
  intro K hK L st u h
  replace h := gz_popl_inv h
  obtain ⟨y, r1, rfl, h⟩ := h
  replace h := gz_popl_inv h
  obtain ⟨x, r, rfl, h⟩ := h
  intro H locs ls hl hg
  exact lv_ladd hx hb hd (hK _ _ _ _ h H locs ls hl hg)
theorem gz_o_lsub (hx : p.tables.exec = Jvm.exec) (hb : c.code = cc) (hd : decode cc pc = .ok (.lsub, 1)) : gz_ok (gz_Z p l e R s m args below meth c cells slots Q nL a G) Kr pc (gz_lop (pc + 1) (fun x y => x - y)) := by
  intro K hK L st u h
  replace h := gz_popl_inv h
  obtain ⟨y, r1, rfl, h⟩ := h
  replace h := gz_popl_inv h
  obtain ⟨x, r, rfl, h⟩ := h
  intro H locs ls hl hg
  exact lv_lsub hx hb hd (hK _ _ _ _ h H locs ls hl hg)
theorem gz_o_land (hx : p.tables.exec = Jvm.exec) (hb : c.code = cc) (hd : decode cc pc = .ok (.land, 1)) : gz_ok (gz_Z p l e R s m args below meth c cells slots Q nL a G) Kr pc (gz_lop (pc + 1) (fun x y => x &&& y)) := by
  intro K hK L st u h
  replace h := gz_popl_inv h
  obtain ⟨y, r1, rfl, h⟩ := h
  replace h := gz_popl_inv h
  obtain ⟨x, r, rfl, h⟩ := h
  intro H locs ls hl hg
  exact lv_land hx hb hd (hK _ _ _ _ h H locs ls hl hg)
theorem gz_o_lor (hx : p.tables.exec = Jvm.exec) (hb : c.code = cc) (hd : decode cc pc = .ok (.lor, 1)) : gz_ok (gz_Z p l e R s m args below meth c cells slots Q nL a G) Kr pc (gz_lop (pc + 1) (fun x y => x ||| y)) := by
  intro K hK L st u h
  replace h := gz_popl_inv h
  obtain ⟨y, r1, rfl, h⟩ := h
  replace h := gz_popl_inv h
  obtain ⟨x, r, rfl, h⟩ := h
  intro H locs ls hl hg
  exact lv_lor hx hb hd (hK _ _ _ _ h H locs ls hl hg)
theorem gz_o_lshl (hx : p.tables.exec = Jvm.exec) (hb : c.code = cc) (hd : decode cc pc = .ok (.lshl, 1)) : gz_ok (gz_Z p l e R s m args below meth c cells slots Q nL a G) Kr pc (gz_lsh (pc + 1) (fun x y => x <<< (y.toInt64 &&& 63))) := by
  intro K hK L st u h
  replace h := gz_popi_inv h
  obtain ⟨y, r1, rfl, h⟩ := h
  replace h := gz_popl_inv h
  obtain ⟨x, r, rfl, h⟩ := h
  intro H locs ls hl hg
  exact lv_lshl hx hb hd rfl (hK _ _ _ _ h H locs ls hl hg)
theorem gz_o_i2l (hx : p.tables.exec = Jvm.exec) (hb : c.code = cc) (hd : decode cc pc = .ok (.i2l, 1)) : gz_ok (gz_Z p l e R s m args below meth c cells slots Q nL a G) Kr pc (gz_itol (pc + 1)) := by
  intro K hK L st u h
  replace h := gz_popi_inv h
  obtain ⟨x, r, rfl, h⟩ := h
  intro H locs ls hl hg
  exact lv_i2l hx hb hd rfl (hK _ _ _ _ h H locs ls hl hg)
theorem gz_o_lcmp (hx : p.tables.exec = Jvm.exec) (hb : c.code = cc) (hd : decode cc pc = .ok (.lcmp, 1)) : gz_ok (gz_Z p l e R s m args below meth c cells slots Q nL a G) Kr pc (gz_lcmp (pc + 1)) := by
  intro K hK L st u h
  replace h := gz_popl_inv h
  obtain ⟨y, r1, rfl, h⟩ := h
  replace h := gz_popl_inv h
  obtain ⟨x, r, rfl, h⟩ := h
  intro H locs ls hl hg
  exact W.lcmp hx hb hd (hK _ _ _ _ h H locs ls hl hg)
theorem gz_o_dup (hx : p.tables.exec = Jvm.exec) (hb : c.code = cc) (hd : decode cc pc = .ok (.dup, 1)) : gz_ok (gz_Z p l e R s m args below meth c cells slots Q nL a G) Kr pc (gz_dup (pc + 1)) := by
  intro K hK L st u h
  replace h := gz_popa_inv h
  obtain ⟨v, r, rfl, hc, h⟩ := h
  intro H locs ls hl hg
  exact lv_dup hx hb hd ((gz_cv_cat a v).trans hc) (hK _ _ _ _ h H locs ls hl hg)
theorem gz_o_pop (hx : p.tables.exec = Jvm.exec) (hb : c.code = cc) (hd : decode cc pc = .ok (.pop, 1)) : gz_ok (gz_Z p l e R s m args below meth c cells slots Q nL a G) Kr pc (gz_pop (pc + 1)) := by
  intro K hK L st u h
  replace h := gz_popa_inv h
  obtain ⟨v, r, rfl, hc, h⟩ := h
  intro H locs ls hl hg
  exact lv_pop hx hb hd ((gz_cv_cat a v).trans hc) (hK _ _ _ _ h H locs ls hl hg)
theorem gz_o_if_eq (hx : p.tables.exec = Jvm.exec) (hb : c.code = cc) {off : Int} (tgt : Nat) (hd : decode cc pc = .ok (.ifCond .eq off, 3)) (ht : (pc : Int) + off = (tgt : Int)) : gz_ok (gz_Z p l e R s m args below meth c cells slots Q nL a G) Kr pc (gz_if (pc + 3) tgt (fun x => x = 0) (fun x => ¬ x = 0)) := by
  intro K hK L st u h
  replace h := gz_popi_inv h
  obtain ⟨x, r, rfl, h⟩ := h
  intro H locs ls hl hg
  exact lv_if_eq hx hb hd ht (fun q => hK _ _ _ _ (h.1 q) H locs ls hl hg) (fun q => hK _ _ _ _ (h.2 q) H locs ls hl hg)
theorem gz_o_if_ne (hx : p.tables.exec = Jvm.exec) (hb : c.code = cc) {off : Int} (tgt : Nat) (hd : decode cc pc = .ok (.ifCond .ne off, 3)) (ht : (pc : Int) + off = (tgt : Int)) : gz_ok (gz_Z p l e R s m args below meth c cells slots Q nL a G) Kr pc (gz_if (pc + 3) tgt (fun x => ¬ x = 0) (fun x => x = 0)) := by
  intro K hK L st u h
  replace h := gz_popi_inv h
  obtain ⟨x, r, rfl, h⟩ := h
  intro H locs ls hl hg
  exact lv_if_ne hx hb hd ht (fun q => hK _ _ _ _ (h.1 q) H locs ls hl hg) (fun q => hK _ _ _ _ (h.2 q) H locs ls hl hg)
theorem gz_o_if_lt (hx : p.tables.exec = Jvm.exec) (hb : c.code = cc) {off : Int} (tgt : Nat) (hd : decode cc pc = .ok (.ifCond .lt off, 3)) (ht : (pc : Int) + off = (tgt : Int)) : gz_ok (gz_Z p l e R s m args below meth c cells slots Q nL a G) Kr pc (gz_if (pc + 3) tgt (fun x => x < 0) (fun x => ¬ x < 0)) := by
  intro K hK L st u h
  replace h := gz_popi_inv h
  obtain ⟨x, r, rfl, h⟩ := h
  intro H locs ls hl hg
  exact lv_if_lt hx hb hd ht (fun q => hK _ _ _ _ (h.1 q) H locs ls hl hg) (fun q => hK _ _ _ _ (h.2 q) H locs ls hl hg)
theorem gz_o_if_ge (hx : p.tables.exec = Jvm.exec) (hb : c.code = cc) {off : Int} (tgt : Nat) (hd : decode cc pc = .ok (.ifCond .ge off, 3)) (ht : (pc : Int) + off = (tgt : Int)) : gz_ok (gz_Z p l e R s m args below meth c cells slots Q nL a G) Kr pc (gz_if (pc + 3) tgt (fun x => 0 ≤ x) (fun x => ¬ 0 ≤ x)) := by
  intro K hK L st u h
  replace h := gz_popi_inv h
  obtain ⟨x, r, rfl, h⟩ := h
  intro H locs ls hl hg
  exact lv_if_ge hx hb hd ht (fun q => hK _ _ _ _ (h.1 q) H locs ls hl hg) (fun q => hK _ _ _ _ (h.2 q) H locs ls hl hg)
theorem gz_o_if_gt (hx : p.tables.exec = Jvm.exec) (hb : c.code = cc) {off : Int} (tgt : Nat) (hd : decode cc pc = .ok (.ifCond .gt off, 3)) (ht : (pc : Int) + off = (tgt : Int)) : gz_ok (gz_Z p l e R s m args below meth c cells slots Q nL a G) Kr pc (gz_if (pc + 3) tgt (fun x => 0 < x) (fun x => ¬ 0 < x)) := by
  intro K hK L st u h
  replace h := gz_popi_inv h
  obtain ⟨x, r, rfl, h⟩ := h
  intro H locs ls hl hg
  exact lv_if_gt hx hb hd ht (fun q => hK _ _ _ _ (h.1 q) H locs ls hl hg) (fun q => hK _ _ _ _ (h.2 q) H locs ls hl hg)
theorem gz_o_if_le (hx : p.tables.exec = Jvm.exec) (hb : c.code = cc) {off : Int} (tgt : Nat) (hd : decode cc pc = .ok (.ifCond .le off, 3)) (ht : (pc : Int) + off = (tgt : Int)) : gz_ok (gz_Z p l e R s m args below meth c cells slots Q nL a G) Kr pc (gz_if (pc + 3) tgt (fun x => x ≤ 0) (fun x => ¬ x ≤ 0)) := by
  intro K hK L st u h
  replace h := gz_popi_inv h
  obtain ⟨x, r, rfl, h⟩ := h
  intro H locs ls hl hg
  exact lv_if_le hx hb hd ht (fun q => hK _ _ _ _ (h.1 q) H locs ls hl hg) (fun q => hK _ _ _ _ (h.2 q) H locs ls hl hg)
theorem gz_o_ic_eq (hx : p.tables.exec = Jvm.exec) (hb : c.code = cc) {off : Int} (tgt : Nat) (hd : decode cc pc = .ok (.if_icmp .eq off, 3)) (ht : (pc : Int) + off = (tgt : Int)) : gz_ok (gz_Z p l e R s m args below meth c cells slots Q nL a G) Kr pc (gz_if2 (pc + 3) tgt (fun x y => x = y) (fun x y => ¬ x = y)) := by
  intro K hK L st u h
  replace h := gz_popi_inv h
  obtain ⟨y, r1, rfl, h⟩ := h
  replace h := gz_popi_inv h
  obtain ⟨x, r, rfl, h⟩ := h
  intro H locs ls hl hg
  exact lv_icmp_eq hx hb hd ht (fun q => hK _ _ _ _ (h.1 q) H locs ls hl hg) (fun q => hK _ _ _ _ (h.2 q) H locs ls hl hg)
theorem gz_o_ic_ne (hx : p.tables.exec = Jvm.exec) (hb : c.code = cc) {off : Int} (tgt : Nat) (hd : decode cc pc = .ok (.if_icmp .ne off, 3)) (ht : (pc : Int) + off = (tgt : Int)) : gz_ok (gz_Z p l e R s m args below meth c cells slots Q nL a G) Kr pc (gz_if2 (pc + 3) tgt (fun x y => ¬ x = y) (fun x y => x = y)) := by
  intro K hK L st u h
  replace h := gz_popi_inv h
  obtain ⟨y, r1, rfl, h⟩ := h
  replace h := gz_popi_inv h
  obtain ⟨x, r, rfl, h⟩ := h
  intro H locs ls hl hg
  exact lv_icmp_ne hx hb hd ht (fun q => hK _ _ _ _ (h.1 q) H locs ls hl hg) (fun q => hK _ _ _ _ (h.2 q) H locs ls hl hg)
theorem gz_o_ic_lt (hx : p.tables.exec = Jvm.exec) (hb : c.code = cc) {off : Int} (tgt : Nat) (hd : decode cc pc = .ok (.if_icmp .lt off, 3)) (ht : (pc : Int) + off = (tgt : Int)) : gz_ok (gz_Z p l e R s m args below meth c cells slots Q nL a G) Kr pc (gz_if2 (pc + 3) tgt (fun x y => x < y) (fun x y => ¬ x < y)) := by
  intro K hK L st u h
  replace h := gz_popi_inv h
  obtain ⟨y, r1, rfl, h⟩ := h
  replace h := gz_popi_inv h
  obtain ⟨x, r, rfl, h⟩ := h
  intro H locs ls hl hg
  exact lv_icmp_lt hx hb hd ht (fun q => hK _ _ _ _ (h.1 q) H locs ls hl hg) (fun q => hK _ _ _ _ (h.2 q) H locs ls hl hg)
theorem gz_o_ic_ge (hx : p.tables.exec = Jvm.exec) (hb : c.code = cc) {off : Int} (tgt : Nat) (hd : decode cc pc = .ok (.if_icmp .ge off, 3)) (ht : (pc : Int) + off = (tgt : Int)) : gz_ok (gz_Z p l e R s m args below meth c cells slots Q nL a G) Kr pc (gz_if2 (pc + 3) tgt (fun x y => y ≤ x) (fun x y => ¬ y ≤ x)) := by
  intro K hK L st u h
  replace h := gz_popi_inv h
  obtain ⟨y, r1, rfl, h⟩ := h
  replace h := gz_popi_inv h
  obtain ⟨x, r, rfl, h⟩ := h
  intro H locs ls hl hg
  exact lv_icmp_ge hx hb hd ht (fun q => hK _ _ _ _ (h.1 q) H locs ls hl hg) (fun q => hK _ _ _ _ (h.2 q) H locs ls hl hg)
theorem gz_o_ic_gt (hx : p.tables.exec = Jvm.exec) (hb : c.code = cc) {off : Int} (tgt : Nat) (hd : decode cc pc = .ok (.if_icmp .gt off, 3)) (ht : (pc : Int) + off = (tgt : Int)) : gz_ok (gz_Z p l e R s m args below meth c cells slots Q nL a G) Kr pc (gz_if2 (pc + 3) tgt (fun x y => y < x) (fun x y => ¬ y < x)) := by
  intro K hK L st u h
  replace h := gz_popi_inv h
  obtain ⟨y, r1, rfl, h⟩ := h
  replace h := gz_popi_inv h
  obtain ⟨x, r, rfl, h⟩ := h
  intro H locs ls hl hg
  exact lv_icmp_gt hx hb hd ht (fun q => hK _ _ _ _ (h.1 q) H locs ls hl hg) (fun q => hK _ _ _ _ (h.2 q) H locs ls hl hg)
theorem gz_o_ic_le (hx : p.tables.exec = Jvm.exec) (hb : c.code = cc) {off : Int} (tgt : Nat) (hd : decode cc pc = .ok (.if_icmp .le off, 3)) (ht : (pc : Int) + off = (tgt : Int)) : gz_ok (gz_Z p l e R s m args below meth c cells slots Q nL a G) Kr pc (gz_if2 (pc + 3) tgt (fun x y => x ≤ y) (fun x y => ¬ x ≤ y)) := by
  intro K hK L st u h
  replace h := gz_popi_inv h
  obtain ⟨y, r1, rfl, h⟩ := h
  replace h := gz_popi_inv h
  obtain ⟨x, r, rfl, h⟩ := h
  intro H locs ls hl hg
  exact lv_icmp_le hx hb hd ht (fun q => hK _ _ _ _ (h.1 q) H locs ls hl hg) (fun q => hK _ _ _ _ (h.2 q) H locs ls hl hg)
theorem gz_o_goto (hx : p.tables.exec = Jvm.exec) (hb : c.code = cc) {off : Int} (tgt : Nat) (hd : decode cc pc = .ok (.goto off, 3)) (ht : (pc : Int) + off = (tgt : Int)) : gz_ok (gz_Z p l e R s m args below meth c cells slots Q nL a G) Kr pc (gz_goto tgt) := by
  intro K hK L st u h
  intro H locs ls hl hg
  exact lv_goto hx hb hd ht (hK _ _ _ _ h H locs ls hl hg)
theorem gz_o_sw (hx : p.tables.exec = Jvm.exec) (hb : c.code = cc) {dflt lo hi : Int} {offs : Array Int} {len : Nat} (ts : List (Int32 × Nat)) (d : Nat) (hd : decode cc pc = .ok (.tableswitch dflt lo hi offs, len)) (h1 : ∀ q ∈ ts, ¬ q.1.toInt < lo ∧ ¬ hi < q.1.toInt ∧ (offs[(q.1.toInt - lo).toNat]?).map (fun o => (pc : Int) + o) = some (q.2 : Int)) (h2 : ∀ n : Nat, n < (hi - lo + 1).toNat → ∃ q ∈ ts, q.1.toInt = lo + n) (h3 : (pc : Int) + dflt = (d : Int)) : gz_ok (gz_Z p l e R s m args below meth c cells slots Q nL a G) Kr pc (gz_sw ts d) := by
  intro K hK L st u h
  replace h := gz_popi_inv h
  obtain ⟨x, r, rfl, h⟩ := h
  intro H locs ls hl hg
  have key : ∀ (l1 : List (Int32 × Nat)), (∀ q ∈ l1, q ∈ ts) → gz_swc x (fun t => K t L r u) d l1 → (∃ q ∈ l1, x = q.1 ∧ K q.2 L r u) ∨ ((∀ q ∈ l1, ¬ x = q.1) ∧ K d L r u) := by
    intro l1
    induction l1 with
    | nil => exact fun _ hh => Or.inr ⟨fun q hq => absurd hq List.not_mem_nil, hh⟩
    | cons q l2 ih =>
      intro hs hh
      by_cases hq : x = q.1
      · exact Or.inl ⟨q, List.mem_cons_self, hq, hh.1 hq⟩
      · rcases ih (fun z hz => hs z (List.mem_cons_of_mem _ hz)) (hh.2 hq) with ⟨z, hz, hz2⟩ | ⟨hz, hz2⟩
        · exact Or.inl ⟨z, List.mem_cons_of_mem _ hz, hz2⟩
        · refine Or.inr ⟨fun z hz3 => ?_, hz2⟩
          rcases List.mem_cons.mp hz3 with h5 | h5
          · rw [h5]; exact hq
          · exact hz z h5
  rcases key ts (fun _ hq => hq) h with ⟨q, hq, e1, hk⟩ | ⟨hno, hk⟩
  · obtain ⟨g1, g2, g3⟩ := h1 q hq
    cases ho : offs[(q.1.toInt - lo).toNat]? with
    | none => rw [ho] at g3; cases g3
    | some o =>
      rw [ho] at g3
      subst e1
      exact lv_tableIn hx hb hd g1 g2 ho (Option.some.inj g3) (hK _ _ _ _ hk H locs ls hl hg)
  · refine lv_tableOut hx hb hd ?_ h3 (hK _ _ _ _ hk H locs ls hl hg)
    by_cases k1 : x.toInt < lo
    · exact Or.inl k1
    · by_cases k2 : hi < x.toInt
      · exact Or.inr k2
      · exfalso
        obtain ⟨q, hq, e1⟩ := h2 (x.toInt - lo).toNat (by omega)
        refine hno q hq (Int32.toInt_inj.mp ?_)
        rw [e1]
        omega
/-- what an instruction of the heap gives: from av on the stack and the state u to r on the stack and the state z -/
def gz_mv (p : Program) (l : Launch) (e : Env) (R : Room) (s : State) (m : MethodId) (args : Array Value) (below : List Frame) (meth : Method) (c : Code) (cells slots : Nat) (Q : State → Prop) (nL : Nat) (a : Nat → Nat) {S : Type} (G : S → Heap → List Loc → Prop) (nx pc : Nat) (av : List gz_V) (u : S) (r : List gz_V) (z : S) : Prop :=
  ∀ (H : Heap) (locs : List Loc) (ls : Array Slot) (rest : List gz_V), G u H locs → (∀ (H1 : Heap) (locs1 : List Loc), G z H1 locs1 → W p l e R s m args below meth c H1 locs1 cells slots Q (F0 m nx ls (gz_cs a (r ++ rest)))) → W p l e R s m args below meth c H locs cells slots Q (F0 m pc ls (gz_cs a (av ++ rest)))
/-- a call likewise: little lies below it -/
def gz_cb (p : Program) (l : Launch) (e : Env) (R : Room) (s : State) (m : MethodId) (args : Array Value) (below : List Frame) (meth : Method) (c : Code) (cells slots : Nat) (Q : State → Prop) (nL : Nat) (a : Nat → Nat) {S : Type} (G : S → Heap → List Loc → Prop) (nx pc : Nat) (av : List gz_V) (u : S) (r : List gz_V) (z : S) : Prop :=
  ∀ (H : Heap) (locs : List Loc) (ls : Array Slot) (rest : List gz_V), gz_dep rest ≤ 8 → ls.size = nL → G u H locs → (∀ (H1 : Heap) (locs1 : List Loc), G z H1 locs1 → W p l e R s m args below meth c H1 locs1 cells slots Q (F0 m nx ls (gz_cs a (r ++ rest)))) → W p l e R s m args below meth c H locs cells slots Q (F0 m pc ls (gz_cs a (av ++ rest)))
theorem gz_o_getR {i j : Nat} (hr : ∀ u : S, gz_mv p l e R s m args below meth c cells slots Q nL a G (pc + 3) pc [gz_r i] u [gz_r j] u) : gz_ok (gz_Z p l e R s m args below meth c cells slots Q nL a G) Kr pc (gz_getR (pc + 3) i j) := by
  intro K hK L st u h
  replace h := gz_popj_inv h
  obtain ⟨r, rfl, h⟩ := h
  intro H locs ls hl hg
  exact hr u H locs ls r hg (fun H1 locs1 hg1 => hK _ _ _ _ h H1 locs1 ls hl hg1)
theorem gz_o_getI {i : Nat} {g : S → Int32} (hr : ∀ u : S, gz_mv p l e R s m args below meth c cells slots Q nL a G (pc + 3) pc [gz_r i] u [gz_i (g u)] u) : gz_ok (gz_Z p l e R s m args below meth c cells slots Q nL a G) Kr pc (gz_getI (pc + 3) i g) := by
  intro K hK L st u h
  replace h := gz_popj_inv h
  obtain ⟨r, rfl, h⟩ := h
  intro H locs ls hl hg
  exact hr u H locs ls r hg (fun H1 locs1 hg1 => hK _ _ _ _ h H1 locs1 ls hl hg1)
theorem gz_o_getL {i : Nat} {g : S → Int64} (hr : ∀ u : S, gz_mv p l e R s m args below meth c cells slots Q nL a G (pc + 3) pc [gz_r i] u [gz_l (g u)] u) : gz_ok (gz_Z p l e R s m args below meth c cells slots Q nL a G) Kr pc (gz_getL (pc + 3) i g) := by
  intro K hK L st u h
  replace h := gz_popj_inv h
  obtain ⟨r, rfl, h⟩ := h
  intro H locs ls hl hg
  exact hr u H locs ls r hg (fun H1 locs1 hg1 => hK _ _ _ _ h H1 locs1 ls hl hg1)
theorem gz_o_putI {i : Nat} {f : S → Int32 → S} (hr : ∀ (u : S) (x : Int32), gz_mv p l e R s m args below meth c cells slots Q nL a G (pc + 3) pc [gz_i x, gz_r i] u [] (f u x)) : gz_ok (gz_Z p l e R s m args below meth c cells slots Q nL a G) Kr pc (gz_putI (pc + 3) i f) := by
  intro K hK L st u h
  replace h := gz_popi_inv h
  obtain ⟨x, r1, rfl, h⟩ := h
  replace h := gz_popj_inv h
  obtain ⟨r, rfl, h⟩ := h
  intro H locs ls hl hg
  exact hr u x H locs ls r hg (fun H1 locs1 hg1 => hK _ _ _ _ h H1 locs1 ls hl hg1)
theorem gz_o_putL {i : Nat} {f : S → Int64 → S} (hr : ∀ (u : S) (x : Int64), gz_mv p l e R s m args below meth c cells slots Q nL a G (pc + 3) pc [gz_l x, gz_r i] u [] (f u x)) : gz_ok (gz_Z p l e R s m args below meth c cells slots Q nL a G) Kr pc (gz_putL (pc + 3) i f) := by
  intro K hK L st u h
  replace h := gz_popl_inv h
  obtain ⟨x, r1, rfl, h⟩ := h
  replace h := gz_popj_inv h
  obtain ⟨r, rfl, h⟩ := h
  intro H locs ls hl hg
  exact hr u x H locs ls r hg (fun H1 locs1 hg1 => hK _ _ _ _ h H1 locs1 ls hl hg1)
/-- a table of arrays: what is said of a cell is said of some length, reading and writing, for which the machine's row holds -/
def gz_TI (tab : gz_AI S) (row : Nat → Nat → (S → Nat → Int32) → (S → Int32 → Int32 → S) → Prop) : Prop := ∀ (j : Nat) (k : Nat → (S → Nat → Int32) → (S → Int32 → Int32 → S) → Prop), tab j k → ∃ n g f, k n g f ∧ row j n g f
def gz_TL (tab : gz_AL S) (row : Nat → Nat → (S → Nat → Int64) → (S → Int32 → Int64 → S) → Prop) : Prop := ∀ (j : Nat) (k : Nat → (S → Nat → Int64) → (S → Int32 → Int64 → S) → Prop), tab j k → ∃ n g f, k n g f ∧ row j n g f
theorem gz_o_ild {tab : gz_AI S} (ht : gz_TI tab (fun j n g _ => ∀ (u : S) (x : Int32), vp_in x n → gz_mv p l e R s m args below meth c cells slots Q nL a G (pc + 1) pc [gz_i x, gz_r j] u [gz_i (g u x.toNatClampNeg)] u)) : gz_ok (gz_Z p l e R s m args below meth c cells slots Q nL a G) Kr pc (gz_ild (pc + 1) tab) := by
  intro K hK L st u h
  replace h := gz_popi_inv h
  obtain ⟨x, r1, rfl, h⟩ := h
  replace h := gz_popr_inv h
  obtain ⟨j, r, rfl, h⟩ := h
  replace h := ht j _ h
  obtain ⟨n, g, f, ⟨hi, h⟩, hr⟩ := h
  intro H locs ls hl hg
  exact hr u x hi H locs ls r hg (fun H1 locs1 hg1 => hK _ _ _ _ h H1 locs1 ls hl hg1)
theorem gz_o_lld {tab : gz_AL S} (ht : gz_TL tab (fun j n g _ => ∀ (u : S) (x : Int32), vp_in x n → gz_mv p l e R s m args below meth c cells slots Q nL a G (pc + 1) pc [gz_i x, gz_r j] u [gz_l (g u x.toNatClampNeg)] u)) : gz_ok (gz_Z p l e R s m args below meth c cells slots Q nL a G) Kr pc (gz_lld (pc + 1) tab) := by
  intro K hK L st u h
  replace h := gz_popi_inv h
  obtain ⟨x, r1, rfl, h⟩ := h
  replace h := gz_popr_inv h
  obtain ⟨j, r, rfl, h⟩ := h
  replace h := ht j _ h
  obtain ⟨n, g, f, ⟨hi, h⟩, hr⟩ := h
  intro H locs ls hl hg
  exact hr u x hi H locs ls r hg (fun H1 locs1 hg1 => hK _ _ _ _ h H1 locs1 ls hl hg1)
theorem gz_o_ist {tab : gz_AI S} (ht : gz_TI tab (fun j n g f => ∀ (u : S) (x y : Int32), vp_in x n → gz_mv p l e R s m args below meth c cells slots Q nL a G (pc + 1) pc [gz_i y, gz_i x, gz_r j] u [] (f u x y))) : gz_ok (gz_Z p l e R s m args below meth c cells slots Q nL a G) Kr pc (gz_ist (pc + 1) tab) := by
  intro K hK L st u h
  replace h := gz_popi_inv h
  obtain ⟨y, r2, rfl, h⟩ := h
  replace h := gz_popi_inv h
  obtain ⟨x, r1, rfl, h⟩ := h
  replace h := gz_popr_inv h
  obtain ⟨j, r, rfl, h⟩ := h
  replace h := ht j _ h
  obtain ⟨n, g, f, ⟨hi, h⟩, hr⟩ := h
  intro H locs ls hl hg
  exact hr u x y hi H locs ls r hg (fun H1 locs1 hg1 => hK _ _ _ _ h H1 locs1 ls hl hg1)
theorem gz_o_zst {tab : gz_AI S} (ht : gz_TI tab (fun j n g f => ∀ (u : S) (x y : Int32), vp_in x n → gz_mv p l e R s m args below meth c cells slots Q nL a G (pc + 1) pc [gz_i y, gz_i x, gz_r j] u [] (f u x (vp_nar .boolean y)))) : gz_ok (gz_Z p l e R s m args below meth c cells slots Q nL a G) Kr pc (gz_zst (pc + 1) tab) := by
  intro K hK L st u h
  replace h := gz_popi_inv h
  obtain ⟨y, r2, rfl, h⟩ := h
  replace h := gz_popi_inv h
  obtain ⟨x, r1, rfl, h⟩ := h
  replace h := gz_popr_inv h
  obtain ⟨j, r, rfl, h⟩ := h
  replace h := ht j _ h
  obtain ⟨n, g, f, ⟨hi, h⟩, hr⟩ := h
  intro H locs ls hl hg
  exact hr u x y hi H locs ls r hg (fun H1 locs1 hg1 => hK _ _ _ _ h H1 locs1 ls hl hg1)
theorem gz_o_lst {tab : gz_AL S} (ht : gz_TL tab (fun j n g f => ∀ (u : S) (x : Int32) (y : Int64), vp_in x n → gz_mv p l e R s m args below meth c cells slots Q nL a G (pc + 1) pc [gz_l y, gz_i x, gz_r j] u [] (f u x y))) : gz_ok (gz_Z p l e R s m args below meth c cells slots Q nL a G) Kr pc (gz_lst (pc + 1) tab) := by
  intro K hK L st u h
  replace h := gz_popl_inv h
  obtain ⟨y, r2, rfl, h⟩ := h
  replace h := gz_popi_inv h
  obtain ⟨x, r1, rfl, h⟩ := h
  replace h := gz_popr_inv h
  obtain ⟨j, r, rfl, h⟩ := h
  replace h := ht j _ h
  obtain ⟨n, g, f, ⟨hi, h⟩, hr⟩ := h
  intro H locs ls hl hg
  exact hr u x y hi H locs ls r hg (fun H1 locs1 hg1 => hK _ _ _ _ h H1 locs1 ls hl hg1)
theorem gz_o_s1P {f : Int32 → Int32} (hr : ∀ (u : S) (x : Int32), gz_cb p l e R s m args below meth c cells slots Q nL a G (pc + 3) pc [gz_i x] u [gz_i (f x)] (u)) : gz_ok (gz_Z p l e R s m args below meth c cells slots Q nL a G) Kr pc (gz_s1P (pc + 3) f) := by
  intro K hK L st u h
  replace h := gz_popi_inv h
  obtain ⟨x, r, rfl, h⟩ := h
  replace h := gz_low_inv h
  obtain ⟨hlow, h⟩ := h
  intro H locs ls hl hg
  exact hr u x H locs ls r hlow hl.1 hg (fun H1 locs1 hg1 => hK _ _ _ _ h H1 locs1 ls hl hg1)
theorem gz_o_s3P {f : Int32 → Int32 → Int32 → Int32} (hr : ∀ (u : S) (x y z : Int32), gz_cb p l e R s m args below meth c cells slots Q nL a G (pc + 3) pc [gz_i z, gz_i y, gz_i x] u [gz_i (f x y z)] (u)) : gz_ok (gz_Z p l e R s m args below meth c cells slots Q nL a G) Kr pc (gz_s3P (pc + 3) f) := by
  intro K hK L st u h
  replace h := gz_popi_inv h
  obtain ⟨z, r3, rfl, h⟩ := h
  replace h := gz_popi_inv h
  obtain ⟨y, r2, rfl, h⟩ := h
  replace h := gz_popi_inv h
  obtain ⟨x, r, rfl, h⟩ := h
  replace h := gz_low_inv h
  obtain ⟨hlow, h⟩ := h
  intro H locs ls hl hg
  exact hr u x y z H locs ls r hlow hl.1 hg (fun H1 locs1 hg1 => hK _ _ _ _ h H1 locs1 ls hl hg1)
theorem gz_o_c0P {i : Nat} {f : S → Int32} (hr : ∀ (u : S), gz_cb p l e R s m args below meth c cells slots Q nL a G (pc + 3) pc [gz_r i] u [gz_i (f u)] (u)) : gz_ok (gz_Z p l e R s m args below meth c cells slots Q nL a G) Kr pc (gz_c0P (pc + 3) i f) := by
  intro K hK L st u h
  replace h := gz_popj_inv h
  obtain ⟨r, rfl, h⟩ := h
  replace h := gz_low_inv h
  obtain ⟨hlow, h⟩ := h
  intro H locs ls hl hg
  exact hr u H locs ls r hlow hl.1 hg (fun H1 locs1 hg1 => hK _ _ _ _ h H1 locs1 ls hl hg1)
theorem gz_o_c1P {i : Nat} {pre : S → Int32 → Prop} {f : S → Int32 → Int32} (hr : ∀ (u : S) (x : Int32), pre u x → gz_cb p l e R s m args below meth c cells slots Q nL a G (pc + 3) pc [gz_i x, gz_r i] u [gz_i (f u x)] (u)) : gz_ok (gz_Z p l e R s m args below meth c cells slots Q nL a G) Kr pc (gz_c1P (pc + 3) i pre f) := by
  intro K hK L st u h
  replace h := gz_popi_inv h
  obtain ⟨x, r1, rfl, h⟩ := h
  replace h := gz_popj_inv h
  obtain ⟨r, rfl, h⟩ := h
  replace h := gz_low_inv h
  obtain ⟨hlow, hp, h⟩ := h
  intro H locs ls hl hg
  exact hr u x hp H locs ls r hlow hl.1 hg (fun H1 locs1 hg1 => hK _ _ _ _ h H1 locs1 ls hl hg1)
theorem gz_o_c2P {i : Nat} {pre : S → Int32 → Int32 → Prop} {f : S → Int32 → Int32 → Int32} (hr : ∀ (u : S) (x y : Int32), pre u x y → gz_cb p l e R s m args below meth c cells slots Q nL a G (pc + 3) pc [gz_i y, gz_i x, gz_r i] u [gz_i (f u x y)] (u)) : gz_ok (gz_Z p l e R s m args below meth c cells slots Q nL a G) Kr pc (gz_c2P (pc + 3) i pre f) := by
  intro K hK L st u h
  replace h := gz_popi_inv h
  obtain ⟨y, r2, rfl, h⟩ := h
  replace h := gz_popi_inv h
  obtain ⟨x, r1, rfl, h⟩ := h
  replace h := gz_popj_inv h
  obtain ⟨r, rfl, h⟩ := h
  replace h := gz_low_inv h
  obtain ⟨hlow, hp, h⟩ := h
  intro H locs ls hl hg
  exact hr u x y hp H locs ls r hlow hl.1 hg (fun H1 locs1 hg1 => hK _ _ _ _ h H1 locs1 ls hl hg1)
theorem gz_o_c1lP {i : Nat} {pre : S → Int32 → Int64 → Prop} {f : S → Int32 → Int64 → Int32} (hr : ∀ (u : S) (x : Int32) (y : Int64), pre u x y → gz_cb p l e R s m args below meth c cells slots Q nL a G (pc + 3) pc [gz_l y, gz_i x, gz_r i] u [gz_i (f u x y)] (u)) : gz_ok (gz_Z p l e R s m args below meth c cells slots Q nL a G) Kr pc (gz_c1lP (pc + 3) i pre f) := by
  intro K hK L st u h
  replace h := gz_popl_inv h
  obtain ⟨y, r2, rfl, h⟩ := h
  replace h := gz_popi_inv h
  obtain ⟨x, r1, rfl, h⟩ := h
  replace h := gz_popj_inv h
  obtain ⟨r, rfl, h⟩ := h
  replace h := gz_low_inv h
  obtain ⟨hlow, hp, h⟩ := h
  intro H locs ls hl hg
  exact hr u x y hp H locs ls r hlow hl.1 hg (fun H1 locs1 hg1 => hK _ _ _ _ h H1 locs1 ls hl hg1)
theorem gz_o_c1I {i : Nat} {pre : S → Int32 → Prop} {f : S → Int32 → Int32} {g : S → Int32 → S} (hr : ∀ (u : S) (x : Int32), pre u x → gz_cb p l e R s m args below meth c cells slots Q nL a G (pc + 3) pc [gz_i x, gz_r i] u [gz_i (f u x)] (g u x)) : gz_ok (gz_Z p l e R s m args below meth c cells slots Q nL a G) Kr pc (gz_c1I (pc + 3) i pre f g) := by
  intro K hK L st u h
  replace h := gz_popi_inv h
  obtain ⟨x, r1, rfl, h⟩ := h
  replace h := gz_popj_inv h
  obtain ⟨r, rfl, h⟩ := h
  replace h := gz_low_inv h
  obtain ⟨hlow, hp, h⟩ := h
  intro H locs ls hl hg
  exact hr u x hp H locs ls r hlow hl.1 hg (fun H1 locs1 hg1 => hK _ _ _ _ h H1 locs1 ls hl hg1)
theorem gz_o_c2I {i : Nat} {pre : S → Int32 → Int32 → Prop} {f : S → Int32 → Int32 → Int32} {g : S → Int32 → Int32 → S} (hr : ∀ (u : S) (x y : Int32), pre u x y → gz_cb p l e R s m args below meth c cells slots Q nL a G (pc + 3) pc [gz_i y, gz_i x, gz_r i] u [gz_i (f u x y)] (g u x y)) : gz_ok (gz_Z p l e R s m args below meth c cells slots Q nL a G) Kr pc (gz_c2I (pc + 3) i pre f g) := by
  intro K hK L st u h
  replace h := gz_popi_inv h
  obtain ⟨y, r2, rfl, h⟩ := h
  replace h := gz_popi_inv h
  obtain ⟨x, r1, rfl, h⟩ := h
  replace h := gz_popj_inv h
  obtain ⟨r, rfl, h⟩ := h
  replace h := gz_low_inv h
  obtain ⟨hlow, hp, h⟩ := h
  intro H locs ls hl hg
  exact hr u x y hp H locs ls r hlow hl.1 hg (fun H1 locs1 hg1 => hK _ _ _ _ h H1 locs1 ls hl hg1)
theorem gz_o_c4I {i : Nat} {pre : S → Int32 → Int32 → Int32 → Int32 → Prop} {f : S → Int32 → Int32 → Int32 → Int32 → Int32} {g : S → Int32 → Int32 → Int32 → Int32 → S} (hr : ∀ (u : S) (x y z w : Int32), pre u x y z w → gz_cb p l e R s m args below meth c cells slots Q nL a G (pc + 3) pc [gz_i w, gz_i z, gz_i y, gz_i x, gz_r i] u [gz_i (f u x y z w)] (g u x y z w)) : gz_ok (gz_Z p l e R s m args below meth c cells slots Q nL a G) Kr pc (gz_c4I (pc + 3) i pre f g) := by
  intro K hK L st u h
  replace h := gz_popi_inv h
  obtain ⟨w, r4, rfl, h⟩ := h
  replace h := gz_popi_inv h
  obtain ⟨z, r3, rfl, h⟩ := h
  replace h := gz_popi_inv h
  obtain ⟨y, r2, rfl, h⟩ := h
  replace h := gz_popi_inv h
  obtain ⟨x, r1, rfl, h⟩ := h
  replace h := gz_popj_inv h
  obtain ⟨r, rfl, h⟩ := h
  replace h := gz_low_inv h
  obtain ⟨hlow, hp, h⟩ := h
  intro H locs ls hl hg
  exact hr u x y z w hp H locs ls r hlow hl.1 hg (fun H1 locs1 hg1 => hK _ _ _ _ h H1 locs1 ls hl hg1)
theorem gz_o_c1V {i : Nat} {pre : S → Int32 → Prop} {g : S → Int32 → S} (hr : ∀ (u : S) (x : Int32), pre u x → gz_cb p l e R s m args below meth c cells slots Q nL a G (pc + 3) pc [gz_i x, gz_r i] u [] (g u x)) : gz_ok (gz_Z p l e R s m args below meth c cells slots Q nL a G) Kr pc (gz_c1V (pc + 3) i pre g) := by
  intro K hK L st u h
  replace h := gz_popi_inv h
  obtain ⟨x, r1, rfl, h⟩ := h
  replace h := gz_popj_inv h
  obtain ⟨r, rfl, h⟩ := h
  replace h := gz_low_inv h
  obtain ⟨hlow, hp, h⟩ := h
  intro H locs ls hl hg
  exact hr u x hp H locs ls r hlow hl.1 hg (fun H1 locs1 hg1 => hK _ _ _ _ h H1 locs1 ls hl hg1)
theorem gz_o_c2V {i : Nat} {pre : S → Int32 → Int32 → Prop} {g : S → Int32 → Int32 → S} (hr : ∀ (u : S) (x y : Int32), pre u x y → gz_cb p l e R s m args below meth c cells slots Q nL a G (pc + 3) pc [gz_i y, gz_i x, gz_r i] u [] (g u x y)) : gz_ok (gz_Z p l e R s m args below meth c cells slots Q nL a G) Kr pc (gz_c2V (pc + 3) i pre g) := by
  intro K hK L st u h
  replace h := gz_popi_inv h
  obtain ⟨y, r2, rfl, h⟩ := h
  replace h := gz_popi_inv h
  obtain ⟨x, r1, rfl, h⟩ := h
  replace h := gz_popj_inv h
  obtain ⟨r, rfl, h⟩ := h
  replace h := gz_low_inv h
  obtain ⟨hlow, hp, h⟩ := h
  intro H locs ls hl hg
  exact hr u x y hp H locs ls r hlow hl.1 hg (fun H1 locs1 hg1 => hK _ _ _ _ h H1 locs1 ls hl hg1)
theorem gz_o_c1lI {i : Nat} {pre : S → Int32 → Int64 → Prop} {f : S → Int32 → Int64 → Int32} {g : S → Int32 → Int64 → S} (hr : ∀ (u : S) (x : Int32) (y : Int64), pre u x y → gz_cb p l e R s m args below meth c cells slots Q nL a G (pc + 3) pc [gz_l y, gz_i x, gz_r i] u [gz_i (f u x y)] (g u x y)) : gz_ok (gz_Z p l e R s m args below meth c cells slots Q nL a G) Kr pc (gz_c1lI (pc + 3) i pre f g) := by
  intro K hK L st u h
  replace h := gz_popl_inv h
  obtain ⟨y, r2, rfl, h⟩ := h
  replace h := gz_popi_inv h
  obtain ⟨x, r1, rfl, h⟩ := h
  replace h := gz_popj_inv h
  obtain ⟨r, rfl, h⟩ := h
  replace h := gz_low_inv h
  obtain ⟨hlow, hp, h⟩ := h
  intro H locs ls hl hg
  exact hr u x y hp H locs ls r hlow hl.1 hg (fun H1 locs1 hg1 => hK _ _ _ _ h H1 locs1 ls hl hg1)
theorem gz_o_clI {i : Nat} {pre : S → Int64 → Prop} {f : S → Int64 → Int32} {g : S → Int64 → S} (hr : ∀ (u : S) (x : Int64), pre u x → gz_cb p l e R s m args below meth c cells slots Q nL a G (pc + 3) pc [gz_l x, gz_r i] u [gz_i (f u x)] (g u x)) : gz_ok (gz_Z p l e R s m args below meth c cells slots Q nL a G) Kr pc (gz_clI (pc + 3) i pre f g) := by
  intro K hK L st u h
  replace h := gz_popl_inv h
  obtain ⟨x, r1, rfl, h⟩ := h
  replace h := gz_popj_inv h
  obtain ⟨r, rfl, h⟩ := h
  replace h := gz_low_inv h
  obtain ⟨hlow, hp, h⟩ := h
  intro H locs ls hl hg
  exact hr u x hp H locs ls r hlow hl.1 hg (fun H1 locs1 hg1 => hK _ _ _ _ h H1 locs1 ls hl hg1)
theorem gz_o_alen {i : Nat} {n : Int32} (hr : ∀ u : S, gz_mv p l e R s m args below meth c cells slots Q nL a G (pc + 1) pc [gz_r i] u [gz_i n] u) : gz_ok (gz_Z p l e R s m args below meth c cells slots Q nL a G) Kr pc (gz_alen (pc + 1) i n) := by
  intro K hK L st u h
  replace h := gz_popj_inv h
  obtain ⟨r, rfl, h⟩ := h
  intro H locs ls hl hg
  exact hr u H locs ls r hg (fun H1 locs1 hg1 => hK _ _ _ _ h H1 locs1 ls hl hg1)
/-- the ends: fin r u: the machine's row of a return with r -/
theorem gz_o_iret (hr : ∀ (u : S) (x : Int32), Kr (some x) u → ∀ (H : Heap) (locs : List Loc) (ls : Array Slot), G u H locs → W p l e R s m args below meth c H locs cells slots Q (F0 m pc ls [.int x])) : gz_ok (gz_Z p l e R s m args below meth c cells slots Q nL a G) Kr pc gz_iret := by
  intro K hK L st u h
  replace h := gz_popi_inv h
  obtain ⟨x, r, rfl, h⟩ := h
  replace h := gz_nil_inv h
  obtain ⟨rfl, h⟩ := h
  intro H locs ls hl hg
  exact hr u x h H locs ls hg
theorem gz_o_zret (hr : ∀ (u : S) (x : Int32), narrow .boolean (.int x) = .int x → Kr (some x) u → ∀ (H : Heap) (locs : List Loc) (ls : Array Slot), G u H locs → W p l e R s m args below meth c H locs cells slots Q (F0 m pc ls [.int x])) : gz_ok (gz_Z p l e R s m args below meth c cells slots Q nL a G) Kr pc gz_zret := by
  intro K hK L st u h
  replace h := gz_popi_inv h
  obtain ⟨x, r, rfl, h⟩ := h
  replace h := gz_nil_inv h
  obtain ⟨rfl, hn, h⟩ := h
  intro H locs ls hl hg
  exact hr u x hn h H locs ls hg
theorem gz_o_vret (hr : ∀ (u : S), Kr none u → ∀ (H : Heap) (locs : List Loc) (ls : Array Slot), G u H locs → W p l e R s m args below meth c H locs cells slots Q (F0 m pc ls [])) : gz_ok (gz_Z p l e R s m args below meth c cells slots Q nL a G) Kr pc gz_vret := by
  intro K hK L st u h
  replace h := gz_nil_inv h
  obtain ⟨rfl, h⟩ := h
  intro H locs ls hl hg
  exact hr u h H locs ls hg
end GZO
end
section
/-! OWN ENGINE, third part: what the heap's rows and the calls give where G is a world; contracts out of a table's run -/
/-- fewer places of a list, by their places in it -/
def gz_pick (L : gz_L) (ks : List Nat) : gz_L := ks.filterMap (fun k => L[k]?)
/-- what a table does from its entry: of every predicate that is closed under runs of the table, and that may forget places -/
def gz_shut {S : Type} (tb : List (Nat × gz_T S)) (Kr : Option Int32 → S → Prop) (Z : gz_K S) : Prop :=
  (∀ (stops : List Nat) (n pc : Nat) (L : gz_L) (st : List gz_V) (u : S), gz_one tb (gz_run tb stops Z Kr n) Kr pc L st u → Z pc L st u) ∧ ∀ (ks : List Nat) (pc : Nat) (L : gz_L) (st : List gz_V) (u : S), Z pc (gz_pick L ks) st u → Z pc L st u
def gz_does {S : Type} (tb : List (Nat × gz_T S)) (Kr : Option Int32 → S → Prop) (L0 : gz_L) (u : S) : Prop := ∀ Z : gz_K S, gz_shut tb Kr Z → Z 0 L0 [] u
theorem gz_shut_Z {S : Type} {p : Program} {l : Launch} {e : Env} {R : Room} {s : State} {m : MethodId} {args : Array Value} {below : List Frame} {meth : Method} {c : Code} {cells slots : Nat} {Q : State → Prop} {nL : Nat} {a : Nat → Nat} {G : S → Heap → List Loc → Prop} {Kr : Option Int32 → S → Prop} {tb : List (Nat × gz_T S)} (ho : gz_oks (gz_Z p l e R s m args below meth c cells slots Q nL a G) Kr tb) : gz_shut tb Kr (gz_Z p l e R s m args below meth c cells slots Q nL a G) := by
  refine ⟨fun stops n pc L st u h => gz_go ho stops n h, fun ks pc L st u h => ?_⟩
  intro H locs ls hl hg
  refine h H locs ls ⟨hl.1, hl.2.1, fun q hq => ?_⟩ hg
  obtain ⟨w, hw, rfl⟩ := List.mem_map.mp hq
  obtain ⟨k, -, hk⟩ := List.mem_filterMap.mp hw
  exact hl.2.2 _ (List.mem_map.mpr ⟨w, List.mem_of_getElem? hk, rfl⟩)
section GZR
variable {S : Type} {p : Program} {l : Launch} {e : Env} {R : Room} {s : State} {m : MethodId} {args : Array Value} {below : List Frame} {meth : Method} {c : Code} {cells slots : Nat} {Q : State → Prop} {cc : ByteArray} {nL : Nat} {a : Nat → Nat} {Kr : Option Int32 → S → Prop} {pc : Nat}
variable {D : va_G} {cl : List vw_C} {tys : List (ClassId × FieldType)} {A : Nat → Prop} {wf : S → va_W} {as : List Nat} {u z : S} {own ref C host : String} {T : u_T} {N ci index i : Nat} {Ts : List Cond} {fs : List Value} {v : gz_V}
abbrev gz_GG (D : va_G) (cl : List vw_C) (tys : List (ClassId × FieldType)) (A : Nat → Prop) (s : State) {S : Type} (wf : S → va_W) : S → Heap → List Loc → Prop := fun u H locs => gz_G D cl tys A s (wf u) H locs
theorem gz_m_get (hx : p.tables.exec = Jvm.exec) (hb : c.code = cc) (hts : ∀ w ∈ Ts, w.before args s = true) (hin : ∀ w ∈ u_ws C T N, w ∈ Ts) (hown : s.vm.findClass own = some m.cls) (q0 : Nat) (he : (wf u)[q0]? = some (a i, .inr (ci, fs))) (hc : cl[ci]? = some (C, T, N)) (k : Nat) (hk : k < N) (hlink : (Cond.fieldLink own index ref (T k).2.1 (T k).2.2.1).before args s = true) (hsame : ∀ x, s.fieldFound? (T k).1 (T k).2.1 (T k).2.2.1 = some x → s.fieldFound? ref (T k).2.1 (T k).2.2.1 = some x) (hv : fs[k]? = some (gz_cv a v)) (hdg : decode cc pc = .ok (.getfield index, 3)) :
    gz_mv p l e R s m args below meth c cells slots Q nL a (gz_GG D cl tys A s wf) (pc + 3) pc [gz_r i] u [v] u := by
  intro H locs ls rest hg kk
  exact va_get hx hb hts hin hown hg.1 hg.2.1 q0 he hc k hk hlink hsame hv hdg (kk H locs hg)
theorem gz_m_getN (hx : p.tables.exec = Jvm.exec) (hb : c.code = cc) (hts : ∀ w ∈ Ts, w.before args s = true) (hin : ∀ w ∈ u_ws C T N, w ∈ Ts) (hown : s.vm.findClass own = some m.cls) (q0 : Nat) (he : (wf u)[q0]? = some (a i, .inr (ci, fs))) (hc : cl[ci]? = some (C, T, N)) (k : Nat) (hk : k < N) (hlink : (Cond.fieldLinkNest own index ref (T k).2.1 (T k).2.2.1 host).before args s = true) (hsame : ∀ x, s.fieldFound? (T k).1 (T k).2.1 (T k).2.2.1 = some x → s.fieldFound? ref (T k).2.1 (T k).2.2.1 = some x) (hv : fs[k]? = some (gz_cv a v)) (hdg : decode cc pc = .ok (.getfield index, 3)) :
    gz_mv p l e R s m args below meth c cells slots Q nL a (gz_GG D cl tys A s wf) (pc + 3) pc [gz_r i] u [v] u := by
  intro H locs ls rest hg kk
  exact va_getN hx hb hts hin hown hg.1 hg.2.1 q0 he hc k hk hlink hsame hv hdg (kk H locs hg)
theorem gz_m_put (hx : p.tables.exec = Jvm.exec) (hb : c.code = cc) (hts : ∀ w ∈ Ts, w.before args s = true) (hin : ∀ w ∈ u_ws C T N, w ∈ Ts) (ty0 : Nat → FieldType) (hty : ∀ k, k < N → parseFieldDescriptor (T k).2.2.1 = some (ty0 k)) (hnm : ∀ a, a < N → ∀ b, b < N → a ≠ b → (T a).2.1 ≠ (T b).2.1) (hown : s.vm.findClass own = some m.cls) (q0 : Nat) (he : (wf u)[q0]? = some (a i, .inr (ci, fs))) (hc : cl[ci]? = some (C, T, N)) (k : Nat) (hk : k < N) (hlink : (Cond.fieldLink own index ref (T k).2.1 (T k).2.2.1).before args s = true) (hsame : ∀ x, s.fieldFound? (T k).1 (T k).2.1 (T k).2.2.1 = some x → s.fieldFound? ref (T k).2.1 (T k).2.2.1 = some x) (hfin : (T k).2.2.2 = false) {ty : FieldType} (hd : parseFieldDescriptor (T k).2.2.1 = some ty) (hn : narrow ty (gz_cv a v) = gz_cv a v) (hfit : fits ty (gz_cv a v) = true) (hl : k < fs.length) (hset : (wf u).set q0 (a i, .inr (ci, fs.set k (gz_cv a v))) = wf z) (hdg : decode cc pc = .ok (.putfield index, 3)) :
    gz_mv p l e R s m args below meth c cells slots Q nL a (gz_GG D cl tys A s wf) (pc + 3) pc [v, gz_r i] u [] z := by
  intro H locs ls rest hg kk
  exact va_put hx hb hts hin ty0 hty hnm hown hg.1 hg.2.1 hg.2.2.1 hg.2.2.2 q0 he hc k hk hlink hsame hfin hd hn hfit hl hdg (fun H1 locs1 hP hD hS => kk H1 locs1 ⟨hg.1, by rw [← hset]; exact hP, by rw [← hset]; exact hD, hS⟩)
theorem gz_m_putN (hx : p.tables.exec = Jvm.exec) (hb : c.code = cc) (hts : ∀ w ∈ Ts, w.before args s = true) (hin : ∀ w ∈ u_ws C T N, w ∈ Ts) (ty0 : Nat → FieldType) (hty : ∀ k, k < N → parseFieldDescriptor (T k).2.2.1 = some (ty0 k)) (hnm : ∀ a, a < N → ∀ b, b < N → a ≠ b → (T a).2.1 ≠ (T b).2.1) (hown : s.vm.findClass own = some m.cls) (q0 : Nat) (he : (wf u)[q0]? = some (a i, .inr (ci, fs))) (hc : cl[ci]? = some (C, T, N)) (k : Nat) (hk : k < N) (hlink : (Cond.fieldLinkNest own index ref (T k).2.1 (T k).2.2.1 host).before args s = true) (hsame : ∀ x, s.fieldFound? (T k).1 (T k).2.1 (T k).2.2.1 = some x → s.fieldFound? ref (T k).2.1 (T k).2.2.1 = some x) (hfin : (T k).2.2.2 = false) {ty : FieldType} (hd : parseFieldDescriptor (T k).2.2.1 = some ty) (hn : narrow ty (gz_cv a v) = gz_cv a v) (hfit : fits ty (gz_cv a v) = true) (hl : k < fs.length) (hset : (wf u).set q0 (a i, .inr (ci, fs.set k (gz_cv a v))) = wf z) (hdg : decode cc pc = .ok (.putfield index, 3)) :
    gz_mv p l e R s m args below meth c cells slots Q nL a (gz_GG D cl tys A s wf) (pc + 3) pc [v, gz_r i] u [] z := by
  intro H locs ls rest hg kk
  exact va_putN hx hb hts hin ty0 hty hnm hown hg.1 hg.2.1 hg.2.2.1 hg.2.2.2 q0 he hc k hk hlink hsame hfin hd hn hfit hl hdg (fun H1 locs1 hP hD hS => kk H1 locs1 ⟨hg.1, by rw [← hset]; exact hP, by rw [← hset]; exact hD, hS⟩)
theorem gz_m_ild (hx : p.tables.exec = Jvm.exec) (hb : c.code = cc) (q0 t0 : Nat) {cA : ClassId} {n : Nat} {f : Nat → Int32} (ha : (wf u)[q0]? = some (a i, .inl (cA, n, .inl f))) (ht : tys[t0]? = some (cA, .int)) (hdg : decode cc pc = .ok (.iaload, 1)) {x : Int32} (hin : vp_in x n) :
    gz_mv p l e R s m args below meth c cells slots Q nL a (gz_GG D cl tys A s wf) (pc + 1) pc [gz_i x, gz_r i] u [gz_i (f x.toNatClampNeg)] u := by
  intro H locs ls rest hg kk
  exact va_iald hx hb hg.1 hg.2.1 q0 t0 ha ht hin hdg (kk H locs hg)
theorem gz_m_zld (hx : p.tables.exec = Jvm.exec) (hb : c.code = cc) (q0 t0 : Nat) {cA : ClassId} {n : Nat} {f : Nat → Int32} (ha : (wf u)[q0]? = some (a i, .inl (cA, n, .inl f))) (ht : tys[t0]? = some (cA, .boolean)) (hdg : decode cc pc = .ok (.baload, 1)) {x : Int32} (hin : vp_in x n) :
    gz_mv p l e R s m args below meth c cells slots Q nL a (gz_GG D cl tys A s wf) (pc + 1) pc [gz_i x, gz_r i] u [gz_i (f x.toNatClampNeg)] u := by
  intro H locs ls rest hg kk
  exact va_zald hx hb hg.1 hg.2.1 q0 t0 ha ht hin hdg (kk H locs hg)
theorem gz_m_lld (hx : p.tables.exec = Jvm.exec) (hb : c.code = cc) (q0 t0 : Nat) {cA : ClassId} {n : Nat} {f : Nat → Int64} (ha : (wf u)[q0]? = some (a i, .inl (cA, n, .inr (.inl f)))) (ht : tys[t0]? = some (cA, .long)) (hdg : decode cc pc = .ok (.laload, 1)) {x : Int32} (hin : vp_in x n) :
    gz_mv p l e R s m args below meth c cells slots Q nL a (gz_GG D cl tys A s wf) (pc + 1) pc [gz_i x, gz_r i] u [gz_l (f x.toNatClampNeg)] u := by
  intro H locs ls rest hg kk
  exact va_lald hx hb hg.1 hg.2.1 q0 t0 ha ht hin hdg (kk H locs hg)
theorem gz_m_ist (hx : p.tables.exec = Jvm.exec) (hb : c.code = cc) (q0 t0 : Nat) {cA : ClassId} {n : Nat} {f : Nat → Int32} (ha : (wf u)[q0]? = some (a i, .inl (cA, n, .inl f))) (ht : tys[t0]? = some (cA, .int)) (hdg : decode cc pc = .ok (.iastore, 1)) {x y : Int32} (hin : vp_in x n) (hset : (wf u).set q0 (a i, .inl (cA, n, .inl (upd f x.toNatClampNeg y))) = wf z) :
    gz_mv p l e R s m args below meth c cells slots Q nL a (gz_GG D cl tys A s wf) (pc + 1) pc [gz_i y, gz_i x, gz_r i] u [] z := by
  intro H locs ls rest hg kk
  exact va_iast hx hb hg.1 hg.2.1 hg.2.2.1 hg.2.2.2 q0 t0 ha ht hin hdg (fun H1 locs1 hP hD hS => kk H1 locs1 ⟨hg.1, by rw [← hset]; exact hP, by rw [← hset]; exact hD, hS⟩)
theorem gz_m_zst (hx : p.tables.exec = Jvm.exec) (hb : c.code = cc) (q0 t0 : Nat) {cA : ClassId} {n : Nat} {f : Nat → Int32} (ha : (wf u)[q0]? = some (a i, .inl (cA, n, .inl f))) (ht : tys[t0]? = some (cA, .boolean)) (hdg : decode cc pc = .ok (.bastore, 1)) {x y : Int32} (hin : vp_in x n) (hset : (wf u).set q0 (a i, .inl (cA, n, .inl (upd f x.toNatClampNeg (vp_nar .boolean y)))) = wf z) :
    gz_mv p l e R s m args below meth c cells slots Q nL a (gz_GG D cl tys A s wf) (pc + 1) pc [gz_i y, gz_i x, gz_r i] u [] z := by
  intro H locs ls rest hg kk
  exact va_zast hx hb hg.1 hg.2.1 hg.2.2.1 hg.2.2.2 q0 t0 ha ht hin hdg (fun H1 locs1 hP hD hS => kk H1 locs1 ⟨hg.1, by rw [← hset]; exact hP, by rw [← hset]; exact hD, hS⟩)
theorem gz_m_lst (hx : p.tables.exec = Jvm.exec) (hb : c.code = cc) (q0 t0 : Nat) {cA : ClassId} {n : Nat} {f : Nat → Int64} (ha : (wf u)[q0]? = some (a i, .inl (cA, n, .inr (.inl f)))) (ht : tys[t0]? = some (cA, .long)) (hdg : decode cc pc = .ok (.lastore, 1)) {x : Int32} {y : Int64} (hin : vp_in x n) (hset : (wf u).set q0 (a i, .inl (cA, n, .inr (.inl (vp_updL f x.toNatClampNeg y)))) = wf z) :
    gz_mv p l e R s m args below meth c cells slots Q nL a (gz_GG D cl tys A s wf) (pc + 1) pc [gz_l y, gz_i x, gz_r i] u [] z := by
  intro H locs ls rest hg kk
  exact va_last hx hb hg.1 hg.2.1 hg.2.2.1 hg.2.2.2 q0 t0 ha ht hin hdg (fun H1 locs1 hP hD hS => kk H1 locs1 ⟨hg.1, by rw [← hset]; exact hP, by rw [← hset]; exact hD, hS⟩)
/-- calls: what the machine's run of a callee gives -/
theorem gz_cbI {av : List gz_V} {ar : Array Value} {r0 : Int32} {z0 : S} (has : ∀ z : S, (wf z).map (fun q => q.1) = as) (hA : ∀ q, s.heap.size ≤ q → A q)
    (hr : ∀ (H : Heap) (locs : List Loc) (ls : Array Slot) (rest : List gz_V), gz_dep rest ≤ 8 → ls.size = nL → gz_G D cl tys A s (wf u) H locs → va_Run p l e R s m args below meth c H locs cells slots 0 0 (F0 m pc ls (gz_cs a (av ++ rest))) (gz_cs a rest) (va_Qi (fun r z => some r = some r0 ∧ z = z0) (gz_B D cl tys wf (gz_A as H.size)) (gz_A as H.size) ar) (gz_A as H.size)) :
    gz_cb p l e R s m args below meth c cells slots Q nL a (gz_GG D cl tys A s wf) (pc + 3) pc av u [gz_i r0] z0 := by
  intro H locs ls rest hd hs hg kk
  refine gz_goi has hg hA (hr H locs ls rest hd hs hg) (fun r z H1 locs1 hp hG => ?_)
  obtain ⟨h1, h2⟩ := hp
  cases h1
  subst h2
  exact kk H1 locs1 hG
theorem gz_cbV {av : List gz_V} {ar : Array Value} {z0 : S} (has : ∀ z : S, (wf z).map (fun q => q.1) = as) (hA : ∀ q, s.heap.size ≤ q → A q)
    (hr : ∀ (H : Heap) (locs : List Loc) (ls : Array Slot) (rest : List gz_V), gz_dep rest ≤ 8 → ls.size = nL → gz_G D cl tys A s (wf u) H locs → va_Run p l e R s m args below meth c H locs cells slots 0 0 (F0 m pc ls (gz_cs a (av ++ rest))) (gz_cs a rest) (va_Qv (fun z => (none : Option Int32) = none ∧ z = z0) (gz_B D cl tys wf (gz_A as H.size)) (gz_A as H.size) ar) (gz_A as H.size)) :
    gz_cb p l e R s m args below meth c cells slots Q nL a (gz_GG D cl tys A s wf) (pc + 3) pc av u [] z0 := by
  intro H locs ls rest hd hs hg kk
  refine gz_gov has hg hA (hr H locs ls rest hd hs hg) (fun z H1 locs1 hp hG => ?_)
  obtain ⟨-, h2⟩ := hp
  subst h2
  exact kk H1 locs1 hG
theorem gz_mon {rest : List gz_V} {ls : Array Slot} {st : List Value} (h : gz_dep rest ≤ 8) : 2 * (F0 m pc ls st).monitorRoom + ((gz_cs a rest).map fun v => v.category).sum ≤ 8 := by
  show 2 * 0 + _ ≤ 8
  rw [gz_dep_cs]
  omega
/-- a callee's contract by cells: av in the order of the arguments -/
def gz_MI (l : Launch) (y : MethodName) (ws : List Cond) (rm : Room) (D : va_G) (cl : List vw_C) (tys : List (ClassId × FieldType)) {S : Type} (wf : S → va_W) (as : List Nat) (a : Nat → Nat) (av : List gz_V) (u : S) (r0 : Int32) (z0 : S) : Prop := gz_Ci l y ws rm D cl tys wf as (gz_cs a av) u (fun r z => some r = some r0 ∧ z = z0)
def gz_MV (l : Launch) (y : MethodName) (ws : List Cond) (rm : Room) (D : va_G) (cl : List vw_C) (tys : List (ClassId × FieldType)) {S : Type} (wf : S → va_W) (as : List Nat) (a : Nat → Nat) (av : List gz_V) (u : S) (z0 : S) : Prop := gz_Cv l y ws rm D cl tys wf as (gz_cs a av) u (fun z => (none : Option Int32) = none ∧ z = z0)
theorem gz_stk {i : Nat} {bs rest : List gz_V} : gz_cs a ((bs.reverse ++ [gz_r i]) ++ rest) = (gz_cs a bs).reverse ++ Value.ref (a i) :: gz_cs a rest := by
  simp [gz_cs, gz_cv, List.map_append, List.map_reverse]
theorem gz_stkS {bs rest : List gz_V} : gz_cs a (bs.reverse ++ rest) = (gz_cs a bs).reverse ++ gz_cs a rest := by
  simp [gz_cs, List.map_append, List.map_reverse]
section GZC
variable {y : MethodName} {bytes : ByteArray} {maxL n : Nat} {ret : Option FieldType} {ws : List Cond} {rm : Room} {Qc : Nat → Array Value → State → Outcome → State → Prop} {bs : List gz_V}
theorem gz_runV (hN : gz_N s) (F : CallFix p m c cc nL s args Ts own) (hM : ∀ sz : Nat, Met l y ws rm (va_Pc (gz_cs a (gz_r i :: bs)) (gz_P D cl tys (wf u) sz)) (Qc sz) 0 0 (gz_A as sz)) (cw : CallW R s args own C index y bytes maxL ret ws rm 0 0 n) (hc : cl[ci]? = some (C, T, N)) (q0 : Nat) (he : (wf u)[q0]? = some (a i, .inr (ci, fs))) (hn : bs.length = n) (hdg : decode cc pc = .ok (.invokevirtual index, 3)) (hf : cells ≤ R.cells ∧ slots ≤ R.slots) :
    ∀ (H : Heap) (locs : List Loc) (ls : Array Slot) (rest : List gz_V), gz_dep rest ≤ 8 → ls.size = nL → gz_G D cl tys A s (wf u) H locs → va_Run p l e R s m args below meth c H locs cells slots 0 0 (F0 m pc ls (gz_cs a ((bs.reverse ++ [gz_r i]) ++ rest))) (gz_cs a rest) (Qc H.size (gz_cs a (gz_r i :: bs)).toArray) (gz_A as H.size) := by
  intro H locs ls rest hd hs hg
  exact va_runV (As := gz_cs a bs) (rest := gz_cs a rest) (b := a i) F (hM H.size) cw ⟨(gz_pre gz_nw_ok hN hg).1, va_recv hg.1 hg.2.1 hc he, (gz_pre gz_nw_ok hN hg).2⟩ rfl (by rw [← hn]; exact List.length_map ..) hs gz_stk (gz_mon hd) hdg hf
theorem gz_runN (hN : gz_N s) (F : CallFix p m c cc nL s args Ts own) (hM : ∀ sz : Nat, Met l y ws rm (va_Pc (gz_cs a (gz_r i :: bs)) (gz_P D cl tys (wf u) sz)) (Qc sz) 0 0 (gz_A as sz)) (cw : va_CN R s args own index y host bytes maxL ret ws rm 0 0 n ∧ (Cond.instanceMethod y).before args s = true ∧ (Cond.selects C y y).before args s = true) (hc : cl[ci]? = some (C, T, N)) (q0 : Nat) (he : (wf u)[q0]? = some (a i, .inr (ci, fs))) (hn : bs.length = n) (hdg : decode cc pc = .ok (.invokevirtual index, 3)) (hf : cells ≤ R.cells ∧ slots ≤ R.slots) :
    ∀ (H : Heap) (locs : List Loc) (ls : Array Slot) (rest : List gz_V), gz_dep rest ≤ 8 → ls.size = nL → gz_G D cl tys A s (wf u) H locs → va_Run p l e R s m args below meth c H locs cells slots 0 0 (F0 m pc ls (gz_cs a ((bs.reverse ++ [gz_r i]) ++ rest))) (gz_cs a rest) (Qc H.size (gz_cs a (gz_r i :: bs)).toArray) (gz_A as H.size) := by
  intro H locs ls rest hd hs hg
  exact va_runVN (As := gz_cs a bs) (rest := gz_cs a rest) (b := a i) F (hM H.size) cw ⟨(gz_pre gz_nw_ok hN hg).1, va_recv hg.1 hg.2.1 hc he, (gz_pre gz_nw_ok hN hg).2⟩ rfl (by rw [← hn]; exact List.length_map ..) hs gz_stk (gz_mon hd) hdg hf
theorem gz_runS (hN : gz_N s) (F : CallFix p m c cc nL s args Ts own) (hM : ∀ sz : Nat, Met l y ws rm (va_Pc (gz_cs a bs) (gz_P D cl tys (wf u) sz)) (Qc sz) 0 0 (gz_A as sz)) (cw : CallB R s args own index y bytes maxL ret ws rm 0 0 n ∧ (Cond.static y).before args s = true) (hn : bs.length = n) (hdg : decode cc pc = .ok (.invokestatic index, 3)) (hf : cells ≤ R.cells ∧ slots ≤ R.slots) :
    ∀ (H : Heap) (locs : List Loc) (ls : Array Slot) (rest : List gz_V), gz_dep rest ≤ 8 → ls.size = nL → gz_G D cl tys A s (wf u) H locs → va_Run p l e R s m args below meth c H locs cells slots 0 0 (F0 m pc ls (gz_cs a (bs.reverse ++ rest))) (gz_cs a rest) (Qc H.size (gz_cs a bs).toArray) (gz_A as H.size) := by
  intro H locs ls rest hd hs hg
  exact va_runS (As := gz_cs a bs) (rest := gz_cs a rest) F (hM H.size) cw (gz_pre gz_nw_ok hN hg) rfl (by rw [← hn]; exact List.length_map ..) hs gz_stkS (gz_mon hd) hdg hf
theorem gz_runSN (hN : gz_N s) (F : CallFix p m c cc nL s args Ts own) (hM : ∀ sz : Nat, Met l y ws rm (va_Pc (gz_cs a bs) (gz_P D cl tys (wf u) sz)) (Qc sz) 0 0 (gz_A as sz)) (cw : va_CN R s args own index y host bytes maxL ret ws rm 0 0 n ∧ (Cond.static y).before args s = true ∧ True) (hn : bs.length = n) (hdg : decode cc pc = .ok (.invokestatic index, 3)) (hf : cells ≤ R.cells ∧ slots ≤ R.slots) :
    ∀ (H : Heap) (locs : List Loc) (ls : Array Slot) (rest : List gz_V), gz_dep rest ≤ 8 → ls.size = nL → gz_G D cl tys A s (wf u) H locs → va_Run p l e R s m args below meth c H locs cells slots 0 0 (F0 m pc ls (gz_cs a (bs.reverse ++ rest))) (gz_cs a rest) (Qc H.size (gz_cs a bs).toArray) (gz_A as H.size) := by
  intro H locs ls rest hd hs hg
  exact va_runSN (As := gz_cs a bs) (rest := gz_cs a rest) F (hM H.size) cw (gz_pre gz_nw_ok hN hg) rfl (by rw [← hn]; exact List.length_map ..) hs gz_stkS (gz_mon hd) hdg hf
/-- the ends of a method whose world is all that it may change -/
theorem gz_e_i {post : Option Int32 → S → Prop} {args : Array Value} {own : String} {maxL : Nat} (F : gz_F p s m args meth c cc maxL (some .int) ws own) (hdg : decode cc pc = .ok (.ireturn, 1)) : ∀ (u : S) (x : Int32), post (some x) u → ∀ (H : Heap) (locs : List Loc) (ls : Array Slot), gz_GG D cl tys (gz_A as s.heap.size) s wf u H locs → W p l e R s m args below meth c H locs 0 0 (MQ below (va_Qi (fun r z => post (some r) z) (gz_B D cl tys wf (gz_A as s.heap.size)) (gz_A as s.heap.size)) args s 0 0 (gz_A as s.heap.size)) (F0 m pc ls [.int x]) := by
  intro u x hp H locs ls hg
  exact gz_ri F hg hdg hp
theorem gz_e_z {post : Option Int32 → S → Prop} {args : Array Value} {own : String} {maxL : Nat} (F : gz_F p s m args meth c cc maxL (some .boolean) ws own) (hdg : decode cc pc = .ok (.ireturn, 1)) : ∀ (u : S) (x : Int32), narrow .boolean (.int x) = .int x → post (some x) u → ∀ (H : Heap) (locs : List Loc) (ls : Array Slot), gz_GG D cl tys (gz_A as s.heap.size) s wf u H locs → W p l e R s m args below meth c H locs 0 0 (MQ below (va_Qi (fun r z => post (some r) z) (gz_B D cl tys wf (gz_A as s.heap.size)) (gz_A as s.heap.size)) args s 0 0 (gz_A as s.heap.size)) (F0 m pc ls [.int x]) := by
  intro u x hn hp H locs ls hg
  exact gz_rz F hg hdg hn hp
theorem gz_e_v {post : Option Int32 → S → Prop} {args : Array Value} {own : String} {maxL : Nat} (F : gz_F p s m args meth c cc maxL none ws own) (hdg : decode cc pc = .ok (.return_, 1)) : ∀ (u : S), post none u → ∀ (H : Heap) (locs : List Loc) (ls : Array Slot), gz_GG D cl tys (gz_A as s.heap.size) s wf u H locs → W p l e R s m args below meth c H locs 0 0 (MQ below (va_Qv (fun z => post none z) (gz_B D cl tys wf (gz_A as s.heap.size)) (gz_A as s.heap.size)) args s 0 0 (gz_A as s.heap.size)) (F0 m pc ls []) := by
  intro u hp H locs ls hg
  exact gz_rv F hg hdg hp
/-- a contract out of a table's run -/
theorem gz_metI {ws' : List Cond} {av : List gz_V} {L0 : gz_L} {tb : List (Nat × gz_T S)} {r0 : Int32} {z0 : S} (hy : plainName y.cls = true) (hw : ws = Cond.code y cc maxL ret :: ws') (has : ∀ z : S, (wf z).map (fun q => q.1) = as) (hn : (lg_sl (gz_cs a av)).length ≤ maxL) (hL : lv_args 0 (gz_cs a av) = gz_cl a L0) (hd : gz_does tb (fun r z => r = some r0 ∧ z = z0) L0 u)
    (ho : ∀ (p : Program) (e : Env) (s : State) (m : MethodId) (below : List Frame) (meth : Method) (c : Code), gz_F p s m (gz_cs a av).toArray meth c cc maxL ret ws y.cls → gz_oks (gz_Z p l e rm s m (gz_cs a av).toArray below meth c 0 0 (MQ below (va_Qi (fun r z => some r = some r0 ∧ z = z0) (gz_B D cl tys wf (gz_A as s.heap.size)) (gz_A as s.heap.size)) (gz_cs a av).toArray s 0 0 (gz_A as s.heap.size)) maxL a (gz_GG D cl tys (gz_A as s.heap.size) s wf)) (fun r z => r = some r0 ∧ z = z0) tb) :
    gz_MI l y ws rm D cl tys wf as a av u r0 z0 :=
  gz_enter hy hw (has u) hn (fun p e s m below meth c ls F G hl => hd _ (gz_shut_Z (ho p e s m below meth c F)) s.heap [] ls (by rw [← hL]; exact hl) G)
theorem gz_metV {ws' : List Cond} {av : List gz_V} {L0 : gz_L} {tb : List (Nat × gz_T S)} {z0 : S} (hy : plainName y.cls = true) (hw : ws = Cond.code y cc maxL ret :: ws') (has : ∀ z : S, (wf z).map (fun q => q.1) = as) (hn : (lg_sl (gz_cs a av)).length ≤ maxL) (hL : lv_args 0 (gz_cs a av) = gz_cl a L0) (hd : gz_does tb (fun r z => r = none ∧ z = z0) L0 u)
    (ho : ∀ (p : Program) (e : Env) (s : State) (m : MethodId) (below : List Frame) (meth : Method) (c : Code), gz_F p s m (gz_cs a av).toArray meth c cc maxL ret ws y.cls → gz_oks (gz_Z p l e rm s m (gz_cs a av).toArray below meth c 0 0 (MQ below (va_Qv (fun z => (none : Option Int32) = none ∧ z = z0) (gz_B D cl tys wf (gz_A as s.heap.size)) (gz_A as s.heap.size)) (gz_cs a av).toArray s 0 0 (gz_A as s.heap.size)) maxL a (gz_GG D cl tys (gz_A as s.heap.size) s wf)) (fun r z => r = none ∧ z = z0) tb) :
    gz_MV l y ws rm D cl tys wf as a av u z0 :=
  gz_enterV hy hw (has u) hn (fun p e s m below meth c ls F G hl => hd _ (gz_shut_Z (ho p e s m below meth c F)) s.heap [] ls (by rw [← hL]; exact hl) G)
end GZC
end GZR
end
