section
-- ===== PART A: goes FIRST, ahead of the names: the tables' words, and 'selects' of the private methods out of them =====
/-- a private method of a class that the tables say can be made, by its rows of tables_1 -/
def lw_okq (q : MethodName × Nat) : Prop := (q.1.cls ≠ "java/lang/invoke/MethodHandle" ∧ q.1.cls ≠ "java/lang/invoke/VarHandle") ∧ Cond.instantiable q.1.cls q.2 ∈ tables_1 ∧ Cond.privateMethod q.1 ∈ tables_1 ∧ Cond.instanceMethod q.1 ∈ tables_1
theorem lw_p0 : lw_okq (⟨"HoldQueue", "isRecord", "(I)Z"⟩, 8) := ⟨⟨by decide +kernel, by decide +kernel⟩, List.mem_of_getElem? (i := 7) (by decide +kernel), List.mem_of_getElem? (i := 124) (by decide +kernel), List.mem_of_getElem? (i := 125) (by decide +kernel)⟩
theorem lw_p1 : lw_okq (⟨"HoldQueue$Copies", "areFull", "()Z"⟩, 5) := ⟨⟨by decide +kernel, by decide +kernel⟩, List.mem_of_getElem? (i := 15) (by decide +kernel), List.mem_of_getElem? (i := 131) (by decide +kernel), List.mem_of_getElem? (i := 132) (by decide +kernel)⟩
theorem lw_p2 : lw_okq (⟨"HoldQueue$Copies", "add", "(II)I"⟩, 5) := ⟨⟨by decide +kernel, by decide +kernel⟩, List.mem_of_getElem? (i := 15) (by decide +kernel), List.mem_of_getElem? (i := 135) (by decide +kernel), List.mem_of_getElem? (i := 136) (by decide +kernel)⟩
theorem lw_p3 : lw_okq (⟨"HoldQueue$Holds", "hasOpen", "(II)Z"⟩, 9) := ⟨⟨by decide +kernel, by decide +kernel⟩, List.mem_of_getElem? (i := 43) (by decide +kernel), List.mem_of_getElem? (i := 150) (by decide +kernel), List.mem_of_getElem? (i := 151) (by decide +kernel)⟩
theorem lw_p4 : lw_okq (⟨"HoldQueue$Holds", "isOpen", "(I)Z"⟩, 9) := ⟨⟨by decide +kernel, by decide +kernel⟩, List.mem_of_getElem? (i := 43) (by decide +kernel), List.mem_of_getElem? (i := 154) (by decide +kernel), List.mem_of_getElem? (i := 155) (by decide +kernel)⟩
theorem lw_p5 : lw_okq (⟨"HoldQueue$Holds", "isIn", "(II)Z"⟩, 9) := ⟨⟨by decide +kernel, by decide +kernel⟩, List.mem_of_getElem? (i := 43) (by decide +kernel), List.mem_of_getElem? (i := 158) (by decide +kernel), List.mem_of_getElem? (i := 159) (by decide +kernel)⟩
theorem lw_p6 : lw_okq (⟨"HoldQueue$Holds", "has", "(I)Z"⟩, 9) := ⟨⟨by decide +kernel, by decide +kernel⟩, List.mem_of_getElem? (i := 43) (by decide +kernel), List.mem_of_getElem? (i := 162) (by decide +kernel), List.mem_of_getElem? (i := 163) (by decide +kernel)⟩
theorem lw_p7 : lw_okq (⟨"HoldQueue$Holds", "areFull", "()Z"⟩, 9) := ⟨⟨by decide +kernel, by decide +kernel⟩, List.mem_of_getElem? (i := 43) (by decide +kernel), List.mem_of_getElem? (i := 166) (by decide +kernel), List.mem_of_getElem? (i := 167) (by decide +kernel)⟩
theorem lw_p8 : lw_okq (⟨"HoldQueue$Holds", "countOpen", "(I)I"⟩, 9) := ⟨⟨by decide +kernel, by decide +kernel⟩, List.mem_of_getElem? (i := 43) (by decide +kernel), List.mem_of_getElem? (i := 170) (by decide +kernel), List.mem_of_getElem? (i := 171) (by decide +kernel)⟩
theorem lw_p9 : lw_okq (⟨"HoldQueue$Holds", "add", "(IIII)I"⟩, 9) := ⟨⟨by decide +kernel, by decide +kernel⟩, List.mem_of_getElem? (i := 43) (by decide +kernel), List.mem_of_getElem? (i := 174) (by decide +kernel), List.mem_of_getElem? (i := 175) (by decide +kernel)⟩
theorem lw_p10 : lw_okq (⟨"HoldQueue$Copies", "leastFree", "(I)I"⟩, 5) := ⟨⟨by decide +kernel, by decide +kernel⟩, List.mem_of_getElem? (i := 15) (by decide +kernel), List.mem_of_getElem? (i := 178) (by decide +kernel), List.mem_of_getElem? (i := 179) (by decide +kernel)⟩
theorem lw_p11 : lw_okq (⟨"HoldQueue", "settle", "(I)I"⟩, 8) := ⟨⟨by decide +kernel, by decide +kernel⟩, List.mem_of_getElem? (i := 7) (by decide +kernel), List.mem_of_getElem? (i := 182) (by decide +kernel), List.mem_of_getElem? (i := 183) (by decide +kernel)⟩
theorem lw_p12 : lw_okq (⟨"HoldQueue$Holds", "firstFitting", "(IJ)I"⟩, 9) := ⟨⟨by decide +kernel, by decide +kernel⟩, List.mem_of_getElem? (i := 43) (by decide +kernel), List.mem_of_getElem? (i := 186) (by decide +kernel), List.mem_of_getElem? (i := 187) (by decide +kernel)⟩
theorem lw_p13 : lw_okq (⟨"HoldQueue$Holds", "isQueued", "(II)Z"⟩, 9) := ⟨⟨by decide +kernel, by decide +kernel⟩, List.mem_of_getElem? (i := 43) (by decide +kernel), List.mem_of_getElem? (i := 190) (by decide +kernel), List.mem_of_getElem? (i := 191) (by decide +kernel)⟩
theorem lw_p14 : lw_okq (⟨"HoldQueue$Holds", "comesBefore", "(II)Z"⟩, 9) := ⟨⟨by decide +kernel, by decide +kernel⟩, List.mem_of_getElem? (i := 43) (by decide +kernel), List.mem_of_getElem? (i := 194) (by decide +kernel), List.mem_of_getElem? (i := 195) (by decide +kernel)⟩
theorem lw_p15 : lw_okq (⟨"HoldQueue", "layReady", "(II)V"⟩, 8) := ⟨⟨by decide +kernel, by decide +kernel⟩, List.mem_of_getElem? (i := 7) (by decide +kernel), List.mem_of_getElem? (i := 198) (by decide +kernel), List.mem_of_getElem? (i := 199) (by decide +kernel)⟩
def lw_privs_1 : List (MethodName × Nat) := [(⟨"HoldQueue", "isRecord", "(I)Z"⟩, 8), (⟨"HoldQueue$Copies", "areFull", "()Z"⟩, 5), (⟨"HoldQueue$Copies", "add", "(II)I"⟩, 5), (⟨"HoldQueue$Holds", "hasOpen", "(II)Z"⟩, 9), (⟨"HoldQueue$Holds", "isOpen", "(I)Z"⟩, 9), (⟨"HoldQueue$Holds", "isIn", "(II)Z"⟩, 9), (⟨"HoldQueue$Holds", "has", "(I)Z"⟩, 9), (⟨"HoldQueue$Holds", "areFull", "()Z"⟩, 9), (⟨"HoldQueue$Holds", "countOpen", "(I)I"⟩, 9), (⟨"HoldQueue$Holds", "add", "(IIII)I"⟩, 9), (⟨"HoldQueue$Copies", "leastFree", "(I)I"⟩, 5), (⟨"HoldQueue", "settle", "(I)I"⟩, 8), (⟨"HoldQueue$Holds", "firstFitting", "(IJ)I"⟩, 9), (⟨"HoldQueue$Holds", "isQueued", "(II)Z"⟩, 9), (⟨"HoldQueue$Holds", "comesBefore", "(II)Z"⟩, 9), (⟨"HoldQueue", "layReady", "(II)V"⟩, 8)]
theorem lw_r1 : ∀ q ∈ lw_privs_1, lw_okq q := List.forall_mem_cons.mpr ⟨lw_p0, List.forall_mem_cons.mpr ⟨lw_p1, List.forall_mem_cons.mpr ⟨lw_p2, List.forall_mem_cons.mpr ⟨lw_p3, List.forall_mem_cons.mpr ⟨lw_p4, List.forall_mem_cons.mpr ⟨lw_p5, List.forall_mem_cons.mpr ⟨lw_p6, List.forall_mem_cons.mpr ⟨lw_p7, List.forall_mem_cons.mpr ⟨lw_p8, List.forall_mem_cons.mpr ⟨lw_p9, List.forall_mem_cons.mpr ⟨lw_p10, List.forall_mem_cons.mpr ⟨lw_p11, List.forall_mem_cons.mpr ⟨lw_p12, List.forall_mem_cons.mpr ⟨lw_p13, List.forall_mem_cons.mpr ⟨lw_p14, List.forall_mem_cons.mpr ⟨lw_p15, fun _ h => absurd h List.not_mem_nil⟩⟩⟩⟩⟩⟩⟩⟩⟩⟩⟩⟩⟩⟩⟩⟩
theorem lw_p16 : lw_okq (⟨"HoldQueue", "send", "(II)V"⟩, 8) := ⟨⟨by decide +kernel, by decide +kernel⟩, List.mem_of_getElem? (i := 7) (by decide +kernel), List.mem_of_getElem? (i := 202) (by decide +kernel), List.mem_of_getElem? (i := 203) (by decide +kernel)⟩
theorem lw_p17 : lw_okq (⟨"HoldQueue$Copies", "isIn", "(II)Z"⟩, 5) := ⟨⟨by decide +kernel, by decide +kernel⟩, List.mem_of_getElem? (i := 15) (by decide +kernel), List.mem_of_getElem? (i := 219) (by decide +kernel), List.mem_of_getElem? (i := 220) (by decide +kernel)⟩
theorem lw_p18 : lw_okq (⟨"HoldQueue$Copies", "has", "(I)Z"⟩, 5) := ⟨⟨by decide +kernel, by decide +kernel⟩, List.mem_of_getElem? (i := 15) (by decide +kernel), List.mem_of_getElem? (i := 223) (by decide +kernel), List.mem_of_getElem? (i := 224) (by decide +kernel)⟩
theorem lw_p19 : lw_okq (⟨"HoldQueue", "untie", "(II)V"⟩, 8) := ⟨⟨by decide +kernel, by decide +kernel⟩, List.mem_of_getElem? (i := 7) (by decide +kernel), List.mem_of_getElem? (i := 231) (by decide +kernel), List.mem_of_getElem? (i := 232) (by decide +kernel)⟩
theorem lw_p20 : lw_okq (⟨"HoldQueue", "letGo", "(I)V"⟩, 8) := ⟨⟨by decide +kernel, by decide +kernel⟩, List.mem_of_getElem? (i := 7) (by decide +kernel), List.mem_of_getElem? (i := 248) (by decide +kernel), List.mem_of_getElem? (i := 249) (by decide +kernel)⟩
theorem lw_p21 : lw_okq (⟨"HoldQueue$Holds", "placeInQueue", "(I)I"⟩, 9) := ⟨⟨by decide +kernel, by decide +kernel⟩, List.mem_of_getElem? (i := 43) (by decide +kernel), List.mem_of_getElem? (i := 265) (by decide +kernel), List.mem_of_getElem? (i := 266) (by decide +kernel)⟩
theorem lw_p22 : lw_okq (⟨"HoldQueue$Holds", "atPlaceInQueue", "(II)I"⟩, 9) := ⟨⟨by decide +kernel, by decide +kernel⟩, List.mem_of_getElem? (i := 43) (by decide +kernel), List.mem_of_getElem? (i := 273) (by decide +kernel), List.mem_of_getElem? (i := 274) (by decide +kernel)⟩
theorem lw_p23 : lw_okq (⟨"HoldQueueModel", "isOpen", "(I)Z"⟩, 21) := ⟨⟨by decide +kernel, by decide +kernel⟩, List.mem_of_getElem? (i := 288) (by decide +kernel), List.mem_of_getElem? (i := 377) (by decide +kernel), List.mem_of_getElem? (i := 378) (by decide +kernel)⟩
theorem lw_p24 : lw_okq (⟨"HoldQueueModel", "goes", "(I)I"⟩, 21) := ⟨⟨by decide +kernel, by decide +kernel⟩, List.mem_of_getElem? (i := 288) (by decide +kernel), List.mem_of_getElem? (i := 382) (by decide +kernel), List.mem_of_getElem? (i := 383) (by decide +kernel)⟩
theorem lw_p25 : lw_okq (⟨"HoldQueueModel", "fits", "(I)I"⟩, 21) := ⟨⟨by decide +kernel, by decide +kernel⟩, List.mem_of_getElem? (i := 288) (by decide +kernel), List.mem_of_getElem? (i := 386) (by decide +kernel), List.mem_of_getElem? (i := 387) (by decide +kernel)⟩
theorem lw_p26 : lw_okq (⟨"HoldQueueModel", "isAhead", "(II)Z"⟩, 21) := ⟨⟨by decide +kernel, by decide +kernel⟩, List.mem_of_getElem? (i := 288) (by decide +kernel), List.mem_of_getElem? (i := 390) (by decide +kernel), List.mem_of_getElem? (i := 391) (by decide +kernel)⟩
theorem lw_p27 : lw_okq (⟨"HoldQueueModel", "lies", "(II)V"⟩, 21) := ⟨⟨by decide +kernel, by decide +kernel⟩, List.mem_of_getElem? (i := 288) (by decide +kernel), List.mem_of_getElem? (i := 394) (by decide +kernel), List.mem_of_getElem? (i := 395) (by decide +kernel)⟩
theorem lw_p28 : lw_okq (⟨"HoldQueueModel", "isWaiting", "(I)Z"⟩, 21) := ⟨⟨by decide +kernel, by decide +kernel⟩, List.mem_of_getElem? (i := 288) (by decide +kernel), List.mem_of_getElem? (i := 406) (by decide +kernel), List.mem_of_getElem? (i := 407) (by decide +kernel)⟩
theorem lw_p29 : lw_okq (⟨"HoldQueueModel", "isHold", "(I)Z"⟩, 21) := ⟨⟨by decide +kernel, by decide +kernel⟩, List.mem_of_getElem? (i := 288) (by decide +kernel), List.mem_of_getElem? (i := 410) (by decide +kernel), List.mem_of_getElem? (i := 411) (by decide +kernel)⟩
theorem lw_p30 : lw_okq (⟨"HoldQueueModel", "isCopy", "(II)Z"⟩, 21) := ⟨⟨by decide +kernel, by decide +kernel⟩, List.mem_of_getElem? (i := 288) (by decide +kernel), List.mem_of_getElem? (i := 418) (by decide +kernel), List.mem_of_getElem? (i := 419) (by decide +kernel)⟩
theorem lw_p31 : lw_okq (⟨"HoldQueueModel", "ends", "(II)V"⟩, 21) := ⟨⟨by decide +kernel, by decide +kernel⟩, List.mem_of_getElem? (i := 288) (by decide +kernel), List.mem_of_getElem? (i := 438) (by decide +kernel), List.mem_of_getElem? (i := 439) (by decide +kernel)⟩
def lw_privs_2 : List (MethodName × Nat) := [(⟨"HoldQueue", "send", "(II)V"⟩, 8), (⟨"HoldQueue$Copies", "isIn", "(II)Z"⟩, 5), (⟨"HoldQueue$Copies", "has", "(I)Z"⟩, 5), (⟨"HoldQueue", "untie", "(II)V"⟩, 8), (⟨"HoldQueue", "letGo", "(I)V"⟩, 8), (⟨"HoldQueue$Holds", "placeInQueue", "(I)I"⟩, 9), (⟨"HoldQueue$Holds", "atPlaceInQueue", "(II)I"⟩, 9), (⟨"HoldQueueModel", "isOpen", "(I)Z"⟩, 21), (⟨"HoldQueueModel", "goes", "(I)I"⟩, 21), (⟨"HoldQueueModel", "fits", "(I)I"⟩, 21), (⟨"HoldQueueModel", "isAhead", "(II)Z"⟩, 21), (⟨"HoldQueueModel", "lies", "(II)V"⟩, 21), (⟨"HoldQueueModel", "isWaiting", "(I)Z"⟩, 21), (⟨"HoldQueueModel", "isHold", "(I)Z"⟩, 21), (⟨"HoldQueueModel", "isCopy", "(II)Z"⟩, 21), (⟨"HoldQueueModel", "ends", "(II)V"⟩, 21)]
theorem lw_r2 : ∀ q ∈ lw_privs_2, lw_okq q := List.forall_mem_cons.mpr ⟨lw_p16, List.forall_mem_cons.mpr ⟨lw_p17, List.forall_mem_cons.mpr ⟨lw_p18, List.forall_mem_cons.mpr ⟨lw_p19, List.forall_mem_cons.mpr ⟨lw_p20, List.forall_mem_cons.mpr ⟨lw_p21, List.forall_mem_cons.mpr ⟨lw_p22, List.forall_mem_cons.mpr ⟨lw_p23, List.forall_mem_cons.mpr ⟨lw_p24, List.forall_mem_cons.mpr ⟨lw_p25, List.forall_mem_cons.mpr ⟨lw_p26, List.forall_mem_cons.mpr ⟨lw_p27, List.forall_mem_cons.mpr ⟨lw_p28, List.forall_mem_cons.mpr ⟨lw_p29, List.forall_mem_cons.mpr ⟨lw_p30, List.forall_mem_cons.mpr ⟨lw_p31, fun _ h => absurd h List.not_mem_nil⟩⟩⟩⟩⟩⟩⟩⟩⟩⟩⟩⟩⟩⟩⟩⟩
theorem lw_p32 : lw_okq (⟨"HoldQueueModel", "placeOf", "(I)I"⟩, 21) := ⟨⟨by decide +kernel, by decide +kernel⟩, List.mem_of_getElem? (i := 288) (by decide +kernel), List.mem_of_getElem? (i := 455) (by decide +kernel), List.mem_of_getElem? (i := 456) (by decide +kernel)⟩
def lw_privs_3 : List (MethodName × Nat) := [(⟨"HoldQueueModel", "placeOf", "(I)I"⟩, 21)]
theorem lw_r3 : ∀ q ∈ lw_privs_3, lw_okq q := List.forall_mem_cons.mpr ⟨lw_p32, fun _ h => absurd h List.not_mem_nil⟩
def lw_privs : List (MethodName × Nat) := lw_privs_1 ++ (lw_privs_2 ++ (lw_privs_3))
def lw_tbl : List Cond := k2_sels lw_privs ++ tables_1
theorem lw_privs_ok : ∀ q ∈ lw_privs, lw_okq q := by
  show ∀ q ∈ lw_privs_1 ++ (lw_privs_2 ++ (lw_privs_3)), lw_okq q
  exact List.forall_mem_append.mpr ⟨lw_r1, List.forall_mem_append.mpr ⟨lw_r2, lw_r3⟩⟩
end
section
/-- the words of nest mates among the tables -/
def gz_nw : List Cond := [(Jvm.Cond.methodLinkNest "HoldQueue" (26 : Nat) ({ cls := "HoldQueue$Copies", name := "<init>", desc := "()V" } : Jvm.MethodName) "HoldQueue"), (Jvm.Cond.fieldLinkNest "HoldQueue" (146 : Nat) "HoldQueue$Copies" "recordOf" "[I" "HoldQueue"), (Jvm.Cond.fieldLinkNest "HoldQueue" (98 : Nat) "HoldQueue$Copies" "placeOf" "[I" "HoldQueue"), (Jvm.Cond.fieldLinkNest "HoldQueue" (117 : Nat) "HoldQueue$Copies" "stateOf" "[I" "HoldQueue"), (Jvm.Cond.fieldLinkNest "HoldQueue" (101 : Nat) "HoldQueue$Copies" "holdOf" "[I" "HoldQueue"), (Jvm.Cond.methodLinkNest "HoldQueue" (33 : Nat) ({ cls := "HoldQueue$Holds", name := "<init>", desc := "()V" } : Jvm.MethodName) "HoldQueue"), (Jvm.Cond.fieldLinkNest "HoldQueue" (127 : Nat) "HoldQueue$Holds" "count" "I" "HoldQueue"), (Jvm.Cond.fieldLinkNest "HoldQueue" (153 : Nat) "HoldQueue$Holds" "placeOf" "[I" "HoldQueue"), (Jvm.Cond.fieldLinkNest "HoldQueue" (133 : Nat) "HoldQueue$Holds" "rankOf" "[I" "HoldQueue"), (Jvm.Cond.fieldLinkNest "HoldQueue" (114 : Nat) "HoldQueue$Holds" "stateOf" "[I" "HoldQueue"), (Jvm.Cond.fieldLinkNest "HoldQueue" (111 : Nat) "HoldQueue$Holds" "copyOf" "[I" "HoldQueue"), (Jvm.Cond.fieldLinkNest "HoldQueue" (93 : Nat) "HoldQueue$Holds" "suspendedUntil" "[J" "HoldQueue"), (Jvm.Cond.fieldLinkNest "HoldQueue" (130 : Nat) "HoldQueue$Holds" "endOf" "[J" "HoldQueue"), (Jvm.Cond.methodLinkNest "HoldQueue" (61 : Nat) ({ cls := "HoldQueue$Copies", name := "areFull", desc := "()Z" } : Jvm.MethodName) "HoldQueue"), (Jvm.Cond.methodLinkNest "HoldQueue" (65 : Nat) ({ cls := "HoldQueue$Copies", name := "add", desc := "(II)I" } : Jvm.MethodName) "HoldQueue"), (Jvm.Cond.methodLinkNest "HoldQueue" (72 : Nat) ({ cls := "HoldQueue$Holds", name := "hasOpen", desc := "(II)Z" } : Jvm.MethodName) "HoldQueue"), (Jvm.Cond.methodLinkNest "HoldQueue" (76 : Nat) ({ cls := "HoldQueue$Holds", name := "areFull", desc := "()Z" } : Jvm.MethodName) "HoldQueue"), (Jvm.Cond.methodLinkNest "HoldQueue" (77 : Nat) ({ cls := "HoldQueue$Holds", name := "countOpen", desc := "(I)I" } : Jvm.MethodName) "HoldQueue"), (Jvm.Cond.methodLinkNest "HoldQueue" (81 : Nat) ({ cls := "HoldQueue$Holds", name := "add", desc := "(IIII)I" } : Jvm.MethodName) "HoldQueue"), (Jvm.Cond.methodLinkNest "HoldQueue" (84 : Nat) ({ cls := "HoldQueue$Copies", name := "leastFree", desc := "(I)I" } : Jvm.MethodName) "HoldQueue"), (Jvm.Cond.methodLinkNest "HoldQueue" (149 : Nat) ({ cls := "HoldQueue$Holds", name := "firstFitting", desc := "(IJ)I" } : Jvm.MethodName) "HoldQueue"), (Jvm.Cond.methodLinkNest "HoldQueue" (90 : Nat) ({ cls := "HoldQueue$Holds", name := "isIn", desc := "(II)Z" } : Jvm.MethodName) "HoldQueue"), (Jvm.Cond.methodLinkNest "HoldQueue" (97 : Nat) ({ cls := "HoldQueue$Copies", name := "isIn", desc := "(II)Z" } : Jvm.MethodName) "HoldQueue"), (Jvm.Cond.methodLinkNest "HoldQueue" (118 : Nat) ({ cls := "HoldQueue$Holds", name := "isOpen", desc := "(I)Z" } : Jvm.MethodName) "HoldQueue"), (Jvm.Cond.methodLinkNest "HoldQueue" (136 : Nat) ({ cls := "HoldQueue$Holds", name := "placeInQueue", desc := "(I)I" } : Jvm.MethodName) "HoldQueue"), (Jvm.Cond.methodLinkNest "HoldQueue" (139 : Nat) ({ cls := "HoldQueue$Holds", name := "atPlaceInQueue", desc := "(II)I" } : Jvm.MethodName) "HoldQueue"), (Jvm.Cond.methodLinkNest "HoldQueue" (142 : Nat) ({ cls := "HoldQueue$Holds", name := "has", desc := "(I)Z" } : Jvm.MethodName) "HoldQueue"), (Jvm.Cond.methodLinkNest "HoldQueue" (145 : Nat) ({ cls := "HoldQueue$Copies", name := "has", desc := "(I)Z" } : Jvm.MethodName) "HoldQueue")]
end
section
/-! OWN GENERIC ROWS: a contract over a world whose addresses are fixed and whose contents are a value u : S; entry, return, call -/
/-- words of nest mates: they are not among a callee's words (they don't keep), so they go with the state; gz_nw: the claim's, from its names -/
def gz_isN : Cond → Bool
  | .fieldLinkNest .. => true
  | .methodLinkNest .. => true
  | _ => false
theorem gz_nw_ok : ∀ w ∈ gz_nw, gz_isN w = true := by decide +kernel
/-- the tables' words that keep -/
def lw_gd : List Cond := lw_tbl.filter goodWord
def gz_N (s : State) : Prop := ∀ w ∈ gz_nw, va_Nw w s
theorem gz_isN_on {w : Cond} (h : gz_isN w = true) : w.onTables = true := by
  cases w <;> first | rfl | (exact absurd h (by simp [gz_isN]))
theorem gz_N_warm (hN : ∀ w ∈ gz_nw, gz_isN w = true) {s U : State} (hW : s.WarmedH U.vm) (h : gz_N s) : gz_N U := by
  intro w hw
  have h1 := hN w hw
  have h2 := h w hw
  cases w <;> first | exact va_Nw.warmF hW h2 | exact va_Nw.warmM hW h2 | (exact absurd h1 (by simp [gz_isN]))
theorem gz_N_same (hN : ∀ w ∈ gz_nw, gz_isN w = true) {s U : State} (hW : s.vm = U.vm) (h : gz_N s) : gz_N U := fun w hw => va_Nw.same (gz_isN_on (hN w hw)) hW (h w hw)
def gz_A (as : List Nat) (sz : Nat) : Nat → Prop := fun q => q ∈ as ∨ sz ≤ q
/-- what holds of the world w at a point of a walk -/
def gz_G (D : va_G) (cl : List vw_C) (tys : List (ClassId × FieldType)) (A : Nat → Prop) (s : State) (w : va_W) (H : Heap) (locs : List Loc) : Prop :=
  va_K D cl tys s ∧ va_P D cl w H ∧ va_D A w ∧ va_S A s.heap H locs
def gz_P (D : va_G) (cl : List vw_C) (tys : List (ClassId × FieldType)) (w : va_W) (sz : Nat) (U : State) : Prop := U.heap.size = sz ∧ va_P D cl w U.heap ∧ va_K D cl tys U ∧ va_D (fun _ => True) w ∧ gz_N U
def gz_B {S : Type} (D : va_G) (cl : List vw_C) (tys : List (ClassId × FieldType)) (wf : S → va_W) (A : Nat → Prop) (u : S) (t : State) : Prop := va_P D cl (wf u) t.heap ∧ va_K D cl tys t ∧ va_D A (wf u)
/-- contract of a method that answers an int (or a boolean) -/
def gz_Ci {S : Type} (l : Launch) (y : MethodName) (ws : List Cond) (rm : Room) (D : va_G) (cl : List vw_C) (tys : List (ClassId × FieldType)) (wf : S → va_W) (as : List Nat) (av : List Value) (u : S) (post : Int32 → S → Prop) : Prop :=
  ∀ sz : Nat, Met l y ws rm (va_Pc av (gz_P D cl tys (wf u) sz)) (va_Qi post (gz_B D cl tys wf (gz_A as sz)) (gz_A as sz)) 0 0 (gz_A as sz)
/-- contract of a method that answers nothing -/
def gz_Cv {S : Type} (l : Launch) (y : MethodName) (ws : List Cond) (rm : Room) (D : va_G) (cl : List vw_C) (tys : List (ClassId × FieldType)) (wf : S → va_W) (as : List Nat) (av : List Value) (u : S) (post : S → Prop) : Prop :=
  ∀ sz : Nat, Met l y ws rm (va_Pc av (gz_P D cl tys (wf u) sz)) (va_Qv post (gz_B D cl tys wf (gz_A as sz)) (gz_A as sz)) 0 0 (gz_A as sz)
/-- the fixed facts of a walk -/
def gz_F (p : Program) (s : State) (m : MethodId) (args : Array Value) (meth : Method) (c : Code) (cc : ByteArray) (maxL : Nat) (ret : Option FieldType) (ws : List Cond) (own : String) : Prop :=
  p.tables.exec = Jvm.exec ∧ c.code = cc ∧ meth.sig.returnType = ret ∧ c.maxLocals = maxL ∧ s.vm.findClass own = some m.cls ∧ (∀ w ∈ ws, w.before args s = true) ∧ meth.locks = false ∧ gz_N s
theorem gz_D {w w' : va_W} {A B : Nat → Prop} (h : va_D A w) (e : w'.map (fun q => q.1) = w.map (fun q => q.1)) (hB : ∀ a ∈ w.map (fun q => q.1), B a) : va_D B w' := by
  have key : ∀ (i : Nat) (q : Nat × va_E), w'[i]? = some q → ∃ q0, w[i]? = some q0 ∧ q0.1 = q.1 := by
    intro i q hq
    have h1 : (w'.map (fun q => q.1))[i]? = some q.1 := by rw [List.getElem?_map, hq]; rfl
    rw [e, List.getElem?_map] at h1
    cases hw : w[i]? with
    | none => rw [hw] at h1; cases h1
    | some q0 => rw [hw] at h1; exact ⟨q0, rfl, Option.some.inj h1⟩
  refine ⟨fun i j a b ha hb hab => ?_, fun k q hq => ?_⟩
  · obtain ⟨a0, h1, h2⟩ := key i a ha
    obtain ⟨b0, h3, h4⟩ := key j b hb
    exact h.1 i j a0 b0 h1 h3 (by rw [h2, h4, hab])
  · obtain ⟨q0, h1, h2⟩ := key k q hq
    rw [← h2]
    exact hB _ (List.mem_map.mpr ⟨q0, List.mem_of_getElem? h1, rfl⟩)
section GZ
variable {p : Program} {l : Launch} {e : Env} {R : Room} {s : State} {m : MethodId} {args : Array Value} {below : List Frame} {meth : Method} {c : Code} {H : Heap} {locs : List Loc} {cells slots : Nat} {Q : State → Prop}
variable {cc : ByteArray} {pc : Nat} {ls : Array Slot} {rest : List Value} {D : va_G} {cl : List vw_C} {tys : List (ClassId × FieldType)} {A : Nat → Prop} {S : Type} {wf : S → va_W} {as : List Nat} {u : S} {y : MethodName} {ws : List Cond} {maxL : Nat} {ret : Option FieldType} {own : String}
theorem gz_enter {ws' : List Cond} {rm : Room} {av : List Value} {post : Int32 → S → Prop}
    (hy : plainName y.cls = true) (hw : ws = Cond.code y cc maxL ret :: ws') (has : (wf u).map (fun q => q.1) = as) (hn : (lg_sl av).length ≤ maxL)
    (body : ∀ (p : Program) (e : Env) (s : State) (m : MethodId) (below : List Frame) (meth : Method) (c : Code) (ls : Array Slot), gz_F p s m av.toArray meth c cc maxL ret ws y.cls → gz_G D cl tys (gz_A as s.heap.size) s (wf u) s.heap [] → lv_has ls maxL (lv_args 0 av) →
      W p l e rm s m av.toArray below meth c s.heap [] 0 0 (MQ below (va_Qi post (gz_B D cl tys wf (gz_A as s.heap.size)) (gz_A as s.heap.size)) av.toArray s 0 0 (gz_A as s.heap.size)) (F0 m 0 ls [])) :
    gz_Ci l y ws rm D cl tys wf as av u post := by
  intro sz
  refine Met.ofW (cc := cc) (maxL := maxL) (ret := ret) hy hw ?_
  intro p e s m args below meth c s₁ B hml hv
  obtain ⟨rfl, hsz, hP, hK, hD0, hN0⟩ := hv
  subst hsz
  have hl := lv_entry av (n := maxL) hn
  rw [lg_entry_eq]
  exact body p e s m below meth c _ ⟨B.exec, B.bytes, B.returns, hml, findClass_of_methodNamed B.named, atoms_spec (ws := ws) B.pre, B.notSynchronized, hN0⟩
    ⟨hK, hP, gz_D hD0 rfl (fun a ha => Or.inl (has ▸ ha)), va_S.rf⟩ hl
theorem gz_enterV {ws' : List Cond} {rm : Room} {av : List Value} {post : S → Prop}
    (hy : plainName y.cls = true) (hw : ws = Cond.code y cc maxL ret :: ws') (has : (wf u).map (fun q => q.1) = as) (hn : (lg_sl av).length ≤ maxL)
    (body : ∀ (p : Program) (e : Env) (s : State) (m : MethodId) (below : List Frame) (meth : Method) (c : Code) (ls : Array Slot), gz_F p s m av.toArray meth c cc maxL ret ws y.cls → gz_G D cl tys (gz_A as s.heap.size) s (wf u) s.heap [] → lv_has ls maxL (lv_args 0 av) →
      W p l e rm s m av.toArray below meth c s.heap [] 0 0 (MQ below (va_Qv post (gz_B D cl tys wf (gz_A as s.heap.size)) (gz_A as s.heap.size)) av.toArray s 0 0 (gz_A as s.heap.size)) (F0 m 0 ls [])) :
    gz_Cv l y ws rm D cl tys wf as av u post := by
  intro sz
  refine Met.ofW (cc := cc) (maxL := maxL) (ret := ret) hy hw ?_
  intro p e s m args below meth c s₁ B hml hv
  obtain ⟨rfl, hsz, hP, hK, hD0, hN0⟩ := hv
  subst hsz
  have hl := lv_entry av (n := maxL) hn
  rw [lg_entry_eq]
  exact body p e s m below meth c _ ⟨B.exec, B.bytes, B.returns, hml, findClass_of_methodNamed B.named, atoms_spec (ws := ws) B.pre, B.notSynchronized, hN0⟩
    ⟨hK, hP, gz_D hD0 rfl (fun a ha => Or.inl (has ▸ ha)), va_S.rf⟩ hl
theorem gz_ri {v : Int32} {post : Int32 → S → Prop} (F : gz_F p s m args meth c cc maxL (some .int) ws own) (G : gz_G D cl tys (gz_A as s.heap.size) s (wf u) H locs) (hdg : decode cc pc = .ok (.ireturn, 1)) (hp : post v u) :
    W p l e R s m args below meth c H locs 0 0 (MQ below (va_Qi post (gz_B D cl tys wf (gz_A as s.heap.size)) (gz_A as s.heap.size)) args s 0 0 (gz_A as s.heap.size)) (F0 m pc ls [.int v]) :=
  W.iret (v := v) F.1 F.2.1 F.2.2.1 (fun t ht hW => ⟨⟨v, u, rfl, hp, by rw [ht]; exact G.2.1, va_K.moved hW.alike G.1, G.2.2.1⟩, G.2.2.2.F ht⟩) G.2.2.2.2.2 hdg F.2.2.2.2.2.2.1
theorem gz_rz {v : Int32} {post : Int32 → S → Prop} (F : gz_F p s m args meth c cc maxL (some .boolean) ws own) (G : gz_G D cl tys (gz_A as s.heap.size) s (wf u) H locs) (hdg : decode cc pc = .ok (.ireturn, 1)) (hn : narrow .boolean (.int v) = .int v) (hp : post v u) :
    W p l e R s m args below meth c H locs 0 0 (MQ below (va_Qi post (gz_B D cl tys wf (gz_A as s.heap.size)) (gz_A as s.heap.size)) args s 0 0 (gz_A as s.heap.size)) (F0 m pc ls [.int v]) :=
  W.zret (v := v) F.1 F.2.1 F.2.2.1 hn (fun t ht hW => ⟨⟨v, u, rfl, hp, by rw [ht]; exact G.2.1, va_K.moved hW.alike G.1, G.2.2.1⟩, G.2.2.2.F ht⟩) G.2.2.2.2.2 hdg F.2.2.2.2.2.2.1
theorem gz_rv {post : S → Prop} (F : gz_F p s m args meth c cc maxL none ws own) (G : gz_G D cl tys (gz_A as s.heap.size) s (wf u) H locs) (hdg : decode cc pc = .ok (.return_, 1)) (hp : post u) :
    W p l e R s m args below meth c H locs 0 0 (MQ below (va_Qv post (gz_B D cl tys wf (gz_A as s.heap.size)) (gz_A as s.heap.size)) args s 0 0 (gz_A as s.heap.size)) (F0 m pc ls []) :=
  W.vret F.1 F.2.1 F.2.2.1 (fun t ht hW => ⟨⟨u, rfl, hp, by rw [ht]; exact G.2.1, va_K.moved hW.alike G.1, G.2.2.1⟩, G.2.2.2.F ht⟩) G.2.2.2.2.2 hdg F.2.2.2.2.2.2.1
/-- the world as a callee wants it -/
theorem gz_pre {w : va_W} {av : List Value} (hNo : ∀ w ∈ gz_nw, gz_isN w = true) (hN : gz_N s) (G : gz_G D cl tys A s w H locs) : FrameBlind (va_Pc av (gz_P D cl tys w H.size)) ∧ ∀ U : State, U.heap = H → s.WarmedH U.vm → va_Pc av (gz_P D cl tys w H.size) av.toArray U :=
  ⟨fun a U g mk q => by obtain ⟨q0, q1, qP, qK, qD, qN⟩ := q; exact ⟨q0, q1, qP, va_K.moved (u := U) (U := U.calling g mk a) (Vm.Alike.refl U.vm) qK, qD, gz_N_same hNo (s := U) (U := U.calling g mk a) rfl qN⟩,
   fun U hU hW => ⟨rfl, by rw [hU], by rw [hU]; exact G.2.1, va_K.moved hW.alike G.1, G.2.2.1.weaken (fun _ _ _ _ => trivial), gz_N_warm hNo hW hN⟩⟩
/-- what comes back from a callee -/
theorem gz_back {w : va_W} {u' : S} {H1 : Heap} {locs1 : List Loc} {t : State} (has : (wf u').map (fun q => q.1) = w.map (fun q => q.1)) (G : gz_G D cl tys A s w H locs) (ht : t.heap = H1) (hB : gz_B D cl tys wf (gz_A as H.size) u' t) (hvm : s.vm.Alike t.vm) (hS : va_S A s.heap H1 locs1) : gz_G D cl tys A s (wf u') H1 locs1 := by
  refine ⟨G.1, by rw [← ht]; exact hB.1, gz_D G.2.2.1 has (fun a ha => ?_), hS⟩
  obtain ⟨q, hq, rfl⟩ := List.mem_map.mp ha
  obtain ⟨k, hk⟩ := List.getElem?_of_mem hq
  exact G.2.2.1.2 k q hk
/-- the callee's cells are ours -/
theorem gz_own {w : va_W} (G : gz_G D cl tys A s w H locs) (has : w.map (fun q => q.1) = as) (hA : ∀ q, s.heap.size ≤ q → A q) : ∀ q, gz_A as H.size q → A q := by
  intro q hq
  rcases hq with h | h
  · rw [← has] at h
    obtain ⟨x, hx, rfl⟩ := List.mem_map.mp h
    obtain ⟨k, hk⟩ := List.getElem?_of_mem hx
    exact G.2.2.1.2 k x hk
  · exact hA q (Nat.le_trans G.2.2.2.1 h)
/-- a call behind its run: int -/
theorem gz_goi {post : Int32 → S → Prop} {a : Array Value} {st0 : List Value} (has : ∀ z : S, (wf z).map (fun q => q.1) = as) (G : gz_G D cl tys A s (wf u) H locs) (hA : ∀ q, s.heap.size ≤ q → A q)
    (hr : va_Run p l e R s m args below meth c H locs cells slots 0 0 (F0 m pc ls st0) rest (va_Qi post (gz_B D cl tys wf (gz_A as H.size)) (gz_A as H.size) a) (gz_A as H.size))
    (kk : ∀ (r : Int32) (z : S) (H1 : Heap) (locs1 : List Loc), post r z → gz_G D cl tys A s (wf z) H1 locs1 → W p l e R s m args below meth c H1 locs1 cells slots Q (F0 m (pc + 3) ls (.int r :: rest))) : W p l e R s m args below meth c H locs cells slots Q (F0 m pc ls st0) :=
  va_calli hr G.2.2.2 (fun q _ h => gz_own G (has u) hA q h) (gz_own G (has u) hA) (fun r z t H1 locs1 ht hvm hp hB hz hk hS => kk r z H1 locs1 hp (gz_back ((has z).trans (has u).symm) G ht hB hvm hS))
theorem gz_gov {post : S → Prop} {a : Array Value} {st0 : List Value} (has : ∀ z : S, (wf z).map (fun q => q.1) = as) (G : gz_G D cl tys A s (wf u) H locs) (hA : ∀ q, s.heap.size ≤ q → A q)
    (hr : va_Run p l e R s m args below meth c H locs cells slots 0 0 (F0 m pc ls st0) rest (va_Qv post (gz_B D cl tys wf (gz_A as H.size)) (gz_A as H.size) a) (gz_A as H.size))
    (kk : ∀ (z : S) (H1 : Heap) (locs1 : List Loc), post z → gz_G D cl tys A s (wf z) H1 locs1 → W p l e R s m args below meth c H1 locs1 cells slots Q (F0 m (pc + 3) ls rest)) : W p l e R s m args below meth c H locs cells slots Q (F0 m pc ls st0) :=
  va_callv hr G.2.2.2 (fun q _ h => gz_own G (has u) hA q h) (gz_own G (has u) hA) (fun z t H1 locs1 ht hvm hp hB hz hk hS => kk z H1 locs1 hp (gz_back ((has z).trans (has u).symm) G ht hB hvm hS))
end GZ
end
section
/-! OWN ENGINE: a method's bytes as a table of (pc, predicate transformer); what a run of the table gives, holds of the machine.
A value of a walk is a cell of the world by its place, an int, or a long. -/
abbrev gz_V : Type := Nat ⊕ (Int32 ⊕ Int64)
abbrev gz_r (i : Nat) : gz_V := Sum.inl i
abbrev gz_i (x : Int32) : gz_V := Sum.inr (Sum.inl x)
abbrev gz_l (x : Int64) : gz_V := Sum.inr (Sum.inr x)
def gz_cv (a : Nat → Nat) : gz_V → Value
  | .inl i => .ref (a i)
  | .inr (.inl x) => .int x
  | .inr (.inr x) => .long x
def gz_cat : gz_V → Nat
  | .inr (.inr _) => 2
  | _ => 1
theorem gz_cv_cat (a : Nat → Nat) (v : gz_V) : (gz_cv a v).category = gz_cat v := by
  rcases v with i | x | y <;> rfl
abbrev gz_L : Type := List (Nat × gz_V)
def gz_cl (a : Nat → Nat) (L : gz_L) : List (Nat × Value) := L.map (fun q => (q.1, gz_cv a q.2))
def gz_cs (a : Nat → Nat) (st : List gz_V) : List Value := st.map (gz_cv a)
/-- units of depth of a stack -/
def gz_dep : List gz_V → Nat
  | [] => 0
  | v :: st => gz_cat v + gz_dep st
theorem gz_dep_cs (a : Nat → Nat) : ∀ st : List gz_V, ((gz_cs a st).map fun v => v.category).sum = gz_dep st
  | [] => rfl
  | v :: st => by
    show (gz_cv a v).category + ((gz_cs a st).map fun v => v.category).sum = gz_cat v + gz_dep st
    rw [gz_cv_cat, gz_dep_cs a st]
def gz_look : gz_L → Nat → Option gz_V
  | [], _ => none
  | q :: l, i => cond (Nat.beq q.1 i) (some q.2) (gz_look l i)
theorem gz_look_mem : ∀ (L : gz_L) (i : Nat) (v : gz_V), gz_look L i = some v → (i, v) ∈ L
  | [], _, _, h => by cases h
  | q :: l, i, v, h => by
    unfold gz_look at h
    cases hb : Nat.beq q.1 i with
    | true =>
      rw [hb] at h
      have h1 : q.1 = i := Nat.eq_of_beq_eq_true hb
      have h2 : q.2 = v := Option.some.inj h
      rw [← h1, ← h2]
      exact List.mem_cons_self
    | false =>
      rw [hb] at h
      exact List.mem_cons_of_mem _ (gz_look_mem l i v h)
theorem gz_lk {a : Nat → Nat} {ls : Array Slot} {n : Nat} {L : gz_L} {i : Nat} {v : gz_V} (h : lv_has ls n (gz_cl a L)) (hv : gz_look L i = some v) : ls[i]? = some (.val (gz_cv a v)) :=
  h.2.2 (i, gz_cv a v) (List.mem_map.mpr ⟨(i, v), gz_look_mem L i v hv, rfl⟩)
def gz_del (i : Nat) : gz_L → gz_L
  | [] => []
  | q :: l => cond (Nat.beq q.1 i) (gz_del i l) (cond (Nat.beq (q.1 + 1) i && Nat.beq (gz_cat q.2) 2) (gz_del i l) (q :: gz_del i l))
/-- the list with v at i, kept in the order of the places -/
def gz_ins (i : Nat) (v : gz_V) : gz_L → gz_L
  | [] => [(i, v)]
  | q :: l => cond (Nat.blt i q.1) ((i, v) :: gz_del i (q :: l)) (cond (Nat.beq q.1 i) ((i, v) :: gz_del i l) (cond (Nat.beq (q.1 + 1) i && Nat.beq (gz_cat q.2) 2) (gz_ins i v l) (q :: gz_ins i v l)))
def gz_far (i : Nat) (q : Nat × gz_V) : Prop := q.1 ≠ i ∧ ¬ (q.1 + 1 = i ∧ gz_cat q.2 = 2)
theorem gz_far_of {i : Nat} {q : Nat × gz_V} (h1 : Nat.beq q.1 i = false) (h2 : (Nat.beq (q.1 + 1) i && Nat.beq (gz_cat q.2) 2) = false) : gz_far i q := by
  refine ⟨Nat.ne_of_beq_eq_false h1, fun hh => ?_⟩
  have e1 : Nat.beq (q.1 + 1) i = true := by rw [hh.1]; exact Nat.beq_refl i
  have e2 : Nat.beq (gz_cat q.2) 2 = true := by rw [hh.2]; rfl
  rw [e1, e2] at h2
  cases h2
theorem gz_del_far (i : Nat) : ∀ (L : gz_L) (q : Nat × gz_V), q ∈ gz_del i L → q ∈ L ∧ gz_far i q
  | [], q, h => by cases h
  | x :: l, q, h => by
    unfold gz_del at h
    cases h1 : Nat.beq x.1 i with
    | true =>
      rw [h1] at h
      exact ⟨List.mem_cons_of_mem _ (gz_del_far i l q h).1, (gz_del_far i l q h).2⟩
    | false =>
      rw [h1] at h
      cases h2 : (Nat.beq (x.1 + 1) i && Nat.beq (gz_cat x.2) 2) with
      | true =>
        rw [h2] at h
        exact ⟨List.mem_cons_of_mem _ (gz_del_far i l q h).1, (gz_del_far i l q h).2⟩
      | false =>
        rw [h2] at h
        rcases List.mem_cons.mp h with h3 | h3
        · subst h3
          exact ⟨List.mem_cons_self, gz_far_of h1 h2⟩
        · exact ⟨List.mem_cons_of_mem _ (gz_del_far i l q h3).1, (gz_del_far i l q h3).2⟩
theorem gz_ins_far (i : Nat) (v : gz_V) : ∀ (L : gz_L) (q : Nat × gz_V), q ∈ gz_ins i v L → q = (i, v) ∨ (q ∈ L ∧ gz_far i q)
  | [], q, h => by
    rcases List.mem_cons.mp h with h3 | h3
    · exact Or.inl h3
    · cases h3
  | x :: l, q, h => by
    unfold gz_ins at h
    cases h0 : Nat.blt i x.1 with
    | true =>
      rw [h0] at h
      rcases List.mem_cons.mp h with h3 | h3
      · exact Or.inl h3
      · exact Or.inr (gz_del_far i (x :: l) q h3)
    | false =>
      rw [h0] at h
      cases h1 : Nat.beq x.1 i with
      | true =>
        rw [h1] at h
        rcases List.mem_cons.mp h with h3 | h3
        · exact Or.inl h3
        · exact Or.inr ⟨List.mem_cons_of_mem _ (gz_del_far i l q h3).1, (gz_del_far i l q h3).2⟩
      | false =>
        rw [h1] at h
        cases h2 : (Nat.beq (x.1 + 1) i && Nat.beq (gz_cat x.2) 2) with
        | true =>
          rw [h2] at h
          rcases gz_ins_far i v l q h with h3 | h3
          · exact Or.inl h3
          · exact Or.inr ⟨List.mem_cons_of_mem _ h3.1, h3.2⟩
        | false =>
          rw [h2] at h
          rcases List.mem_cons.mp h with h3 | h3
          · subst h3
            exact Or.inr ⟨List.mem_cons_self, gz_far_of h1 h2⟩
          · rcases gz_ins_far i v l q h3 with h4 | h4
            · exact Or.inl h4
            · exact Or.inr ⟨List.mem_cons_of_mem _ h4.1, h4.2⟩
theorem gz_has_ins {a : Nat → Nat} {ls : Array Slot} {n i : Nat} {L : gz_L} {v : gz_V} (h : lv_has ls n ((i, gz_cv a v) :: (gz_cl a L).filter (fun q => !(q.1 == i) && !(q.1 + 1 == i && q.2.category == 2)))) : lv_has ls n (gz_cl a (gz_ins i v L)) := by
  refine ⟨h.1, h.2.1, fun q hq => ?_⟩
  obtain ⟨w, hw, rfl⟩ := List.mem_map.mp hq
  rcases gz_ins_far i v L w hw with h1 | ⟨h1, h2, h3⟩
  · subst h1
    exact h.2.2 (i, gz_cv a v) List.mem_cons_self
  · refine h.2.2 (w.1, gz_cv a w.2) (List.mem_cons_of_mem _ (List.mem_filter.mpr ⟨List.mem_map.mpr ⟨w, h1, rfl⟩, ?_⟩))
    show (!(w.1 == i) && !(w.1 + 1 == i && (gz_cv a w.2).category == 2)) = true
    rw [gz_cv_cat]
    have e1 : (w.1 == i) = false := by simp [h2]
    have e2 : (w.1 + 1 == i && gz_cat w.2 == 2) = false := by
      by_cases k1 : w.1 + 1 = i
      · by_cases k2 : gz_cat w.2 = 2
        · exact absurd ⟨k1, k2⟩ h3
        · simp [k2]
      · simp [k1]
    rw [e1, e2]
    rfl
-- what comes next, and one instruction
abbrev gz_K (S : Type) : Type := Nat → gz_L → List gz_V → S → Prop
abbrev gz_T (S : Type) : Type := gz_L → List gz_V → S → gz_K S → (Option Int32 → S → Prop) → Prop
/-- taking from the stack: an int, a long, the cell i, a cell, anything of one unit -/
def gz_popi (st : List gz_V) (k : Int32 → List gz_V → Prop) : Prop := match st with
  | .inr (.inl x) :: r => k x r
  | _ => False
def gz_popl (st : List gz_V) (k : Int64 → List gz_V → Prop) : Prop := match st with
  | .inr (.inr x) :: r => k x r
  | _ => False
def gz_popr (st : List gz_V) (k : Nat → List gz_V → Prop) : Prop := match st with
  | .inl j :: r => k j r
  | _ => False
def gz_popj (i : Nat) (st : List gz_V) (k : List gz_V → Prop) : Prop := match st with
  | .inl j :: r => cond (Nat.beq j i) (k r) False
  | _ => False
def gz_popa (st : List gz_V) (k : gz_V → List gz_V → Prop) : Prop := match st with
  | v :: r => cond (Nat.beq (gz_cat v) 1) (k v r) False
  | _ => False
theorem gz_popi_inv {st : List gz_V} {k : Int32 → List gz_V → Prop} (h : gz_popi st k) : ∃ x r, st = gz_i x :: r ∧ k x r := by
  cases st with
  | nil => exact False.elim h
  | cons v r =>
    rcases v with i | x | y
    · exact False.elim h
    · exact ⟨x, r, rfl, h⟩
    · exact False.elim h
theorem gz_popl_inv {st : List gz_V} {k : Int64 → List gz_V → Prop} (h : gz_popl st k) : ∃ x r, st = gz_l x :: r ∧ k x r := by
  cases st with
  | nil => exact False.elim h
  | cons v r =>
    rcases v with i | x | y
    · exact False.elim h
    · exact False.elim h
    · exact ⟨y, r, rfl, h⟩
theorem gz_popr_inv {st : List gz_V} {k : Nat → List gz_V → Prop} (h : gz_popr st k) : ∃ x r, st = gz_r x :: r ∧ k x r := by
  cases st with
  | nil => exact False.elim h
  | cons v r =>
    rcases v with i | x | y
    · exact ⟨i, r, rfl, h⟩
    · exact False.elim h
    · exact False.elim h
theorem gz_popj_inv {i : Nat} {st : List gz_V} {k : List gz_V → Prop} (h : gz_popj i st k) : ∃ r, st = gz_r i :: r ∧ k r := by
  cases st with
  | nil => exact False.elim h
  | cons v r =>
    rcases v with j | x | y
    · have h1 : cond (Nat.beq j i) (k r) False := h
      cases hb : Nat.beq j i with
      | true =>
        rw [hb] at h1
        rw [Nat.eq_of_beq_eq_true hb]
        exact ⟨r, rfl, h1⟩
      | false =>
        rw [hb] at h1
        exact False.elim h1
    · exact False.elim h
    · exact False.elim h
theorem gz_popa_inv {st : List gz_V} {k : gz_V → List gz_V → Prop} (h : gz_popa st k) : ∃ v r, st = v :: r ∧ gz_cat v = 1 ∧ k v r := by
  cases st with
  | nil => exact False.elim h
  | cons v r =>
    have h1 : cond (Nat.beq (gz_cat v) 1) (k v r) False := h
    cases hb : Nat.beq (gz_cat v) 1 with
    | true =>
      rw [hb] at h1
      exact ⟨v, r, rfl, Nat.eq_of_beq_eq_true hb, h1⟩
    | false =>
      rw [hb] at h1
      exact False.elim h1
def gz_some {α : Type} (o : Option α) (k : α → Prop) : Prop := match o with
  | some v => k v
  | none => False
theorem gz_some_inv {α : Type} {o : Option α} {k : α → Prop} (h : gz_some o k) : ∃ v, o = some v ∧ k v := by
  cases o with
  | none => exact False.elim h
  | some v => exact ⟨v, rfl, h⟩
def gz_nil (st : List gz_V) (P : Prop) : Prop := match st with
  | [] => P
  | _ => False
theorem gz_nil_inv {st : List gz_V} {P : Prop} (h : gz_nil st P) : st = [] ∧ P := by
  cases st with
  | nil => exact ⟨rfl, h⟩
  | cons v r => exact False.elim h
/-- things of depth at most 8 below a call -/
def gz_low (st : List gz_V) (P : Prop) : Prop := cond (Nat.ble (gz_dep st) 8) P False
theorem gz_low_inv {st : List gz_V} {P : Prop} (h : gz_low st P) : gz_dep st ≤ 8 ∧ P := by
  have h1 : cond (Nat.ble (gz_dep st) 8) P False := h
  cases hb : Nat.ble (gz_dep st) 8 with
  | true =>
    rw [hb] at h1
    exact ⟨Nat.le_of_ble_eq_true hb, h1⟩
  | false =>
    rw [hb] at h1
    exact False.elim h1
-- the transformers; nx: the pc behind the instruction
section GZT
variable {S : Type}
def gz_push (nx : Nat) (v : gz_V) : gz_T S := fun L st u K _ => K nx L (v :: st) u
def gz_ldi (nx i : Nat) : gz_T S := fun L st u K _ => gz_some (gz_look L i) fun v => gz_popi [v] fun x _ => K nx L (gz_i x :: st) u
def gz_ldl (nx i : Nat) : gz_T S := fun L st u K _ => gz_some (gz_look L i) fun v => gz_popl [v] fun x _ => K nx L (gz_l x :: st) u
def gz_lda (nx i : Nat) : gz_T S := fun L st u K _ => gz_some (gz_look L i) fun v => gz_popr [v] fun x _ => K nx L (gz_r x :: st) u
def gz_stor (nx i : Nat) : gz_T S := fun L st u K _ => gz_popi st fun x r => K nx (gz_ins i (gz_i x) L) r u
def gz_storR (nx i : Nat) : gz_T S := fun L st u K _ => gz_popr st fun x r => K nx (gz_ins i (gz_r x) L) r u
def gz_iinc (nx i : Nat) (c : Int32) : gz_T S := fun L st u K _ => gz_some (gz_look L i) fun v => gz_popi [v] fun x _ => K nx (gz_ins i (gz_i (x + c)) L) st u
def gz_iop (nx : Nat) (f : Int32 → Int32 → Int32) : gz_T S := fun L st u K _ => gz_popi st fun y r => gz_popi r fun x q => K nx L (gz_i (f x y) :: q) u
def gz_lop (nx : Nat) (f : Int64 → Int64 → Int64) : gz_T S := fun L st u K _ => gz_popl st fun y r => gz_popl r fun x q => K nx L (gz_l (f x y) :: q) u
def gz_lsh (nx : Nat) (f : Int64 → Int32 → Int64) : gz_T S := fun L st u K _ => gz_popi st fun y r => gz_popl r fun x q => K nx L (gz_l (f x y) :: q) u
def gz_itol (nx : Nat) : gz_T S := fun L st u K _ => gz_popi st fun x r => K nx L (gz_l x.toInt64 :: r) u
def gz_lcmp (nx : Nat) : gz_T S := fun L st u K _ => gz_popl st fun y r => gz_popl r fun x q => K nx L (gz_i (lg_cmp x y) :: q) u
def gz_dup (nx : Nat) : gz_T S := fun L st u K _ => gz_popa st fun v r => K nx L (v :: v :: r) u
def gz_pop (nx : Nat) : gz_T S := fun L st u K _ => gz_popa st fun _ r => K nx L r u
/-- branches: P where it jumps, N where it goes on -/
def gz_if (nx tgt : Nat) (P N : Int32 → Prop) : gz_T S := fun L st u K _ => gz_popi st fun x r => (P x → K tgt L r u) ∧ (N x → K nx L r u)
def gz_if2 (nx tgt : Nat) (P N : Int32 → Int32 → Prop) : gz_T S := fun L st u K _ => gz_popi st fun y r => gz_popi r fun x q => (P x y → K tgt L q u) ∧ (N x y → K nx L q u)
def gz_swc (x : Int32) (k : Nat → Prop) (d : Nat) : List (Int32 × Nat) → Prop
  | [] => k d
  | q :: l => (x = q.1 → k q.2) ∧ (¬ x = q.1 → gz_swc x k d l)
def gz_sw (ts : List (Int32 × Nat)) (d : Nat) : gz_T S := fun L st u K _ => gz_popi st fun x r => gz_swc x (fun t => K t L r u) d ts
def gz_goto (tgt : Nat) : gz_T S := fun L st u K _ => K tgt L st u
def gz_getR (nx i j : Nat) : gz_T S := fun L st u K _ => gz_popj i st fun r => K nx L (gz_r j :: r) u
def gz_getI (nx i : Nat) (g : S → Int32) : gz_T S := fun L st u K _ => gz_popj i st fun r => K nx L (gz_i (g u) :: r) u
def gz_getL (nx i : Nat) (g : S → Int64) : gz_T S := fun L st u K _ => gz_popj i st fun r => K nx L (gz_l (g u) :: r) u
def gz_putI (nx i : Nat) (f : S → Int32 → S) : gz_T S := fun L st u K _ => gz_popi st fun x r => gz_popj i r fun q => K nx L q (f u x)
def gz_putL (nx i : Nat) (f : S → Int64 → S) : gz_T S := fun L st u K _ => gz_popl st fun x r => gz_popj i r fun q => K nx L q (f u x)
/-- arrays: tab j k: the array at cell j, by its length, its reading and its writing -/
abbrev gz_AI (S : Type) : Type := Nat → (Nat → (S → Nat → Int32) → (S → Int32 → Int32 → S) → Prop) → Prop
abbrev gz_AL (S : Type) : Type := Nat → (Nat → (S → Nat → Int64) → (S → Int32 → Int64 → S) → Prop) → Prop
def gz_ild (nx : Nat) (tab : gz_AI S) : gz_T S := fun L st u K _ => gz_popi st fun x r => gz_popr r fun j q => tab j fun n g _ => vp_in x n ∧ K nx L (gz_i (g u x.toNatClampNeg) :: q) u
def gz_ist (nx : Nat) (tab : gz_AI S) : gz_T S := fun L st u K _ => gz_popi st fun y r => gz_popi r fun x q => gz_popr q fun j o => tab j fun n _ f => vp_in x n ∧ K nx L o (f u x y)
def gz_zst (nx : Nat) (tab : gz_AI S) : gz_T S := fun L st u K _ => gz_popi st fun y r => gz_popi r fun x q => gz_popr q fun j o => tab j fun n _ f => vp_in x n ∧ K nx L o (f u x (vp_nar .boolean y))
def gz_lld (nx : Nat) (tab : gz_AL S) : gz_T S := fun L st u K _ => gz_popi st fun x r => gz_popr r fun j q => tab j fun n g _ => vp_in x n ∧ K nx L (gz_l (g u x.toNatClampNeg) :: q) u
def gz_lst (nx : Nat) (tab : gz_AL S) : gz_T S := fun L st u K _ => gz_popl st fun y r => gz_popi r fun x q => gz_popr q fun j o => tab j fun n _ f => vp_in x n ∧ K nx L o (f u x y)
/-- the ends -/
def gz_iret : gz_T S := fun _ st u _ Kr => gz_popi st fun x r => gz_nil r (Kr (some x) u)
def gz_zret : gz_T S := fun _ st u _ Kr => gz_popi st fun x r => gz_nil r (narrow .boolean (.int x) = .int x ∧ Kr (some x) u)
def gz_vret : gz_T S := fun _ st u _ Kr => gz_nil st (Kr none u)
/-- calls: static (s), of the cell i (c); arguments ints but for a long (l); an answer and the same state (P), an answer and a new state (I), a new state (V) -/
def gz_s1P (nx : Nat) (f : Int32 → Int32) : gz_T S := fun L st u K _ => gz_popi st fun x r => gz_low r (K nx L (gz_i (f x) :: r) u)
def gz_s3P (nx : Nat) (f : Int32 → Int32 → Int32 → Int32) : gz_T S := fun L st u K _ => gz_popi st fun z r3 => gz_popi r3 fun y r2 => gz_popi r2 fun x r => gz_low r (K nx L (gz_i (f x y z) :: r) u)
def gz_c0P (nx i : Nat) (f : S → Int32) : gz_T S := fun L st u K _ => gz_popj i st fun r => gz_low r (K nx L (gz_i (f u) :: r) u)
def gz_c1P (nx i : Nat) (pre : S → Int32 → Prop) (f : S → Int32 → Int32) : gz_T S := fun L st u K _ => gz_popi st fun x r1 => gz_popj i r1 fun r => gz_low r (pre u x ∧ K nx L (gz_i (f u x) :: r) u)
def gz_c2P (nx i : Nat) (pre : S → Int32 → Int32 → Prop) (f : S → Int32 → Int32 → Int32) : gz_T S := fun L st u K _ => gz_popi st fun y r2 => gz_popi r2 fun x r1 => gz_popj i r1 fun r => gz_low r (pre u x y ∧ K nx L (gz_i (f u x y) :: r) u)
def gz_c1lP (nx i : Nat) (pre : S → Int32 → Int64 → Prop) (f : S → Int32 → Int64 → Int32) : gz_T S := fun L st u K _ => gz_popl st fun y r2 => gz_popi r2 fun x r1 => gz_popj i r1 fun r => gz_low r (pre u x y ∧ K nx L (gz_i (f u x y) :: r) u)
def gz_c1I (nx i : Nat) (pre : S → Int32 → Prop) (f : S → Int32 → Int32) (g : S → Int32 → S) : gz_T S := fun L st u K _ => gz_popi st fun x r1 => gz_popj i r1 fun r => gz_low r (pre u x ∧ K nx L (gz_i (f u x) :: r) (g u x))
def gz_c2I (nx i : Nat) (pre : S → Int32 → Int32 → Prop) (f : S → Int32 → Int32 → Int32) (g : S → Int32 → Int32 → S) : gz_T S := fun L st u K _ => gz_popi st fun y r2 => gz_popi r2 fun x r1 => gz_popj i r1 fun r => gz_low r (pre u x y ∧ K nx L (gz_i (f u x y) :: r) (g u x y))
def gz_c4I (nx i : Nat) (pre : S → Int32 → Int32 → Int32 → Int32 → Prop) (f : S → Int32 → Int32 → Int32 → Int32 → Int32) (g : S → Int32 → Int32 → Int32 → Int32 → S) : gz_T S := fun L st u K _ => gz_popi st fun w r4 => gz_popi r4 fun z r3 => gz_popi r3 fun y r2 => gz_popi r2 fun x r1 => gz_popj i r1 fun r => gz_low r (pre u x y z w ∧ K nx L (gz_i (f u x y z w) :: r) (g u x y z w))
def gz_c1lI (nx i : Nat) (pre : S → Int32 → Int64 → Prop) (f : S → Int32 → Int64 → Int32) (g : S → Int32 → Int64 → S) : gz_T S := fun L st u K _ => gz_popl st fun y r2 => gz_popi r2 fun x r1 => gz_popj i r1 fun r => gz_low r (pre u x y ∧ K nx L (gz_i (f u x y) :: r) (g u x y))
def gz_clI (nx i : Nat) (pre : S → Int64 → Prop) (f : S → Int64 → Int32) (g : S → Int64 → S) : gz_T S := fun L st u K _ => gz_popl st fun x r1 => gz_popj i r1 fun r => gz_low r (pre u x ∧ K nx L (gz_i (f u x) :: r) (g u x))
/-- the length of the array at the cell i -/
def gz_alen (nx i : Nat) (n : Int32) : gz_T S := fun L st u K _ => gz_popj i st fun r => K nx L (gz_i n :: r) u
def gz_c1V (nx i : Nat) (pre : S → Int32 → Prop) (g : S → Int32 → S) : gz_T S := fun L st u K _ => gz_popi st fun x r1 => gz_popj i r1 fun r => gz_low r (pre u x ∧ K nx L r (g u x))
def gz_c2V (nx i : Nat) (pre : S → Int32 → Int32 → Prop) (g : S → Int32 → Int32 → S) : gz_T S := fun L st u K _ => gz_popi st fun y r2 => gz_popi r2 fun x r1 => gz_popj i r1 fun r => gz_low r (pre u x y ∧ K nx L r (g u x y))
/-- a table's instruction, and a run of it up to the stops -/
def gz_at : List (Nat × gz_T S) → Nat → Option (gz_T S)
  | [], _ => none
  | q :: l, pc => cond (Nat.beq q.1 pc) (some q.2) (gz_at l pc)
def gz_mem : List Nat → Nat → Bool
  | [], _ => false
  | q :: l, pc => cond (Nat.beq q pc) true (gz_mem l pc)
def gz_one (tb : List (Nat × gz_T S)) (K : gz_K S) (Kr : Option Int32 → S → Prop) : gz_K S := fun pc L st u => gz_some (gz_at tb pc) fun T => T L st u K Kr
def gz_run (tb : List (Nat × gz_T S)) (stops : List Nat) (K0 : gz_K S) (Kr : Option Int32 → S → Prop) : Nat → gz_K S
  | 0 => K0
  | n + 1 => fun pc L st u => cond (gz_mem stops pc) (K0 pc L st u) (gz_one tb (gz_run tb stops K0 Kr n) Kr pc L st u)
def gz_ok (Z : gz_K S) (Kr : Option Int32 → S → Prop) (pc : Nat) (T : gz_T S) : Prop := ∀ K : gz_K S, (∀ (pc : Nat) (L : gz_L) (st : List gz_V) (u : S), K pc L st u → Z pc L st u) → ∀ (L : gz_L) (st : List gz_V) (u : S), T L st u K Kr → Z pc L st u
def gz_oks (Z : gz_K S) (Kr : Option Int32 → S → Prop) : List (Nat × gz_T S) → Prop
  | [] => True
  | q :: l => gz_ok Z Kr q.1 q.2 ∧ gz_oks Z Kr l
theorem gz_at_ok {Z : gz_K S} {Kr : Option Int32 → S → Prop} : ∀ (tb : List (Nat × gz_T S)), gz_oks Z Kr tb → ∀ (pc : Nat) (T : gz_T S), gz_at tb pc = some T → gz_ok Z Kr pc T
  | [], _, pc, T, h => by cases h
  | q :: l, ho, pc, T, h => by
    unfold gz_at at h
    cases hb : Nat.beq q.1 pc with
    | true =>
      rw [hb] at h
      have h1 : q.1 = pc := Nat.eq_of_beq_eq_true hb
      have h2 : q.2 = T := Option.some.inj h
      rw [← h1, ← h2]
      exact ho.1
    | false =>
      rw [hb] at h
      exact gz_at_ok l ho.2 pc T h
theorem gz_one_ok {Z K : gz_K S} {Kr : Option Int32 → S → Prop} {tb : List (Nat × gz_T S)} (ho : gz_oks Z Kr tb) (hK : ∀ (pc : Nat) (L : gz_L) (st : List gz_V) (u : S), K pc L st u → Z pc L st u) {pc : Nat} {L : gz_L} {st : List gz_V} {u : S} (h : gz_one tb K Kr pc L st u) : Z pc L st u := by
  obtain ⟨T, h1, h2⟩ := gz_some_inv h
  exact gz_at_ok tb ho pc T h1 K hK L st u h2
theorem gz_run_ok {Z : gz_K S} {Kr : Option Int32 → S → Prop} {tb : List (Nat × gz_T S)} (ho : gz_oks Z Kr tb) (stops : List Nat) : ∀ (n pc : Nat) (L : gz_L) (st : List gz_V) (u : S), gz_run tb stops Z Kr n pc L st u → Z pc L st u
  | 0, _, _, _, _, h => h
  | n + 1, pc, L, st, u, h => by
    have h1 : cond (gz_mem stops pc) (Z pc L st u) (gz_one tb (gz_run tb stops Z Kr n) Kr pc L st u) := h
    cases hb : gz_mem stops pc with
    | true =>
      rw [hb] at h1
      exact h1
    | false =>
      rw [hb] at h1
      exact gz_one_ok ho (gz_run_ok ho stops n) h1
/-- from a loop's head: one instruction, then a run -/
theorem gz_go {Z : gz_K S} {Kr : Option Int32 → S → Prop} {tb : List (Nat × gz_T S)} (ho : gz_oks Z Kr tb) (stops : List Nat) (n : Nat) {pc : Nat} {L : gz_L} {st : List gz_V} {u : S} (h : gz_one tb (gz_run tb stops Z Kr n) Kr pc L st u) : Z pc L st u := gz_one_ok ho (gz_run_ok ho stops n) h
end GZT
end
section
/-! OWN ENGINE, second part: each transformer holds of the machine -/
/-- what is shown at a point of a walk: G is what the heap must hold of the state u -/
def gz_Z (p : Program) (l : Launch) (e : Env) (R : Room) (s : State) (m : MethodId) (args : Array Value) (below : List Frame) (meth : Method) (c : Code) (cells slots : Nat) (Q : State → Prop) (nL : Nat) (a : Nat → Nat) {S : Type} (G : S → Heap → List Loc → Prop) : gz_K S :=
  fun pc L st u => ∀ (H : Heap) (locs : List Loc) (ls : Array Slot), lv_has ls nL (gz_cl a L) → G u H locs → W p l e R s m args below meth c H locs cells slots Q (F0 m pc ls (gz_cs a st))
section GZO
variable {S : Type} {p : Program} {l : Launch} {e : Env} {R : Room} {s : State} {m : MethodId} {args : Array Value} {below : List Frame} {meth : Method} {c : Code} {cells slots : Nat} {Q : State → Prop} {cc : ByteArray} {nL : Nat} {a : Nat → Nat} {G : S → Heap → List Loc → Prop} {Kr : Option Int32 → S → Prop} {pc : Nat}
theorem gz_o_iconst (hx : p.tables.exec = Jvm.exec) (hb : c.code = cc) {n : Int} (v : Int32) (hd : decode cc pc = .ok (.iconst n, 1)) (hv : Int32.ofInt n = v) : gz_ok (gz_Z p l e R s m args below meth c cells slots Q nL a G) Kr pc (gz_push (pc + 1) (gz_i v)) := by
  intro K hK L st u h
  intro H locs ls hl hg
  exact lv_iconst hx hb hd hv (hK _ _ _ _ h H locs ls hl hg)
theorem gz_o_bipush (hx : p.tables.exec = Jvm.exec) (hb : c.code = cc) {n : Int} (v : Int32) (hd : decode cc pc = .ok (.bipush n, 2)) (hv : (Int8.ofInt n).toInt32 = v) : gz_ok (gz_Z p l e R s m args below meth c cells slots Q nL a G) Kr pc (gz_push (pc + 2) (gz_i v)) := by
  intro K hK L st u h
  intro H locs ls hl hg
  exact lv_bipush hx hb hd hv (hK _ _ _ _ h H locs ls hl hg)
theorem gz_o_sipush (hx : p.tables.exec = Jvm.exec) (hb : c.code = cc) {n : Int} (v : Int32) (hd : decode cc pc = .ok (.sipush n, 3)) (hv : (Int16.ofInt n).toInt32 = v) : gz_ok (gz_Z p l e R s m args below meth c cells slots Q nL a G) Kr pc (gz_push (pc + 3) (gz_i v)) := by
  intro K hK L st u h
  intro H locs ls hl hg
  exact lv_sipush hx hb hd hv (hK _ _ _ _ h H locs ls hl hg)
theorem gz_o_lconst (hx : p.tables.exec = Jvm.exec) (hb : c.code = cc) {n : Fin 2} (v : Int64) (hd : decode cc pc = .ok (.lconst n, 1)) (hv : Int64.ofNat (n : Nat) = v) : gz_ok (gz_Z p l e R s m args below meth c cells slots Q nL a G) Kr pc (gz_push (pc + 1) (gz_l v)) := by
  intro K hK L st u h
  intro H locs ls hl hg
  exact lv_lconst hx hb hd hv (hK _ _ _ _ h H locs ls hl hg)
theorem gz_o_ldc2 (hx : p.tables.exec = Jvm.exec) (hb : c.code = cc) {own : String} {index : Nat} (v : Int64) (hown : s.vm.findClass own = some m.cls) (hc : (Jvm.Cond.constantLong own index v).before args s = true) (hd : decode cc pc = .ok (.ldc2_w index, 3)) : gz_ok (gz_Z p l e R s m args below meth c cells slots Q nL a G) Kr pc (gz_push (pc + 3) (gz_l v)) := by
  intro K hK L st u h
  intro H locs ls hl hg
  exact lv_ldc2 hx hb hown hc hd (hK _ _ _ _ h H locs ls hl hg)
theorem gz_o_iload_n (hx : p.tables.exec = Jvm.exec) (hb : c.code = cc) {k : Fin 4} (i : Nat) (hd : decode cc pc = .ok (.iload_n k, 1)) (hi : (k : Nat) = i) : gz_ok (gz_Z p l e R s m args below meth c cells slots Q nL a G) Kr pc (gz_ldi (pc + 1) i) := by
  intro K hK L st u h
  replace h := gz_some_inv h
  obtain ⟨v, hv, h⟩ := h
  replace h := gz_popi_inv h
  obtain ⟨x, r, e1, h⟩ := h
  cases e1
  intro H locs ls hl hg
  exact lv_iload_n hx hb hd hi (gz_lk hl hv) (hK _ _ _ _ h H locs ls hl hg)
theorem gz_o_iload (hx : p.tables.exec = Jvm.exec) (hb : c.code = cc) (i : Nat) (hd : decode cc pc = .ok (.iload i, 2)) : gz_ok (gz_Z p l e R s m args below meth c cells slots Q nL a G) Kr pc (gz_ldi (pc + 2) i) := by
  intro K hK L st u h
  replace h := gz_some_inv h
  obtain ⟨v, hv, h⟩ := h
  replace h := gz_popi_inv h
  obtain ⟨x, r, e1, h⟩ := h
  cases e1
  intro H locs ls hl hg
  exact lv_iload hx hb hd (gz_lk hl hv) (hK _ _ _ _ h H locs ls hl hg)
theorem gz_o_lload_n (hx : p.tables.exec = Jvm.exec) (hb : c.code = cc) {k : Fin 4} (i : Nat) (hd : decode cc pc = .ok (.lload_n k, 1)) (hi : (k : Nat) = i) : gz_ok (gz_Z p l e R s m args below meth c cells slots Q nL a G) Kr pc (gz_ldl (pc + 1) i) := by
  intro K hK L st u h
  replace h := gz_some_inv h
  obtain ⟨v, hv, h⟩ := h
  replace h := gz_popl_inv h
  obtain ⟨x, r, e1, h⟩ := h
  cases e1
  intro H locs ls hl hg
  exact lv_lload_n hx hb hd hi (gz_lk hl hv) (hK _ _ _ _ h H locs ls hl hg)
theorem gz_o_lload (hx : p.tables.exec = Jvm.exec) (hb : c.code = cc) (i : Nat) (hd : decode cc pc = .ok (.lload i, 2)) : gz_ok (gz_Z p l e R s m args below meth c cells slots Q nL a G) Kr pc (gz_ldl (pc + 2) i) := by
  intro K hK L st u h
  replace h := gz_some_inv h
  obtain ⟨v, hv, h⟩ := h
  replace h := gz_popl_inv h
  obtain ⟨x, r, e1, h⟩ := h
  cases e1
  intro H locs ls hl hg
  exact lv_lload hx hb hd (gz_lk hl hv) (hK _ _ _ _ h H locs ls hl hg)
theorem gz_o_aload_n (hx : p.tables.exec = Jvm.exec) (hb : c.code = cc) {k : Fin 4} (i : Nat) (hd : decode cc pc = .ok (.aload_n k, 1)) (hi : (k : Nat) = i) : gz_ok (gz_Z p l e R s m args below meth c cells slots Q nL a G) Kr pc (gz_lda (pc + 1) i) := by
  intro K hK L st u h
  replace h := gz_some_inv h
  obtain ⟨v, hv, h⟩ := h
  replace h := gz_popr_inv h
  obtain ⟨x, r, e1, h⟩ := h
  cases e1
  intro H locs ls hl hg
  exact lv_aload_n hx hb hd hi (gz_lk hl hv) (hK _ _ _ _ h H locs ls hl hg)
theorem gz_o_aload (hx : p.tables.exec = Jvm.exec) (hb : c.code = cc) (i : Nat) (hd : decode cc pc = .ok (.aload i, 2)) : gz_ok (gz_Z p l e R s m args below meth c cells slots Q nL a G) Kr pc (gz_lda (pc + 2) i) := by
  intro K hK L st u h
  replace h := gz_some_inv h
  obtain ⟨v, hv, h⟩ := h
  replace h := gz_popr_inv h
  obtain ⟨x, r, e1, h⟩ := h
  cases e1
  intro H locs ls hl hg
  exact lv_aload hx hb hd (gz_lk hl hv) (hK _ _ _ _ h H locs ls hl hg)
theorem gz_o_istore_n (hx : p.tables.exec = Jvm.exec) (hb : c.code = cc) {k : Fin 4} (i : Nat) (hd : decode cc pc = .ok (.istore_n k, 1)) (hi : (k : Nat) = i) (hn : i < nL) : gz_ok (gz_Z p l e R s m args below meth c cells slots Q nL a G) Kr pc (gz_stor (pc + 1) i) := by
  intro K hK L st u h
  replace h := gz_popi_inv h
  obtain ⟨x, r, rfl, h⟩ := h
  intro H locs ls hl hg
  exact lv_istore_n hx hb hd hi hl hn rfl (fun ls2 h2 => hK _ _ _ _ h H locs ls2 (gz_has_ins h2) hg)
theorem gz_o_istore (hx : p.tables.exec = Jvm.exec) (hb : c.code = cc) (i : Nat) (hd : decode cc pc = .ok (.istore i, 2)) (hn : i < nL) : gz_ok (gz_Z p l e R s m args below meth c cells slots Q nL a G) Kr pc (gz_stor (pc + 2) i) := by
  intro K hK L st u h
  replace h := gz_popi_inv h
  obtain ⟨x, r, rfl, h⟩ := h
  intro H locs ls hl hg
  exact lv_istore hx hb hd hl hn rfl (fun ls2 h2 => hK _ _ _ _ h H locs ls2 (gz_has_ins h2) hg)
theorem gz_o_astore_n (hx : p.tables.exec = Jvm.exec) (hb : c.code = cc) {k : Fin 4} (i : Nat) (hd : decode cc pc = .ok (.astore_n k, 1)) (hi : (k : Nat) = i) (hn : i < nL) : gz_ok (gz_Z p l e R s m args below meth c cells slots Q nL a G) Kr pc (gz_storR (pc + 1) i) := by
  intro K hK L st u h
  replace h := gz_popr_inv h
  obtain ⟨x, r, rfl, h⟩ := h
  intro H locs ls hl hg
  exact lv_astore_n hx hb hd hi hl hn rfl (fun ls2 h2 => hK _ _ _ _ h H locs ls2 (gz_has_ins h2) hg)
theorem gz_o_astore (hx : p.tables.exec = Jvm.exec) (hb : c.code = cc) (i : Nat) (hd : decode cc pc = .ok (.astore i, 2)) (hn : i < nL) : gz_ok (gz_Z p l e R s m args below meth c cells slots Q nL a G) Kr pc (gz_storR (pc + 2) i) := by
  intro K hK L st u h
  replace h := gz_popr_inv h
  obtain ⟨x, r, rfl, h⟩ := h
  intro H locs ls hl hg
  exact lv_astore hx hb hd hl hn rfl (fun ls2 h2 => hK _ _ _ _ h H locs ls2 (gz_has_ins h2) hg)
theorem gz_o_iinc (hx : p.tables.exec = Jvm.exec) (hb : c.code = cc) {n : Int} (i : Nat) (v : Int32) (hd : decode cc pc = .ok (.iinc i n, 3)) (hv : Int32.ofInt n = v) (hn : i < nL) : gz_ok (gz_Z p l e R s m args below meth c cells slots Q nL a G) Kr pc (gz_iinc (pc + 3) i v) := by
  intro K hK L st u h
  replace h := gz_some_inv h
  obtain ⟨w, hw, h⟩ := h
  replace h := gz_popi_inv h
  obtain ⟨x, r, e1, h⟩ := h
  cases e1
  intro H locs ls hl hg
  have hmem : (i, Value.int x) ∈ gz_cl a L := List.mem_map.mpr ⟨(i, gz_i x), gz_look_mem L i _ hw, rfl⟩
  obtain ⟨k, hk⟩ := List.getElem?_of_mem hmem
  exact lv_iinc hx hb hd hl hk (by rw [hv]) hn rfl (fun ls2 h2 => hK _ _ _ _ h H locs ls2 (gz_has_ins h2) hg)
theorem gz_o_iadd (hx : p.tables.exec = Jvm.exec) (hb : c.code = cc) (hd : decode cc pc = .ok (.iadd, 1)) : gz_ok (gz_Z p l e R s m args below meth c cells slots Q nL a G) Kr pc (gz_iop (pc + 1) (fun x y => x + y)) := by
  intro K hK L st u h
  replace h := gz_popi_inv h
  obtain ⟨y, r1, rfl, h⟩ := h
  replace h := gz_popi_inv h
  obtain ⟨x, r, rfl, h⟩ := h
  intro H locs ls hl hg
  exact lv_iadd hx hb hd (hK _ _ _ _ h H locs ls hl hg)
theorem gz_o_isub (hx : p.tables.exec = Jvm.exec) (hb : c.code = cc) (hd : decode cc pc = .ok (.isub, 1)) : gz_ok (gz_Z p l e R s m args below meth c cells slots Q nL a G) Kr pc (gz_iop (pc + 1) (fun x y => x - y)) := by
  intro K hK L st u h
  replace h := gz_popi_inv h
  obtain ⟨y, r1, rfl, h⟩ := h
  replace h := gz_popi_inv h
  obtain ⟨x, r, rfl, h⟩ := h
  intro H locs ls hl hg
  exact lv_isub hx hb hd (hK _ _ _ _ h H locs ls hl hg)
theorem gz_o_iand (hx : p.tables.exec = Jvm.exec) (hb : c.code = cc) (hd : decode cc pc = .ok (.iand, 1)) : gz_ok (gz_Z p l e R s m args below meth c cells slots Q nL a G) Kr pc (gz_iop (pc + 1) (fun x y => x &&& y)) := by
  intro K hK L st u h
  replace h := gz_popi_inv h
  obtain ⟨y, r1, rfl, h⟩ := h
  replace h := gz_popi_inv h
  obtain ⟨x, r, rfl, h⟩ := h
  intro H locs ls hl hg
  exact lv_iand hx hb hd (hK _ _ _ _ h H locs ls hl hg)
theorem gz_o_ladd (hx : p.tables.exec = Jvm.exec) (hb : c.code = cc) (hd : decode cc pc = .ok (.ladd, 1)) : gz_ok (gz_Z p l e R s m args below meth c cells slots Q nL a G) Kr pc (gz_lop (pc + 1) (fun x y => x + y)) := by
  intro K hK L st u h
  replace h := gz_popl_inv h
  obtain ⟨y, r1, rfl, h⟩ := h
  replace h := gz_popl_inv h
  obtain ⟨x, r, rfl, h⟩ := h
  intro H locs ls hl hg
  exact lv_ladd hx hb hd (hK _ _ _ _ h H locs ls hl hg)
theorem gz_o_lsub (hx : p.tables.exec = Jvm.exec) (hb : c.code = cc) (hd : decode cc pc = .ok (.lsub, 1)) : gz_ok (gz_Z p l e R s m args below meth c cells slots Q nL a G) Kr pc (gz_lop (pc + 1) (fun x y => x - y)) := by
  intro K hK L st u h
  replace h := gz_popl_inv h
  obtain ⟨y, r1, rfl, h⟩ := h
  replace h := gz_popl_inv h
  obtain ⟨x, r, rfl, h⟩ := h
  intro H locs ls hl hg
  exact lv_lsub hx hb hd (hK _ _ _ _ h H locs ls hl hg)
theorem gz_o_land (hx : p.tables.exec = Jvm.exec) (hb : c.code = cc) (hd : decode cc pc = .ok (.land, 1)) : gz_ok (gz_Z p l e R s m args below meth c cells slots Q nL a G) Kr pc (gz_lop (pc + 1) (fun x y => x &&& y)) := by
  intro K hK L st u h
  replace h := gz_popl_inv h
  obtain ⟨y, r1, rfl, h⟩ := h
  replace h := gz_popl_inv h
  obtain ⟨x, r, rfl, h⟩ := h
  intro H locs ls hl hg
  exact lv_land hx hb hd (hK _ _ _ _ h H locs ls hl hg)
theorem gz_o_lor (hx : p.tables.exec = Jvm.exec) (hb : c.code = cc) (hd : decode cc pc = .ok (.lor, 1)) : gz_ok (gz_Z p l e R s m args below meth c cells slots Q nL a G) Kr pc (gz_lop (pc + 1) (fun x y => x ||| y)) := by
  intro K hK L st u h
  replace h := gz_popl_inv h
  obtain ⟨y, r1, rfl, h⟩ := h
  replace h := gz_popl_inv h
  obtain ⟨x, r, rfl, h⟩ := h
  intro H locs ls hl hg
  exact lv_lor hx hb hd (hK _ _ _ _ h H locs ls hl hg)
theorem gz_o_lshl (hx : p.tables.exec = Jvm.exec) (hb : c.code = cc) (hd : decode cc pc = .ok (.lshl, 1)) : gz_ok (gz_Z p l e R s m args below meth c cells slots Q nL a G) Kr pc (gz_lsh (pc + 1) (fun x y => x <<< (y.toInt64 &&& 63))) := by
  intro K hK L st u h
  replace h := gz_popi_inv h
  obtain ⟨y, r1, rfl, h⟩ := h
  replace h := gz_popl_inv h
  obtain ⟨x, r, rfl, h⟩ := h
  intro H locs ls hl hg
  exact lv_lshl hx hb hd rfl (hK _ _ _ _ h H locs ls hl hg)
theorem gz_o_i2l (hx : p.tables.exec = Jvm.exec) (hb : c.code = cc) (hd : decode cc pc = .ok (.i2l, 1)) : gz_ok (gz_Z p l e R s m args below meth c cells slots Q nL a G) Kr pc (gz_itol (pc + 1)) := by
  intro K hK L st u h
  replace h := gz_popi_inv h
  obtain ⟨x, r, rfl, h⟩ := h
  intro H locs ls hl hg
  exact lv_i2l hx hb hd rfl (hK _ _ _ _ h H locs ls hl hg)
theorem gz_o_lcmp (hx : p.tables.exec = Jvm.exec) (hb : c.code = cc) (hd : decode cc pc = .ok (.lcmp, 1)) : gz_ok (gz_Z p l e R s m args below meth c cells slots Q nL a G) Kr pc (gz_lcmp (pc + 1)) := by
  intro K hK L st u h
  replace h := gz_popl_inv h
  obtain ⟨y, r1, rfl, h⟩ := h
  replace h := gz_popl_inv h
  obtain ⟨x, r, rfl, h⟩ := h
  intro H locs ls hl hg
  exact W.lcmp hx hb hd (hK _ _ _ _ h H locs ls hl hg)
theorem gz_o_dup (hx : p.tables.exec = Jvm.exec) (hb : c.code = cc) (hd : decode cc pc = .ok (.dup, 1)) : gz_ok (gz_Z p l e R s m args below meth c cells slots Q nL a G) Kr pc (gz_dup (pc + 1)) := by
  intro K hK L st u h
  replace h := gz_popa_inv h
  obtain ⟨v, r, rfl, hc, h⟩ := h
  intro H locs ls hl hg
  exact lv_dup hx hb hd ((gz_cv_cat a v).trans hc) (hK _ _ _ _ h H locs ls hl hg)
theorem gz_o_pop (hx : p.tables.exec = Jvm.exec) (hb : c.code = cc) (hd : decode cc pc = .ok (.pop, 1)) : gz_ok (gz_Z p l e R s m args below meth c cells slots Q nL a G) Kr pc (gz_pop (pc + 1)) := by
  intro K hK L st u h
  replace h := gz_popa_inv h
  obtain ⟨v, r, rfl, hc, h⟩ := h
  intro H locs ls hl hg
  exact lv_pop hx hb hd ((gz_cv_cat a v).trans hc) (hK _ _ _ _ h H locs ls hl hg)
theorem gz_o_if_eq (hx : p.tables.exec = Jvm.exec) (hb : c.code = cc) {off : Int} (tgt : Nat) (hd : decode cc pc = .ok (.ifCond .eq off, 3)) (ht : (pc : Int) + off = (tgt : Int)) : gz_ok (gz_Z p l e R s m args below meth c cells slots Q nL a G) Kr pc (gz_if (pc + 3) tgt (fun x => x = 0) (fun x => ¬ x = 0)) := by
  intro K hK L st u h
  replace h := gz_popi_inv h
  obtain ⟨x, r, rfl, h⟩ := h
  intro H locs ls hl hg
  exact lv_if_eq hx hb hd ht (fun q => hK _ _ _ _ (h.1 q) H locs ls hl hg) (fun q => hK _ _ _ _ (h.2 q) H locs ls hl hg)
theorem gz_o_if_ne (hx : p.tables.exec = Jvm.exec) (hb : c.code = cc) {off : Int} (tgt : Nat) (hd : decode cc pc = .ok (.ifCond .ne off, 3)) (ht : (pc : Int) + off = (tgt : Int)) : gz_ok (gz_Z p l e R s m args below meth c cells slots Q nL a G) Kr pc (gz_if (pc + 3) tgt (fun x => ¬ x = 0) (fun x => x = 0)) := by
  intro K hK L st u h
  replace h := gz_popi_inv h
  obtain ⟨x, r, rfl, h⟩ := h
  intro H locs ls hl hg
  exact lv_if_ne hx hb hd ht (fun q => hK _ _ _ _ (h.1 q) H locs ls hl hg) (fun q => hK _ _ _ _ (h.2 q) H locs ls hl hg)
theorem gz_o_if_lt (hx : p.tables.exec = Jvm.exec) (hb : c.code = cc) {off : Int} (tgt : Nat) (hd : decode cc pc = .ok (.ifCond .lt off, 3)) (ht : (pc : Int) + off = (tgt : Int)) : gz_ok (gz_Z p l e R s m args below meth c cells slots Q nL a G) Kr pc (gz_if (pc + 3) tgt (fun x => x < 0) (fun x => ¬ x < 0)) := by
  intro K hK L st u h
  replace h := gz_popi_inv h
  obtain ⟨x, r, rfl, h⟩ := h
  intro H locs ls hl hg
  exact lv_if_lt hx hb hd ht (fun q => hK _ _ _ _ (h.1 q) H locs ls hl hg) (fun q => hK _ _ _ _ (h.2 q) H locs ls hl hg)
theorem gz_o_if_ge (hx : p.tables.exec = Jvm.exec) (hb : c.code = cc) {off : Int} (tgt : Nat) (hd : decode cc pc = .ok (.ifCond .ge off, 3)) (ht : (pc : Int) + off = (tgt : Int)) : gz_ok (gz_Z p l e R s m args below meth c cells slots Q nL a G) Kr pc (gz_if (pc + 3) tgt (fun x => 0 ≤ x) (fun x => ¬ 0 ≤ x)) := by
  intro K hK L st u h
  replace h := gz_popi_inv h
  obtain ⟨x, r, rfl, h⟩ := h
  intro H locs ls hl hg
  exact lv_if_ge hx hb hd ht (fun q => hK _ _ _ _ (h.1 q) H locs ls hl hg) (fun q => hK _ _ _ _ (h.2 q) H locs ls hl hg)
theorem gz_o_if_gt (hx : p.tables.exec = Jvm.exec) (hb : c.code = cc) {off : Int} (tgt : Nat) (hd : decode cc pc = .ok (.ifCond .gt off, 3)) (ht : (pc : Int) + off = (tgt : Int)) : gz_ok (gz_Z p l e R s m args below meth c cells slots Q nL a G) Kr pc (gz_if (pc + 3) tgt (fun x => 0 < x) (fun x => ¬ 0 < x)) := by
  intro K hK L st u h
  replace h := gz_popi_inv h
  obtain ⟨x, r, rfl, h⟩ := h
  intro H locs ls hl hg
  exact lv_if_gt hx hb hd ht (fun q => hK _ _ _ _ (h.1 q) H locs ls hl hg) (fun q => hK _ _ _ _ (h.2 q) H locs ls hl hg)
theorem gz_o_if_le (hx : p.tables.exec = Jvm.exec) (hb : c.code = cc) {off : Int} (tgt : Nat) (hd : decode cc pc = .ok (.ifCond .le off, 3)) (ht : (pc : Int) + off = (tgt : Int)) : gz_ok (gz_Z p l e R s m args below meth c cells slots Q nL a G) Kr pc (gz_if (pc + 3) tgt (fun x => x ≤ 0) (fun x => ¬ x ≤ 0)) := by
  intro K hK L st u h
  replace h := gz_popi_inv h
  obtain ⟨x, r, rfl, h⟩ := h
  intro H locs ls hl hg
  exact lv_if_le hx hb hd ht (fun q => hK _ _ _ _ (h.1 q) H locs ls hl hg) (fun q => hK _ _ _ _ (h.2 q) H locs ls hl hg)
theorem gz_o_ic_eq (hx : p.tables.exec = Jvm.exec) (hb : c.code = cc) {off : Int} (tgt : Nat) (hd : decode cc pc = .ok (.if_icmp .eq off, 3)) (ht : (pc : Int) + off = (tgt : Int)) : gz_ok (gz_Z p l e R s m args below meth c cells slots Q nL a G) Kr pc (gz_if2 (pc + 3) tgt (fun x y => x = y) (fun x y => ¬ x = y)) := by
  intro K hK L st u h
  replace h := gz_popi_inv h
  obtain ⟨y, r1, rfl, h⟩ := h
  replace h := gz_popi_inv h
  obtain ⟨x, r, rfl, h⟩ := h
  intro H locs ls hl hg
  exact lv_icmp_eq hx hb hd ht (fun q => hK _ _ _ _ (h.1 q) H locs ls hl hg) (fun q => hK _ _ _ _ (h.2 q) H locs ls hl hg)
theorem gz_o_ic_ne (hx : p.tables.exec = Jvm.exec) (hb : c.code = cc) {off : Int} (tgt : Nat) (hd : decode cc pc = .ok (.if_icmp .ne off, 3)) (ht : (pc : Int) + off = (tgt : Int)) : gz_ok (gz_Z p l e R s m args below meth c cells slots Q nL a G) Kr pc (gz_if2 (pc + 3) tgt (fun x y => ¬ x = y) (fun x y => x = y)) := by
  intro K hK L st u h
  replace h := gz_popi_inv h
  obtain ⟨y, r1, rfl, h⟩ := h
  replace h := gz_popi_inv h
  obtain ⟨x, r, rfl, h⟩ := h
  intro H locs ls hl hg
  exact lv_icmp_ne hx hb hd ht (fun q => hK _ _ _ _ (h.1 q) H locs ls hl hg) (fun q => hK _ _ _ _ (h.2 q) H locs ls hl hg)
theorem gz_o_ic_lt (hx : p.tables.exec = Jvm.exec) (hb : c.code = cc) {off : Int} (tgt : Nat) (hd : decode cc pc = .ok (.if_icmp .lt off, 3)) (ht : (pc : Int) + off = (tgt : Int)) : gz_ok (gz_Z p l e R s m args below meth c cells slots Q nL a G) Kr pc (gz_if2 (pc + 3) tgt (fun x y => x < y) (fun x y => ¬ x < y)) := by
  intro K hK L st u h
  replace h := gz_popi_inv h
  obtain ⟨y, r1, rfl, h⟩ := h
  replace h := gz_popi_inv h
  obtain ⟨x, r, rfl, h⟩ := h
  intro H locs ls hl hg
  exact lv_icmp_lt hx hb hd ht (fun q => hK _ _ _ _ (h.1 q) H locs ls hl hg) (fun q => hK _ _ _ _ (h.2 q) H locs ls hl hg)
theorem gz_o_ic_ge (hx : p.tables.exec = Jvm.exec) (hb : c.code = cc) {off : Int} (tgt : Nat) (hd : decode cc pc = .ok (.if_icmp .ge off, 3)) (ht : (pc : Int) + off = (tgt : Int)) : gz_ok (gz_Z p l e R s m args below meth c cells slots Q nL a G) Kr pc (gz_if2 (pc + 3) tgt (fun x y => y ≤ x) (fun x y => ¬ y ≤ x)) := by
  intro K hK L st u h
  replace h := gz_popi_inv h
  obtain ⟨y, r1, rfl, h⟩ := h
  replace h := gz_popi_inv h
  obtain ⟨x, r, rfl, h⟩ := h
  intro H locs ls hl hg
  exact lv_icmp_ge hx hb hd ht (fun q => hK _ _ _ _ (h.1 q) H locs ls hl hg) (fun q => hK _ _ _ _ (h.2 q) H locs ls hl hg)
theorem gz_o_ic_gt (hx : p.tables.exec = Jvm.exec) (hb : c.code = cc) {off : Int} (tgt : Nat) (hd : decode cc pc = .ok (.if_icmp .gt off, 3)) (ht : (pc : Int) + off = (tgt : Int)) : gz_ok (gz_Z p l e R s m args below meth c cells slots Q nL a G) Kr pc (gz_if2 (pc + 3) tgt (fun x y => y < x) (fun x y => ¬ y < x)) := by
  intro K hK L st u h
  replace h := gz_popi_inv h
  obtain ⟨y, r1, rfl, h⟩ := h
  replace h := gz_popi_inv h
  obtain ⟨x, r, rfl, h⟩ := h
  intro H locs ls hl hg
  exact lv_icmp_gt hx hb hd ht (fun q => hK _ _ _ _ (h.1 q) H locs ls hl hg) (fun q => hK _ _ _ _ (h.2 q) H locs ls hl hg)
theorem gz_o_ic_le (hx : p.tables.exec = Jvm.exec) (hb : c.code = cc) {off : Int} (tgt : Nat) (hd : decode cc pc = .ok (.if_icmp .le off, 3)) (ht : (pc : Int) + off = (tgt : Int)) : gz_ok (gz_Z p l e R s m args below meth c cells slots Q nL a G) Kr pc (gz_if2 (pc + 3) tgt (fun x y => x ≤ y) (fun x y => ¬ x ≤ y)) := by
  intro K hK L st u h
  replace h := gz_popi_inv h
  obtain ⟨y, r1, rfl, h⟩ := h
  replace h := gz_popi_inv h
  obtain ⟨x, r, rfl, h⟩ := h
  intro H locs ls hl hg
  exact lv_icmp_le hx hb hd ht (fun q => hK _ _ _ _ (h.1 q) H locs ls hl hg) (fun q => hK _ _ _ _ (h.2 q) H locs ls hl hg)
theorem gz_o_goto (hx : p.tables.exec = Jvm.exec) (hb : c.code = cc) {off : Int} (tgt : Nat) (hd : decode cc pc = .ok (.goto off, 3)) (ht : (pc : Int) + off = (tgt : Int)) : gz_ok (gz_Z p l e R s m args below meth c cells slots Q nL a G) Kr pc (gz_goto tgt) := by
  intro K hK L st u h
  intro H locs ls hl hg
  exact lv_goto hx hb hd ht (hK _ _ _ _ h H locs ls hl hg)
theorem gz_o_sw (hx : p.tables.exec = Jvm.exec) (hb : c.code = cc) {dflt lo hi : Int} {offs : Array Int} {len : Nat} (ts : List (Int32 × Nat)) (d : Nat) (hd : decode cc pc = .ok (.tableswitch dflt lo hi offs, len)) (h1 : ∀ q ∈ ts, ¬ q.1.toInt < lo ∧ ¬ hi < q.1.toInt ∧ (offs[(q.1.toInt - lo).toNat]?).map (fun o => (pc : Int) + o) = some (q.2 : Int)) (h2 : ∀ n : Nat, n < (hi - lo + 1).toNat → ∃ q ∈ ts, q.1.toInt = lo + n) (h3 : (pc : Int) + dflt = (d : Int)) : gz_ok (gz_Z p l e R s m args below meth c cells slots Q nL a G) Kr pc (gz_sw ts d) := by
  intro K hK L st u h
  replace h := gz_popi_inv h
  obtain ⟨x, r, rfl, h⟩ := h
  intro H locs ls hl hg
  have key : ∀ (l1 : List (Int32 × Nat)), (∀ q ∈ l1, q ∈ ts) → gz_swc x (fun t => K t L r u) d l1 → (∃ q ∈ l1, x = q.1 ∧ K q.2 L r u) ∨ ((∀ q ∈ l1, ¬ x = q.1) ∧ K d L r u) := by
    intro l1
    induction l1 with
    | nil => exact fun _ hh => Or.inr ⟨fun q hq => absurd hq List.not_mem_nil, hh⟩
    | cons q l2 ih =>
      intro hs hh
      by_cases hq : x = q.1
      · exact Or.inl ⟨q, List.mem_cons_self, hq, hh.1 hq⟩
      · rcases ih (fun z hz => hs z (List.mem_cons_of_mem _ hz)) (hh.2 hq) with ⟨z, hz, hz2⟩ | ⟨hz, hz2⟩
        · exact Or.inl ⟨z, List.mem_cons_of_mem _ hz, hz2⟩
        · refine Or.inr ⟨fun z hz3 => ?_, hz2⟩
          rcases List.mem_cons.mp hz3 with h5 | h5
          · rw [h5]; exact hq
          · exact hz z h5
  rcases key ts (fun _ hq => hq) h with ⟨q, hq, e1, hk⟩ | ⟨hno, hk⟩
  · obtain ⟨g1, g2, g3⟩ := h1 q hq
    cases ho : offs[(q.1.toInt - lo).toNat]? with
    | none => rw [ho] at g3; cases g3
    | some o =>
      rw [ho] at g3
      subst e1
      exact lv_tableIn hx hb hd g1 g2 ho (Option.some.inj g3) (hK _ _ _ _ hk H locs ls hl hg)
  · refine lv_tableOut hx hb hd ?_ h3 (hK _ _ _ _ hk H locs ls hl hg)
    by_cases k1 : x.toInt < lo
    · exact Or.inl k1
    · by_cases k2 : hi < x.toInt
      · exact Or.inr k2
      · exfalso
        obtain ⟨q, hq, e1⟩ := h2 (x.toInt - lo).toNat (by omega)
        refine hno q hq (Int32.toInt_inj.mp ?_)
        rw [e1]
        omega
/-- what an instruction of the heap gives: from av on the stack and the state u to r on the stack and the state z -/
def gz_mv (p : Program) (l : Launch) (e : Env) (R : Room) (s : State) (m : MethodId) (args : Array Value) (below : List Frame) (meth : Method) (c : Code) (cells slots : Nat) (Q : State → Prop) (nL : Nat) (a : Nat → Nat) {S : Type} (G : S → Heap → List Loc → Prop) (nx pc : Nat) (av : List gz_V) (u : S) (r : List gz_V) (z : S) : Prop :=
  ∀ (H : Heap) (locs : List Loc) (ls : Array Slot) (rest : List gz_V), G u H locs → (∀ (H1 : Heap) (locs1 : List Loc), G z H1 locs1 → W p l e R s m args below meth c H1 locs1 cells slots Q (F0 m nx ls (gz_cs a (r ++ rest)))) → W p l e R s m args below meth c H locs cells slots Q (F0 m pc ls (gz_cs a (av ++ rest)))
/-- a call likewise: little lies below it -/
def gz_cb (p : Program) (l : Launch) (e : Env) (R : Room) (s : State) (m : MethodId) (args : Array Value) (below : List Frame) (meth : Method) (c : Code) (cells slots : Nat) (Q : State → Prop) (nL : Nat) (a : Nat → Nat) {S : Type} (G : S → Heap → List Loc → Prop) (nx pc : Nat) (av : List gz_V) (u : S) (r : List gz_V) (z : S) : Prop :=
  ∀ (H : Heap) (locs : List Loc) (ls : Array Slot) (rest : List gz_V), gz_dep rest ≤ 8 → ls.size = nL → G u H locs → (∀ (H1 : Heap) (locs1 : List Loc), G z H1 locs1 → W p l e R s m args below meth c H1 locs1 cells slots Q (F0 m nx ls (gz_cs a (r ++ rest)))) → W p l e R s m args below meth c H locs cells slots Q (F0 m pc ls (gz_cs a (av ++ rest)))
theorem gz_o_getR {i j : Nat} (hr : ∀ u : S, gz_mv p l e R s m args below meth c cells slots Q nL a G (pc + 3) pc [gz_r i] u [gz_r j] u) : gz_ok (gz_Z p l e R s m args below meth c cells slots Q nL a G) Kr pc (gz_getR (pc + 3) i j) := by
  intro K hK L st u h
  replace h := gz_popj_inv h
  obtain ⟨r, rfl, h⟩ := h
  intro H locs ls hl hg
  exact hr u H locs ls r hg (fun H1 locs1 hg1 => hK _ _ _ _ h H1 locs1 ls hl hg1)
theorem gz_o_getI {i : Nat} {g : S → Int32} (hr : ∀ u : S, gz_mv p l e R s m args below meth c cells slots Q nL a G (pc + 3) pc [gz_r i] u [gz_i (g u)] u) : gz_ok (gz_Z p l e R s m args below meth c cells slots Q nL a G) Kr pc (gz_getI (pc + 3) i g) := by
  intro K hK L st u h
  replace h := gz_popj_inv h
  obtain ⟨r, rfl, h⟩ := h
  intro H locs ls hl hg
  exact hr u H locs ls r hg (fun H1 locs1 hg1 => hK _ _ _ _ h H1 locs1 ls hl hg1)
theorem gz_o_getL {i : Nat} {g : S → Int64} (hr : ∀ u : S, gz_mv p l e R s m args below meth c cells slots Q nL a G (pc + 3) pc [gz_r i] u [gz_l (g u)] u) : gz_ok (gz_Z p l e R s m args below meth c cells slots Q nL a G) Kr pc (gz_getL (pc + 3) i g) := by
  intro K hK L st u h
  replace h := gz_popj_inv h
  obtain ⟨r, rfl, h⟩ := h
  intro H locs ls hl hg
  exact hr u H locs ls r hg (fun H1 locs1 hg1 => hK _ _ _ _ h H1 locs1 ls hl hg1)
theorem gz_o_putI {i : Nat} {f : S → Int32 → S} (hr : ∀ (u : S) (x : Int32), gz_mv p l e R s m args below meth c cells slots Q nL a G (pc + 3) pc [gz_i x, gz_r i] u [] (f u x)) : gz_ok (gz_Z p l e R s m args below meth c cells slots Q nL a G) Kr pc (gz_putI (pc + 3) i f) := by
  intro K hK L st u h
  replace h := gz_popi_inv h
  obtain ⟨x, r1, rfl, h⟩ := h
  replace h := gz_popj_inv h
  obtain ⟨r, rfl, h⟩ := h
  intro H locs ls hl hg
  exact hr u x H locs ls r hg (fun H1 locs1 hg1 => hK _ _ _ _ h H1 locs1 ls hl hg1)
theorem gz_o_putL {i : Nat} {f : S → Int64 → S} (hr : ∀ (u : S) (x : Int64), gz_mv p l e R s m args below meth c cells slots Q nL a G (pc + 3) pc [gz_l x, gz_r i] u [] (f u x)) : gz_ok (gz_Z p l e R s m args below meth c cells slots Q nL a G) Kr pc (gz_putL (pc + 3) i f) := by
  intro K hK L st u h
  replace h := gz_popl_inv h
  obtain ⟨x, r1, rfl, h⟩ := h
  replace h := gz_popj_inv h
  obtain ⟨r, rfl, h⟩ := h
  intro H locs ls hl hg
  exact hr u x H locs ls r hg (fun H1 locs1 hg1 => hK _ _ _ _ h H1 locs1 ls hl hg1)
/-- a table of arrays: what is said of a cell is said of some length, reading and writing, for which the machine's row holds -/
def gz_TI (tab : gz_AI S) (row : Nat → Nat → (S → Nat → Int32) → (S → Int32 → Int32 → S) → Prop) : Prop := ∀ (j : Nat) (k : Nat → (S → Nat → Int32) → (S → Int32 → Int32 → S) → Prop), tab j k → ∃ n g f, k n g f ∧ row j n g f
def gz_TL (tab : gz_AL S) (row : Nat → Nat → (S → Nat → Int64) → (S → Int32 → Int64 → S) → Prop) : Prop := ∀ (j : Nat) (k : Nat → (S → Nat → Int64) → (S → Int32 → Int64 → S) → Prop), tab j k → ∃ n g f, k n g f ∧ row j n g f
theorem gz_o_ild {tab : gz_AI S} (ht : gz_TI tab (fun j n g _ => ∀ (u : S) (x : Int32), vp_in x n → gz_mv p l e R s m args below meth c cells slots Q nL a G (pc + 1) pc [gz_i x, gz_r j] u [gz_i (g u x.toNatClampNeg)] u)) : gz_ok (gz_Z p l e R s m args below meth c cells slots Q nL a G) Kr pc (gz_ild (pc + 1) tab) := by
  intro K hK L st u h
  replace h := gz_popi_inv h
  obtain ⟨x, r1, rfl, h⟩ := h
  replace h := gz_popr_inv h
  obtain ⟨j, r, rfl, h⟩ := h
  replace h := ht j _ h
  obtain ⟨n, g, f, ⟨hi, h⟩, hr⟩ := h
  intro H locs ls hl hg
  exact hr u x hi H locs ls r hg (fun H1 locs1 hg1 => hK _ _ _ _ h H1 locs1 ls hl hg1)
theorem gz_o_lld {tab : gz_AL S} (ht : gz_TL tab (fun j n g _ => ∀ (u : S) (x : Int32), vp_in x n → gz_mv p l e R s m args below meth c cells slots Q nL a G (pc + 1) pc [gz_i x, gz_r j] u [gz_l (g u x.toNatClampNeg)] u)) : gz_ok (gz_Z p l e R s m args below meth c cells slots Q nL a G) Kr pc (gz_lld (pc + 1) tab) := by
  intro K hK L st u h
  replace h := gz_popi_inv h
  obtain ⟨x, r1, rfl, h⟩ := h
  replace h := gz_popr_inv h
  obtain ⟨j, r, rfl, h⟩ := h
  replace h := ht j _ h
  obtain ⟨n, g, f, ⟨hi, h⟩, hr⟩ := h
  intro H locs ls hl hg
  exact hr u x hi H locs ls r hg (fun H1 locs1 hg1 => hK _ _ _ _ h H1 locs1 ls hl hg1)
theorem gz_o_ist {tab : gz_AI S} (ht : gz_TI tab (fun j n g f => ∀ (u : S) (x y : Int32), vp_in x n → gz_mv p l e R s m args below meth c cells slots Q nL a G (pc + 1) pc [gz_i y, gz_i x, gz_r j] u [] (f u x y))) : gz_ok (gz_Z p l e R s m args below meth c cells slots Q nL a G) Kr pc (gz_ist (pc + 1) tab) := by
  intro K hK L st u h
  replace h := gz_popi_inv h
  obtain ⟨y, r2, rfl, h⟩ := h
  replace h := gz_popi_inv h
  obtain ⟨x, r1, rfl, h⟩ := h
  replace h := gz_popr_inv h
  obtain ⟨j, r, rfl, h⟩ := h
  replace h := ht j _ h
  obtain ⟨n, g, f, ⟨hi, h⟩, hr⟩ := h
  intro H locs ls hl hg
  exact hr u x y hi H locs ls r hg (fun H1 locs1 hg1 => hK _ _ _ _ h H1 locs1 ls hl hg1)
theorem gz_o_zst {tab : gz_AI S} (ht : gz_TI tab (fun j n g f => ∀ (u : S) (x y : Int32), vp_in x n → gz_mv p l e R s m args below meth c cells slots Q nL a G (pc + 1) pc [gz_i y, gz_i x, gz_r j] u [] (f u x (vp_nar .boolean y)))) : gz_ok (gz_Z p l e R s m args below meth c cells slots Q nL a G) Kr pc (gz_zst (pc + 1) tab) := by
  intro K hK L st u h
  replace h := gz_popi_inv h
  obtain ⟨y, r2, rfl, h⟩ := h
  replace h := gz_popi_inv h
  obtain ⟨x, r1, rfl, h⟩ := h
  replace h := gz_popr_inv h
  obtain ⟨j, r, rfl, h⟩ := h
  replace h := ht j _ h
  obtain ⟨n, g, f, ⟨hi, h⟩, hr⟩ := h
  intro H locs ls hl hg
  exact hr u x y hi H locs ls r hg (fun H1 locs1 hg1 => hK _ _ _ _ h H1 locs1 ls hl hg1)
theorem gz_o_lst {tab : gz_AL S} (ht : gz_TL tab (fun j n g f => ∀ (u : S) (x : Int32) (y : Int64), vp_in x n → gz_mv p l e R s m args below meth c cells slots Q nL a G (pc + 1) pc [gz_l y, gz_i x, gz_r j] u [] (f u x y))) : gz_ok (gz_Z p l e R s m args below meth c cells slots Q nL a G) Kr pc (gz_lst (pc + 1) tab) := by
  intro K hK L st u h
  replace h := gz_popl_inv h
  obtain ⟨y, r2, rfl, h⟩ := h
  replace h := gz_popi_inv h
  obtain ⟨x, r1, rfl, h⟩ := h
  replace h := gz_popr_inv h
  obtain ⟨j, r, rfl, h⟩ := h
  replace h := ht j _ h
  obtain ⟨n, g, f, ⟨hi, h⟩, hr⟩ := h
  intro H locs ls hl hg
  exact hr u x y hi H locs ls r hg (fun H1 locs1 hg1 => hK _ _ _ _ h H1 locs1 ls hl hg1)
theorem gz_o_s1P {f : Int32 → Int32} (hr : ∀ (u : S) (x : Int32), gz_cb p l e R s m args below meth c cells slots Q nL a G (pc + 3) pc [gz_i x] u [gz_i (f x)] (u)) : gz_ok (gz_Z p l e R s m args below meth c cells slots Q nL a G) Kr pc (gz_s1P (pc + 3) f) := by
  intro K hK L st u h
  replace h := gz_popi_inv h
  obtain ⟨x, r, rfl, h⟩ := h
  replace h := gz_low_inv h
  obtain ⟨hlow, h⟩ := h
  intro H locs ls hl hg
  exact hr u x H locs ls r hlow hl.1 hg (fun H1 locs1 hg1 => hK _ _ _ _ h H1 locs1 ls hl hg1)
theorem gz_o_s3P {f : Int32 → Int32 → Int32 → Int32} (hr : ∀ (u : S) (x y z : Int32), gz_cb p l e R s m args below meth c cells slots Q nL a G (pc + 3) pc [gz_i z, gz_i y, gz_i x] u [gz_i (f x y z)] (u)) : gz_ok (gz_Z p l e R s m args below meth c cells slots Q nL a G) Kr pc (gz_s3P (pc + 3) f) := by
  intro K hK L st u h
  replace h := gz_popi_inv h
  obtain ⟨z, r3, rfl, h⟩ := h
  replace h := gz_popi_inv h
  obtain ⟨y, r2, rfl, h⟩ := h
  replace h := gz_popi_inv h
  obtain ⟨x, r, rfl, h⟩ := h
  replace h := gz_low_inv h
  obtain ⟨hlow, h⟩ := h
  intro H locs ls hl hg
  exact hr u x y z H locs ls r hlow hl.1 hg (fun H1 locs1 hg1 => hK _ _ _ _ h H1 locs1 ls hl hg1)
theorem gz_o_c0P {i : Nat} {f : S → Int32} (hr : ∀ (u : S), gz_cb p l e R s m args below meth c cells slots Q nL a G (pc + 3) pc [gz_r i] u [gz_i (f u)] (u)) : gz_ok (gz_Z p l e R s m args below meth c cells slots Q nL a G) Kr pc (gz_c0P (pc + 3) i f) := by
  intro K hK L st u h
  replace h := gz_popj_inv h
  obtain ⟨r, rfl, h⟩ := h
  replace h := gz_low_inv h
  obtain ⟨hlow, h⟩ := h
  intro H locs ls hl hg
  exact hr u H locs ls r hlow hl.1 hg (fun H1 locs1 hg1 => hK _ _ _ _ h H1 locs1 ls hl hg1)
theorem gz_o_c1P {i : Nat} {pre : S → Int32 → Prop} {f : S → Int32 → Int32} (hr : ∀ (u : S) (x : Int32), pre u x → gz_cb p l e R s m args below meth c cells slots Q nL a G (pc + 3) pc [gz_i x, gz_r i] u [gz_i (f u x)] (u)) : gz_ok (gz_Z p l e R s m args below meth c cells slots Q nL a G) Kr pc (gz_c1P (pc + 3) i pre f) := by
  intro K hK L st u h
  replace h := gz_popi_inv h
  obtain ⟨x, r1, rfl, h⟩ := h
  replace h := gz_popj_inv h
  obtain ⟨r, rfl, h⟩ := h
  replace h := gz_low_inv h
  obtain ⟨hlow, hp, h⟩ := h
  intro H locs ls hl hg
  exact hr u x hp H locs ls r hlow hl.1 hg (fun H1 locs1 hg1 => hK _ _ _ _ h H1 locs1 ls hl hg1)
theorem gz_o_c2P {i : Nat} {pre : S → Int32 → Int32 → Prop} {f : S → Int32 → Int32 → Int32} (hr : ∀ (u : S) (x y : Int32), pre u x y → gz_cb p l e R s m args below meth c cells slots Q nL a G (pc + 3) pc [gz_i y, gz_i x, gz_r i] u [gz_i (f u x y)] (u)) : gz_ok (gz_Z p l e R s m args below meth c cells slots Q nL a G) Kr pc (gz_c2P (pc + 3) i pre f) := by
  intro K hK L st u h
  replace h := gz_popi_inv h
  obtain ⟨y, r2, rfl, h⟩ := h
  replace h := gz_popi_inv h
  obtain ⟨x, r1, rfl, h⟩ := h
  replace h := gz_popj_inv h
  obtain ⟨r, rfl, h⟩ := h
  replace h := gz_low_inv h
  obtain ⟨hlow, hp, h⟩ := h
  intro H locs ls hl hg
  exact hr u x y hp H locs ls r hlow hl.1 hg (fun H1 locs1 hg1 => hK _ _ _ _ h H1 locs1 ls hl hg1)
theorem gz_o_c1lP {i : Nat} {pre : S → Int32 → Int64 → Prop} {f : S → Int32 → Int64 → Int32} (hr : ∀ (u : S) (x : Int32) (y : Int64), pre u x y → gz_cb p l e R s m args below meth c cells slots Q nL a G (pc + 3) pc [gz_l y, gz_i x, gz_r i] u [gz_i (f u x y)] (u)) : gz_ok (gz_Z p l e R s m args below meth c cells slots Q nL a G) Kr pc (gz_c1lP (pc + 3) i pre f) := by
  intro K hK L st u h
  replace h := gz_popl_inv h
  obtain ⟨y, r2, rfl, h⟩ := h
  replace h := gz_popi_inv h
  obtain ⟨x, r1, rfl, h⟩ := h
  replace h := gz_popj_inv h
  obtain ⟨r, rfl, h⟩ := h
  replace h := gz_low_inv h
  obtain ⟨hlow, hp, h⟩ := h
  intro H locs ls hl hg
  exact hr u x y hp H locs ls r hlow hl.1 hg (fun H1 locs1 hg1 => hK _ _ _ _ h H1 locs1 ls hl hg1)
theorem gz_o_c1I {i : Nat} {pre : S → Int32 → Prop} {f : S → Int32 → Int32} {g : S → Int32 → S} (hr : ∀ (u : S) (x : Int32), pre u x → gz_cb p l e R s m args below meth c cells slots Q nL a G (pc + 3) pc [gz_i x, gz_r i] u [gz_i (f u x)] (g u x)) : gz_ok (gz_Z p l e R s m args below meth c cells slots Q nL a G) Kr pc (gz_c1I (pc + 3) i pre f g) := by
  intro K hK L st u h
  replace h := gz_popi_inv h
  obtain ⟨x, r1, rfl, h⟩ := h
  replace h := gz_popj_inv h
  obtain ⟨r, rfl, h⟩ := h
  replace h := gz_low_inv h
  obtain ⟨hlow, hp, h⟩ := h
  intro H locs ls hl hg
  exact hr u x hp H locs ls r hlow hl.1 hg (fun H1 locs1 hg1 => hK _ _ _ _ h H1 locs1 ls hl hg1)
theorem gz_o_c2I {i : Nat} {pre : S → Int32 → Int32 → Prop} {f : S → Int32 → Int32 → Int32} {g : S → Int32 → Int32 → S} (hr : ∀ (u : S) (x y : Int32), pre u x y → gz_cb p l e R s m args below meth c cells slots Q nL a G (pc + 3) pc [gz_i y, gz_i x, gz_r i] u [gz_i (f u x y)] (g u x y)) : gz_ok (gz_Z p l e R s m args below meth c cells slots Q nL a G) Kr pc (gz_c2I (pc + 3) i pre f g) := by
  intro K hK L st u h
  replace h := gz_popi_inv h
  obtain ⟨y, r2, rfl, h⟩ := h
  replace h := gz_popi_inv h
  obtain ⟨x, r1, rfl, h⟩ := h
  replace h := gz_popj_inv h
  obtain ⟨r, rfl, h⟩ := h
  replace h := gz_low_inv h
  obtain ⟨hlow, hp, h⟩ := h
  intro H locs ls hl hg
  exact hr u x y hp H locs ls r hlow hl.1 hg (fun H1 locs1 hg1 => hK _ _ _ _ h H1 locs1 ls hl hg1)
theorem gz_o_c4I {i : Nat} {pre : S → Int32 → Int32 → Int32 → Int32 → Prop} {f : S → Int32 → Int32 → Int32 → Int32 → Int32} {g : S → Int32 → Int32 → Int32 → Int32 → S} (hr : ∀ (u : S) (x y z w : Int32), pre u x y z w → gz_cb p l e R s m args below meth c cells slots Q nL a G (pc + 3) pc [gz_i w, gz_i z, gz_i y, gz_i x, gz_r i] u [gz_i (f u x y z w)] (g u x y z w)) : gz_ok (gz_Z p l e R s m args below meth c cells slots Q nL a G) Kr pc (gz_c4I (pc + 3) i pre f g) := by
  intro K hK L st u h
  replace h := gz_popi_inv h
  obtain ⟨w, r4, rfl, h⟩ := h
  replace h := gz_popi_inv h
  obtain ⟨z, r3, rfl, h⟩ := h
  replace h := gz_popi_inv h
  obtain ⟨y, r2, rfl, h⟩ := h
  replace h := gz_popi_inv h
  obtain ⟨x, r1, rfl, h⟩ := h
  replace h := gz_popj_inv h
  obtain ⟨r, rfl, h⟩ := h
  replace h := gz_low_inv h
  obtain ⟨hlow, hp, h⟩ := h
  intro H locs ls hl hg
  exact hr u x y z w hp H locs ls r hlow hl.1 hg (fun H1 locs1 hg1 => hK _ _ _ _ h H1 locs1 ls hl hg1)
theorem gz_o_c1V {i : Nat} {pre : S → Int32 → Prop} {g : S → Int32 → S} (hr : ∀ (u : S) (x : Int32), pre u x → gz_cb p l e R s m args below meth c cells slots Q nL a G (pc + 3) pc [gz_i x, gz_r i] u [] (g u x)) : gz_ok (gz_Z p l e R s m args below meth c cells slots Q nL a G) Kr pc (gz_c1V (pc + 3) i pre g) := by
  intro K hK L st u h
  replace h := gz_popi_inv h
  obtain ⟨x, r1, rfl, h⟩ := h
  replace h := gz_popj_inv h
  obtain ⟨r, rfl, h⟩ := h
  replace h := gz_low_inv h
  obtain ⟨hlow, hp, h⟩ := h
  intro H locs ls hl hg
  exact hr u x hp H locs ls r hlow hl.1 hg (fun H1 locs1 hg1 => hK _ _ _ _ h H1 locs1 ls hl hg1)
theorem gz_o_c2V {i : Nat} {pre : S → Int32 → Int32 → Prop} {g : S → Int32 → Int32 → S} (hr : ∀ (u : S) (x y : Int32), pre u x y → gz_cb p l e R s m args below meth c cells slots Q nL a G (pc + 3) pc [gz_i y, gz_i x, gz_r i] u [] (g u x y)) : gz_ok (gz_Z p l e R s m args below meth c cells slots Q nL a G) Kr pc (gz_c2V (pc + 3) i pre g) := by
  intro K hK L st u h
  replace h := gz_popi_inv h
  obtain ⟨y, r2, rfl, h⟩ := h
  replace h := gz_popi_inv h
  obtain ⟨x, r1, rfl, h⟩ := h
  replace h := gz_popj_inv h
  obtain ⟨r, rfl, h⟩ := h
  replace h := gz_low_inv h
  obtain ⟨hlow, hp, h⟩ := h
  intro H locs ls hl hg
  exact hr u x y hp H locs ls r hlow hl.1 hg (fun H1 locs1 hg1 => hK _ _ _ _ h H1 locs1 ls hl hg1)
theorem gz_o_c1lI {i : Nat} {pre : S → Int32 → Int64 → Prop} {f : S → Int32 → Int64 → Int32} {g : S → Int32 → Int64 → S} (hr : ∀ (u : S) (x : Int32) (y : Int64), pre u x y → gz_cb p l e R s m args below meth c cells slots Q nL a G (pc + 3) pc [gz_l y, gz_i x, gz_r i] u [gz_i (f u x y)] (g u x y)) : gz_ok (gz_Z p l e R s m args below meth c cells slots Q nL a G) Kr pc (gz_c1lI (pc + 3) i pre f g) := by
  intro K hK L st u h
  replace h := gz_popl_inv h
  obtain ⟨y, r2, rfl, h⟩ := h
  replace h := gz_popi_inv h
  obtain ⟨x, r1, rfl, h⟩ := h
  replace h := gz_popj_inv h
  obtain ⟨r, rfl, h⟩ := h
  replace h := gz_low_inv h
  obtain ⟨hlow, hp, h⟩ := h
  intro H locs ls hl hg
  exact hr u x y hp H locs ls r hlow hl.1 hg (fun H1 locs1 hg1 => hK _ _ _ _ h H1 locs1 ls hl hg1)
theorem gz_o_clI {i : Nat} {pre : S → Int64 → Prop} {f : S → Int64 → Int32} {g : S → Int64 → S} (hr : ∀ (u : S) (x : Int64), pre u x → gz_cb p l e R s m args below meth c cells slots Q nL a G (pc + 3) pc [gz_l x, gz_r i] u [gz_i (f u x)] (g u x)) : gz_ok (gz_Z p l e R s m args below meth c cells slots Q nL a G) Kr pc (gz_clI (pc + 3) i pre f g) := by
  intro K hK L st u h
  replace h := gz_popl_inv h
  obtain ⟨x, r1, rfl, h⟩ := h
  replace h := gz_popj_inv h
  obtain ⟨r, rfl, h⟩ := h
  replace h := gz_low_inv h
  obtain ⟨hlow, hp, h⟩ := h
  intro H locs ls hl hg
  exact hr u x hp H locs ls r hlow hl.1 hg (fun H1 locs1 hg1 => hK _ _ _ _ h H1 locs1 ls hl hg1)
theorem gz_o_alen {i : Nat} {n : Int32} (hr : ∀ u : S, gz_mv p l e R s m args below meth c cells slots Q nL a G (pc + 1) pc [gz_r i] u [gz_i n] u) : gz_ok (gz_Z p l e R s m args below meth c cells slots Q nL a G) Kr pc (gz_alen (pc + 1) i n) := by
  intro K hK L st u h
  replace h := gz_popj_inv h
  obtain ⟨r, rfl, h⟩ := h
  intro H locs ls hl hg
  exact hr u H locs ls r hg (fun H1 locs1 hg1 => hK _ _ _ _ h H1 locs1 ls hl hg1)
/-- the ends: fin r u: the machine's row of a return with r -/
theorem gz_o_iret (hr : ∀ (u : S) (x : Int32), Kr (some x) u → ∀ (H : Heap) (locs : List Loc) (ls : Array Slot), G u H locs → W p l e R s m args below meth c H locs cells slots Q (F0 m pc ls [.int x])) : gz_ok (gz_Z p l e R s m args below meth c cells slots Q nL a G) Kr pc gz_iret := by
  intro K hK L st u h
  replace h := gz_popi_inv h
  obtain ⟨x, r, rfl, h⟩ := h
  replace h := gz_nil_inv h
  obtain ⟨rfl, h⟩ := h
  intro H locs ls hl hg
  exact hr u x h H locs ls hg
theorem gz_o_zret (hr : ∀ (u : S) (x : Int32), narrow .boolean (.int x) = .int x → Kr (some x) u → ∀ (H : Heap) (locs : List Loc) (ls : Array Slot), G u H locs → W p l e R s m args below meth c H locs cells slots Q (F0 m pc ls [.int x])) : gz_ok (gz_Z p l e R s m args below meth c cells slots Q nL a G) Kr pc gz_zret := by
  intro K hK L st u h
  replace h := gz_popi_inv h
  obtain ⟨x, r, rfl, h⟩ := h
  replace h := gz_nil_inv h
  obtain ⟨rfl, hn, h⟩ := h
  intro H locs ls hl hg
  exact hr u x hn h H locs ls hg
theorem gz_o_vret (hr : ∀ (u : S), Kr none u → ∀ (H : Heap) (locs : List Loc) (ls : Array Slot), G u H locs → W p l e R s m args below meth c H locs cells slots Q (F0 m pc ls [])) : gz_ok (gz_Z p l e R s m args below meth c cells slots Q nL a G) Kr pc gz_vret := by
  intro K hK L st u h
  replace h := gz_nil_inv h
  obtain ⟨rfl, h⟩ := h
  intro H locs ls hl hg
  exact hr u h H locs ls hg
end GZO
end
section
/-! OWN ENGINE, third part: what the heap's rows and the calls give where G is a world; contracts out of a table's run -/
/-- fewer places of a list, by their places in it -/
def gz_pick (L : gz_L) (ks : List Nat) : gz_L := ks.filterMap (fun k => L[k]?)
/-- what a table does from its entry: of every predicate that is closed under runs of the table, and that may forget places -/
def gz_shut {S : Type} (tb : List (Nat × gz_T S)) (Kr : Option Int32 → S → Prop) (Z : gz_K S) : Prop :=
  (∀ (stops : List Nat) (n pc : Nat) (L : gz_L) (st : List gz_V) (u : S), gz_one tb (gz_run tb stops Z Kr n) Kr pc L st u → Z pc L st u) ∧ ∀ (ks : List Nat) (pc : Nat) (L : gz_L) (st : List gz_V) (u : S), Z pc (gz_pick L ks) st u → Z pc L st u
def gz_does {S : Type} (tb : List (Nat × gz_T S)) (Kr : Option Int32 → S → Prop) (L0 : gz_L) (u : S) : Prop := ∀ Z : gz_K S, gz_shut tb Kr Z → Z 0 L0 [] u
theorem gz_shut_Z {S : Type} {p : Program} {l : Launch} {e : Env} {R : Room} {s : State} {m : MethodId} {args : Array Value} {below : List Frame} {meth : Method} {c : Code} {cells slots : Nat} {Q : State → Prop} {nL : Nat} {a : Nat → Nat} {G : S → Heap → List Loc → Prop} {Kr : Option Int32 → S → Prop} {tb : List (Nat × gz_T S)} (ho : gz_oks (gz_Z p l e R s m args below meth c cells slots Q nL a G) Kr tb) : gz_shut tb Kr (gz_Z p l e R s m args below meth c cells slots Q nL a G) := by
  refine ⟨fun stops n pc L st u h => gz_go ho stops n h, fun ks pc L st u h => ?_⟩
  intro H locs ls hl hg
  refine h H locs ls ⟨hl.1, hl.2.1, fun q hq => ?_⟩ hg
  obtain ⟨w, hw, rfl⟩ := List.mem_map.mp hq
  obtain ⟨k, -, hk⟩ := List.mem_filterMap.mp hw
  exact hl.2.2 _ (List.mem_map.mpr ⟨w, List.mem_of_getElem? hk, rfl⟩)
section GZR
variable {S : Type} {p : Program} {l : Launch} {e : Env} {R : Room} {s : State} {m : MethodId} {args : Array Value} {below : List Frame} {meth : Method} {c : Code} {cells slots : Nat} {Q : State → Prop} {cc : ByteArray} {nL : Nat} {a : Nat → Nat} {Kr : Option Int32 → S → Prop} {pc : Nat}
variable {D : va_G} {cl : List vw_C} {tys : List (ClassId × FieldType)} {A : Nat → Prop} {wf : S → va_W} {as : List Nat} {u z : S} {own ref C host : String} {T : u_T} {N ci index i : Nat} {Ts : List Cond} {fs : List Value} {v : gz_V}
abbrev gz_GG (D : va_G) (cl : List vw_C) (tys : List (ClassId × FieldType)) (A : Nat → Prop) (s : State) {S : Type} (wf : S → va_W) : S → Heap → List Loc → Prop := fun u H locs => gz_G D cl tys A s (wf u) H locs
theorem gz_m_get (hx : p.tables.exec = Jvm.exec) (hb : c.code = cc) (hts : ∀ w ∈ Ts, w.before args s = true) (hin : ∀ w ∈ u_ws C T N, w ∈ Ts) (hown : s.vm.findClass own = some m.cls) (q0 : Nat) (he : (wf u)[q0]? = some (a i, .inr (ci, fs))) (hc : cl[ci]? = some (C, T, N)) (k : Nat) (hk : k < N) (hlink : (Cond.fieldLink own index ref (T k).2.1 (T k).2.2.1).before args s = true) (hsame : ∀ x, s.fieldFound? (T k).1 (T k).2.1 (T k).2.2.1 = some x → s.fieldFound? ref (T k).2.1 (T k).2.2.1 = some x) (hv : fs[k]? = some (gz_cv a v)) (hdg : decode cc pc = .ok (.getfield index, 3)) :
    gz_mv p l e R s m args below meth c cells slots Q nL a (gz_GG D cl tys A s wf) (pc + 3) pc [gz_r i] u [v] u := by
  intro H locs ls rest hg kk
  exact va_get hx hb hts hin hown hg.1 hg.2.1 q0 he hc k hk hlink hsame hv hdg (kk H locs hg)
theorem gz_m_getN (hx : p.tables.exec = Jvm.exec) (hb : c.code = cc) (hts : ∀ w ∈ Ts, w.before args s = true) (hin : ∀ w ∈ u_ws C T N, w ∈ Ts) (hown : s.vm.findClass own = some m.cls) (q0 : Nat) (he : (wf u)[q0]? = some (a i, .inr (ci, fs))) (hc : cl[ci]? = some (C, T, N)) (k : Nat) (hk : k < N) (hlink : (Cond.fieldLinkNest own index ref (T k).2.1 (T k).2.2.1 host).before args s = true) (hsame : ∀ x, s.fieldFound? (T k).1 (T k).2.1 (T k).2.2.1 = some x → s.fieldFound? ref (T k).2.1 (T k).2.2.1 = some x) (hv : fs[k]? = some (gz_cv a v)) (hdg : decode cc pc = .ok (.getfield index, 3)) :
    gz_mv p l e R s m args below meth c cells slots Q nL a (gz_GG D cl tys A s wf) (pc + 3) pc [gz_r i] u [v] u := by
  intro H locs ls rest hg kk
  exact va_getN hx hb hts hin hown hg.1 hg.2.1 q0 he hc k hk hlink hsame hv hdg (kk H locs hg)
theorem gz_m_put (hx : p.tables.exec = Jvm.exec) (hb : c.code = cc) (hts : ∀ w ∈ Ts, w.before args s = true) (hin : ∀ w ∈ u_ws C T N, w ∈ Ts) (ty0 : Nat → FieldType) (hty : ∀ k, k < N → parseFieldDescriptor (T k).2.2.1 = some (ty0 k)) (hnm : ∀ a, a < N → ∀ b, b < N → a ≠ b → (T a).2.1 ≠ (T b).2.1) (hown : s.vm.findClass own = some m.cls) (q0 : Nat) (he : (wf u)[q0]? = some (a i, .inr (ci, fs))) (hc : cl[ci]? = some (C, T, N)) (k : Nat) (hk : k < N) (hlink : (Cond.fieldLink own index ref (T k).2.1 (T k).2.2.1).before args s = true) (hsame : ∀ x, s.fieldFound? (T k).1 (T k).2.1 (T k).2.2.1 = some x → s.fieldFound? ref (T k).2.1 (T k).2.2.1 = some x) (hfin : (T k).2.2.2 = false) {ty : FieldType} (hd : parseFieldDescriptor (T k).2.2.1 = some ty) (hn : narrow ty (gz_cv a v) = gz_cv a v) (hfit : fits ty (gz_cv a v) = true) (hl : k < fs.length) (hset : (wf u).set q0 (a i, .inr (ci, fs.set k (gz_cv a v))) = wf z) (hdg : decode cc pc = .ok (.putfield index, 3)) :
    gz_mv p l e R s m args below meth c cells slots Q nL a (gz_GG D cl tys A s wf) (pc + 3) pc [v, gz_r i] u [] z := by
  intro H locs ls rest hg kk
  exact va_put hx hb hts hin ty0 hty hnm hown hg.1 hg.2.1 hg.2.2.1 hg.2.2.2 q0 he hc k hk hlink hsame hfin hd hn hfit hl hdg (fun H1 locs1 hP hD hS => kk H1 locs1 ⟨hg.1, by rw [← hset]; exact hP, by rw [← hset]; exact hD, hS⟩)
theorem gz_m_putN (hx : p.tables.exec = Jvm.exec) (hb : c.code = cc) (hts : ∀ w ∈ Ts, w.before args s = true) (hin : ∀ w ∈ u_ws C T N, w ∈ Ts) (ty0 : Nat → FieldType) (hty : ∀ k, k < N → parseFieldDescriptor (T k).2.2.1 = some (ty0 k)) (hnm : ∀ a, a < N → ∀ b, b < N → a ≠ b → (T a).2.1 ≠ (T b).2.1) (hown : s.vm.findClass own = some m.cls) (q0 : Nat) (he : (wf u)[q0]? = some (a i, .inr (ci, fs))) (hc : cl[ci]? = some (C, T, N)) (k : Nat) (hk : k < N) (hlink : (Cond.fieldLinkNest own index ref (T k).2.1 (T k).2.2.1 host).before args s = true) (hsame : ∀ x, s.fieldFound? (T k).1 (T k).2.1 (T k).2.2.1 = some x → s.fieldFound? ref (T k).2.1 (T k).2.2.1 = some x) (hfin : (T k).2.2.2 = false) {ty : FieldType} (hd : parseFieldDescriptor (T k).2.2.1 = some ty) (hn : narrow ty (gz_cv a v) = gz_cv a v) (hfit : fits ty (gz_cv a v) = true) (hl : k < fs.length) (hset : (wf u).set q0 (a i, .inr (ci, fs.set k (gz_cv a v))) = wf z) (hdg : decode cc pc = .ok (.putfield index, 3)) :
    gz_mv p l e R s m args below meth c cells slots Q nL a (gz_GG D cl tys A s wf) (pc + 3) pc [v, gz_r i] u [] z := by
  intro H locs ls rest hg kk
  exact va_putN hx hb hts hin ty0 hty hnm hown hg.1 hg.2.1 hg.2.2.1 hg.2.2.2 q0 he hc k hk hlink hsame hfin hd hn hfit hl hdg (fun H1 locs1 hP hD hS => kk H1 locs1 ⟨hg.1, by rw [← hset]; exact hP, by rw [← hset]; exact hD, hS⟩)
theorem gz_m_ild (hx : p.tables.exec = Jvm.exec) (hb : c.code = cc) (q0 t0 : Nat) {cA : ClassId} {n : Nat} {f : Nat → Int32} (ha : (wf u)[q0]? = some (a i, .inl (cA, n, .inl f))) (ht : tys[t0]? = some (cA, .int)) (hdg : decode cc pc = .ok (.iaload, 1)) {x : Int32} (hin : vp_in x n) :
    gz_mv p l e R s m args below meth c cells slots Q nL a (gz_GG D cl tys A s wf) (pc + 1) pc [gz_i x, gz_r i] u [gz_i (f x.toNatClampNeg)] u := by
  intro H locs ls rest hg kk
  exact va_iald hx hb hg.1 hg.2.1 q0 t0 ha ht hin hdg (kk H locs hg)
theorem gz_m_zld (hx : p.tables.exec = Jvm.exec) (hb : c.code = cc) (q0 t0 : Nat) {cA : ClassId} {n : Nat} {f : Nat → Int32} (ha : (wf u)[q0]? = some (a i, .inl (cA, n, .inl f))) (ht : tys[t0]? = some (cA, .boolean)) (hdg : decode cc pc = .ok (.baload, 1)) {x : Int32} (hin : vp_in x n) :
    gz_mv p l e R s m args below meth c cells slots Q nL a (gz_GG D cl tys A s wf) (pc + 1) pc [gz_i x, gz_r i] u [gz_i (f x.toNatClampNeg)] u := by
  intro H locs ls rest hg kk
  exact va_zald hx hb hg.1 hg.2.1 q0 t0 ha ht hin hdg (kk H locs hg)
theorem gz_m_lld (hx : p.tables.exec = Jvm.exec) (hb : c.code = cc) (q0 t0 : Nat) {cA : ClassId} {n : Nat} {f : Nat → Int64} (ha : (wf u)[q0]? = some (a i, .inl (cA, n, .inr (.inl f)))) (ht : tys[t0]? = some (cA, .long)) (hdg : decode cc pc = .ok (.laload, 1)) {x : Int32} (hin : vp_in x n) :
    gz_mv p l e R s m args below meth c cells slots Q nL a (gz_GG D cl tys A s wf) (pc + 1) pc [gz_i x, gz_r i] u [gz_l (f x.toNatClampNeg)] u := by
  intro H locs ls rest hg kk
  exact va_lald hx hb hg.1 hg.2.1 q0 t0 ha ht hin hdg (kk H locs hg)
theorem gz_m_ist (hx : p.tables.exec = Jvm.exec) (hb : c.code = cc) (q0 t0 : Nat) {cA : ClassId} {n : Nat} {f : Nat → Int32} (ha : (wf u)[q0]? = some (a i, .inl (cA, n, .inl f))) (ht : tys[t0]? = some (cA, .int)) (hdg : decode cc pc = .ok (.iastore, 1)) {x y : Int32} (hin : vp_in x n) (hset : (wf u).set q0 (a i, .inl (cA, n, .inl (upd f x.toNatClampNeg y))) = wf z) :
    gz_mv p l e R s m args below meth c cells slots Q nL a (gz_GG D cl tys A s wf) (pc + 1) pc [gz_i y, gz_i x, gz_r i] u [] z := by
  intro H locs ls rest hg kk
  exact va_iast hx hb hg.1 hg.2.1 hg.2.2.1 hg.2.2.2 q0 t0 ha ht hin hdg (fun H1 locs1 hP hD hS => kk H1 locs1 ⟨hg.1, by rw [← hset]; exact hP, by rw [← hset]; exact hD, hS⟩)
theorem gz_m_zst (hx : p.tables.exec = Jvm.exec) (hb : c.code = cc) (q0 t0 : Nat) {cA : ClassId} {n : Nat} {f : Nat → Int32} (ha : (wf u)[q0]? = some (a i, .inl (cA, n, .inl f))) (ht : tys[t0]? = some (cA, .boolean)) (hdg : decode cc pc = .ok (.bastore, 1)) {x y : Int32} (hin : vp_in x n) (hset : (wf u).set q0 (a i, .inl (cA, n, .inl (upd f x.toNatClampNeg (vp_nar .boolean y)))) = wf z) :
    gz_mv p l e R s m args below meth c cells slots Q nL a (gz_GG D cl tys A s wf) (pc + 1) pc [gz_i y, gz_i x, gz_r i] u [] z := by
  intro H locs ls rest hg kk
  exact va_zast hx hb hg.1 hg.2.1 hg.2.2.1 hg.2.2.2 q0 t0 ha ht hin hdg (fun H1 locs1 hP hD hS => kk H1 locs1 ⟨hg.1, by rw [← hset]; exact hP, by rw [← hset]; exact hD, hS⟩)
theorem gz_m_lst (hx : p.tables.exec = Jvm.exec) (hb : c.code = cc) (q0 t0 : Nat) {cA : ClassId} {n : Nat} {f : Nat → Int64} (ha : (wf u)[q0]? = some (a i, .inl (cA, n, .inr (.inl f)))) (ht : tys[t0]? = some (cA, .long)) (hdg : decode cc pc = .ok (.lastore, 1)) {x : Int32} {y : Int64} (hin : vp_in x n) (hset : (wf u).set q0 (a i, .inl (cA, n, .inr (.inl (vp_updL f x.toNatClampNeg y)))) = wf z) :
    gz_mv p l e R s m args below meth c cells slots Q nL a (gz_GG D cl tys A s wf) (pc + 1) pc [gz_l y, gz_i x, gz_r i] u [] z := by
  intro H locs ls rest hg kk
  exact va_last hx hb hg.1 hg.2.1 hg.2.2.1 hg.2.2.2 q0 t0 ha ht hin hdg (fun H1 locs1 hP hD hS => kk H1 locs1 ⟨hg.1, by rw [← hset]; exact hP, by rw [← hset]; exact hD, hS⟩)
/-- calls: what the machine's run of a callee gives -/
theorem gz_cbI {av : List gz_V} {ar : Array Value} {r0 : Int32} {z0 : S} (has : ∀ z : S, (wf z).map (fun q => q.1) = as) (hA : ∀ q, s.heap.size ≤ q → A q)
    (hr : ∀ (H : Heap) (locs : List Loc) (ls : Array Slot) (rest : List gz_V), gz_dep rest ≤ 8 → ls.size = nL → gz_G D cl tys A s (wf u) H locs → va_Run p l e R s m args below meth c H locs cells slots 0 0 (F0 m pc ls (gz_cs a (av ++ rest))) (gz_cs a rest) (va_Qi (fun r z => some r = some r0 ∧ z = z0) (gz_B D cl tys wf (gz_A as H.size)) (gz_A as H.size) ar) (gz_A as H.size)) :
    gz_cb p l e R s m args below meth c cells slots Q nL a (gz_GG D cl tys A s wf) (pc + 3) pc av u [gz_i r0] z0 := by
  intro H locs ls rest hd hs hg kk
  refine gz_goi has hg hA (hr H locs ls rest hd hs hg) (fun r z H1 locs1 hp hG => ?_)
  obtain ⟨h1, h2⟩ := hp
  cases h1
  subst h2
  exact kk H1 locs1 hG
theorem gz_cbV {av : List gz_V} {ar : Array Value} {z0 : S} (has : ∀ z : S, (wf z).map (fun q => q.1) = as) (hA : ∀ q, s.heap.size ≤ q → A q)
    (hr : ∀ (H : Heap) (locs : List Loc) (ls : Array Slot) (rest : List gz_V), gz_dep rest ≤ 8 → ls.size = nL → gz_G D cl tys A s (wf u) H locs → va_Run p l e R s m args below meth c H locs cells slots 0 0 (F0 m pc ls (gz_cs a (av ++ rest))) (gz_cs a rest) (va_Qv (fun z => (none : Option Int32) = none ∧ z = z0) (gz_B D cl tys wf (gz_A as H.size)) (gz_A as H.size) ar) (gz_A as H.size)) :
    gz_cb p l e R s m args below meth c cells slots Q nL a (gz_GG D cl tys A s wf) (pc + 3) pc av u [] z0 := by
  intro H locs ls rest hd hs hg kk
  refine gz_gov has hg hA (hr H locs ls rest hd hs hg) (fun z H1 locs1 hp hG => ?_)
  obtain ⟨-, h2⟩ := hp
  subst h2
  exact kk H1 locs1 hG
theorem gz_mon {rest : List gz_V} {ls : Array Slot} {st : List Value} (h : gz_dep rest ≤ 8) : 2 * (F0 m pc ls st).monitorRoom + ((gz_cs a rest).map fun v => v.category).sum ≤ 8 := by
  show 2 * 0 + _ ≤ 8
  rw [gz_dep_cs]
  omega
/-- a callee's contract by cells: av in the order of the arguments -/
def gz_MI (l : Launch) (y : MethodName) (ws : List Cond) (rm : Room) (D : va_G) (cl : List vw_C) (tys : List (ClassId × FieldType)) {S : Type} (wf : S → va_W) (as : List Nat) (a : Nat → Nat) (av : List gz_V) (u : S) (r0 : Int32) (z0 : S) : Prop := gz_Ci l y ws rm D cl tys wf as (gz_cs a av) u (fun r z => some r = some r0 ∧ z = z0)
def gz_MV (l : Launch) (y : MethodName) (ws : List Cond) (rm : Room) (D : va_G) (cl : List vw_C) (tys : List (ClassId × FieldType)) {S : Type} (wf : S → va_W) (as : List Nat) (a : Nat → Nat) (av : List gz_V) (u : S) (z0 : S) : Prop := gz_Cv l y ws rm D cl tys wf as (gz_cs a av) u (fun z => (none : Option Int32) = none ∧ z = z0)
theorem gz_stk {i : Nat} {bs rest : List gz_V} : gz_cs a ((bs.reverse ++ [gz_r i]) ++ rest) = (gz_cs a bs).reverse ++ Value.ref (a i) :: gz_cs a rest := by
  simp [gz_cs, gz_cv, List.map_append, List.map_reverse]
theorem gz_stkS {bs rest : List gz_V} : gz_cs a (bs.reverse ++ rest) = (gz_cs a bs).reverse ++ gz_cs a rest := by
  simp [gz_cs, List.map_append, List.map_reverse]
section GZC
variable {y : MethodName} {bytes : ByteArray} {maxL n : Nat} {ret : Option FieldType} {ws : List Cond} {rm : Room} {Qc : Nat → Array Value → State → Outcome → State → Prop} {bs : List gz_V}
theorem gz_runV (hN : gz_N s) (F : CallFix p m c cc nL s args Ts own) (hM : ∀ sz : Nat, Met l y ws rm (va_Pc (gz_cs a (gz_r i :: bs)) (gz_P D cl tys (wf u) sz)) (Qc sz) 0 0 (gz_A as sz)) (cw : CallW R s args own C index y bytes maxL ret ws rm 0 0 n) (hc : cl[ci]? = some (C, T, N)) (q0 : Nat) (he : (wf u)[q0]? = some (a i, .inr (ci, fs))) (hn : bs.length = n) (hdg : decode cc pc = .ok (.invokevirtual index, 3)) (hf : cells ≤ R.cells ∧ slots ≤ R.slots) :
    ∀ (H : Heap) (locs : List Loc) (ls : Array Slot) (rest : List gz_V), gz_dep rest ≤ 8 → ls.size = nL → gz_G D cl tys A s (wf u) H locs → va_Run p l e R s m args below meth c H locs cells slots 0 0 (F0 m pc ls (gz_cs a ((bs.reverse ++ [gz_r i]) ++ rest))) (gz_cs a rest) (Qc H.size (gz_cs a (gz_r i :: bs)).toArray) (gz_A as H.size) := by
  intro H locs ls rest hd hs hg
  exact va_runV (As := gz_cs a bs) (rest := gz_cs a rest) (b := a i) F (hM H.size) cw ⟨(gz_pre gz_nw_ok hN hg).1, va_recv hg.1 hg.2.1 hc he, (gz_pre gz_nw_ok hN hg).2⟩ rfl (by rw [← hn]; exact List.length_map ..) hs gz_stk (gz_mon hd) hdg hf
theorem gz_runN (hN : gz_N s) (F : CallFix p m c cc nL s args Ts own) (hM : ∀ sz : Nat, Met l y ws rm (va_Pc (gz_cs a (gz_r i :: bs)) (gz_P D cl tys (wf u) sz)) (Qc sz) 0 0 (gz_A as sz)) (cw : va_CN R s args own index y host bytes maxL ret ws rm 0 0 n ∧ (Cond.instanceMethod y).before args s = true ∧ (Cond.selects C y y).before args s = true) (hc : cl[ci]? = some (C, T, N)) (q0 : Nat) (he : (wf u)[q0]? = some (a i, .inr (ci, fs))) (hn : bs.length = n) (hdg : decode cc pc = .ok (.invokevirtual index, 3)) (hf : cells ≤ R.cells ∧ slots ≤ R.slots) :
    ∀ (H : Heap) (locs : List Loc) (ls : Array Slot) (rest : List gz_V), gz_dep rest ≤ 8 → ls.size = nL → gz_G D cl tys A s (wf u) H locs → va_Run p l e R s m args below meth c H locs cells slots 0 0 (F0 m pc ls (gz_cs a ((bs.reverse ++ [gz_r i]) ++ rest))) (gz_cs a rest) (Qc H.size (gz_cs a (gz_r i :: bs)).toArray) (gz_A as H.size) := by
  intro H locs ls rest hd hs hg
  exact va_runVN (As := gz_cs a bs) (rest := gz_cs a rest) (b := a i) F (hM H.size) cw ⟨(gz_pre gz_nw_ok hN hg).1, va_recv hg.1 hg.2.1 hc he, (gz_pre gz_nw_ok hN hg).2⟩ rfl (by rw [← hn]; exact List.length_map ..) hs gz_stk (gz_mon hd) hdg hf
theorem gz_runS (hN : gz_N s) (F : CallFix p m c cc nL s args Ts own) (hM : ∀ sz : Nat, Met l y ws rm (va_Pc (gz_cs a bs) (gz_P D cl tys (wf u) sz)) (Qc sz) 0 0 (gz_A as sz)) (cw : CallB R s args own index y bytes maxL ret ws rm 0 0 n ∧ (Cond.static y).before args s = true) (hn : bs.length = n) (hdg : decode cc pc = .ok (.invokestatic index, 3)) (hf : cells ≤ R.cells ∧ slots ≤ R.slots) :
    ∀ (H : Heap) (locs : List Loc) (ls : Array Slot) (rest : List gz_V), gz_dep rest ≤ 8 → ls.size = nL → gz_G D cl tys A s (wf u) H locs → va_Run p l e R s m args below meth c H locs cells slots 0 0 (F0 m pc ls (gz_cs a (bs.reverse ++ rest))) (gz_cs a rest) (Qc H.size (gz_cs a bs).toArray) (gz_A as H.size) := by
  intro H locs ls rest hd hs hg
  exact va_runS (As := gz_cs a bs) (rest := gz_cs a rest) F (hM H.size) cw (gz_pre gz_nw_ok hN hg) rfl (by rw [← hn]; exact List.length_map ..) hs gz_stkS (gz_mon hd) hdg hf
theorem gz_runSN (hN : gz_N s) (F : CallFix p m c cc nL s args Ts own) (hM : ∀ sz : Nat, Met l y ws rm (va_Pc (gz_cs a bs) (gz_P D cl tys (wf u) sz)) (Qc sz) 0 0 (gz_A as sz)) (cw : va_CN R s args own index y host bytes maxL ret ws rm 0 0 n ∧ (Cond.static y).before args s = true ∧ True) (hn : bs.length = n) (hdg : decode cc pc = .ok (.invokestatic index, 3)) (hf : cells ≤ R.cells ∧ slots ≤ R.slots) :
    ∀ (H : Heap) (locs : List Loc) (ls : Array Slot) (rest : List gz_V), gz_dep rest ≤ 8 → ls.size = nL → gz_G D cl tys A s (wf u) H locs → va_Run p l e R s m args below meth c H locs cells slots 0 0 (F0 m pc ls (gz_cs a (bs.reverse ++ rest))) (gz_cs a rest) (Qc H.size (gz_cs a bs).toArray) (gz_A as H.size) := by
  intro H locs ls rest hd hs hg
  exact va_runSN (As := gz_cs a bs) (rest := gz_cs a rest) F (hM H.size) cw (gz_pre gz_nw_ok hN hg) rfl (by rw [← hn]; exact List.length_map ..) hs gz_stkS (gz_mon hd) hdg hf
/-- the ends of a method whose world is all that it may change -/
theorem gz_e_i {post : Option Int32 → S → Prop} {args : Array Value} {own : String} {maxL : Nat} (F : gz_F p s m args meth c cc maxL (some .int) ws own) (hdg : decode cc pc = .ok (.ireturn, 1)) : ∀ (u : S) (x : Int32), post (some x) u → ∀ (H : Heap) (locs : List Loc) (ls : Array Slot), gz_GG D cl tys (gz_A as s.heap.size) s wf u H locs → W p l e R s m args below meth c H locs 0 0 (MQ below (va_Qi (fun r z => post (some r) z) (gz_B D cl tys wf (gz_A as s.heap.size)) (gz_A as s.heap.size)) args s 0 0 (gz_A as s.heap.size)) (F0 m pc ls [.int x]) := by
  intro u x hp H locs ls hg
  exact gz_ri F hg hdg hp
theorem gz_e_z {post : Option Int32 → S → Prop} {args : Array Value} {own : String} {maxL : Nat} (F : gz_F p s m args meth c cc maxL (some .boolean) ws own) (hdg : decode cc pc = .ok (.ireturn, 1)) : ∀ (u : S) (x : Int32), narrow .boolean (.int x) = .int x → post (some x) u → ∀ (H : Heap) (locs : List Loc) (ls : Array Slot), gz_GG D cl tys (gz_A as s.heap.size) s wf u H locs → W p l e R s m args below meth c H locs 0 0 (MQ below (va_Qi (fun r z => post (some r) z) (gz_B D cl tys wf (gz_A as s.heap.size)) (gz_A as s.heap.size)) args s 0 0 (gz_A as s.heap.size)) (F0 m pc ls [.int x]) := by
  intro u x hn hp H locs ls hg
  exact gz_rz F hg hdg hn hp
theorem gz_e_v {post : Option Int32 → S → Prop} {args : Array Value} {own : String} {maxL : Nat} (F : gz_F p s m args meth c cc maxL none ws own) (hdg : decode cc pc = .ok (.return_, 1)) : ∀ (u : S), post none u → ∀ (H : Heap) (locs : List Loc) (ls : Array Slot), gz_GG D cl tys (gz_A as s.heap.size) s wf u H locs → W p l e R s m args below meth c H locs 0 0 (MQ below (va_Qv (fun z => post none z) (gz_B D cl tys wf (gz_A as s.heap.size)) (gz_A as s.heap.size)) args s 0 0 (gz_A as s.heap.size)) (F0 m pc ls []) := by
  intro u hp H locs ls hg
  exact gz_rv F hg hdg hp
/-- a contract out of a table's run -/
theorem gz_metI {ws' : List Cond} {av : List gz_V} {L0 : gz_L} {tb : List (Nat × gz_T S)} {r0 : Int32} {z0 : S} (hy : plainName y.cls = true) (hw : ws = Cond.code y cc maxL ret :: ws') (has : ∀ z : S, (wf z).map (fun q => q.1) = as) (hn : (lg_sl (gz_cs a av)).length ≤ maxL) (hL : lv_args 0 (gz_cs a av) = gz_cl a L0) (hd : gz_does tb (fun r z => r = some r0 ∧ z = z0) L0 u)
    (ho : ∀ (p : Program) (e : Env) (s : State) (m : MethodId) (below : List Frame) (meth : Method) (c : Code), gz_F p s m (gz_cs a av).toArray meth c cc maxL ret ws y.cls → gz_oks (gz_Z p l e rm s m (gz_cs a av).toArray below meth c 0 0 (MQ below (va_Qi (fun r z => some r = some r0 ∧ z = z0) (gz_B D cl tys wf (gz_A as s.heap.size)) (gz_A as s.heap.size)) (gz_cs a av).toArray s 0 0 (gz_A as s.heap.size)) maxL a (gz_GG D cl tys (gz_A as s.heap.size) s wf)) (fun r z => r = some r0 ∧ z = z0) tb) :
    gz_MI l y ws rm D cl tys wf as a av u r0 z0 :=
  gz_enter hy hw (has u) hn (fun p e s m below meth c ls F G hl => hd _ (gz_shut_Z (ho p e s m below meth c F)) s.heap [] ls (by rw [← hL]; exact hl) G)
theorem gz_metV {ws' : List Cond} {av : List gz_V} {L0 : gz_L} {tb : List (Nat × gz_T S)} {z0 : S} (hy : plainName y.cls = true) (hw : ws = Cond.code y cc maxL ret :: ws') (has : ∀ z : S, (wf z).map (fun q => q.1) = as) (hn : (lg_sl (gz_cs a av)).length ≤ maxL) (hL : lv_args 0 (gz_cs a av) = gz_cl a L0) (hd : gz_does tb (fun r z => r = none ∧ z = z0) L0 u)
    (ho : ∀ (p : Program) (e : Env) (s : State) (m : MethodId) (below : List Frame) (meth : Method) (c : Code), gz_F p s m (gz_cs a av).toArray meth c cc maxL ret ws y.cls → gz_oks (gz_Z p l e rm s m (gz_cs a av).toArray below meth c 0 0 (MQ below (va_Qv (fun z => (none : Option Int32) = none ∧ z = z0) (gz_B D cl tys wf (gz_A as s.heap.size)) (gz_A as s.heap.size)) (gz_cs a av).toArray s 0 0 (gz_A as s.heap.size)) maxL a (gz_GG D cl tys (gz_A as s.heap.size) s wf)) (fun r z => r = none ∧ z = z0) tb) :
    gz_MV l y ws rm D cl tys wf as a av u z0 :=
  gz_enterV hy hw (has u) hn (fun p e s m below meth c ls F G hl => hd _ (gz_shut_Z (ho p e s m below meth c F)) s.heap [] ls (by rw [← hL]; exact hl) G)
end GZC
end GZR
end
section
/-! THE STATE of the house: numbers and tables, raw; of the landed code and of the reference alike (th: the reference alone) -/
abbrev q_S : Type := Int32 × Int32 × Int32 × Int32 × Int32 × Int64 × (Nat → Int32) × (Nat → Int32) × (Nat → Int32) × (Nat → Int32) × (Nat → Int32) × (Nat → Int32) × (Nat → Int32) × (Nat → Int32) × (Nat → Int32) × (Nat → Int32) × (Nat → Int32) × (Nat → Int32) × (Nat → Int32) × (Nat → Int64) × (Nat → Int64)
def q_th (u : q_S) : Int32 := u.1
def q_nr (u : q_S) : Int32 := u.2.1
def q_nc (u : q_S) : Int32 := u.2.2.1
def q_nh (u : q_S) : Int32 := u.2.2.2.1
def q_sp (u : q_S) : Int32 := u.2.2.2.2.1
def q_td (u : q_S) : Int64 := u.2.2.2.2.2.1
def q_kd (u : q_S) : Nat → Int32 := u.2.2.2.2.2.2.1
def q_bd (u : q_S) : Nat → Int32 := u.2.2.2.2.2.2.2.1
def q_mo (u : q_S) : Nat → Int32 := u.2.2.2.2.2.2.2.2.1
def q_cr (u : q_S) : Nat → Int32 := u.2.2.2.2.2.2.2.2.2.1
def q_cp (u : q_S) : Nat → Int32 := u.2.2.2.2.2.2.2.2.2.2.1
def q_cs (u : q_S) : Nat → Int32 := u.2.2.2.2.2.2.2.2.2.2.2.1
def q_ch (u : q_S) : Nat → Int32 := u.2.2.2.2.2.2.2.2.2.2.2.2.1
def q_hp (u : q_S) : Nat → Int32 := u.2.2.2.2.2.2.2.2.2.2.2.2.2.1
def q_hr (u : q_S) : Nat → Int32 := u.2.2.2.2.2.2.2.2.2.2.2.2.2.2.1
def q_hl (u : q_S) : Nat → Int32 := u.2.2.2.2.2.2.2.2.2.2.2.2.2.2.2.1
def q_hk (u : q_S) : Nat → Int32 := u.2.2.2.2.2.2.2.2.2.2.2.2.2.2.2.2.1
def q_hs (u : q_S) : Nat → Int32 := u.2.2.2.2.2.2.2.2.2.2.2.2.2.2.2.2.2.1
def q_hy (u : q_S) : Nat → Int32 := u.2.2.2.2.2.2.2.2.2.2.2.2.2.2.2.2.2.2.1
def q_hu (u : q_S) : Nat → Int64 := u.2.2.2.2.2.2.2.2.2.2.2.2.2.2.2.2.2.2.2.1
def q_he (u : q_S) : Nat → Int64 := u.2.2.2.2.2.2.2.2.2.2.2.2.2.2.2.2.2.2.2.2
def q_th_s (u : q_S) (x : Int32) : q_S := (x, u.2.1, u.2.2.1, u.2.2.2.1, u.2.2.2.2.1, u.2.2.2.2.2.1, u.2.2.2.2.2.2.1, u.2.2.2.2.2.2.2.1, u.2.2.2.2.2.2.2.2.1, u.2.2.2.2.2.2.2.2.2.1, u.2.2.2.2.2.2.2.2.2.2.1, u.2.2.2.2.2.2.2.2.2.2.2.1, u.2.2.2.2.2.2.2.2.2.2.2.2.1, u.2.2.2.2.2.2.2.2.2.2.2.2.2.1, u.2.2.2.2.2.2.2.2.2.2.2.2.2.2.1, u.2.2.2.2.2.2.2.2.2.2.2.2.2.2.2.1, u.2.2.2.2.2.2.2.2.2.2.2.2.2.2.2.2.1, u.2.2.2.2.2.2.2.2.2.2.2.2.2.2.2.2.2.1, u.2.2.2.2.2.2.2.2.2.2.2.2.2.2.2.2.2.2.1, u.2.2.2.2.2.2.2.2.2.2.2.2.2.2.2.2.2.2.2.1, u.2.2.2.2.2.2.2.2.2.2.2.2.2.2.2.2.2.2.2.2)
def q_nr_s (u : q_S) (x : Int32) : q_S := (u.1, x, u.2.2.1, u.2.2.2.1, u.2.2.2.2.1, u.2.2.2.2.2.1, u.2.2.2.2.2.2.1, u.2.2.2.2.2.2.2.1, u.2.2.2.2.2.2.2.2.1, u.2.2.2.2.2.2.2.2.2.1, u.2.2.2.2.2.2.2.2.2.2.1, u.2.2.2.2.2.2.2.2.2.2.2.1, u.2.2.2.2.2.2.2.2.2.2.2.2.1, u.2.2.2.2.2.2.2.2.2.2.2.2.2.1, u.2.2.2.2.2.2.2.2.2.2.2.2.2.2.1, u.2.2.2.2.2.2.2.2.2.2.2.2.2.2.2.1, u.2.2.2.2.2.2.2.2.2.2.2.2.2.2.2.2.1, u.2.2.2.2.2.2.2.2.2.2.2.2.2.2.2.2.2.1, u.2.2.2.2.2.2.2.2.2.2.2.2.2.2.2.2.2.2.1, u.2.2.2.2.2.2.2.2.2.2.2.2.2.2.2.2.2.2.2.1, u.2.2.2.2.2.2.2.2.2.2.2.2.2.2.2.2.2.2.2.2)
def q_nc_s (u : q_S) (x : Int32) : q_S := (u.1, u.2.1, x, u.2.2.2.1, u.2.2.2.2.1, u.2.2.2.2.2.1, u.2.2.2.2.2.2.1, u.2.2.2.2.2.2.2.1, u.2.2.2.2.2.2.2.2.1, u.2.2.2.2.2.2.2.2.2.1, u.2.2.2.2.2.2.2.2.2.2.1, u.2.2.2.2.2.2.2.2.2.2.2.1, u.2.2.2.2.2.2.2.2.2.2.2.2.1, u.2.2.2.2.2.2.2.2.2.2.2.2.2.1, u.2.2.2.2.2.2.2.2.2.2.2.2.2.2.1, u.2.2.2.2.2.2.2.2.2.2.2.2.2.2.2.1, u.2.2.2.2.2.2.2.2.2.2.2.2.2.2.2.2.1, u.2.2.2.2.2.2.2.2.2.2.2.2.2.2.2.2.2.1, u.2.2.2.2.2.2.2.2.2.2.2.2.2.2.2.2.2.2.1, u.2.2.2.2.2.2.2.2.2.2.2.2.2.2.2.2.2.2.2.1, u.2.2.2.2.2.2.2.2.2.2.2.2.2.2.2.2.2.2.2.2)
def q_nh_s (u : q_S) (x : Int32) : q_S := (u.1, u.2.1, u.2.2.1, x, u.2.2.2.2.1, u.2.2.2.2.2.1, u.2.2.2.2.2.2.1, u.2.2.2.2.2.2.2.1, u.2.2.2.2.2.2.2.2.1, u.2.2.2.2.2.2.2.2.2.1, u.2.2.2.2.2.2.2.2.2.2.1, u.2.2.2.2.2.2.2.2.2.2.2.1, u.2.2.2.2.2.2.2.2.2.2.2.2.1, u.2.2.2.2.2.2.2.2.2.2.2.2.2.1, u.2.2.2.2.2.2.2.2.2.2.2.2.2.2.1, u.2.2.2.2.2.2.2.2.2.2.2.2.2.2.2.1, u.2.2.2.2.2.2.2.2.2.2.2.2.2.2.2.2.1, u.2.2.2.2.2.2.2.2.2.2.2.2.2.2.2.2.2.1, u.2.2.2.2.2.2.2.2.2.2.2.2.2.2.2.2.2.2.1, u.2.2.2.2.2.2.2.2.2.2.2.2.2.2.2.2.2.2.2.1, u.2.2.2.2.2.2.2.2.2.2.2.2.2.2.2.2.2.2.2.2)
def q_sp_s (u : q_S) (x : Int32) : q_S := (u.1, u.2.1, u.2.2.1, u.2.2.2.1, x, u.2.2.2.2.2.1, u.2.2.2.2.2.2.1, u.2.2.2.2.2.2.2.1, u.2.2.2.2.2.2.2.2.1, u.2.2.2.2.2.2.2.2.2.1, u.2.2.2.2.2.2.2.2.2.2.1, u.2.2.2.2.2.2.2.2.2.2.2.1, u.2.2.2.2.2.2.2.2.2.2.2.2.1, u.2.2.2.2.2.2.2.2.2.2.2.2.2.1, u.2.2.2.2.2.2.2.2.2.2.2.2.2.2.1, u.2.2.2.2.2.2.2.2.2.2.2.2.2.2.2.1, u.2.2.2.2.2.2.2.2.2.2.2.2.2.2.2.2.1, u.2.2.2.2.2.2.2.2.2.2.2.2.2.2.2.2.2.1, u.2.2.2.2.2.2.2.2.2.2.2.2.2.2.2.2.2.2.1, u.2.2.2.2.2.2.2.2.2.2.2.2.2.2.2.2.2.2.2.1, u.2.2.2.2.2.2.2.2.2.2.2.2.2.2.2.2.2.2.2.2)
def q_td_s (u : q_S) (x : Int64) : q_S := (u.1, u.2.1, u.2.2.1, u.2.2.2.1, u.2.2.2.2.1, x, u.2.2.2.2.2.2.1, u.2.2.2.2.2.2.2.1, u.2.2.2.2.2.2.2.2.1, u.2.2.2.2.2.2.2.2.2.1, u.2.2.2.2.2.2.2.2.2.2.1, u.2.2.2.2.2.2.2.2.2.2.2.1, u.2.2.2.2.2.2.2.2.2.2.2.2.1, u.2.2.2.2.2.2.2.2.2.2.2.2.2.1, u.2.2.2.2.2.2.2.2.2.2.2.2.2.2.1, u.2.2.2.2.2.2.2.2.2.2.2.2.2.2.2.1, u.2.2.2.2.2.2.2.2.2.2.2.2.2.2.2.2.1, u.2.2.2.2.2.2.2.2.2.2.2.2.2.2.2.2.2.1, u.2.2.2.2.2.2.2.2.2.2.2.2.2.2.2.2.2.2.1, u.2.2.2.2.2.2.2.2.2.2.2.2.2.2.2.2.2.2.2.1, u.2.2.2.2.2.2.2.2.2.2.2.2.2.2.2.2.2.2.2.2)
def q_kd_s (u : q_S) (x : Nat → Int32) : q_S := (u.1, u.2.1, u.2.2.1, u.2.2.2.1, u.2.2.2.2.1, u.2.2.2.2.2.1, x, u.2.2.2.2.2.2.2.1, u.2.2.2.2.2.2.2.2.1, u.2.2.2.2.2.2.2.2.2.1, u.2.2.2.2.2.2.2.2.2.2.1, u.2.2.2.2.2.2.2.2.2.2.2.1, u.2.2.2.2.2.2.2.2.2.2.2.2.1, u.2.2.2.2.2.2.2.2.2.2.2.2.2.1, u.2.2.2.2.2.2.2.2.2.2.2.2.2.2.1, u.2.2.2.2.2.2.2.2.2.2.2.2.2.2.2.1, u.2.2.2.2.2.2.2.2.2.2.2.2.2.2.2.2.1, u.2.2.2.2.2.2.2.2.2.2.2.2.2.2.2.2.2.1, u.2.2.2.2.2.2.2.2.2.2.2.2.2.2.2.2.2.2.1, u.2.2.2.2.2.2.2.2.2.2.2.2.2.2.2.2.2.2.2.1, u.2.2.2.2.2.2.2.2.2.2.2.2.2.2.2.2.2.2.2.2)
def q_bd_s (u : q_S) (x : Nat → Int32) : q_S := (u.1, u.2.1, u.2.2.1, u.2.2.2.1, u.2.2.2.2.1, u.2.2.2.2.2.1, u.2.2.2.2.2.2.1, x, u.2.2.2.2.2.2.2.2.1, u.2.2.2.2.2.2.2.2.2.1, u.2.2.2.2.2.2.2.2.2.2.1, u.2.2.2.2.2.2.2.2.2.2.2.1, u.2.2.2.2.2.2.2.2.2.2.2.2.1, u.2.2.2.2.2.2.2.2.2.2.2.2.2.1, u.2.2.2.2.2.2.2.2.2.2.2.2.2.2.1, u.2.2.2.2.2.2.2.2.2.2.2.2.2.2.2.1, u.2.2.2.2.2.2.2.2.2.2.2.2.2.2.2.2.1, u.2.2.2.2.2.2.2.2.2.2.2.2.2.2.2.2.2.1, u.2.2.2.2.2.2.2.2.2.2.2.2.2.2.2.2.2.2.1, u.2.2.2.2.2.2.2.2.2.2.2.2.2.2.2.2.2.2.2.1, u.2.2.2.2.2.2.2.2.2.2.2.2.2.2.2.2.2.2.2.2)
def q_mo_s (u : q_S) (x : Nat → Int32) : q_S := (u.1, u.2.1, u.2.2.1, u.2.2.2.1, u.2.2.2.2.1, u.2.2.2.2.2.1, u.2.2.2.2.2.2.1, u.2.2.2.2.2.2.2.1, x, u.2.2.2.2.2.2.2.2.2.1, u.2.2.2.2.2.2.2.2.2.2.1, u.2.2.2.2.2.2.2.2.2.2.2.1, u.2.2.2.2.2.2.2.2.2.2.2.2.1, u.2.2.2.2.2.2.2.2.2.2.2.2.2.1, u.2.2.2.2.2.2.2.2.2.2.2.2.2.2.1, u.2.2.2.2.2.2.2.2.2.2.2.2.2.2.2.1, u.2.2.2.2.2.2.2.2.2.2.2.2.2.2.2.2.1, u.2.2.2.2.2.2.2.2.2.2.2.2.2.2.2.2.2.1, u.2.2.2.2.2.2.2.2.2.2.2.2.2.2.2.2.2.2.1, u.2.2.2.2.2.2.2.2.2.2.2.2.2.2.2.2.2.2.2.1, u.2.2.2.2.2.2.2.2.2.2.2.2.2.2.2.2.2.2.2.2)
def q_cr_s (u : q_S) (x : Nat → Int32) : q_S := (u.1, u.2.1, u.2.2.1, u.2.2.2.1, u.2.2.2.2.1, u.2.2.2.2.2.1, u.2.2.2.2.2.2.1, u.2.2.2.2.2.2.2.1, u.2.2.2.2.2.2.2.2.1, x, u.2.2.2.2.2.2.2.2.2.2.1, u.2.2.2.2.2.2.2.2.2.2.2.1, u.2.2.2.2.2.2.2.2.2.2.2.2.1, u.2.2.2.2.2.2.2.2.2.2.2.2.2.1, u.2.2.2.2.2.2.2.2.2.2.2.2.2.2.1, u.2.2.2.2.2.2.2.2.2.2.2.2.2.2.2.1, u.2.2.2.2.2.2.2.2.2.2.2.2.2.2.2.2.1, u.2.2.2.2.2.2.2.2.2.2.2.2.2.2.2.2.2.1, u.2.2.2.2.2.2.2.2.2.2.2.2.2.2.2.2.2.2.1, u.2.2.2.2.2.2.2.2.2.2.2.2.2.2.2.2.2.2.2.1, u.2.2.2.2.2.2.2.2.2.2.2.2.2.2.2.2.2.2.2.2)
def q_cp_s (u : q_S) (x : Nat → Int32) : q_S := (u.1, u.2.1, u.2.2.1, u.2.2.2.1, u.2.2.2.2.1, u.2.2.2.2.2.1, u.2.2.2.2.2.2.1, u.2.2.2.2.2.2.2.1, u.2.2.2.2.2.2.2.2.1, u.2.2.2.2.2.2.2.2.2.1, x, u.2.2.2.2.2.2.2.2.2.2.2.1, u.2.2.2.2.2.2.2.2.2.2.2.2.1, u.2.2.2.2.2.2.2.2.2.2.2.2.2.1, u.2.2.2.2.2.2.2.2.2.2.2.2.2.2.1, u.2.2.2.2.2.2.2.2.2.2.2.2.2.2.2.1, u.2.2.2.2.2.2.2.2.2.2.2.2.2.2.2.2.1, u.2.2.2.2.2.2.2.2.2.2.2.2.2.2.2.2.2.1, u.2.2.2.2.2.2.2.2.2.2.2.2.2.2.2.2.2.2.1, u.2.2.2.2.2.2.2.2.2.2.2.2.2.2.2.2.2.2.2.1, u.2.2.2.2.2.2.2.2.2.2.2.2.2.2.2.2.2.2.2.2)
def q_cs_s (u : q_S) (x : Nat → Int32) : q_S := (u.1, u.2.1, u.2.2.1, u.2.2.2.1, u.2.2.2.2.1, u.2.2.2.2.2.1, u.2.2.2.2.2.2.1, u.2.2.2.2.2.2.2.1, u.2.2.2.2.2.2.2.2.1, u.2.2.2.2.2.2.2.2.2.1, u.2.2.2.2.2.2.2.2.2.2.1, x, u.2.2.2.2.2.2.2.2.2.2.2.2.1, u.2.2.2.2.2.2.2.2.2.2.2.2.2.1, u.2.2.2.2.2.2.2.2.2.2.2.2.2.2.1, u.2.2.2.2.2.2.2.2.2.2.2.2.2.2.2.1, u.2.2.2.2.2.2.2.2.2.2.2.2.2.2.2.2.1, u.2.2.2.2.2.2.2.2.2.2.2.2.2.2.2.2.2.1, u.2.2.2.2.2.2.2.2.2.2.2.2.2.2.2.2.2.2.1, u.2.2.2.2.2.2.2.2.2.2.2.2.2.2.2.2.2.2.2.1, u.2.2.2.2.2.2.2.2.2.2.2.2.2.2.2.2.2.2.2.2)
def q_ch_s (u : q_S) (x : Nat → Int32) : q_S := (u.1, u.2.1, u.2.2.1, u.2.2.2.1, u.2.2.2.2.1, u.2.2.2.2.2.1, u.2.2.2.2.2.2.1, u.2.2.2.2.2.2.2.1, u.2.2.2.2.2.2.2.2.1, u.2.2.2.2.2.2.2.2.2.1, u.2.2.2.2.2.2.2.2.2.2.1, u.2.2.2.2.2.2.2.2.2.2.2.1, x, u.2.2.2.2.2.2.2.2.2.2.2.2.2.1, u.2.2.2.2.2.2.2.2.2.2.2.2.2.2.1, u.2.2.2.2.2.2.2.2.2.2.2.2.2.2.2.1, u.2.2.2.2.2.2.2.2.2.2.2.2.2.2.2.2.1, u.2.2.2.2.2.2.2.2.2.2.2.2.2.2.2.2.2.1, u.2.2.2.2.2.2.2.2.2.2.2.2.2.2.2.2.2.2.1, u.2.2.2.2.2.2.2.2.2.2.2.2.2.2.2.2.2.2.2.1, u.2.2.2.2.2.2.2.2.2.2.2.2.2.2.2.2.2.2.2.2)
def q_hp_s (u : q_S) (x : Nat → Int32) : q_S := (u.1, u.2.1, u.2.2.1, u.2.2.2.1, u.2.2.2.2.1, u.2.2.2.2.2.1, u.2.2.2.2.2.2.1, u.2.2.2.2.2.2.2.1, u.2.2.2.2.2.2.2.2.1, u.2.2.2.2.2.2.2.2.2.1, u.2.2.2.2.2.2.2.2.2.2.1, u.2.2.2.2.2.2.2.2.2.2.2.1, u.2.2.2.2.2.2.2.2.2.2.2.2.1, x, u.2.2.2.2.2.2.2.2.2.2.2.2.2.2.1, u.2.2.2.2.2.2.2.2.2.2.2.2.2.2.2.1, u.2.2.2.2.2.2.2.2.2.2.2.2.2.2.2.2.1, u.2.2.2.2.2.2.2.2.2.2.2.2.2.2.2.2.2.1, u.2.2.2.2.2.2.2.2.2.2.2.2.2.2.2.2.2.2.1, u.2.2.2.2.2.2.2.2.2.2.2.2.2.2.2.2.2.2.2.1, u.2.2.2.2.2.2.2.2.2.2.2.2.2.2.2.2.2.2.2.2)
def q_hr_s (u : q_S) (x : Nat → Int32) : q_S := (u.1, u.2.1, u.2.2.1, u.2.2.2.1, u.2.2.2.2.1, u.2.2.2.2.2.1, u.2.2.2.2.2.2.1, u.2.2.2.2.2.2.2.1, u.2.2.2.2.2.2.2.2.1, u.2.2.2.2.2.2.2.2.2.1, u.2.2.2.2.2.2.2.2.2.2.1, u.2.2.2.2.2.2.2.2.2.2.2.1, u.2.2.2.2.2.2.2.2.2.2.2.2.1, u.2.2.2.2.2.2.2.2.2.2.2.2.2.1, x, u.2.2.2.2.2.2.2.2.2.2.2.2.2.2.2.1, u.2.2.2.2.2.2.2.2.2.2.2.2.2.2.2.2.1, u.2.2.2.2.2.2.2.2.2.2.2.2.2.2.2.2.2.1, u.2.2.2.2.2.2.2.2.2.2.2.2.2.2.2.2.2.2.1, u.2.2.2.2.2.2.2.2.2.2.2.2.2.2.2.2.2.2.2.1, u.2.2.2.2.2.2.2.2.2.2.2.2.2.2.2.2.2.2.2.2)
def q_hl_s (u : q_S) (x : Nat → Int32) : q_S := (u.1, u.2.1, u.2.2.1, u.2.2.2.1, u.2.2.2.2.1, u.2.2.2.2.2.1, u.2.2.2.2.2.2.1, u.2.2.2.2.2.2.2.1, u.2.2.2.2.2.2.2.2.1, u.2.2.2.2.2.2.2.2.2.1, u.2.2.2.2.2.2.2.2.2.2.1, u.2.2.2.2.2.2.2.2.2.2.2.1, u.2.2.2.2.2.2.2.2.2.2.2.2.1, u.2.2.2.2.2.2.2.2.2.2.2.2.2.1, u.2.2.2.2.2.2.2.2.2.2.2.2.2.2.1, x, u.2.2.2.2.2.2.2.2.2.2.2.2.2.2.2.2.1, u.2.2.2.2.2.2.2.2.2.2.2.2.2.2.2.2.2.1, u.2.2.2.2.2.2.2.2.2.2.2.2.2.2.2.2.2.2.1, u.2.2.2.2.2.2.2.2.2.2.2.2.2.2.2.2.2.2.2.1, u.2.2.2.2.2.2.2.2.2.2.2.2.2.2.2.2.2.2.2.2)
def q_hk_s (u : q_S) (x : Nat → Int32) : q_S := (u.1, u.2.1, u.2.2.1, u.2.2.2.1, u.2.2.2.2.1, u.2.2.2.2.2.1, u.2.2.2.2.2.2.1, u.2.2.2.2.2.2.2.1, u.2.2.2.2.2.2.2.2.1, u.2.2.2.2.2.2.2.2.2.1, u.2.2.2.2.2.2.2.2.2.2.1, u.2.2.2.2.2.2.2.2.2.2.2.1, u.2.2.2.2.2.2.2.2.2.2.2.2.1, u.2.2.2.2.2.2.2.2.2.2.2.2.2.1, u.2.2.2.2.2.2.2.2.2.2.2.2.2.2.1, u.2.2.2.2.2.2.2.2.2.2.2.2.2.2.2.1, x, u.2.2.2.2.2.2.2.2.2.2.2.2.2.2.2.2.2.1, u.2.2.2.2.2.2.2.2.2.2.2.2.2.2.2.2.2.2.1, u.2.2.2.2.2.2.2.2.2.2.2.2.2.2.2.2.2.2.2.1, u.2.2.2.2.2.2.2.2.2.2.2.2.2.2.2.2.2.2.2.2)
def q_hs_s (u : q_S) (x : Nat → Int32) : q_S := (u.1, u.2.1, u.2.2.1, u.2.2.2.1, u.2.2.2.2.1, u.2.2.2.2.2.1, u.2.2.2.2.2.2.1, u.2.2.2.2.2.2.2.1, u.2.2.2.2.2.2.2.2.1, u.2.2.2.2.2.2.2.2.2.1, u.2.2.2.2.2.2.2.2.2.2.1, u.2.2.2.2.2.2.2.2.2.2.2.1, u.2.2.2.2.2.2.2.2.2.2.2.2.1, u.2.2.2.2.2.2.2.2.2.2.2.2.2.1, u.2.2.2.2.2.2.2.2.2.2.2.2.2.2.1, u.2.2.2.2.2.2.2.2.2.2.2.2.2.2.2.1, u.2.2.2.2.2.2.2.2.2.2.2.2.2.2.2.2.1, x, u.2.2.2.2.2.2.2.2.2.2.2.2.2.2.2.2.2.2.1, u.2.2.2.2.2.2.2.2.2.2.2.2.2.2.2.2.2.2.2.1, u.2.2.2.2.2.2.2.2.2.2.2.2.2.2.2.2.2.2.2.2)
def q_hy_s (u : q_S) (x : Nat → Int32) : q_S := (u.1, u.2.1, u.2.2.1, u.2.2.2.1, u.2.2.2.2.1, u.2.2.2.2.2.1, u.2.2.2.2.2.2.1, u.2.2.2.2.2.2.2.1, u.2.2.2.2.2.2.2.2.1, u.2.2.2.2.2.2.2.2.2.1, u.2.2.2.2.2.2.2.2.2.2.1, u.2.2.2.2.2.2.2.2.2.2.2.1, u.2.2.2.2.2.2.2.2.2.2.2.2.1, u.2.2.2.2.2.2.2.2.2.2.2.2.2.1, u.2.2.2.2.2.2.2.2.2.2.2.2.2.2.1, u.2.2.2.2.2.2.2.2.2.2.2.2.2.2.2.1, u.2.2.2.2.2.2.2.2.2.2.2.2.2.2.2.2.1, u.2.2.2.2.2.2.2.2.2.2.2.2.2.2.2.2.2.1, x, u.2.2.2.2.2.2.2.2.2.2.2.2.2.2.2.2.2.2.2.1, u.2.2.2.2.2.2.2.2.2.2.2.2.2.2.2.2.2.2.2.2)
def q_hu_s (u : q_S) (x : Nat → Int64) : q_S := (u.1, u.2.1, u.2.2.1, u.2.2.2.1, u.2.2.2.2.1, u.2.2.2.2.2.1, u.2.2.2.2.2.2.1, u.2.2.2.2.2.2.2.1, u.2.2.2.2.2.2.2.2.1, u.2.2.2.2.2.2.2.2.2.1, u.2.2.2.2.2.2.2.2.2.2.1, u.2.2.2.2.2.2.2.2.2.2.2.1, u.2.2.2.2.2.2.2.2.2.2.2.2.1, u.2.2.2.2.2.2.2.2.2.2.2.2.2.1, u.2.2.2.2.2.2.2.2.2.2.2.2.2.2.1, u.2.2.2.2.2.2.2.2.2.2.2.2.2.2.2.1, u.2.2.2.2.2.2.2.2.2.2.2.2.2.2.2.2.1, u.2.2.2.2.2.2.2.2.2.2.2.2.2.2.2.2.2.1, u.2.2.2.2.2.2.2.2.2.2.2.2.2.2.2.2.2.2.1, x, u.2.2.2.2.2.2.2.2.2.2.2.2.2.2.2.2.2.2.2.2)
def q_he_s (u : q_S) (x : Nat → Int64) : q_S := (u.1, u.2.1, u.2.2.1, u.2.2.2.1, u.2.2.2.2.1, u.2.2.2.2.2.1, u.2.2.2.2.2.2.1, u.2.2.2.2.2.2.2.1, u.2.2.2.2.2.2.2.2.1, u.2.2.2.2.2.2.2.2.2.1, u.2.2.2.2.2.2.2.2.2.2.1, u.2.2.2.2.2.2.2.2.2.2.2.1, u.2.2.2.2.2.2.2.2.2.2.2.2.1, u.2.2.2.2.2.2.2.2.2.2.2.2.2.1, u.2.2.2.2.2.2.2.2.2.2.2.2.2.2.1, u.2.2.2.2.2.2.2.2.2.2.2.2.2.2.2.1, u.2.2.2.2.2.2.2.2.2.2.2.2.2.2.2.2.1, u.2.2.2.2.2.2.2.2.2.2.2.2.2.2.2.2.2.1, u.2.2.2.2.2.2.2.2.2.2.2.2.2.2.2.2.2.2.1, u.2.2.2.2.2.2.2.2.2.2.2.2.2.2.2.2.2.2.2.1, x)
def q_kd_u (u : q_S) (i x : Int32) : q_S := q_kd_s u (upd (q_kd u) i.toNatClampNeg x)
def q_bd_u (u : q_S) (i x : Int32) : q_S := q_bd_s u (upd (q_bd u) i.toNatClampNeg x)
def q_mo_u (u : q_S) (i x : Int32) : q_S := q_mo_s u (upd (q_mo u) i.toNatClampNeg x)
def q_cr_u (u : q_S) (i x : Int32) : q_S := q_cr_s u (upd (q_cr u) i.toNatClampNeg x)
def q_cp_u (u : q_S) (i x : Int32) : q_S := q_cp_s u (upd (q_cp u) i.toNatClampNeg x)
def q_cs_u (u : q_S) (i x : Int32) : q_S := q_cs_s u (upd (q_cs u) i.toNatClampNeg x)
def q_ch_u (u : q_S) (i x : Int32) : q_S := q_ch_s u (upd (q_ch u) i.toNatClampNeg x)
def q_hp_u (u : q_S) (i x : Int32) : q_S := q_hp_s u (upd (q_hp u) i.toNatClampNeg x)
def q_hr_u (u : q_S) (i x : Int32) : q_S := q_hr_s u (upd (q_hr u) i.toNatClampNeg x)
def q_hl_u (u : q_S) (i x : Int32) : q_S := q_hl_s u (upd (q_hl u) i.toNatClampNeg x)
def q_hk_u (u : q_S) (i x : Int32) : q_S := q_hk_s u (upd (q_hk u) i.toNatClampNeg x)
def q_hs_u (u : q_S) (i x : Int32) : q_S := q_hs_s u (upd (q_hs u) i.toNatClampNeg x)
def q_hy_u (u : q_S) (i x : Int32) : q_S := q_hy_s u (upd (q_hy u) i.toNatClampNeg x)
def q_hu_u (u : q_S) (i : Int32) (x : Int64) : q_S := q_hu_s u (vp_updL (q_hu u) i.toNatClampNeg x)
def q_he_u (u : q_S) (i : Int32) (x : Int64) : q_S := q_he_s u (vp_updL (q_he u) i.toNatClampNeg x)
def x_ai : gz_AI q_S := fun j k => match j with
  | 3 => k 31 q_kd q_kd_u
  | 5 => k 40 q_mo q_mo_u
  | 6 => k 61 q_cr q_cr_u
  | 7 => k 61 q_cp q_cp_u
  | 8 => k 61 q_cs q_cs_u
  | 9 => k 61 q_ch q_ch_u
  | 10 => k 121 q_hp q_hp_u
  | 11 => k 121 q_hr q_hr_u
  | 12 => k 121 q_hl q_hl_u
  | 13 => k 121 q_hk q_hk_u
  | 14 => k 121 q_hs q_hs_u
  | 15 => k 121 q_hy q_hy_u
  | _ => False
def x_az : gz_AI q_S := fun j k => match j with
  | 4 => k 4 q_bd q_bd_u
  | _ => False
def x_al : gz_AL q_S := fun j k => match j with
  | 16 => k 121 q_hu q_hu_u
  | 17 => k 121 q_he q_he_u
  | _ => False
def m_ai : gz_AI q_S := fun j k => match j with
  | 1 => k 31 q_kd q_kd_u
  | 3 => k 40 q_mo q_mo_u
  | 4 => k 61 q_cr q_cr_u
  | 5 => k 61 q_cs q_cs_u
  | 6 => k 61 q_cp q_cp_u
  | 7 => k 61 q_ch q_ch_u
  | 8 => k 121 q_hp q_hp_u
  | 9 => k 121 q_hr q_hr_u
  | 10 => k 121 q_hl q_hl_u
  | 11 => k 121 q_hk q_hk_u
  | 12 => k 121 q_hs q_hs_u
  | 13 => k 121 q_hy q_hy_u
  | _ => False
def m_az : gz_AI q_S := fun j k => match j with
  | 2 => k 4 q_bd q_bd_u
  | _ => False
def m_al : gz_AL q_S := fun j k => match j with
  | 14 => k 121 q_hu q_hu_u
  | 15 => k 121 q_he q_he_u
  | _ => False
end
section
-- HoldQueue.isKind(I)Z
def x_isKind  (v0 : Int32) : Int32 := (if v0 < 0 then 0 else (if 4 ≤ v0 then 0 else 1))
def x_isKind_t : List (Nat × gz_T q_S) := [(0, gz_ldi 1 0), (1, gz_if 4 13 (fun x => x < 0) (fun x => ¬ x < 0)), (4, gz_ldi 5 0), (5, gz_push 6 (gz_i 4)), (6, gz_if2 9 13 (fun x y => y ≤ x) (fun x y => ¬ y ≤ x)), (9, gz_push 10 (gz_i 1)), (10, gz_goto 14), (13, gz_push 14 (gz_i 0)), (14, gz_zret)]
set_option maxRecDepth 100000 in
set_option maxHeartbeats 4000000 in
theorem x_isKind_d {Kr : Option Int32 → q_S → Prop} (u : q_S) (v0 : Int32) (hk : Kr (some (x_isKind v0)) u) : gz_does x_isKind_t Kr [(0, gz_i v0)] u := by
  intro Z hZ
  refine hZ.1 [] 500 0 _ _ _ ?_
  refine And.intro (fun (h1 : v0 < 0) => ?_) (fun (h1 : ¬ v0 < 0) => ?_)
  · refine And.intro (by decide +kernel) ?_
    rw [show x_isKind v0 = 0 from (by unfold x_isKind; rw [if_pos h1])] at hk
    exact hk
  · refine And.intro (fun (h2 : 4 ≤ v0) => ?_) (fun (h2 : ¬ 4 ≤ v0) => ?_)
    · refine And.intro (by decide +kernel) ?_
      rw [show x_isKind v0 = 0 from (by unfold x_isKind; rw [if_neg h1, if_pos h2])] at hk
      exact hk
    · refine And.intro (by decide +kernel) ?_
      rw [show x_isKind v0 = 1 from (by unfold x_isKind; rw [if_neg h1, if_neg h2])] at hk
      exact hk
-- HoldQueue.record(I)I
def x_record (u : q_S) (v1 : Int32) : Int32 × q_S := (if (x_isKind v1) = 0 then (0, u) else (if (q_nr u) < 30 then (((q_nr u) + 1), (q_kd_u (q_nr_s u ((q_nr u) + 1)) ((q_nr u) + 1) v1)) else (0, u)))
def x_record_r (u : q_S) (v1 : Int32) : Int32 := (x_record u v1).1
def x_record_s (u : q_S) (v1 : Int32) : q_S := (x_record u v1).2
def x_record_p (u : q_S) (v1 : Int32) : Prop := (((x_isKind v1) = 0 → True) ∧ (¬ (x_isKind v1) = 0 → (((q_nr u) < 30 → (vp_in ((q_nr u) + 1) 31)) ∧ (¬ (q_nr u) < 30 → True))))
def x_record_t : List (Nat × gz_T q_S) := [(0, gz_ldi 1 1), (1, gz_s1P 4 x_isKind), (4, gz_if 7 16 (fun x => x = 0) (fun x => ¬ x = 0)), (7, gz_lda 8 0), (8, gz_getI 11 0 q_nr), (11, gz_push 13 (gz_i 30)), (13, gz_if2 16 18 (fun x y => x < y) (fun x y => ¬ x < y)), (16, gz_push 17 (gz_i 0)), (17, gz_iret), (18, gz_lda 19 0), (19, gz_dup 20), (20, gz_getI 23 0 q_nr), (23, gz_push 24 (gz_i 1)), (24, gz_iop 25 (fun x y => x + y)), (25, gz_putI 28 0 q_nr_s), (28, gz_lda 29 0), (29, gz_getR 32 0 3), (32, gz_lda 33 0), (33, gz_getI 36 0 q_nr), (36, gz_ldi 37 1), (37, gz_ist 38 x_ai), (38, gz_lda 39 0), (39, gz_getI 42 0 q_nr), (42, gz_iret)]
set_option maxRecDepth 100000 in
set_option maxHeartbeats 4000000 in
theorem x_record_d {Kr : Option Int32 → q_S → Prop} (u : q_S) (v1 : Int32) (hp : x_record_p u v1) (hk : Kr (some ((x_record u v1)).1) ((x_record u v1)).2) : gz_does x_record_t Kr [(0, gz_r 0), (1, gz_i v1)] u := by
  intro Z hZ
  refine hZ.1 [] 500 0 _ _ _ ?_
  unfold x_record_p at hp
  refine And.intro (fun (h1 : (x_isKind v1) = 0) => ?_) (fun (h1 : ¬ (x_isKind v1) = 0) => ?_)
  · rw [show x_record u v1 = (0, u) from (by unfold x_record; rw [if_pos h1])] at hk
    exact hk
  · have hp := hp.2 h1
    refine And.intro (fun (h2 : (q_nr u) < 30) => ?_) (fun (h2 : ¬ (q_nr u) < 30) => ?_)
    · have hp := hp.1 h2
      have n3 := hp
      refine And.intro n3 ?_
      rw [show x_record u v1 = (((q_nr u) + 1), (q_kd_u (q_nr_s u ((q_nr u) + 1)) ((q_nr u) + 1) v1)) from (by unfold x_record; rw [if_neg h1, if_pos h2])] at hk
      exact hk
    · rw [show x_record u v1 = (0, u) from (by unfold x_record; rw [if_neg h1, if_neg h2])] at hk
      exact hk
-- HoldQueue.isRecord(I)Z
def x_isRecord (u : q_S) (v1 : Int32) : Int32 := (if v1 < 1 then 0 else (if (q_nr u) < v1 then 0 else 1))
def x_isRecord_p (u : q_S) (v1 : Int32) : Prop := True
def x_isRecord_t : List (Nat × gz_T q_S) := [(0, gz_ldi 1 1), (1, gz_push 2 (gz_i 1)), (2, gz_if2 5 17 (fun x y => x < y) (fun x y => ¬ x < y)), (5, gz_ldi 6 1), (6, gz_lda 7 0), (7, gz_getI 10 0 q_nr), (10, gz_if2 13 17 (fun x y => y < x) (fun x y => ¬ y < x)), (13, gz_push 14 (gz_i 1)), (14, gz_goto 18), (17, gz_push 18 (gz_i 0)), (18, gz_zret)]
set_option maxRecDepth 100000 in
set_option maxHeartbeats 4000000 in
theorem x_isRecord_d {Kr : Option Int32 → q_S → Prop} (u : q_S) (v1 : Int32) (hk : Kr (some (x_isRecord u v1)) u) : gz_does x_isRecord_t Kr [(0, gz_r 0), (1, gz_i v1)] u := by
  intro Z hZ
  refine hZ.1 [] 500 0 _ _ _ ?_
  refine And.intro (fun (h1 : v1 < 1) => ?_) (fun (h1 : ¬ v1 < 1) => ?_)
  · refine And.intro (by decide +kernel) ?_
    rw [show x_isRecord u v1 = 0 from (by unfold x_isRecord; rw [if_pos h1])] at hk
    exact hk
  · refine And.intro (fun (h2 : (q_nr u) < v1) => ?_) (fun (h2 : ¬ (q_nr u) < v1) => ?_)
    · refine And.intro (by decide +kernel) ?_
      rw [show x_isRecord u v1 = 0 from (by unfold x_isRecord; rw [if_neg h1, if_pos h2])] at hk
      exact hk
    · refine And.intro (by decide +kernel) ?_
      rw [show x_isRecord u v1 = 1 from (by unfold x_isRecord; rw [if_neg h1, if_neg h2])] at hk
      exact hk
-- HoldQueue.isPlace(I)Z
def x_isPlace  (v0 : Int32) : Int32 := (if v0 < 0 then 0 else (if 6 ≤ v0 then 0 else 1))
def x_isPlace_t : List (Nat × gz_T q_S) := [(0, gz_ldi 1 0), (1, gz_if 4 14 (fun x => x < 0) (fun x => ¬ x < 0)), (4, gz_ldi 5 0), (5, gz_push 7 (gz_i 6)), (7, gz_if2 10 14 (fun x y => y ≤ x) (fun x y => ¬ y ≤ x)), (10, gz_push 11 (gz_i 1)), (11, gz_goto 15), (14, gz_push 15 (gz_i 0)), (15, gz_zret)]
set_option maxRecDepth 100000 in
set_option maxHeartbeats 4000000 in
theorem x_isPlace_d {Kr : Option Int32 → q_S → Prop} (u : q_S) (v0 : Int32) (hk : Kr (some (x_isPlace v0)) u) : gz_does x_isPlace_t Kr [(0, gz_i v0)] u := by
  intro Z hZ
  refine hZ.1 [] 500 0 _ _ _ ?_
  refine And.intro (fun (h1 : v0 < 0) => ?_) (fun (h1 : ¬ v0 < 0) => ?_)
  · refine And.intro (by decide +kernel) ?_
    rw [show x_isPlace v0 = 0 from (by unfold x_isPlace; rw [if_pos h1])] at hk
    exact hk
  · refine And.intro (fun (h2 : 6 ≤ v0) => ?_) (fun (h2 : ¬ 6 ≤ v0) => ?_)
    · refine And.intro (by decide +kernel) ?_
      rw [show x_isPlace v0 = 0 from (by unfold x_isPlace; rw [if_neg h1, if_pos h2])] at hk
      exact hk
    · refine And.intro (by decide +kernel) ?_
      rw [show x_isPlace v0 = 1 from (by unfold x_isPlace; rw [if_neg h1, if_neg h2])] at hk
      exact hk
-- HoldQueue$Copies.areFull()Z
def xc_areFull (u : q_S) : Int32 := (if (q_nc u) < 60 then 0 else 1)
def xc_areFull_p (u : q_S) : Prop := True
def xc_areFull_t : List (Nat × gz_T q_S) := [(0, gz_lda 1 0), (1, gz_getI 4 1 q_nc), (4, gz_push 6 (gz_i 60)), (6, gz_if2 9 13 (fun x y => x < y) (fun x y => ¬ x < y)), (9, gz_push 10 (gz_i 1)), (10, gz_goto 14), (13, gz_push 14 (gz_i 0)), (14, gz_zret)]
set_option maxRecDepth 100000 in
set_option maxHeartbeats 4000000 in
theorem xc_areFull_d {Kr : Option Int32 → q_S → Prop} (u : q_S) (hk : Kr (some (xc_areFull u)) u) : gz_does xc_areFull_t Kr [(0, gz_r 1)] u := by
  intro Z hZ
  refine hZ.1 [] 500 0 _ _ _ ?_
  refine And.intro (fun (h1 : (q_nc u) < 60) => ?_) (fun (h1 : ¬ (q_nc u) < 60) => ?_)
  · refine And.intro (by decide +kernel) ?_
    rw [show xc_areFull u = 0 from (by unfold xc_areFull; rw [if_pos h1])] at hk
    exact hk
  · refine And.intro (by decide +kernel) ?_
    rw [show xc_areFull u = 1 from (by unfold xc_areFull; rw [if_neg h1])] at hk
    exact hk
-- HoldQueue$Copies.add(II)I
def xc_add (u : q_S) (v1 : Int32) (v2 : Int32) : Int32 × q_S := (((q_nc u) + 1), (q_cs_u (q_cp_u (q_cr_u (q_nc_s u ((q_nc u) + 1)) ((q_nc u) + 1) v1) ((q_nc u) + 1) v2) ((q_nc u) + 1) 1))
def xc_add_r (u : q_S) (v1 : Int32) (v2 : Int32) : Int32 := (xc_add u v1 v2).1
def xc_add_s (u : q_S) (v1 : Int32) (v2 : Int32) : q_S := (xc_add u v1 v2).2
def xc_add_p (u : q_S) (v1 : Int32) (v2 : Int32) : Prop := (vp_in ((q_nc u) + 1) 61)
def xc_add_t : List (Nat × gz_T q_S) := [(0, gz_lda 1 0), (1, gz_dup 2), (2, gz_getI 5 1 q_nc), (5, gz_push 6 (gz_i 1)), (6, gz_iop 7 (fun x y => x + y)), (7, gz_putI 10 1 q_nc_s), (10, gz_lda 11 0), (11, gz_getR 14 1 6), (14, gz_lda 15 0), (15, gz_getI 18 1 q_nc), (18, gz_ldi 19 1), (19, gz_ist 20 x_ai), (20, gz_lda 21 0), (21, gz_getR 24 1 7), (24, gz_lda 25 0), (25, gz_getI 28 1 q_nc), (28, gz_ldi 29 2), (29, gz_ist 30 x_ai), (30, gz_lda 31 0), (31, gz_getR 34 1 8), (34, gz_lda 35 0), (35, gz_getI 38 1 q_nc), (38, gz_push 39 (gz_i 1)), (39, gz_ist 40 x_ai), (40, gz_lda 41 0), (41, gz_getI 44 1 q_nc), (44, gz_iret)]
set_option maxRecDepth 100000 in
set_option maxHeartbeats 4000000 in
theorem xc_add_d {Kr : Option Int32 → q_S → Prop} (u : q_S) (v1 : Int32) (v2 : Int32) (hp : xc_add_p u v1 v2) (hk : Kr (some ((xc_add u v1 v2)).1) ((xc_add u v1 v2)).2) : gz_does xc_add_t Kr [(0, gz_r 1), (1, gz_i v1), (2, gz_i v2)] u := by
  intro Z hZ
  refine hZ.1 [] 500 0 _ _ _ ?_
  unfold xc_add_p at hp
  have n1 := hp
  refine And.intro n1 ?_
  refine And.intro n1 ?_
  refine And.intro n1 ?_
  rw [show xc_add u v1 v2 = (((q_nc u) + 1), (q_cs_u (q_cp_u (q_cr_u (q_nc_s u ((q_nc u) + 1)) ((q_nc u) + 1) v1) ((q_nc u) + 1) v2) ((q_nc u) + 1) 1)) from rfl] at hk
  exact hk
-- HoldQueue.copy(II)I
def x_copy (u : q_S) (v1 : Int32) (v2 : Int32) : Int32 × q_S := (if (x_isRecord u v1) = 0 then (0, u) else (if (x_isPlace v2) = 0 then (0, u) else (if (xc_areFull u) = 0 then ((xc_add_r u v1 v2), (xc_add_s u v1 v2)) else (0, u))))
def x_copy_r (u : q_S) (v1 : Int32) (v2 : Int32) : Int32 := (x_copy u v1 v2).1
def x_copy_s (u : q_S) (v1 : Int32) (v2 : Int32) : q_S := (x_copy u v1 v2).2
def x_copy_p (u : q_S) (v1 : Int32) (v2 : Int32) : Prop := (x_isRecord_p u v1 ∧ (((x_isRecord u v1) = 0 → True) ∧ (¬ (x_isRecord u v1) = 0 → (((x_isPlace v2) = 0 → True) ∧ (¬ (x_isPlace v2) = 0 → (((xc_areFull u) = 0 → (xc_add_p u v1 v2)) ∧ (¬ (xc_areFull u) = 0 → True)))))))
def x_copy_t : List (Nat × gz_T q_S) := [(0, gz_lda 1 0), (1, gz_ldi 2 1), (2, gz_c1P 5 0 x_isRecord_p x_isRecord), (5, gz_if 8 25 (fun x => x = 0) (fun x => ¬ x = 0)), (8, gz_ldi 9 2), (9, gz_s1P 12 x_isPlace), (12, gz_if 15 25 (fun x => x = 0) (fun x => ¬ x = 0)), (15, gz_lda 16 0), (16, gz_getR 19 0 1), (19, gz_c0P 22 1 xc_areFull), (22, gz_if 25 27 (fun x => x = 0) (fun x => ¬ x = 0)), (25, gz_push 26 (gz_i 0)), (26, gz_iret), (27, gz_lda 28 0), (28, gz_getR 31 0 1), (31, gz_ldi 32 1), (32, gz_ldi 33 2), (33, gz_c2I 36 1 xc_add_p xc_add_r xc_add_s), (36, gz_iret)]
set_option maxRecDepth 100000 in
set_option maxHeartbeats 4000000 in
theorem x_copy_d {Kr : Option Int32 → q_S → Prop} (u : q_S) (v1 : Int32) (v2 : Int32) (hp : x_copy_p u v1 v2) (hk : Kr (some ((x_copy u v1 v2)).1) ((x_copy u v1 v2)).2) : gz_does x_copy_t Kr [(0, gz_r 0), (1, gz_i v1), (2, gz_i v2)] u := by
  intro Z hZ
  refine hZ.1 [] 500 0 _ _ _ ?_
  unfold x_copy_p at hp
  have n1 := hp.1
  refine And.intro n1 ?_
  have hp := hp.2
  refine And.intro (fun (h2 : (x_isRecord u v1) = 0) => ?_) (fun (h2 : ¬ (x_isRecord u v1) = 0) => ?_)
  · rw [show x_copy u v1 v2 = (0, u) from (by unfold x_copy; rw [if_pos h2])] at hk
    exact hk
  · have hp := hp.2 h2
    refine And.intro (fun (h3 : (x_isPlace v2) = 0) => ?_) (fun (h3 : ¬ (x_isPlace v2) = 0) => ?_)
    · rw [show x_copy u v1 v2 = (0, u) from (by unfold x_copy; rw [if_neg h2, if_pos h3])] at hk
      exact hk
    · have hp := hp.2 h3
      refine And.intro (fun (h4 : (xc_areFull u) = 0) => ?_) (fun (h4 : ¬ (xc_areFull u) = 0) => ?_)
      · have hp := hp.1 h4
        have n5 := hp
        refine And.intro n5 ?_
        rw [show x_copy u v1 v2 = ((xc_add_r u v1 v2), (xc_add_s u v1 v2)) from (by unfold x_copy; rw [if_neg h2, if_neg h3, if_pos h4])] at hk
        exact hk
      · rw [show x_copy u v1 v2 = (0, u) from (by unfold x_copy; rw [if_neg h2, if_neg h3, if_neg h4])] at hk
        exact hk
-- HoldQueue.bar(IZ)Z
def x_bar (u : q_S) (v1 : Int32) (v2 : Int32) : Int32 × q_S := (if (x_isKind v1) = 0 then (0, u) else ((q_bd u (Int32.toNatClampNeg v1)), (q_bd_u u v1 (vp_nar .boolean v2))))
def x_bar_r (u : q_S) (v1 : Int32) (v2 : Int32) : Int32 := (x_bar u v1 v2).1
def x_bar_s (u : q_S) (v1 : Int32) (v2 : Int32) : q_S := (x_bar u v1 v2).2
def x_bar_p (u : q_S) (v1 : Int32) (v2 : Int32) : Prop := (((x_isKind v1) = 0 → True) ∧ (¬ (x_isKind v1) = 0 → (vp_in v1 4 ∧ (narrow .boolean (.int (q_bd u (Int32.toNatClampNeg v1))) = .int (q_bd u (Int32.toNatClampNeg v1))))))
def x_bar_t : List (Nat × gz_T q_S) := [(0, gz_ldi 1 1), (1, gz_s1P 4 x_isKind), (4, gz_if 7 9 (fun x => ¬ x = 0) (fun x => x = 0)), (7, gz_push 8 (gz_i 0)), (8, gz_zret), (9, gz_lda 10 0), (10, gz_getR 13 0 4), (13, gz_ldi 14 1), (14, gz_ild 15 x_az), (15, gz_stor 16 3), (16, gz_lda 17 0), (17, gz_getR 20 0 4), (20, gz_ldi 21 1), (21, gz_ldi 22 2), (22, gz_zst 23 x_az), (23, gz_ldi 24 3), (24, gz_zret)]
set_option maxRecDepth 100000 in
set_option maxHeartbeats 4000000 in
theorem x_bar_d {Kr : Option Int32 → q_S → Prop} (u : q_S) (v1 : Int32) (v2 : Int32) (hp : x_bar_p u v1 v2) (hk : Kr (some ((x_bar u v1 v2)).1) ((x_bar u v1 v2)).2) : gz_does x_bar_t Kr [(0, gz_r 0), (1, gz_i v1), (2, gz_i v2)] u := by
  intro Z hZ
  refine hZ.1 [] 500 0 _ _ _ ?_
  unfold x_bar_p at hp
  refine And.intro (fun (h1 : ¬ (x_isKind v1) = 0) => ?_) (fun (h1 : (x_isKind v1) = 0) => ?_)
  · have hp := hp.2 h1
    have n2 := hp.1
    refine And.intro n2 ?_
    have hp := hp.2
    refine And.intro n2 ?_
    have n3 := hp
    refine And.intro n3 ?_
    rw [show x_bar u v1 v2 = ((q_bd u (Int32.toNatClampNeg v1)), (q_bd_u u v1 (vp_nar .boolean v2))) from (by unfold x_bar; rw [if_neg h1])] at hk
    exact hk
  · refine And.intro (by decide +kernel) ?_
    rw [show x_bar u v1 v2 = (0, u) from (by unfold x_bar; rw [if_pos h1])] at hk
    exact hk
-- HoldQueue.isPerson(I)Z
def x_isPerson  (v0 : Int32) : Int32 := (if v0 < 0 then 0 else (if 40 ≤ v0 then 0 else 1))
def x_isPerson_t : List (Nat × gz_T q_S) := [(0, gz_ldi 1 0), (1, gz_if 4 14 (fun x => x < 0) (fun x => ¬ x < 0)), (4, gz_ldi 5 0), (5, gz_push 7 (gz_i 40)), (7, gz_if2 10 14 (fun x y => y ≤ x) (fun x y => ¬ y ≤ x)), (10, gz_push 11 (gz_i 1)), (11, gz_goto 15), (14, gz_push 15 (gz_i 0)), (15, gz_zret)]
set_option maxRecDepth 100000 in
set_option maxHeartbeats 4000000 in
theorem x_isPerson_d {Kr : Option Int32 → q_S → Prop} (u : q_S) (v0 : Int32) (hk : Kr (some (x_isPerson v0)) u) : gz_does x_isPerson_t Kr [(0, gz_i v0)] u := by
  intro Z hZ
  refine hZ.1 [] 500 0 _ _ _ ?_
  refine And.intro (fun (h1 : v0 < 0) => ?_) (fun (h1 : ¬ v0 < 0) => ?_)
  · refine And.intro (by decide +kernel) ?_
    rw [show x_isPerson v0 = 0 from (by unfold x_isPerson; rw [if_pos h1])] at hk
    exact hk
  · refine And.intro (fun (h2 : 40 ≤ v0) => ?_) (fun (h2 : ¬ 40 ≤ v0) => ?_)
    · refine And.intro (by decide +kernel) ?_
      rw [show x_isPerson v0 = 0 from (by unfold x_isPerson; rw [if_neg h1, if_pos h2])] at hk
      exact hk
    · refine And.intro (by decide +kernel) ?_
      rw [show x_isPerson v0 = 1 from (by unfold x_isPerson; rw [if_neg h1, if_neg h2])] at hk
      exact hk
-- HoldQueue$Holds.has(I)Z
def xh_has (u : q_S) (v1 : Int32) : Int32 := (if v1 < 1 then 0 else (if (q_nh u) < v1 then 0 else 1))
def xh_has_p (u : q_S) (v1 : Int32) : Prop := True
def xh_has_t : List (Nat × gz_T q_S) := [(0, gz_ldi 1 1), (1, gz_push 2 (gz_i 1)), (2, gz_if2 5 17 (fun x y => x < y) (fun x y => ¬ x < y)), (5, gz_ldi 6 1), (6, gz_lda 7 0), (7, gz_getI 10 2 q_nh), (10, gz_if2 13 17 (fun x y => y < x) (fun x y => ¬ y < x)), (13, gz_push 14 (gz_i 1)), (14, gz_goto 18), (17, gz_push 18 (gz_i 0)), (18, gz_zret)]
set_option maxRecDepth 100000 in
set_option maxHeartbeats 4000000 in
theorem xh_has_d {Kr : Option Int32 → q_S → Prop} (u : q_S) (v1 : Int32) (hk : Kr (some (xh_has u v1)) u) : gz_does xh_has_t Kr [(0, gz_r 2), (1, gz_i v1)] u := by
  intro Z hZ
  refine hZ.1 [] 500 0 _ _ _ ?_
  refine And.intro (fun (h1 : v1 < 1) => ?_) (fun (h1 : ¬ v1 < 1) => ?_)
  · refine And.intro (by decide +kernel) ?_
    rw [show xh_has u v1 = 0 from (by unfold xh_has; rw [if_pos h1])] at hk
    exact hk
  · refine And.intro (fun (h2 : (q_nh u) < v1) => ?_) (fun (h2 : ¬ (q_nh u) < v1) => ?_)
    · refine And.intro (by decide +kernel) ?_
      rw [show xh_has u v1 = 0 from (by unfold xh_has; rw [if_neg h1, if_pos h2])] at hk
      exact hk
    · refine And.intro (by decide +kernel) ?_
      rw [show xh_has u v1 = 1 from (by unfold xh_has; rw [if_neg h1, if_neg h2])] at hk
      exact hk
-- HoldQueue$Holds.isIn(II)Z
def xh_isIn (u : q_S) (v1 : Int32) (v2 : Int32) : Int32 := (if (xh_has u v1) = 0 then 0 else (if (q_hs u (Int32.toNatClampNeg v1)) = v2 then 1 else 0))
def xh_isIn_p (u : q_S) (v1 : Int32) (v2 : Int32) : Prop := (xh_has_p u v1 ∧ (((xh_has u v1) = 0 → True) ∧ (¬ (xh_has u v1) = 0 → (vp_in v1 121))))
def xh_isIn_t : List (Nat × gz_T q_S) := [(0, gz_lda 1 0), (1, gz_ldi 2 1), (2, gz_c1P 5 2 xh_has_p xh_has), (5, gz_if 8 22 (fun x => x = 0) (fun x => ¬ x = 0)), (8, gz_lda 9 0), (9, gz_getR 12 2 14), (12, gz_ldi 13 1), (13, gz_ild 14 x_ai), (14, gz_ldi 15 2), (15, gz_if2 18 22 (fun x y => ¬ x = y) (fun x y => x = y)), (18, gz_push 19 (gz_i 1)), (19, gz_goto 23), (22, gz_push 23 (gz_i 0)), (23, gz_zret)]
set_option maxRecDepth 100000 in
set_option maxHeartbeats 4000000 in
theorem xh_isIn_d {Kr : Option Int32 → q_S → Prop} (u : q_S) (v1 : Int32) (v2 : Int32) (hp : xh_isIn_p u v1 v2) (hk : Kr (some (xh_isIn u v1 v2)) u) : gz_does xh_isIn_t Kr [(0, gz_r 2), (1, gz_i v1), (2, gz_i v2)] u := by
  intro Z hZ
  refine hZ.1 [] 500 0 _ _ _ ?_
  unfold xh_isIn_p at hp
  have n1 := hp.1
  refine And.intro n1 ?_
  have hp := hp.2
  refine And.intro (fun (h2 : (xh_has u v1) = 0) => ?_) (fun (h2 : ¬ (xh_has u v1) = 0) => ?_)
  · refine And.intro (by decide +kernel) ?_
    rw [show xh_isIn u v1 v2 = 0 from (by unfold xh_isIn; rw [if_pos h2])] at hk
    exact hk
  · have hp := hp.2 h2
    have n3 := hp
    refine And.intro n3 ?_
    refine And.intro (fun (h4 : ¬ (q_hs u (Int32.toNatClampNeg v1)) = v2) => ?_) (fun (h4 : (q_hs u (Int32.toNatClampNeg v1)) = v2) => ?_)
    · refine And.intro (by decide +kernel) ?_
      rw [show xh_isIn u v1 v2 = 0 from (by unfold xh_isIn; rw [if_neg h2, if_neg h4])] at hk
      exact hk
    · refine And.intro (by decide +kernel) ?_
      rw [show xh_isIn u v1 v2 = 1 from (by unfold xh_isIn; rw [if_neg h2, if_pos h4])] at hk
      exact hk
-- HoldQueue$Holds.isOpen(I)Z
def xh_isOpen (u : q_S) (v1 : Int32) : Int32 := (if (xh_isIn u v1 0) = 0 then (if (xh_isIn u v1 1) = 0 then (if (xh_isIn u v1 2) = 0 then 0 else 1) else 1) else 1)
def xh_isOpen_p (u : q_S) (v1 : Int32) : Prop := (xh_isIn_p u v1 0 ∧ (((xh_isIn u v1 0) = 0 → (xh_isIn_p u v1 1 ∧ (((xh_isIn u v1 1) = 0 → (xh_isIn_p u v1 2)) ∧ (¬ (xh_isIn u v1 1) = 0 → True)))) ∧ (¬ (xh_isIn u v1 0) = 0 → True)))
def xh_isOpen_t : List (Nat × gz_T q_S) := [(0, gz_lda 1 0), (1, gz_ldi 2 1), (2, gz_push 3 (gz_i 0)), (3, gz_c2P 6 2 xh_isIn_p xh_isIn), (6, gz_if 9 27 (fun x => ¬ x = 0) (fun x => x = 0)), (9, gz_lda 10 0), (10, gz_ldi 11 1), (11, gz_push 12 (gz_i 1)), (12, gz_c2P 15 2 xh_isIn_p xh_isIn), (15, gz_if 18 27 (fun x => ¬ x = 0) (fun x => x = 0)), (18, gz_lda 19 0), (19, gz_ldi 20 1), (20, gz_push 21 (gz_i 2)), (21, gz_c2P 24 2 xh_isIn_p xh_isIn), (24, gz_if 27 31 (fun x => x = 0) (fun x => ¬ x = 0)), (27, gz_push 28 (gz_i 1)), (28, gz_goto 32), (31, gz_push 32 (gz_i 0)), (32, gz_zret)]
set_option maxRecDepth 100000 in
set_option maxHeartbeats 4000000 in
theorem xh_isOpen_d {Kr : Option Int32 → q_S → Prop} (u : q_S) (v1 : Int32) (hp : xh_isOpen_p u v1) (hk : Kr (some (xh_isOpen u v1)) u) : gz_does xh_isOpen_t Kr [(0, gz_r 2), (1, gz_i v1)] u := by
  intro Z hZ
  refine hZ.1 [] 500 0 _ _ _ ?_
  unfold xh_isOpen_p at hp
  have n1 := hp.1
  refine And.intro n1 ?_
  have hp := hp.2
  refine And.intro (fun (h2 : ¬ (xh_isIn u v1 0) = 0) => ?_) (fun (h2 : (xh_isIn u v1 0) = 0) => ?_)
  · refine And.intro (by decide +kernel) ?_
    rw [show xh_isOpen u v1 = 1 from (by unfold xh_isOpen; rw [if_neg h2])] at hk
    exact hk
  · have hp := hp.1 h2
    have n3 := hp.1
    refine And.intro n3 ?_
    have hp := hp.2
    refine And.intro (fun (h4 : ¬ (xh_isIn u v1 1) = 0) => ?_) (fun (h4 : (xh_isIn u v1 1) = 0) => ?_)
    · refine And.intro (by decide +kernel) ?_
      rw [show xh_isOpen u v1 = 1 from (by unfold xh_isOpen; rw [if_pos h2, if_neg h4])] at hk
      exact hk
    · have hp := hp.1 h4
      have n5 := hp
      refine And.intro n5 ?_
      refine And.intro (fun (h6 : (xh_isIn u v1 2) = 0) => ?_) (fun (h6 : ¬ (xh_isIn u v1 2) = 0) => ?_)
      · refine And.intro (by decide +kernel) ?_
        rw [show xh_isOpen u v1 = 0 from (by unfold xh_isOpen; rw [if_pos h2, if_pos h4, if_pos h6])] at hk
        exact hk
      · refine And.intro (by decide +kernel) ?_
        rw [show xh_isOpen u v1 = 1 from (by unfold xh_isOpen; rw [if_pos h2, if_pos h4, if_neg h6])] at hk
        exact hk
-- HoldQueue$Holds.hasOpen(II)Z
def xh_hasOpen_l2_b (rec : Int32 → Int32 → Int32 → q_S → Int32) (v1 : Int32) (v2 : Int32) (v3 : Int32) (u : q_S) : Int32 := (if (q_nh u) < v3 then 0 else (if (q_hp u (Int32.toNatClampNeg v3)) = v1 then (if (q_hr u (Int32.toNatClampNeg v3)) = v2 then (if (xh_isOpen u v3) = 0 then (rec v1 v2 (v3 + 1) u) else 1) else (rec v1 v2 (v3 + 1) u)) else (rec v1 v2 (v3 + 1) u)))
def xh_hasOpen_l2 : Nat → Int32 → Int32 → Int32 → q_S → Int32
  | 0, _, _, _, _ => 0
  | n + 1, v1, v2, v3, u => xh_hasOpen_l2_b (xh_hasOpen_l2 n) v1 v2 v3 u
def xh_hasOpen_l2_pb (rec : Int32 → Int32 → Int32 → q_S → Prop) (v1 : Int32) (v2 : Int32) (v3 : Int32) (u : q_S) : Prop := (((q_nh u) < v3 → True) ∧ (¬ (q_nh u) < v3 → (vp_in v3 121 ∧ (((q_hp u (Int32.toNatClampNeg v3)) = v1 → (((q_hr u (Int32.toNatClampNeg v3)) = v2 → (xh_isOpen_p u v3 ∧ (((xh_isOpen u v3) = 0 → (rec v1 v2 (v3 + 1) u)) ∧ (¬ (xh_isOpen u v3) = 0 → True)))) ∧ (¬ (q_hr u (Int32.toNatClampNeg v3)) = v2 → (rec v1 v2 (v3 + 1) u)))) ∧ (¬ (q_hp u (Int32.toNatClampNeg v3)) = v1 → (rec v1 v2 (v3 + 1) u))))))
def xh_hasOpen_l2_p : Nat → Int32 → Int32 → Int32 → q_S → Prop
  | 0, _, _, _, _ => False
  | n + 1, v1, v2, v3, u => xh_hasOpen_l2_pb (xh_hasOpen_l2_p n) v1 v2 v3 u
def xh_hasOpen (u : q_S) (v1 : Int32) (v2 : Int32) : Int32 := (xh_hasOpen_l2 200 v1 v2 1 u)
def xh_hasOpen_p (u : q_S) (v1 : Int32) (v2 : Int32) : Prop := (xh_hasOpen_l2_p 200 v1 v2 1 u)
def xh_hasOpen_t : List (Nat × gz_T q_S) := [(0, gz_push 1 (gz_i 1)), (1, gz_stor 2 3), (2, gz_ldi 3 3), (3, gz_lda 4 0), (4, gz_getI 7 2 q_nh), (7, gz_if2 10 46 (fun x y => y < x) (fun x y => ¬ y < x)), (10, gz_lda 11 0), (11, gz_getR 14 2 10), (14, gz_ldi 15 3), (15, gz_ild 16 x_ai), (16, gz_ldi 17 1), (17, gz_if2 20 40 (fun x y => ¬ x = y) (fun x y => x = y)), (20, gz_lda 21 0), (21, gz_getR 24 2 11), (24, gz_ldi 25 3), (25, gz_ild 26 x_ai), (26, gz_ldi 27 2), (27, gz_if2 30 40 (fun x y => ¬ x = y) (fun x y => x = y)), (30, gz_lda 31 0), (31, gz_ldi 32 3), (32, gz_c1P 35 2 xh_isOpen_p xh_isOpen), (35, gz_if 38 40 (fun x => x = 0) (fun x => ¬ x = 0)), (38, gz_push 39 (gz_i 1)), (39, gz_zret), (40, gz_iinc 43 3 1), (43, gz_goto 2), (46, gz_push 47 (gz_i 0)), (47, gz_zret)]
set_option maxRecDepth 100000 in
set_option maxHeartbeats 4000000 in
theorem xh_hasOpen_l2_d {Kr : Option Int32 → q_S → Prop} {Z : gz_K q_S} (hZ : gz_shut xh_hasOpen_t Kr Z) : ∀ (n : Nat) (v1 : Int32) (v2 : Int32) (v3 : Int32) (u : q_S), xh_hasOpen_l2_p n v1 v2 v3 u → Kr (some (xh_hasOpen_l2 n v1 v2 v3 u)) u → Z 2 [(0, gz_r 2), (1, gz_i v1), (2, gz_i v2), (3, gz_i v3)] [] u := by
  intro n
  induction n with
  | zero => intro v1 v2 v3 u hp _; exact False.elim hp
  | succ n ih =>
  intro v1 v2 v3 u hp hk
  refine hZ.1 [2] 500 2 _ _ _ ?_
  have hp : xh_hasOpen_l2_pb (xh_hasOpen_l2_p n) v1 v2 v3 u := hp
  refine And.intro (fun (h1 : (q_nh u) < v3) => ?_) (fun (h1 : ¬ (q_nh u) < v3) => ?_)
  · refine And.intro (by decide +kernel) ?_
    rw [show xh_hasOpen_l2 (n + 1) v1 v2 v3 u = 0 from (by unfold xh_hasOpen_l2_b; rw [if_pos h1] : xh_hasOpen_l2_b (xh_hasOpen_l2 n) v1 v2 v3 u = 0)] at hk
    exact hk
  · have hp := hp.2 h1
    have n2 := hp.1
    refine And.intro n2 ?_
    have hp := hp.2
    refine And.intro (fun (h3 : ¬ (q_hp u (Int32.toNatClampNeg v3)) = v1) => ?_) (fun (h3 : (q_hp u (Int32.toNatClampNeg v3)) = v1) => ?_)
    · have hp := hp.2 h3
      rw [show xh_hasOpen_l2 (n + 1) v1 v2 v3 u = (xh_hasOpen_l2 n v1 v2 (v3 + 1) u) from (by unfold xh_hasOpen_l2_b; rw [if_neg h1, if_neg h3] : xh_hasOpen_l2_b (xh_hasOpen_l2 n) v1 v2 v3 u = (xh_hasOpen_l2 n v1 v2 (v3 + 1) u))] at hk
      exact ih v1 v2 (v3 + 1) u hp hk
    · have hp := hp.1 h3
      refine And.intro n2 ?_
      refine And.intro (fun (h4 : ¬ (q_hr u (Int32.toNatClampNeg v3)) = v2) => ?_) (fun (h4 : (q_hr u (Int32.toNatClampNeg v3)) = v2) => ?_)
      · have hp := hp.2 h4
        rw [show xh_hasOpen_l2 (n + 1) v1 v2 v3 u = (xh_hasOpen_l2 n v1 v2 (v3 + 1) u) from (by unfold xh_hasOpen_l2_b; rw [if_neg h1, if_pos h3, if_neg h4] : xh_hasOpen_l2_b (xh_hasOpen_l2 n) v1 v2 v3 u = (xh_hasOpen_l2 n v1 v2 (v3 + 1) u))] at hk
        exact ih v1 v2 (v3 + 1) u hp hk
      · have hp := hp.1 h4
        have n5 := hp.1
        refine And.intro n5 ?_
        have hp := hp.2
        refine And.intro (fun (h6 : (xh_isOpen u v3) = 0) => ?_) (fun (h6 : ¬ (xh_isOpen u v3) = 0) => ?_)
        · have hp := hp.1 h6
          rw [show xh_hasOpen_l2 (n + 1) v1 v2 v3 u = (xh_hasOpen_l2 n v1 v2 (v3 + 1) u) from (by unfold xh_hasOpen_l2_b; rw [if_neg h1, if_pos h3, if_pos h4, if_pos h6] : xh_hasOpen_l2_b (xh_hasOpen_l2 n) v1 v2 v3 u = (xh_hasOpen_l2 n v1 v2 (v3 + 1) u))] at hk
          exact ih v1 v2 (v3 + 1) u hp hk
        · refine And.intro (by decide +kernel) ?_
          rw [show xh_hasOpen_l2 (n + 1) v1 v2 v3 u = 1 from (by unfold xh_hasOpen_l2_b; rw [if_neg h1, if_pos h3, if_pos h4, if_neg h6] : xh_hasOpen_l2_b (xh_hasOpen_l2 n) v1 v2 v3 u = 1)] at hk
          exact hk
set_option maxRecDepth 100000 in
set_option maxHeartbeats 4000000 in
theorem xh_hasOpen_d {Kr : Option Int32 → q_S → Prop} (u : q_S) (v1 : Int32) (v2 : Int32) (hp : xh_hasOpen_p u v1 v2) (hk : Kr (some (xh_hasOpen u v1 v2)) u) : gz_does xh_hasOpen_t Kr [(0, gz_r 2), (1, gz_i v1), (2, gz_i v2)] u := by
  intro Z hZ
  refine hZ.1 [2] 500 0 _ _ _ ?_
  unfold xh_hasOpen_p at hp
  rw [show xh_hasOpen u v1 v2 = (xh_hasOpen_l2 200 v1 v2 1 u) from rfl] at hk
  exact xh_hasOpen_l2_d hZ 200 v1 v2 1 u hp hk
-- HoldQueue$Holds.areFull()Z
def xh_areFull (u : q_S) : Int32 := (if (q_nh u) < 120 then 0 else 1)
def xh_areFull_p (u : q_S) : Prop := True
def xh_areFull_t : List (Nat × gz_T q_S) := [(0, gz_lda 1 0), (1, gz_getI 4 2 q_nh), (4, gz_push 6 (gz_i 120)), (6, gz_if2 9 13 (fun x y => x < y) (fun x y => ¬ x < y)), (9, gz_push 10 (gz_i 1)), (10, gz_goto 14), (13, gz_push 14 (gz_i 0)), (14, gz_zret)]
set_option maxRecDepth 100000 in
set_option maxHeartbeats 4000000 in
theorem xh_areFull_d {Kr : Option Int32 → q_S → Prop} (u : q_S) (hk : Kr (some (xh_areFull u)) u) : gz_does xh_areFull_t Kr [(0, gz_r 2)] u := by
  intro Z hZ
  refine hZ.1 [] 500 0 _ _ _ ?_
  refine And.intro (fun (h1 : (q_nh u) < 120) => ?_) (fun (h1 : ¬ (q_nh u) < 120) => ?_)
  · refine And.intro (by decide +kernel) ?_
    rw [show xh_areFull u = 0 from (by unfold xh_areFull; rw [if_pos h1])] at hk
    exact hk
  · refine And.intro (by decide +kernel) ?_
    rw [show xh_areFull u = 1 from (by unfold xh_areFull; rw [if_neg h1])] at hk
    exact hk
-- HoldQueue$Holds.countOpen(I)I
def xh_countOpen_l4_b (rec : Int32 → Int32 → Int32 → q_S → Int32) (v1 : Int32) (v2 : Int32) (v3 : Int32) (u : q_S) : Int32 := (if (q_nh u) < v3 then v2 else (if (q_hp u (Int32.toNatClampNeg v3)) = v1 then (if (xh_isOpen u v3) = 0 then (rec v1 v2 (v3 + 1) u) else (rec v1 (v2 + 1) (v3 + 1) u)) else (rec v1 v2 (v3 + 1) u)))
def xh_countOpen_l4 : Nat → Int32 → Int32 → Int32 → q_S → Int32
  | 0, _, _, _, _ => 0
  | n + 1, v1, v2, v3, u => xh_countOpen_l4_b (xh_countOpen_l4 n) v1 v2 v3 u
def xh_countOpen_l4_pb (rec : Int32 → Int32 → Int32 → q_S → Prop) (v1 : Int32) (v2 : Int32) (v3 : Int32) (u : q_S) : Prop := (((q_nh u) < v3 → True) ∧ (¬ (q_nh u) < v3 → (vp_in v3 121 ∧ (((q_hp u (Int32.toNatClampNeg v3)) = v1 → (xh_isOpen_p u v3 ∧ (((xh_isOpen u v3) = 0 → (rec v1 v2 (v3 + 1) u)) ∧ (¬ (xh_isOpen u v3) = 0 → (rec v1 (v2 + 1) (v3 + 1) u))))) ∧ (¬ (q_hp u (Int32.toNatClampNeg v3)) = v1 → (rec v1 v2 (v3 + 1) u))))))
def xh_countOpen_l4_p : Nat → Int32 → Int32 → Int32 → q_S → Prop
  | 0, _, _, _, _ => False
  | n + 1, v1, v2, v3, u => xh_countOpen_l4_pb (xh_countOpen_l4_p n) v1 v2 v3 u
def xh_countOpen (u : q_S) (v1 : Int32) : Int32 := (xh_countOpen_l4 200 v1 0 1 u)
def xh_countOpen_p (u : q_S) (v1 : Int32) : Prop := (xh_countOpen_l4_p 200 v1 0 1 u)
def xh_countOpen_t : List (Nat × gz_T q_S) := [(0, gz_push 1 (gz_i 0)), (1, gz_stor 2 2), (2, gz_push 3 (gz_i 1)), (3, gz_stor 4 3), (4, gz_ldi 5 3), (5, gz_lda 6 0), (6, gz_getI 9 2 q_nh), (9, gz_if2 12 39 (fun x y => y < x) (fun x y => ¬ y < x)), (12, gz_lda 13 0), (13, gz_getR 16 2 10), (16, gz_ldi 17 3), (17, gz_ild 18 x_ai), (18, gz_ldi 19 1), (19, gz_if2 22 33 (fun x y => ¬ x = y) (fun x y => x = y)), (22, gz_lda 23 0), (23, gz_ldi 24 3), (24, gz_c1P 27 2 xh_isOpen_p xh_isOpen), (27, gz_if 30 33 (fun x => x = 0) (fun x => ¬ x = 0)), (30, gz_iinc 33 2 1), (33, gz_iinc 36 3 1), (36, gz_goto 4), (39, gz_ldi 40 2), (40, gz_iret)]
set_option maxRecDepth 100000 in
set_option maxHeartbeats 4000000 in
theorem xh_countOpen_l4_d {Kr : Option Int32 → q_S → Prop} {Z : gz_K q_S} (hZ : gz_shut xh_countOpen_t Kr Z) : ∀ (n : Nat) (v1 : Int32) (v2 : Int32) (v3 : Int32) (u : q_S), xh_countOpen_l4_p n v1 v2 v3 u → Kr (some (xh_countOpen_l4 n v1 v2 v3 u)) u → Z 4 [(0, gz_r 2), (1, gz_i v1), (2, gz_i v2), (3, gz_i v3)] [] u := by
  intro n
  induction n with
  | zero => intro v1 v2 v3 u hp _; exact False.elim hp
  | succ n ih =>
  intro v1 v2 v3 u hp hk
  refine hZ.1 [4] 500 4 _ _ _ ?_
  have hp : xh_countOpen_l4_pb (xh_countOpen_l4_p n) v1 v2 v3 u := hp
  refine And.intro (fun (h1 : (q_nh u) < v3) => ?_) (fun (h1 : ¬ (q_nh u) < v3) => ?_)
  · rw [show xh_countOpen_l4 (n + 1) v1 v2 v3 u = v2 from (by unfold xh_countOpen_l4_b; rw [if_pos h1] : xh_countOpen_l4_b (xh_countOpen_l4 n) v1 v2 v3 u = v2)] at hk
    exact hk
  · have hp := hp.2 h1
    have n2 := hp.1
    refine And.intro n2 ?_
    have hp := hp.2
    refine And.intro (fun (h3 : ¬ (q_hp u (Int32.toNatClampNeg v3)) = v1) => ?_) (fun (h3 : (q_hp u (Int32.toNatClampNeg v3)) = v1) => ?_)
    · have hp := hp.2 h3
      rw [show xh_countOpen_l4 (n + 1) v1 v2 v3 u = (xh_countOpen_l4 n v1 v2 (v3 + 1) u) from (by unfold xh_countOpen_l4_b; rw [if_neg h1, if_neg h3] : xh_countOpen_l4_b (xh_countOpen_l4 n) v1 v2 v3 u = (xh_countOpen_l4 n v1 v2 (v3 + 1) u))] at hk
      exact ih v1 v2 (v3 + 1) u hp hk
    · have hp := hp.1 h3
      have n4 := hp.1
      refine And.intro n4 ?_
      have hp := hp.2
      refine And.intro (fun (h5 : (xh_isOpen u v3) = 0) => ?_) (fun (h5 : ¬ (xh_isOpen u v3) = 0) => ?_)
      · have hp := hp.1 h5
        rw [show xh_countOpen_l4 (n + 1) v1 v2 v3 u = (xh_countOpen_l4 n v1 v2 (v3 + 1) u) from (by unfold xh_countOpen_l4_b; rw [if_neg h1, if_pos h3, if_pos h5] : xh_countOpen_l4_b (xh_countOpen_l4 n) v1 v2 v3 u = (xh_countOpen_l4 n v1 v2 (v3 + 1) u))] at hk
        exact ih v1 v2 (v3 + 1) u hp hk
      · have hp := hp.2 h5
        rw [show xh_countOpen_l4 (n + 1) v1 v2 v3 u = (xh_countOpen_l4 n v1 (v2 + 1) (v3 + 1) u) from (by unfold xh_countOpen_l4_b; rw [if_neg h1, if_pos h3, if_neg h5] : xh_countOpen_l4_b (xh_countOpen_l4 n) v1 v2 v3 u = (xh_countOpen_l4 n v1 (v2 + 1) (v3 + 1) u))] at hk
        exact ih v1 (v2 + 1) (v3 + 1) u hp hk
set_option maxRecDepth 100000 in
set_option maxHeartbeats 4000000 in
theorem xh_countOpen_d {Kr : Option Int32 → q_S → Prop} (u : q_S) (v1 : Int32) (hp : xh_countOpen_p u v1) (hk : Kr (some (xh_countOpen u v1)) u) : gz_does xh_countOpen_t Kr [(0, gz_r 2), (1, gz_i v1)] u := by
  intro Z hZ
  refine hZ.1 [4] 500 0 _ _ _ ?_
  unfold xh_countOpen_p at hp
  rw [show xh_countOpen u v1 = (xh_countOpen_l4 200 v1 0 1 u) from rfl] at hk
  exact xh_countOpen_l4_d hZ 200 v1 0 1 u hp hk
-- HoldQueue$Holds.add(IIII)I
def xh_add (u : q_S) (v1 : Int32) (v2 : Int32) (v3 : Int32) (v4 : Int32) : Int32 × q_S := (((q_nh u) + 1), (q_hs_u (q_hk_u (q_hl_u (q_hr_u (q_hp_u (q_nh_s u ((q_nh u) + 1)) ((q_nh u) + 1) v1) ((q_nh u) + 1) v2) ((q_nh u) + 1) v3) ((q_nh u) + 1) v4) ((q_nh u) + 1) 0))
def xh_add_r (u : q_S) (v1 : Int32) (v2 : Int32) (v3 : Int32) (v4 : Int32) : Int32 := (xh_add u v1 v2 v3 v4).1
def xh_add_s (u : q_S) (v1 : Int32) (v2 : Int32) (v3 : Int32) (v4 : Int32) : q_S := (xh_add u v1 v2 v3 v4).2
def xh_add_p (u : q_S) (v1 : Int32) (v2 : Int32) (v3 : Int32) (v4 : Int32) : Prop := (vp_in ((q_nh u) + 1) 121)
def xh_add_t : List (Nat × gz_T q_S) := [(0, gz_lda 1 0), (1, gz_dup 2), (2, gz_getI 5 2 q_nh), (5, gz_push 6 (gz_i 1)), (6, gz_iop 7 (fun x y => x + y)), (7, gz_putI 10 2 q_nh_s), (10, gz_lda 11 0), (11, gz_getR 14 2 10), (14, gz_lda 15 0), (15, gz_getI 18 2 q_nh), (18, gz_ldi 19 1), (19, gz_ist 20 x_ai), (20, gz_lda 21 0), (21, gz_getR 24 2 11), (24, gz_lda 25 0), (25, gz_getI 28 2 q_nh), (28, gz_ldi 29 2), (29, gz_ist 30 x_ai), (30, gz_lda 31 0), (31, gz_getR 34 2 12), (34, gz_lda 35 0), (35, gz_getI 38 2 q_nh), (38, gz_ldi 39 3), (39, gz_ist 40 x_ai), (40, gz_lda 41 0), (41, gz_getR 44 2 13), (44, gz_lda 45 0), (45, gz_getI 48 2 q_nh), (48, gz_ldi 50 4), (50, gz_ist 51 x_ai), (51, gz_lda 52 0), (52, gz_getR 55 2 14), (55, gz_lda 56 0), (56, gz_getI 59 2 q_nh), (59, gz_push 60 (gz_i 0)), (60, gz_ist 61 x_ai), (61, gz_lda 62 0), (62, gz_getI 65 2 q_nh), (65, gz_iret)]
set_option maxRecDepth 100000 in
set_option maxHeartbeats 4000000 in
theorem xh_add_d {Kr : Option Int32 → q_S → Prop} (u : q_S) (v1 : Int32) (v2 : Int32) (v3 : Int32) (v4 : Int32) (hp : xh_add_p u v1 v2 v3 v4) (hk : Kr (some ((xh_add u v1 v2 v3 v4)).1) ((xh_add u v1 v2 v3 v4)).2) : gz_does xh_add_t Kr [(0, gz_r 2), (1, gz_i v1), (2, gz_i v2), (3, gz_i v3), (4, gz_i v4)] u := by
  intro Z hZ
  refine hZ.1 [] 500 0 _ _ _ ?_
  unfold xh_add_p at hp
  have n1 := hp
  refine And.intro n1 ?_
  refine And.intro n1 ?_
  refine And.intro n1 ?_
  refine And.intro n1 ?_
  refine And.intro n1 ?_
  rw [show xh_add u v1 v2 v3 v4 = (((q_nh u) + 1), (q_hs_u (q_hk_u (q_hl_u (q_hr_u (q_hp_u (q_nh_s u ((q_nh u) + 1)) ((q_nh u) + 1) v1) ((q_nh u) + 1) v2) ((q_nh u) + 1) v3) ((q_nh u) + 1) v4) ((q_nh u) + 1) 0)) from rfl] at hk
  exact hk
-- HoldQueue$Copies.leastFree(I)I
def xc_leastFree_l2_b (rec : Int32 → Int32 → q_S → Int32) (v1 : Int32) (v2 : Int32) (u : q_S) : Int32 := (if (q_nc u) < v2 then 0 else (if (q_cr u (Int32.toNatClampNeg v2)) = v1 then (if (q_cs u (Int32.toNatClampNeg v2)) = 0 then v2 else (rec v1 (v2 + 1) u)) else (rec v1 (v2 + 1) u)))
def xc_leastFree_l2 : Nat → Int32 → Int32 → q_S → Int32
  | 0, _, _, _ => 0
  | n + 1, v1, v2, u => xc_leastFree_l2_b (xc_leastFree_l2 n) v1 v2 u
def xc_leastFree_l2_pb (rec : Int32 → Int32 → q_S → Prop) (v1 : Int32) (v2 : Int32) (u : q_S) : Prop := (((q_nc u) < v2 → True) ∧ (¬ (q_nc u) < v2 → (vp_in v2 61 ∧ (((q_cr u (Int32.toNatClampNeg v2)) = v1 → (((q_cs u (Int32.toNatClampNeg v2)) = 0 → True) ∧ (¬ (q_cs u (Int32.toNatClampNeg v2)) = 0 → (rec v1 (v2 + 1) u)))) ∧ (¬ (q_cr u (Int32.toNatClampNeg v2)) = v1 → (rec v1 (v2 + 1) u))))))
def xc_leastFree_l2_p : Nat → Int32 → Int32 → q_S → Prop
  | 0, _, _, _ => False
  | n + 1, v1, v2, u => xc_leastFree_l2_pb (xc_leastFree_l2_p n) v1 v2 u
def xc_leastFree (u : q_S) (v1 : Int32) : Int32 := (xc_leastFree_l2 200 v1 1 u)
def xc_leastFree_p (u : q_S) (v1 : Int32) : Prop := (xc_leastFree_l2_p 200 v1 1 u)
def xc_leastFree_t : List (Nat × gz_T q_S) := [(0, gz_push 1 (gz_i 1)), (1, gz_stor 2 2), (2, gz_ldi 3 2), (3, gz_lda 4 0), (4, gz_getI 7 1 q_nc), (7, gz_if2 10 37 (fun x y => y < x) (fun x y => ¬ y < x)), (10, gz_lda 11 0), (11, gz_getR 14 1 6), (14, gz_ldi 15 2), (15, gz_ild 16 x_ai), (16, gz_ldi 17 1), (17, gz_if2 20 31 (fun x y => ¬ x = y) (fun x y => x = y)), (20, gz_lda 21 0), (21, gz_getR 24 1 8), (24, gz_ldi 25 2), (25, gz_ild 26 x_ai), (26, gz_if 29 31 (fun x => ¬ x = 0) (fun x => x = 0)), (29, gz_ldi 30 2), (30, gz_iret), (31, gz_iinc 34 2 1), (34, gz_goto 2), (37, gz_push 38 (gz_i 0)), (38, gz_iret)]
set_option maxRecDepth 100000 in
set_option maxHeartbeats 4000000 in
theorem xc_leastFree_l2_d {Kr : Option Int32 → q_S → Prop} {Z : gz_K q_S} (hZ : gz_shut xc_leastFree_t Kr Z) : ∀ (n : Nat) (v1 : Int32) (v2 : Int32) (u : q_S), xc_leastFree_l2_p n v1 v2 u → Kr (some (xc_leastFree_l2 n v1 v2 u)) u → Z 2 [(0, gz_r 1), (1, gz_i v1), (2, gz_i v2)] [] u := by
  intro n
  induction n with
  | zero => intro v1 v2 u hp _; exact False.elim hp
  | succ n ih =>
  intro v1 v2 u hp hk
  refine hZ.1 [2] 500 2 _ _ _ ?_
  have hp : xc_leastFree_l2_pb (xc_leastFree_l2_p n) v1 v2 u := hp
  refine And.intro (fun (h1 : (q_nc u) < v2) => ?_) (fun (h1 : ¬ (q_nc u) < v2) => ?_)
  · rw [show xc_leastFree_l2 (n + 1) v1 v2 u = 0 from (by unfold xc_leastFree_l2_b; rw [if_pos h1] : xc_leastFree_l2_b (xc_leastFree_l2 n) v1 v2 u = 0)] at hk
    exact hk
  · have hp := hp.2 h1
    have n2 := hp.1
    refine And.intro n2 ?_
    have hp := hp.2
    refine And.intro (fun (h3 : ¬ (q_cr u (Int32.toNatClampNeg v2)) = v1) => ?_) (fun (h3 : (q_cr u (Int32.toNatClampNeg v2)) = v1) => ?_)
    · have hp := hp.2 h3
      rw [show xc_leastFree_l2 (n + 1) v1 v2 u = (xc_leastFree_l2 n v1 (v2 + 1) u) from (by unfold xc_leastFree_l2_b; rw [if_neg h1, if_neg h3] : xc_leastFree_l2_b (xc_leastFree_l2 n) v1 v2 u = (xc_leastFree_l2 n v1 (v2 + 1) u))] at hk
      exact ih v1 (v2 + 1) u hp hk
    · have hp := hp.1 h3
      refine And.intro n2 ?_
      refine And.intro (fun (h4 : ¬ (q_cs u (Int32.toNatClampNeg v2)) = 0) => ?_) (fun (h4 : (q_cs u (Int32.toNatClampNeg v2)) = 0) => ?_)
      · have hp := hp.2 h4
        rw [show xc_leastFree_l2 (n + 1) v1 v2 u = (xc_leastFree_l2 n v1 (v2 + 1) u) from (by unfold xc_leastFree_l2_b; rw [if_neg h1, if_pos h3, if_neg h4] : xc_leastFree_l2_b (xc_leastFree_l2 n) v1 v2 u = (xc_leastFree_l2 n v1 (v2 + 1) u))] at hk
        exact ih v1 (v2 + 1) u hp hk
      · rw [show xc_leastFree_l2 (n + 1) v1 v2 u = v2 from (by unfold xc_leastFree_l2_b; rw [if_neg h1, if_pos h3, if_pos h4] : xc_leastFree_l2_b (xc_leastFree_l2 n) v1 v2 u = v2)] at hk
        exact hk
set_option maxRecDepth 100000 in
set_option maxHeartbeats 4000000 in
theorem xc_leastFree_d {Kr : Option Int32 → q_S → Prop} (u : q_S) (v1 : Int32) (hp : xc_leastFree_p u v1) (hk : Kr (some (xc_leastFree u v1)) u) : gz_does xc_leastFree_t Kr [(0, gz_r 1), (1, gz_i v1)] u := by
  intro Z hZ
  refine hZ.1 [2] 500 0 _ _ _ ?_
  unfold xc_leastFree_p at hp
  rw [show xc_leastFree u v1 = (xc_leastFree_l2 200 v1 1 u) from rfl] at hk
  exact xc_leastFree_l2_d hZ 200 v1 1 u hp hk
-- HoldQueue$Holds.isQueued(II)Z
def xh_isQueued (u : q_S) (v1 : Int32) (v2 : Int32) : Int32 := (if (q_hr u (Int32.toNatClampNeg v1)) = v2 then (if (q_hs u (Int32.toNatClampNeg v1)) = 0 then 1 else 0) else 0)
def xh_isQueued_p (u : q_S) (v1 : Int32) (v2 : Int32) : Prop := (vp_in v1 121)
def xh_isQueued_t : List (Nat × gz_T q_S) := [(0, gz_lda 1 0), (1, gz_getR 4 2 11), (4, gz_ldi 5 1), (5, gz_ild 6 x_ai), (6, gz_ldi 7 2), (7, gz_if2 10 23 (fun x y => ¬ x = y) (fun x y => x = y)), (10, gz_lda 11 0), (11, gz_getR 14 2 14), (14, gz_ldi 15 1), (15, gz_ild 16 x_ai), (16, gz_if 19 23 (fun x => ¬ x = 0) (fun x => x = 0)), (19, gz_push 20 (gz_i 1)), (20, gz_goto 24), (23, gz_push 24 (gz_i 0)), (24, gz_zret)]
set_option maxRecDepth 100000 in
set_option maxHeartbeats 4000000 in
theorem xh_isQueued_d {Kr : Option Int32 → q_S → Prop} (u : q_S) (v1 : Int32) (v2 : Int32) (hp : xh_isQueued_p u v1 v2) (hk : Kr (some (xh_isQueued u v1 v2)) u) : gz_does xh_isQueued_t Kr [(0, gz_r 2), (1, gz_i v1), (2, gz_i v2)] u := by
  intro Z hZ
  refine hZ.1 [] 500 0 _ _ _ ?_
  unfold xh_isQueued_p at hp
  have n1 := hp
  refine And.intro n1 ?_
  refine And.intro (fun (h2 : ¬ (q_hr u (Int32.toNatClampNeg v1)) = v2) => ?_) (fun (h2 : (q_hr u (Int32.toNatClampNeg v1)) = v2) => ?_)
  · refine And.intro (by decide +kernel) ?_
    rw [show xh_isQueued u v1 v2 = 0 from (by unfold xh_isQueued; rw [if_neg h2])] at hk
    exact hk
  · refine And.intro n1 ?_
    refine And.intro (fun (h3 : ¬ (q_hs u (Int32.toNatClampNeg v1)) = 0) => ?_) (fun (h3 : (q_hs u (Int32.toNatClampNeg v1)) = 0) => ?_)
    · refine And.intro (by decide +kernel) ?_
      rw [show xh_isQueued u v1 v2 = 0 from (by unfold xh_isQueued; rw [if_pos h2, if_neg h3])] at hk
      exact hk
    · refine And.intro (by decide +kernel) ?_
      rw [show xh_isQueued u v1 v2 = 1 from (by unfold xh_isQueued; rw [if_pos h2, if_pos h3])] at hk
      exact hk
-- HoldQueue$Holds.comesBefore(II)Z
def xh_comesBefore (u : q_S) (v1 : Int32) (v2 : Int32) : Int32 := (if (q_hk u (Int32.toNatClampNeg v1)) < (q_hk u (Int32.toNatClampNeg v2)) then 1 else (if (q_hk u (Int32.toNatClampNeg v1)) = (q_hk u (Int32.toNatClampNeg v2)) then (if v2 ≤ v1 then 0 else 1) else 0))
def xh_comesBefore_p (u : q_S) (v1 : Int32) (v2 : Int32) : Prop := (vp_in v1 121 ∧ (vp_in v2 121))
def xh_comesBefore_t : List (Nat × gz_T q_S) := [(0, gz_lda 1 0), (1, gz_getR 4 2 13), (4, gz_ldi 5 1), (5, gz_ild 6 x_ai), (6, gz_lda 7 0), (7, gz_getR 10 2 13), (10, gz_ldi 11 2), (11, gz_ild 12 x_ai), (12, gz_if2 15 35 (fun x y => x < y) (fun x y => ¬ x < y)), (15, gz_lda 16 0), (16, gz_getR 19 2 13), (19, gz_ldi 20 1), (20, gz_ild 21 x_ai), (21, gz_lda 22 0), (22, gz_getR 25 2 13), (25, gz_ldi 26 2), (26, gz_ild 27 x_ai), (27, gz_if2 30 39 (fun x y => ¬ x = y) (fun x y => x = y)), (30, gz_ldi 31 1), (31, gz_ldi 32 2), (32, gz_if2 35 39 (fun x y => y ≤ x) (fun x y => ¬ y ≤ x)), (35, gz_push 36 (gz_i 1)), (36, gz_goto 40), (39, gz_push 40 (gz_i 0)), (40, gz_zret)]
set_option maxRecDepth 100000 in
set_option maxHeartbeats 4000000 in
theorem xh_comesBefore_d {Kr : Option Int32 → q_S → Prop} (u : q_S) (v1 : Int32) (v2 : Int32) (hp : xh_comesBefore_p u v1 v2) (hk : Kr (some (xh_comesBefore u v1 v2)) u) : gz_does xh_comesBefore_t Kr [(0, gz_r 2), (1, gz_i v1), (2, gz_i v2)] u := by
  intro Z hZ
  refine hZ.1 [] 500 0 _ _ _ ?_
  unfold xh_comesBefore_p at hp
  have n1 := hp.1
  refine And.intro n1 ?_
  have hp := hp.2
  have n2 := hp
  refine And.intro n2 ?_
  refine And.intro (fun (h3 : (q_hk u (Int32.toNatClampNeg v1)) < (q_hk u (Int32.toNatClampNeg v2))) => ?_) (fun (h3 : ¬ (q_hk u (Int32.toNatClampNeg v1)) < (q_hk u (Int32.toNatClampNeg v2))) => ?_)
  · refine And.intro (by decide +kernel) ?_
    rw [show xh_comesBefore u v1 v2 = 1 from (by unfold xh_comesBefore; rw [if_pos h3])] at hk
    exact hk
  · refine And.intro n1 ?_
    refine And.intro n2 ?_
    refine And.intro (fun (h4 : ¬ (q_hk u (Int32.toNatClampNeg v1)) = (q_hk u (Int32.toNatClampNeg v2))) => ?_) (fun (h4 : (q_hk u (Int32.toNatClampNeg v1)) = (q_hk u (Int32.toNatClampNeg v2))) => ?_)
    · refine And.intro (by decide +kernel) ?_
      rw [show xh_comesBefore u v1 v2 = 0 from (by unfold xh_comesBefore; rw [if_neg h3, if_neg h4])] at hk
      exact hk
    · refine And.intro (fun (h5 : v2 ≤ v1) => ?_) (fun (h5 : ¬ v2 ≤ v1) => ?_)
      · refine And.intro (by decide +kernel) ?_
        rw [show xh_comesBefore u v1 v2 = 0 from (by unfold xh_comesBefore; rw [if_neg h3, if_pos h4, if_pos h5])] at hk
        exact hk
      · refine And.intro (by decide +kernel) ?_
        rw [show xh_comesBefore u v1 v2 = 1 from (by unfold xh_comesBefore; rw [if_neg h3, if_pos h4, if_neg h5])] at hk
        exact hk
-- HoldQueue$Holds.firstFitting(IJ)I
def xh_firstFitting_l6_b (rec : Int32 → Int64 → Int32 → Int32 → q_S → Int32) (v1 : Int32) (v2 : Int64) (v4 : Int32) (v5 : Int32) (u : q_S) : Int32 := (if (q_nh u) < v5 then v4 else (if (xh_isQueued u v5 v1) = 0 then (rec v1 v2 v4 (v5 + 1) u) else (if 0 < (lg_cmp (q_hu u (Int32.toNatClampNeg v5)) v2) then (rec v1 v2 v4 (v5 + 1) u) else (if v4 = 0 then (rec v1 v2 v5 (v5 + 1) u) else (if (xh_comesBefore u v5 v4) = 0 then (rec v1 v2 v4 (v5 + 1) u) else (rec v1 v2 v5 (v5 + 1) u))))))
def xh_firstFitting_l6 : Nat → Int32 → Int64 → Int32 → Int32 → q_S → Int32
  | 0, _, _, _, _, _ => 0
  | n + 1, v1, v2, v4, v5, u => xh_firstFitting_l6_b (xh_firstFitting_l6 n) v1 v2 v4 v5 u
def xh_firstFitting_l6_pb (rec : Int32 → Int64 → Int32 → Int32 → q_S → Prop) (v1 : Int32) (v2 : Int64) (v4 : Int32) (v5 : Int32) (u : q_S) : Prop := (((q_nh u) < v5 → True) ∧ (¬ (q_nh u) < v5 → (xh_isQueued_p u v5 v1 ∧ (((xh_isQueued u v5 v1) = 0 → (rec v1 v2 v4 (v5 + 1) u)) ∧ (¬ (xh_isQueued u v5 v1) = 0 → (vp_in v5 121 ∧ ((0 < (lg_cmp (q_hu u (Int32.toNatClampNeg v5)) v2) → (rec v1 v2 v4 (v5 + 1) u)) ∧ (¬ 0 < (lg_cmp (q_hu u (Int32.toNatClampNeg v5)) v2) → ((v4 = 0 → (rec v1 v2 v5 (v5 + 1) u)) ∧ (¬ v4 = 0 → (xh_comesBefore_p u v5 v4 ∧ (((xh_comesBefore u v5 v4) = 0 → (rec v1 v2 v4 (v5 + 1) u)) ∧ (¬ (xh_comesBefore u v5 v4) = 0 → (rec v1 v2 v5 (v5 + 1) u))))))))))))))
def xh_firstFitting_l6_p : Nat → Int32 → Int64 → Int32 → Int32 → q_S → Prop
  | 0, _, _, _, _, _ => False
  | n + 1, v1, v2, v4, v5, u => xh_firstFitting_l6_pb (xh_firstFitting_l6_p n) v1 v2 v4 v5 u
def xh_firstFitting (u : q_S) (v1 : Int32) (v2 : Int64) : Int32 := (xh_firstFitting_l6 200 v1 v2 0 1 u)
def xh_firstFitting_p (u : q_S) (v1 : Int32) (v2 : Int64) : Prop := (xh_firstFitting_l6_p 200 v1 v2 0 1 u)
def xh_firstFitting_t : List (Nat × gz_T q_S) := [(0, gz_push 1 (gz_i 0)), (1, gz_stor 3 4), (3, gz_push 4 (gz_i 1)), (4, gz_stor 6 5), (6, gz_ldi 8 5), (8, gz_lda 9 0), (9, gz_getI 12 2 q_nh), (12, gz_if2 15 63 (fun x y => y < x) (fun x y => ¬ y < x)), (15, gz_lda 16 0), (16, gz_ldi 18 5), (18, gz_ldi 19 1), (19, gz_c2P 22 2 xh_isQueued_p xh_isQueued), (22, gz_if 25 57 (fun x => x = 0) (fun x => ¬ x = 0)), (25, gz_lda 26 0), (26, gz_getR 29 2 16), (29, gz_ldi 31 5), (31, gz_lld 32 x_al), (32, gz_ldl 33 2), (33, gz_lcmp 34), (34, gz_if 37 57 (fun x => 0 < x) (fun x => ¬ 0 < x)), (37, gz_ldi 39 4), (39, gz_if 42 53 (fun x => x = 0) (fun x => ¬ x = 0)), (42, gz_lda 43 0), (43, gz_ldi 45 5), (45, gz_ldi 47 4), (47, gz_c2P 50 2 xh_comesBefore_p xh_comesBefore), (50, gz_if 53 57 (fun x => x = 0) (fun x => ¬ x = 0)), (53, gz_ldi 55 5), (55, gz_stor 57 4), (57, gz_iinc 60 5 1), (60, gz_goto 6), (63, gz_ldi 65 4), (65, gz_iret)]
set_option maxRecDepth 100000 in
set_option maxHeartbeats 4000000 in
theorem xh_firstFitting_l6_d {Kr : Option Int32 → q_S → Prop} {Z : gz_K q_S} (hZ : gz_shut xh_firstFitting_t Kr Z) : ∀ (n : Nat) (v1 : Int32) (v2 : Int64) (v4 : Int32) (v5 : Int32) (u : q_S), xh_firstFitting_l6_p n v1 v2 v4 v5 u → Kr (some (xh_firstFitting_l6 n v1 v2 v4 v5 u)) u → Z 6 [(0, gz_r 2), (1, gz_i v1), (2, gz_l v2), (4, gz_i v4), (5, gz_i v5)] [] u := by
  intro n
  induction n with
  | zero => intro v1 v2 v4 v5 u hp _; exact False.elim hp
  | succ n ih =>
  intro v1 v2 v4 v5 u hp hk
  refine hZ.1 [6] 500 6 _ _ _ ?_
  have hp : xh_firstFitting_l6_pb (xh_firstFitting_l6_p n) v1 v2 v4 v5 u := hp
  refine And.intro (fun (h1 : (q_nh u) < v5) => ?_) (fun (h1 : ¬ (q_nh u) < v5) => ?_)
  · rw [show xh_firstFitting_l6 (n + 1) v1 v2 v4 v5 u = v4 from (by unfold xh_firstFitting_l6_b; rw [if_pos h1] : xh_firstFitting_l6_b (xh_firstFitting_l6 n) v1 v2 v4 v5 u = v4)] at hk
    exact hk
  · have hp := hp.2 h1
    have n2 := hp.1
    refine And.intro n2 ?_
    have hp := hp.2
    refine And.intro (fun (h3 : (xh_isQueued u v5 v1) = 0) => ?_) (fun (h3 : ¬ (xh_isQueued u v5 v1) = 0) => ?_)
    · have hp := hp.1 h3
      rw [show xh_firstFitting_l6 (n + 1) v1 v2 v4 v5 u = (xh_firstFitting_l6 n v1 v2 v4 (v5 + 1) u) from (by unfold xh_firstFitting_l6_b; rw [if_neg h1, if_pos h3] : xh_firstFitting_l6_b (xh_firstFitting_l6 n) v1 v2 v4 v5 u = (xh_firstFitting_l6 n v1 v2 v4 (v5 + 1) u))] at hk
      exact ih v1 v2 v4 (v5 + 1) u hp hk
    · have hp := hp.2 h3
      have n4 := hp.1
      refine And.intro n4 ?_
      have hp := hp.2
      refine And.intro (fun (h5 : 0 < (lg_cmp (q_hu u (Int32.toNatClampNeg v5)) v2)) => ?_) (fun (h5 : ¬ 0 < (lg_cmp (q_hu u (Int32.toNatClampNeg v5)) v2)) => ?_)
      · have hp := hp.1 h5
        rw [show xh_firstFitting_l6 (n + 1) v1 v2 v4 v5 u = (xh_firstFitting_l6 n v1 v2 v4 (v5 + 1) u) from (by unfold xh_firstFitting_l6_b; rw [if_neg h1, if_neg h3, if_pos h5] : xh_firstFitting_l6_b (xh_firstFitting_l6 n) v1 v2 v4 v5 u = (xh_firstFitting_l6 n v1 v2 v4 (v5 + 1) u))] at hk
        exact ih v1 v2 v4 (v5 + 1) u hp hk
      · have hp := hp.2 h5
        refine And.intro (fun (h6 : v4 = 0) => ?_) (fun (h6 : ¬ v4 = 0) => ?_)
        · have hp := hp.1 h6
          rw [show xh_firstFitting_l6 (n + 1) v1 v2 v4 v5 u = (xh_firstFitting_l6 n v1 v2 v5 (v5 + 1) u) from (by unfold xh_firstFitting_l6_b; rw [if_neg h1, if_neg h3, if_neg h5, if_pos h6] : xh_firstFitting_l6_b (xh_firstFitting_l6 n) v1 v2 v4 v5 u = (xh_firstFitting_l6 n v1 v2 v5 (v5 + 1) u))] at hk
          exact ih v1 v2 v5 (v5 + 1) u hp hk
        · have hp := hp.2 h6
          have n7 := hp.1
          refine And.intro n7 ?_
          have hp := hp.2
          refine And.intro (fun (h8 : (xh_comesBefore u v5 v4) = 0) => ?_) (fun (h8 : ¬ (xh_comesBefore u v5 v4) = 0) => ?_)
          · have hp := hp.1 h8
            rw [show xh_firstFitting_l6 (n + 1) v1 v2 v4 v5 u = (xh_firstFitting_l6 n v1 v2 v4 (v5 + 1) u) from (by unfold xh_firstFitting_l6_b; rw [if_neg h1, if_neg h3, if_neg h5, if_neg h6, if_pos h8] : xh_firstFitting_l6_b (xh_firstFitting_l6 n) v1 v2 v4 v5 u = (xh_firstFitting_l6 n v1 v2 v4 (v5 + 1) u))] at hk
            exact ih v1 v2 v4 (v5 + 1) u hp hk
          · have hp := hp.2 h8
            rw [show xh_firstFitting_l6 (n + 1) v1 v2 v4 v5 u = (xh_firstFitting_l6 n v1 v2 v5 (v5 + 1) u) from (by unfold xh_firstFitting_l6_b; rw [if_neg h1, if_neg h3, if_neg h5, if_neg h6, if_neg h8] : xh_firstFitting_l6_b (xh_firstFitting_l6 n) v1 v2 v4 v5 u = (xh_firstFitting_l6 n v1 v2 v5 (v5 + 1) u))] at hk
            exact ih v1 v2 v5 (v5 + 1) u hp hk
set_option maxRecDepth 100000 in
set_option maxHeartbeats 4000000 in
theorem xh_firstFitting_d {Kr : Option Int32 → q_S → Prop} (u : q_S) (v1 : Int32) (v2 : Int64) (hp : xh_firstFitting_p u v1 v2) (hk : Kr (some (xh_firstFitting u v1 v2)) u) : gz_does xh_firstFitting_t Kr [(0, gz_r 2), (1, gz_i v1), (2, gz_l v2)] u := by
  intro Z hZ
  refine hZ.1 [6] 500 0 _ _ _ ?_
  unfold xh_firstFitting_p at hp
  rw [show xh_firstFitting u v1 v2 = (xh_firstFitting_l6 200 v1 v2 0 1 u) from rfl] at hk
  exact xh_firstFitting_l6_d hZ 200 v1 v2 0 1 u hp hk
-- HoldQueue.layReady(II)V
def x_layReady (u : q_S) (v1 : Int32) (v2 : Int32) : q_S := (q_he_u (q_hs_u (q_cs_u u v1 3) v2 2) v2 ((q_td u) + (Int32.toInt64 (q_sp u))))
def x_layReady_p (u : q_S) (v1 : Int32) (v2 : Int32) : Prop := (vp_in v1 61 ∧ (vp_in v2 121))
def x_layReady_t : List (Nat × gz_T q_S) := [(0, gz_lda 1 0), (1, gz_getR 4 0 1), (4, gz_getR 7 1 8), (7, gz_ldi 8 1), (8, gz_push 9 (gz_i 3)), (9, gz_ist 10 x_ai), (10, gz_lda 11 0), (11, gz_getR 14 0 2), (14, gz_getR 17 2 14), (17, gz_ldi 18 2), (18, gz_push 19 (gz_i 2)), (19, gz_ist 20 x_ai), (20, gz_lda 21 0), (21, gz_getR 24 0 2), (24, gz_getR 27 2 17), (27, gz_ldi 28 2), (28, gz_lda 29 0), (29, gz_getL 32 0 q_td), (32, gz_lda 33 0), (33, gz_getI 36 0 q_sp), (36, gz_itol 37), (37, gz_lop 38 (fun x y => x + y)), (38, gz_lst 39 x_al), (39, gz_vret)]
set_option maxRecDepth 100000 in
set_option maxHeartbeats 4000000 in
theorem x_layReady_d {Kr : Option Int32 → q_S → Prop} (u : q_S) (v1 : Int32) (v2 : Int32) (hp : x_layReady_p u v1 v2) (hk : Kr none (x_layReady u v1 v2)) : gz_does x_layReady_t Kr [(0, gz_r 0), (1, gz_i v1), (2, gz_i v2)] u := by
  intro Z hZ
  refine hZ.1 [] 500 0 _ _ _ ?_
  unfold x_layReady_p at hp
  have n1 := hp.1
  refine And.intro n1 ?_
  have hp := hp.2
  have n2 := hp
  refine And.intro n2 ?_
  refine And.intro n2 ?_
  rw [show x_layReady u v1 v2 = (q_he_u (q_hs_u (q_cs_u u v1 3) v2 2) v2 ((q_td u) + (Int32.toInt64 (q_sp u)))) from rfl] at hk
  exact hk
-- HoldQueue.send(II)V
def x_send (u : q_S) (v1 : Int32) (v2 : Int32) : q_S := (q_hs_u (q_cp_u (q_cs_u u v1 2) v1 (q_hl u (Int32.toNatClampNeg v2))) v2 1)
def x_send_p (u : q_S) (v1 : Int32) (v2 : Int32) : Prop := (vp_in v1 61 ∧ (vp_in v2 121))
def x_send_t : List (Nat × gz_T q_S) := [(0, gz_lda 1 0), (1, gz_getR 4 0 1), (4, gz_getR 7 1 8), (7, gz_ldi 8 1), (8, gz_push 9 (gz_i 2)), (9, gz_ist 10 x_ai), (10, gz_lda 11 0), (11, gz_getR 14 0 1), (14, gz_getR 17 1 7), (17, gz_ldi 18 1), (18, gz_lda 19 0), (19, gz_getR 22 0 2), (22, gz_getR 25 2 12), (25, gz_ldi 26 2), (26, gz_ild 27 x_ai), (27, gz_ist 28 x_ai), (28, gz_lda 29 0), (29, gz_getR 32 0 2), (32, gz_getR 35 2 14), (35, gz_ldi 36 2), (36, gz_push 37 (gz_i 1)), (37, gz_ist 38 x_ai), (38, gz_vret)]
set_option maxRecDepth 100000 in
set_option maxHeartbeats 4000000 in
theorem x_send_d {Kr : Option Int32 → q_S → Prop} (u : q_S) (v1 : Int32) (v2 : Int32) (hp : x_send_p u v1 v2) (hk : Kr none (x_send u v1 v2)) : gz_does x_send_t Kr [(0, gz_r 0), (1, gz_i v1), (2, gz_i v2)] u := by
  intro Z hZ
  refine hZ.1 [] 500 0 _ _ _ ?_
  unfold x_send_p at hp
  have n1 := hp.1
  refine And.intro n1 ?_
  have hp := hp.2
  have n2 := hp
  refine And.intro n2 ?_
  refine And.intro n1 ?_
  refine And.intro n2 ?_
  rw [show x_send u v1 v2 = (q_hs_u (q_cp_u (q_cs_u u v1 2) v1 (q_hl u (Int32.toNatClampNeg v2))) v2 1) from rfl] at hk
  exact hk
-- HoldQueue.settle(I)I
def x_settle (u : q_S) (v1 : Int32) : Int32 × q_S := (if (xh_firstFitting u (q_cr u (Int32.toNatClampNeg v1)) (q_td u)) = 0 then (0, (q_cs_u u v1 0)) else (if (q_cp u (Int32.toNatClampNeg v1)) = (q_hl u (Int32.toNatClampNeg (xh_firstFitting u (q_cr u (Int32.toNatClampNeg v1)) (q_td u)))) then ((xh_firstFitting u (q_cr u (Int32.toNatClampNeg v1)) (q_td u)), (x_layReady (q_hy_u (q_ch_u u v1 (xh_firstFitting u (q_cr u (Int32.toNatClampNeg v1)) (q_td u))) (xh_firstFitting u (q_cr u (Int32.toNatClampNeg v1)) (q_td u)) v1) v1 (xh_firstFitting u (q_cr u (Int32.toNatClampNeg v1)) (q_td u)))) else ((xh_firstFitting u (q_cr u (Int32.toNatClampNeg v1)) (q_td u)), (x_send (q_hy_u (q_ch_u u v1 (xh_firstFitting u (q_cr u (Int32.toNatClampNeg v1)) (q_td u))) (xh_firstFitting u (q_cr u (Int32.toNatClampNeg v1)) (q_td u)) v1) v1 (xh_firstFitting u (q_cr u (Int32.toNatClampNeg v1)) (q_td u))))))
def x_settle_r (u : q_S) (v1 : Int32) : Int32 := (x_settle u v1).1
def x_settle_s (u : q_S) (v1 : Int32) : q_S := (x_settle u v1).2
def x_settle_p (u : q_S) (v1 : Int32) : Prop := (vp_in v1 61 ∧ (xh_firstFitting_p u (q_cr u (Int32.toNatClampNeg v1)) (q_td u) ∧ (((xh_firstFitting u (q_cr u (Int32.toNatClampNeg v1)) (q_td u)) = 0 → True) ∧ (¬ (xh_firstFitting u (q_cr u (Int32.toNatClampNeg v1)) (q_td u)) = 0 → (vp_in (xh_firstFitting u (q_cr u (Int32.toNatClampNeg v1)) (q_td u)) 121 ∧ (((q_cp u (Int32.toNatClampNeg v1)) = (q_hl u (Int32.toNatClampNeg (xh_firstFitting u (q_cr u (Int32.toNatClampNeg v1)) (q_td u)))) → (x_layReady_p (q_hy_u (q_ch_u u v1 (xh_firstFitting u (q_cr u (Int32.toNatClampNeg v1)) (q_td u))) (xh_firstFitting u (q_cr u (Int32.toNatClampNeg v1)) (q_td u)) v1) v1 (xh_firstFitting u (q_cr u (Int32.toNatClampNeg v1)) (q_td u)))) ∧ (¬ (q_cp u (Int32.toNatClampNeg v1)) = (q_hl u (Int32.toNatClampNeg (xh_firstFitting u (q_cr u (Int32.toNatClampNeg v1)) (q_td u)))) → (x_send_p (q_hy_u (q_ch_u u v1 (xh_firstFitting u (q_cr u (Int32.toNatClampNeg v1)) (q_td u))) (xh_firstFitting u (q_cr u (Int32.toNatClampNeg v1)) (q_td u)) v1) v1 (xh_firstFitting u (q_cr u (Int32.toNatClampNeg v1)) (q_td u))))))))))
def x_settle_t : List (Nat × gz_T q_S) := [(0, gz_lda 1 0), (1, gz_getR 4 0 2), (4, gz_lda 5 0), (5, gz_getR 8 0 1), (8, gz_getR 11 1 6), (11, gz_ldi 12 1), (12, gz_ild 13 x_ai), (13, gz_lda 14 0), (14, gz_getL 17 0 q_td), (17, gz_c1lP 20 2 xh_firstFitting_p xh_firstFitting), (20, gz_stor 21 2), (21, gz_ldi 22 2), (22, gz_if 25 37 (fun x => ¬ x = 0) (fun x => x = 0)), (25, gz_lda 26 0), (26, gz_getR 29 0 1), (29, gz_getR 32 1 8), (32, gz_ldi 33 1), (33, gz_push 34 (gz_i 0)), (34, gz_ist 35 x_ai), (35, gz_push 36 (gz_i 0)), (36, gz_iret), (37, gz_lda 38 0), (38, gz_getR 41 0 1), (41, gz_getR 44 1 9), (44, gz_ldi 45 1), (45, gz_ldi 46 2), (46, gz_ist 47 x_ai), (47, gz_lda 48 0), (48, gz_getR 51 0 2), (51, gz_getR 54 2 15), (54, gz_ldi 55 2), (55, gz_ldi 56 1), (56, gz_ist 57 x_ai), (57, gz_lda 58 0), (58, gz_getR 61 0 1), (61, gz_getR 64 1 7), (64, gz_ldi 65 1), (65, gz_ild 66 x_ai), (66, gz_lda 67 0), (67, gz_getR 70 0 2), (70, gz_getR 73 2 12), (73, gz_ldi 74 2), (74, gz_ild 75 x_ai), (75, gz_if2 78 87 (fun x y => ¬ x = y) (fun x y => x = y)), (78, gz_lda 79 0), (79, gz_ldi 80 1), (80, gz_ldi 81 2), (81, gz_c2V 84 0 x_layReady_p x_layReady), (84, gz_goto 93), (87, gz_lda 88 0), (88, gz_ldi 89 1), (89, gz_ldi 90 2), (90, gz_c2V 93 0 x_send_p x_send), (93, gz_ldi 94 2), (94, gz_iret)]
set_option maxRecDepth 100000 in
set_option maxHeartbeats 4000000 in
theorem x_settle_d {Kr : Option Int32 → q_S → Prop} (u : q_S) (v1 : Int32) (hp : x_settle_p u v1) (hk : Kr (some ((x_settle u v1)).1) ((x_settle u v1)).2) : gz_does x_settle_t Kr [(0, gz_r 0), (1, gz_i v1)] u := by
  intro Z hZ
  refine hZ.1 [] 500 0 _ _ _ ?_
  unfold x_settle_p at hp
  have n1 := hp.1
  refine And.intro n1 ?_
  have hp := hp.2
  have n2 := hp.1
  refine And.intro n2 ?_
  have hp := hp.2
  refine And.intro (fun (h3 : ¬ (xh_firstFitting u (q_cr u (Int32.toNatClampNeg v1)) (q_td u)) = 0) => ?_) (fun (h3 : (xh_firstFitting u (q_cr u (Int32.toNatClampNeg v1)) (q_td u)) = 0) => ?_)
  · have hp := hp.2 h3
    refine And.intro n1 ?_
    have n4 := hp.1
    refine And.intro n4 ?_
    have hp := hp.2
    refine And.intro n1 ?_
    refine And.intro n4 ?_
    refine And.intro (fun (h5 : ¬ (q_cp u (Int32.toNatClampNeg v1)) = (q_hl u (Int32.toNatClampNeg (xh_firstFitting u (q_cr u (Int32.toNatClampNeg v1)) (q_td u))))) => ?_) (fun (h5 : (q_cp u (Int32.toNatClampNeg v1)) = (q_hl u (Int32.toNatClampNeg (xh_firstFitting u (q_cr u (Int32.toNatClampNeg v1)) (q_td u))))) => ?_)
    · have hp := hp.2 h5
      have n6 := hp
      refine And.intro n6 ?_
      rw [show x_settle u v1 = ((xh_firstFitting u (q_cr u (Int32.toNatClampNeg v1)) (q_td u)), (x_send (q_hy_u (q_ch_u u v1 (xh_firstFitting u (q_cr u (Int32.toNatClampNeg v1)) (q_td u))) (xh_firstFitting u (q_cr u (Int32.toNatClampNeg v1)) (q_td u)) v1) v1 (xh_firstFitting u (q_cr u (Int32.toNatClampNeg v1)) (q_td u)))) from (by unfold x_settle; rw [if_neg h3, if_neg h5])] at hk
      exact hk
    · have hp := hp.1 h5
      have n7 := hp
      refine And.intro n7 ?_
      rw [show x_settle u v1 = ((xh_firstFitting u (q_cr u (Int32.toNatClampNeg v1)) (q_td u)), (x_layReady (q_hy_u (q_ch_u u v1 (xh_firstFitting u (q_cr u (Int32.toNatClampNeg v1)) (q_td u))) (xh_firstFitting u (q_cr u (Int32.toNatClampNeg v1)) (q_td u)) v1) v1 (xh_firstFitting u (q_cr u (Int32.toNatClampNeg v1)) (q_td u)))) from (by unfold x_settle; rw [if_neg h3, if_pos h5])] at hk
      exact hk
  · refine And.intro n1 ?_
    rw [show x_settle u v1 = (0, (q_cs_u u v1 0)) from (by unfold x_settle; rw [if_pos h3])] at hk
    exact hk
-- HoldQueue.hold(IIII)I
def x_hold (u : q_S) (v1 : Int32) (v2 : Int32) (v3 : Int32) (v4 : Int32) : Int32 × q_S := (if (x_isPerson v1) = 0 then (0, u) else (if (x_isRecord u v2) = 0 then (0, u) else (if (x_isPlace v3) = 0 then (0, u) else (if (q_bd u (Int32.toNatClampNeg (q_kd u (Int32.toNatClampNeg v2)))) = 0 then (if (xh_hasOpen u v1 v2) = 0 then (if (xh_areFull u) = 0 then (if (xh_countOpen u v1) < (q_mo u (Int32.toNatClampNeg v1)) then (if (xc_leastFree (xh_add_s u v1 v2 v3 v4) v2) = 0 then ((xh_add_r u v1 v2 v3 v4), (xh_add_s u v1 v2 v3 v4)) else ((xh_add_r u v1 v2 v3 v4), (x_settle_s (xh_add_s u v1 v2 v3 v4) (xc_leastFree (xh_add_s u v1 v2 v3 v4) v2)))) else ((-1), u)) else (0, u)) else (0, u)) else (0, u)))))
def x_hold_r (u : q_S) (v1 : Int32) (v2 : Int32) (v3 : Int32) (v4 : Int32) : Int32 := (x_hold u v1 v2 v3 v4).1
def x_hold_s (u : q_S) (v1 : Int32) (v2 : Int32) (v3 : Int32) (v4 : Int32) : q_S := (x_hold u v1 v2 v3 v4).2
def x_hold_p (u : q_S) (v1 : Int32) (v2 : Int32) (v3 : Int32) (v4 : Int32) : Prop := (((x_isPerson v1) = 0 → True) ∧ (¬ (x_isPerson v1) = 0 → (x_isRecord_p u v2 ∧ (((x_isRecord u v2) = 0 → True) ∧ (¬ (x_isRecord u v2) = 0 → (((x_isPlace v3) = 0 → True) ∧ (¬ (x_isPlace v3) = 0 → (vp_in v2 31 ∧ (vp_in (q_kd u (Int32.toNatClampNeg v2)) 4 ∧ (((q_bd u (Int32.toNatClampNeg (q_kd u (Int32.toNatClampNeg v2)))) = 0 → (xh_hasOpen_p u v1 v2 ∧ (((xh_hasOpen u v1 v2) = 0 → (((xh_areFull u) = 0 → (xh_countOpen_p u v1 ∧ (vp_in v1 40 ∧ (((xh_countOpen u v1) < (q_mo u (Int32.toNatClampNeg v1)) → (xh_add_p u v1 v2 v3 v4 ∧ (xc_leastFree_p (xh_add_s u v1 v2 v3 v4) v2 ∧ (((xc_leastFree (xh_add_s u v1 v2 v3 v4) v2) = 0 → True) ∧ (¬ (xc_leastFree (xh_add_s u v1 v2 v3 v4) v2) = 0 → (x_settle_p (xh_add_s u v1 v2 v3 v4) (xc_leastFree (xh_add_s u v1 v2 v3 v4) v2))))))) ∧ (¬ (xh_countOpen u v1) < (q_mo u (Int32.toNatClampNeg v1)) → True))))) ∧ (¬ (xh_areFull u) = 0 → True))) ∧ (¬ (xh_hasOpen u v1 v2) = 0 → True)))) ∧ (¬ (q_bd u (Int32.toNatClampNeg (q_kd u (Int32.toNatClampNeg v2)))) = 0 → True)))))))))))
def x_hold_t : List (Nat × gz_T q_S) := [(0, gz_ldi 1 1), (1, gz_s1P 4 x_isPerson), (4, gz_if 7 22 (fun x => x = 0) (fun x => ¬ x = 0)), (7, gz_lda 8 0), (8, gz_ldi 9 2), (9, gz_c1P 12 0 x_isRecord_p x_isRecord), (12, gz_if 15 22 (fun x => x = 0) (fun x => ¬ x = 0)), (15, gz_ldi 16 3), (16, gz_s1P 19 x_isPlace), (19, gz_if 22 24 (fun x => ¬ x = 0) (fun x => x = 0)), (22, gz_push 23 (gz_i 0)), (23, gz_iret), (24, gz_lda 25 0), (25, gz_getR 28 0 4), (28, gz_lda 29 0), (29, gz_getR 32 0 3), (32, gz_ldi 33 2), (33, gz_ild 34 x_ai), (34, gz_ild 35 x_az), (35, gz_if 38 60 (fun x => ¬ x = 0) (fun x => x = 0)), (38, gz_lda 39 0), (39, gz_getR 42 0 2), (42, gz_ldi 43 1), (43, gz_ldi 44 2), (44, gz_c2P 47 2 xh_hasOpen_p xh_hasOpen), (47, gz_if 50 60 (fun x => ¬ x = 0) (fun x => x = 0)), (50, gz_lda 51 0), (51, gz_getR 54 0 2), (54, gz_c0P 57 2 xh_areFull), (57, gz_if 60 62 (fun x => x = 0) (fun x => ¬ x = 0)), (60, gz_push 61 (gz_i 0)), (61, gz_iret), (62, gz_lda 63 0), (63, gz_getR 66 0 2), (66, gz_ldi 67 1), (67, gz_c1P 70 2 xh_countOpen_p xh_countOpen), (70, gz_lda 71 0), (71, gz_getR 74 0 5), (74, gz_ldi 75 1), (75, gz_ild 76 x_ai), (76, gz_if2 79 81 (fun x y => x < y) (fun x y => ¬ x < y)), (79, gz_push 80 (gz_i (-1))), (80, gz_iret), (81, gz_lda 82 0), (82, gz_getR 85 0 2), (85, gz_ldi 86 1), (86, gz_ldi 87 2), (87, gz_ldi 88 3), (88, gz_ldi 90 4), (90, gz_c4I 93 2 xh_add_p xh_add_r xh_add_s), (93, gz_stor 95 5), (95, gz_lda 96 0), (96, gz_getR 99 0 1), (99, gz_ldi 100 2), (100, gz_c1P 103 1 xc_leastFree_p xc_leastFree), (103, gz_stor 105 6), (105, gz_ldi 107 6), (107, gz_if 110 117 (fun x => x = 0) (fun x => ¬ x = 0)), (110, gz_lda 111 0), (111, gz_ldi 113 6), (113, gz_c1I 116 0 x_settle_p x_settle_r x_settle_s), (116, gz_pop 117), (117, gz_ldi 119 5), (119, gz_iret)]
set_option maxRecDepth 100000 in
set_option maxHeartbeats 4000000 in
theorem x_hold_d {Kr : Option Int32 → q_S → Prop} (u : q_S) (v1 : Int32) (v2 : Int32) (v3 : Int32) (v4 : Int32) (hp : x_hold_p u v1 v2 v3 v4) (hk : Kr (some ((x_hold u v1 v2 v3 v4)).1) ((x_hold u v1 v2 v3 v4)).2) : gz_does x_hold_t Kr [(0, gz_r 0), (1, gz_i v1), (2, gz_i v2), (3, gz_i v3), (4, gz_i v4)] u := by
  intro Z hZ
  refine hZ.1 [] 500 0 _ _ _ ?_
  unfold x_hold_p at hp
  refine And.intro (fun (h1 : (x_isPerson v1) = 0) => ?_) (fun (h1 : ¬ (x_isPerson v1) = 0) => ?_)
  · rw [show x_hold u v1 v2 v3 v4 = (0, u) from (by unfold x_hold; rw [if_pos h1])] at hk
    exact hk
  · have hp := hp.2 h1
    have n2 := hp.1
    refine And.intro n2 ?_
    have hp := hp.2
    refine And.intro (fun (h3 : (x_isRecord u v2) = 0) => ?_) (fun (h3 : ¬ (x_isRecord u v2) = 0) => ?_)
    · rw [show x_hold u v1 v2 v3 v4 = (0, u) from (by unfold x_hold; rw [if_neg h1, if_pos h3])] at hk
      exact hk
    · have hp := hp.2 h3
      refine And.intro (fun (h4 : ¬ (x_isPlace v3) = 0) => ?_) (fun (h4 : (x_isPlace v3) = 0) => ?_)
      · have hp := hp.2 h4
        have n5 := hp.1
        refine And.intro n5 ?_
        have hp := hp.2
        have n6 := hp.1
        refine And.intro n6 ?_
        have hp := hp.2
        refine And.intro (fun (h7 : ¬ (q_bd u (Int32.toNatClampNeg (q_kd u (Int32.toNatClampNeg v2)))) = 0) => ?_) (fun (h7 : (q_bd u (Int32.toNatClampNeg (q_kd u (Int32.toNatClampNeg v2)))) = 0) => ?_)
        · rw [show x_hold u v1 v2 v3 v4 = (0, u) from (by unfold x_hold; rw [if_neg h1, if_neg h3, if_neg h4, if_neg h7])] at hk
          exact hk
        · have hp := hp.1 h7
          have n8 := hp.1
          refine And.intro n8 ?_
          have hp := hp.2
          refine And.intro (fun (h9 : ¬ (xh_hasOpen u v1 v2) = 0) => ?_) (fun (h9 : (xh_hasOpen u v1 v2) = 0) => ?_)
          · rw [show x_hold u v1 v2 v3 v4 = (0, u) from (by unfold x_hold; rw [if_neg h1, if_neg h3, if_neg h4, if_pos h7, if_neg h9])] at hk
            exact hk
          · have hp := hp.1 h9
            refine And.intro (fun (h10 : (xh_areFull u) = 0) => ?_) (fun (h10 : ¬ (xh_areFull u) = 0) => ?_)
            · have hp := hp.1 h10
              have n11 := hp.1
              refine And.intro n11 ?_
              have hp := hp.2
              have n12 := hp.1
              refine And.intro n12 ?_
              have hp := hp.2
              refine And.intro (fun (h13 : (xh_countOpen u v1) < (q_mo u (Int32.toNatClampNeg v1))) => ?_) (fun (h13 : ¬ (xh_countOpen u v1) < (q_mo u (Int32.toNatClampNeg v1))) => ?_)
              · have hp := hp.1 h13
                have n14 := hp.1
                refine And.intro n14 ?_
                have hp := hp.2
                have n15 := hp.1
                refine And.intro n15 ?_
                have hp := hp.2
                refine And.intro (fun (h16 : (xc_leastFree (xh_add_s u v1 v2 v3 v4) v2) = 0) => ?_) (fun (h16 : ¬ (xc_leastFree (xh_add_s u v1 v2 v3 v4) v2) = 0) => ?_)
                · rw [show x_hold u v1 v2 v3 v4 = ((xh_add_r u v1 v2 v3 v4), (xh_add_s u v1 v2 v3 v4)) from (by unfold x_hold; rw [if_neg h1, if_neg h3, if_neg h4, if_pos h7, if_pos h9, if_pos h10, if_pos h13, if_pos h16])] at hk
                  exact hk
                · have hp := hp.2 h16
                  have n17 := hp
                  refine And.intro n17 ?_
                  rw [show x_hold u v1 v2 v3 v4 = ((xh_add_r u v1 v2 v3 v4), (x_settle_s (xh_add_s u v1 v2 v3 v4) (xc_leastFree (xh_add_s u v1 v2 v3 v4) v2))) from (by unfold x_hold; rw [if_neg h1, if_neg h3, if_neg h4, if_pos h7, if_pos h9, if_pos h10, if_pos h13, if_neg h16])] at hk
                  exact hk
              · rw [show x_hold u v1 v2 v3 v4 = ((-1), u) from (by unfold x_hold; rw [if_neg h1, if_neg h3, if_neg h4, if_pos h7, if_pos h9, if_pos h10, if_neg h13])] at hk
                exact hk
            · rw [show x_hold u v1 v2 v3 v4 = (0, u) from (by unfold x_hold; rw [if_neg h1, if_neg h3, if_neg h4, if_pos h7, if_pos h9, if_neg h10])] at hk
              exact hk
      · rw [show x_hold u v1 v2 v3 v4 = (0, u) from (by unfold x_hold; rw [if_neg h1, if_neg h3, if_pos h4])] at hk
        exact hk
-- HoldQueue.most(II)I
def x_most (u : q_S) (v1 : Int32) (v2 : Int32) : Int32 × q_S := (if (x_isPerson v1) = 0 then ((-1), u) else (if v2 < 0 then ((-1), u) else (if v2 ≤ 20 then ((q_mo u (Int32.toNatClampNeg v1)), (q_mo_u u v1 v2)) else ((-1), u))))
def x_most_r (u : q_S) (v1 : Int32) (v2 : Int32) : Int32 := (x_most u v1 v2).1
def x_most_s (u : q_S) (v1 : Int32) (v2 : Int32) : q_S := (x_most u v1 v2).2
def x_most_p (u : q_S) (v1 : Int32) (v2 : Int32) : Prop := (((x_isPerson v1) = 0 → True) ∧ (¬ (x_isPerson v1) = 0 → ((v2 < 0 → True) ∧ (¬ v2 < 0 → ((v2 ≤ 20 → (vp_in v1 40)) ∧ (¬ v2 ≤ 20 → True))))))
def x_most_t : List (Nat × gz_T q_S) := [(0, gz_ldi 1 1), (1, gz_s1P 4 x_isPerson), (4, gz_if 7 17 (fun x => x = 0) (fun x => ¬ x = 0)), (7, gz_ldi 8 2), (8, gz_if 11 17 (fun x => x < 0) (fun x => ¬ x < 0)), (11, gz_ldi 12 2), (12, gz_push 14 (gz_i 20)), (14, gz_if2 17 19 (fun x y => x ≤ y) (fun x y => ¬ x ≤ y)), (17, gz_push 18 (gz_i (-1))), (18, gz_iret), (19, gz_lda 20 0), (20, gz_getR 23 0 5), (23, gz_ldi 24 1), (24, gz_ild 25 x_ai), (25, gz_stor 26 3), (26, gz_lda 27 0), (27, gz_getR 30 0 5), (30, gz_ldi 31 1), (31, gz_ldi 32 2), (32, gz_ist 33 x_ai), (33, gz_ldi 34 3), (34, gz_iret)]
set_option maxRecDepth 100000 in
set_option maxHeartbeats 4000000 in
theorem x_most_d {Kr : Option Int32 → q_S → Prop} (u : q_S) (v1 : Int32) (v2 : Int32) (hp : x_most_p u v1 v2) (hk : Kr (some ((x_most u v1 v2)).1) ((x_most u v1 v2)).2) : gz_does x_most_t Kr [(0, gz_r 0), (1, gz_i v1), (2, gz_i v2)] u := by
  intro Z hZ
  refine hZ.1 [] 500 0 _ _ _ ?_
  unfold x_most_p at hp
  refine And.intro (fun (h1 : (x_isPerson v1) = 0) => ?_) (fun (h1 : ¬ (x_isPerson v1) = 0) => ?_)
  · rw [show x_most u v1 v2 = ((-1), u) from (by unfold x_most; rw [if_pos h1])] at hk
    exact hk
  · have hp := hp.2 h1
    refine And.intro (fun (h2 : v2 < 0) => ?_) (fun (h2 : ¬ v2 < 0) => ?_)
    · rw [show x_most u v1 v2 = ((-1), u) from (by unfold x_most; rw [if_neg h1, if_pos h2])] at hk
      exact hk
    · have hp := hp.2 h2
      refine And.intro (fun (h3 : v2 ≤ 20) => ?_) (fun (h3 : ¬ v2 ≤ 20) => ?_)
      · have hp := hp.1 h3
        have n4 := hp
        refine And.intro n4 ?_
        refine And.intro n4 ?_
        rw [show x_most u v1 v2 = ((q_mo u (Int32.toNatClampNeg v1)), (q_mo_u u v1 v2)) from (by unfold x_most; rw [if_neg h1, if_neg h2, if_pos h3])] at hk
        exact hk
      · rw [show x_most u v1 v2 = ((-1), u) from (by unfold x_most; rw [if_neg h1, if_neg h2, if_neg h3])] at hk
        exact hk
-- HoldQueue.suspend(IJ)I
def x_suspend (u : q_S) (v1 : Int32) (v2 : Int64) : Int32 × q_S := (if (xh_isIn u v1 0) = 0 then (0, u) else (1, (q_hu_u u v1 v2)))
def x_suspend_r (u : q_S) (v1 : Int32) (v2 : Int64) : Int32 := (x_suspend u v1 v2).1
def x_suspend_s (u : q_S) (v1 : Int32) (v2 : Int64) : q_S := (x_suspend u v1 v2).2
def x_suspend_p (u : q_S) (v1 : Int32) (v2 : Int64) : Prop := (xh_isIn_p u v1 0 ∧ (((xh_isIn u v1 0) = 0 → True) ∧ (¬ (xh_isIn u v1 0) = 0 → (vp_in v1 121))))
def x_suspend_t : List (Nat × gz_T q_S) := [(0, gz_lda 1 0), (1, gz_getR 4 0 2), (4, gz_ldi 5 1), (5, gz_push 6 (gz_i 0)), (6, gz_c2P 9 2 xh_isIn_p xh_isIn), (9, gz_if 12 14 (fun x => ¬ x = 0) (fun x => x = 0)), (12, gz_push 13 (gz_i 0)), (13, gz_iret), (14, gz_lda 15 0), (15, gz_getR 18 0 2), (18, gz_getR 21 2 16), (21, gz_ldi 22 1), (22, gz_ldl 23 2), (23, gz_lst 24 x_al), (24, gz_push 25 (gz_i 1)), (25, gz_iret)]
set_option maxRecDepth 100000 in
set_option maxHeartbeats 4000000 in
theorem x_suspend_d {Kr : Option Int32 → q_S → Prop} (u : q_S) (v1 : Int32) (v2 : Int64) (hp : x_suspend_p u v1 v2) (hk : Kr (some ((x_suspend u v1 v2)).1) ((x_suspend u v1 v2)).2) : gz_does x_suspend_t Kr [(0, gz_r 0), (1, gz_i v1), (2, gz_l v2)] u := by
  intro Z hZ
  refine hZ.1 [] 500 0 _ _ _ ?_
  unfold x_suspend_p at hp
  have n1 := hp.1
  refine And.intro n1 ?_
  have hp := hp.2
  refine And.intro (fun (h2 : ¬ (xh_isIn u v1 0) = 0) => ?_) (fun (h2 : (xh_isIn u v1 0) = 0) => ?_)
  · have hp := hp.2 h2
    have n3 := hp
    refine And.intro n3 ?_
    rw [show x_suspend u v1 v2 = (1, (q_hu_u u v1 v2)) from (by unfold x_suspend; rw [if_neg h2])] at hk
    exact hk
  · rw [show x_suspend u v1 v2 = (0, u) from (by unfold x_suspend; rw [if_pos h2])] at hk
    exact hk
-- HoldQueue$Copies.has(I)Z
def xc_has (u : q_S) (v1 : Int32) : Int32 := (if v1 < 1 then 0 else (if (q_nc u) < v1 then 0 else 1))
def xc_has_p (u : q_S) (v1 : Int32) : Prop := True
def xc_has_t : List (Nat × gz_T q_S) := [(0, gz_ldi 1 1), (1, gz_push 2 (gz_i 1)), (2, gz_if2 5 17 (fun x y => x < y) (fun x y => ¬ x < y)), (5, gz_ldi 6 1), (6, gz_lda 7 0), (7, gz_getI 10 1 q_nc), (10, gz_if2 13 17 (fun x y => y < x) (fun x y => ¬ y < x)), (13, gz_push 14 (gz_i 1)), (14, gz_goto 18), (17, gz_push 18 (gz_i 0)), (18, gz_zret)]
set_option maxRecDepth 100000 in
set_option maxHeartbeats 4000000 in
theorem xc_has_d {Kr : Option Int32 → q_S → Prop} (u : q_S) (v1 : Int32) (hk : Kr (some (xc_has u v1)) u) : gz_does xc_has_t Kr [(0, gz_r 1), (1, gz_i v1)] u := by
  intro Z hZ
  refine hZ.1 [] 500 0 _ _ _ ?_
  refine And.intro (fun (h1 : v1 < 1) => ?_) (fun (h1 : ¬ v1 < 1) => ?_)
  · refine And.intro (by decide +kernel) ?_
    rw [show xc_has u v1 = 0 from (by unfold xc_has; rw [if_pos h1])] at hk
    exact hk
  · refine And.intro (fun (h2 : (q_nc u) < v1) => ?_) (fun (h2 : ¬ (q_nc u) < v1) => ?_)
    · refine And.intro (by decide +kernel) ?_
      rw [show xc_has u v1 = 0 from (by unfold xc_has; rw [if_neg h1, if_pos h2])] at hk
      exact hk
    · refine And.intro (by decide +kernel) ?_
      rw [show xc_has u v1 = 1 from (by unfold xc_has; rw [if_neg h1, if_neg h2])] at hk
      exact hk
-- HoldQueue$Copies.isIn(II)Z
def xc_isIn (u : q_S) (v1 : Int32) (v2 : Int32) : Int32 := (if (xc_has u v1) = 0 then 0 else (if (q_cs u (Int32.toNatClampNeg v1)) = v2 then 1 else 0))
def xc_isIn_p (u : q_S) (v1 : Int32) (v2 : Int32) : Prop := (xc_has_p u v1 ∧ (((xc_has u v1) = 0 → True) ∧ (¬ (xc_has u v1) = 0 → (vp_in v1 61))))
def xc_isIn_t : List (Nat × gz_T q_S) := [(0, gz_lda 1 0), (1, gz_ldi 2 1), (2, gz_c1P 5 1 xc_has_p xc_has), (5, gz_if 8 22 (fun x => x = 0) (fun x => ¬ x = 0)), (8, gz_lda 9 0), (9, gz_getR 12 1 8), (12, gz_ldi 13 1), (13, gz_ild 14 x_ai), (14, gz_ldi 15 2), (15, gz_if2 18 22 (fun x y => ¬ x = y) (fun x y => x = y)), (18, gz_push 19 (gz_i 1)), (19, gz_goto 23), (22, gz_push 23 (gz_i 0)), (23, gz_zret)]
set_option maxRecDepth 100000 in
set_option maxHeartbeats 4000000 in
theorem xc_isIn_d {Kr : Option Int32 → q_S → Prop} (u : q_S) (v1 : Int32) (v2 : Int32) (hp : xc_isIn_p u v1 v2) (hk : Kr (some (xc_isIn u v1 v2)) u) : gz_does xc_isIn_t Kr [(0, gz_r 1), (1, gz_i v1), (2, gz_i v2)] u := by
  intro Z hZ
  refine hZ.1 [] 500 0 _ _ _ ?_
  unfold xc_isIn_p at hp
  have n1 := hp.1
  refine And.intro n1 ?_
  have hp := hp.2
  refine And.intro (fun (h2 : (xc_has u v1) = 0) => ?_) (fun (h2 : ¬ (xc_has u v1) = 0) => ?_)
  · refine And.intro (by decide +kernel) ?_
    rw [show xc_isIn u v1 v2 = 0 from (by unfold xc_isIn; rw [if_pos h2])] at hk
    exact hk
  · have hp := hp.2 h2
    have n3 := hp
    refine And.intro n3 ?_
    refine And.intro (fun (h4 : ¬ (q_cs u (Int32.toNatClampNeg v1)) = v2) => ?_) (fun (h4 : (q_cs u (Int32.toNatClampNeg v1)) = v2) => ?_)
    · refine And.intro (by decide +kernel) ?_
      rw [show xc_isIn u v1 v2 = 0 from (by unfold xc_isIn; rw [if_neg h2, if_neg h4])] at hk
      exact hk
    · refine And.intro (by decide +kernel) ?_
      rw [show xc_isIn u v1 v2 = 1 from (by unfold xc_isIn; rw [if_neg h2, if_pos h4])] at hk
      exact hk
-- HoldQueue.back(II)I
def x_back (u : q_S) (v1 : Int32) (v2 : Int32) : Int32 × q_S := (if (xc_isIn u v1 1) = 0 then ((-1), u) else (if (x_isPlace v2) = 0 then ((-1), u) else ((x_settle_r (q_cp_u u v1 v2) v1), (x_settle_s (q_cp_u u v1 v2) v1))))
def x_back_r (u : q_S) (v1 : Int32) (v2 : Int32) : Int32 := (x_back u v1 v2).1
def x_back_s (u : q_S) (v1 : Int32) (v2 : Int32) : q_S := (x_back u v1 v2).2
def x_back_p (u : q_S) (v1 : Int32) (v2 : Int32) : Prop := (xc_isIn_p u v1 1 ∧ (((xc_isIn u v1 1) = 0 → True) ∧ (¬ (xc_isIn u v1 1) = 0 → (((x_isPlace v2) = 0 → True) ∧ (¬ (x_isPlace v2) = 0 → (vp_in v1 61 ∧ (x_settle_p (q_cp_u u v1 v2) v1)))))))
def x_back_t : List (Nat × gz_T q_S) := [(0, gz_lda 1 0), (1, gz_getR 4 0 1), (4, gz_ldi 5 1), (5, gz_push 6 (gz_i 1)), (6, gz_c2P 9 1 xc_isIn_p xc_isIn), (9, gz_if 12 19 (fun x => x = 0) (fun x => ¬ x = 0)), (12, gz_ldi 13 2), (13, gz_s1P 16 x_isPlace), (16, gz_if 19 21 (fun x => ¬ x = 0) (fun x => x = 0)), (19, gz_push 20 (gz_i (-1))), (20, gz_iret), (21, gz_lda 22 0), (22, gz_getR 25 0 1), (25, gz_getR 28 1 7), (28, gz_ldi 29 1), (29, gz_ldi 30 2), (30, gz_ist 31 x_ai), (31, gz_lda 32 0), (32, gz_ldi 33 1), (33, gz_c1I 36 0 x_settle_p x_settle_r x_settle_s), (36, gz_iret)]
set_option maxRecDepth 100000 in
set_option maxHeartbeats 4000000 in
theorem x_back_d {Kr : Option Int32 → q_S → Prop} (u : q_S) (v1 : Int32) (v2 : Int32) (hp : x_back_p u v1 v2) (hk : Kr (some ((x_back u v1 v2)).1) ((x_back u v1 v2)).2) : gz_does x_back_t Kr [(0, gz_r 0), (1, gz_i v1), (2, gz_i v2)] u := by
  intro Z hZ
  refine hZ.1 [] 500 0 _ _ _ ?_
  unfold x_back_p at hp
  have n1 := hp.1
  refine And.intro n1 ?_
  have hp := hp.2
  refine And.intro (fun (h2 : (xc_isIn u v1 1) = 0) => ?_) (fun (h2 : ¬ (xc_isIn u v1 1) = 0) => ?_)
  · rw [show x_back u v1 v2 = ((-1), u) from (by unfold x_back; rw [if_pos h2])] at hk
    exact hk
  · have hp := hp.2 h2
    refine And.intro (fun (h3 : ¬ (x_isPlace v2) = 0) => ?_) (fun (h3 : (x_isPlace v2) = 0) => ?_)
    · have hp := hp.2 h3
      have n4 := hp.1
      refine And.intro n4 ?_
      have hp := hp.2
      have n5 := hp
      refine And.intro n5 ?_
      rw [show x_back u v1 v2 = ((x_settle_r (q_cp_u u v1 v2) v1), (x_settle_s (q_cp_u u v1 v2) v1)) from (by unfold x_back; rw [if_neg h2, if_neg h3])] at hk
      exact hk
    · rw [show x_back u v1 v2 = ((-1), u) from (by unfold x_back; rw [if_neg h2, if_pos h3])] at hk
      exact hk
-- HoldQueue.untie(II)V
def x_untie (u : q_S) (v1 : Int32) (v2 : Int32) : q_S := (q_hy_u (q_ch_u u v1 0) v2 0)
def x_untie_p (u : q_S) (v1 : Int32) (v2 : Int32) : Prop := (vp_in v1 61 ∧ (vp_in v2 121))
def x_untie_t : List (Nat × gz_T q_S) := [(0, gz_lda 1 0), (1, gz_getR 4 0 1), (4, gz_getR 7 1 9), (7, gz_ldi 8 1), (8, gz_push 9 (gz_i 0)), (9, gz_ist 10 x_ai), (10, gz_lda 11 0), (11, gz_getR 14 0 2), (14, gz_getR 17 2 15), (17, gz_ldi 18 2), (18, gz_push 19 (gz_i 0)), (19, gz_ist 20 x_ai), (20, gz_vret)]
set_option maxRecDepth 100000 in
set_option maxHeartbeats 4000000 in
theorem x_untie_d {Kr : Option Int32 → q_S → Prop} (u : q_S) (v1 : Int32) (v2 : Int32) (hp : x_untie_p u v1 v2) (hk : Kr none (x_untie u v1 v2)) : gz_does x_untie_t Kr [(0, gz_r 0), (1, gz_i v1), (2, gz_i v2)] u := by
  intro Z hZ
  refine hZ.1 [] 500 0 _ _ _ ?_
  unfold x_untie_p at hp
  have n1 := hp.1
  refine And.intro n1 ?_
  have hp := hp.2
  have n2 := hp
  refine And.intro n2 ?_
  rw [show x_untie u v1 v2 = (q_hy_u (q_ch_u u v1 0) v2 0) from rfl] at hk
  exact hk
-- HoldQueue.arrive(I)I
def x_arrive (u : q_S) (v1 : Int32) : Int32 × q_S := (if (xc_isIn u v1 2) = 0 then ((-1), u) else (if (xh_isIn u (q_ch u (Int32.toNatClampNeg v1)) 1) = 0 then (0, (x_settle_s (x_untie u v1 (q_ch u (Int32.toNatClampNeg v1))) v1)) else (1, (x_layReady u v1 (q_ch u (Int32.toNatClampNeg v1))))))
def x_arrive_r (u : q_S) (v1 : Int32) : Int32 := (x_arrive u v1).1
def x_arrive_s (u : q_S) (v1 : Int32) : q_S := (x_arrive u v1).2
def x_arrive_p (u : q_S) (v1 : Int32) : Prop := (xc_isIn_p u v1 2 ∧ (((xc_isIn u v1 2) = 0 → True) ∧ (¬ (xc_isIn u v1 2) = 0 → (vp_in v1 61 ∧ (xh_isIn_p u (q_ch u (Int32.toNatClampNeg v1)) 1 ∧ (((xh_isIn u (q_ch u (Int32.toNatClampNeg v1)) 1) = 0 → (x_untie_p u v1 (q_ch u (Int32.toNatClampNeg v1)) ∧ (x_settle_p (x_untie u v1 (q_ch u (Int32.toNatClampNeg v1))) v1))) ∧ (¬ (xh_isIn u (q_ch u (Int32.toNatClampNeg v1)) 1) = 0 → (x_layReady_p u v1 (q_ch u (Int32.toNatClampNeg v1))))))))))
def x_arrive_t : List (Nat × gz_T q_S) := [(0, gz_lda 1 0), (1, gz_getR 4 0 1), (4, gz_ldi 5 1), (5, gz_push 6 (gz_i 2)), (6, gz_c2P 9 1 xc_isIn_p xc_isIn), (9, gz_if 12 14 (fun x => ¬ x = 0) (fun x => x = 0)), (12, gz_push 13 (gz_i (-1))), (13, gz_iret), (14, gz_lda 15 0), (15, gz_getR 18 0 1), (18, gz_getR 21 1 9), (21, gz_ldi 22 1), (22, gz_ild 23 x_ai), (23, gz_stor 24 2), (24, gz_lda 25 0), (25, gz_getR 28 0 2), (28, gz_ldi 29 2), (29, gz_push 30 (gz_i 1)), (30, gz_c2P 33 2 xh_isIn_p xh_isIn), (33, gz_if 36 44 (fun x => x = 0) (fun x => ¬ x = 0)), (36, gz_lda 37 0), (37, gz_ldi 38 1), (38, gz_ldi 39 2), (39, gz_c2V 42 0 x_layReady_p x_layReady), (42, gz_push 43 (gz_i 1)), (43, gz_iret), (44, gz_lda 45 0), (45, gz_ldi 46 1), (46, gz_ldi 47 2), (47, gz_c2V 50 0 x_untie_p x_untie), (50, gz_lda 51 0), (51, gz_ldi 52 1), (52, gz_c1I 55 0 x_settle_p x_settle_r x_settle_s), (55, gz_pop 56), (56, gz_push 57 (gz_i 0)), (57, gz_iret)]
set_option maxRecDepth 100000 in
set_option maxHeartbeats 4000000 in
theorem x_arrive_d {Kr : Option Int32 → q_S → Prop} (u : q_S) (v1 : Int32) (hp : x_arrive_p u v1) (hk : Kr (some ((x_arrive u v1)).1) ((x_arrive u v1)).2) : gz_does x_arrive_t Kr [(0, gz_r 0), (1, gz_i v1)] u := by
  intro Z hZ
  refine hZ.1 [] 500 0 _ _ _ ?_
  unfold x_arrive_p at hp
  have n1 := hp.1
  refine And.intro n1 ?_
  have hp := hp.2
  refine And.intro (fun (h2 : ¬ (xc_isIn u v1 2) = 0) => ?_) (fun (h2 : (xc_isIn u v1 2) = 0) => ?_)
  · have hp := hp.2 h2
    have n3 := hp.1
    refine And.intro n3 ?_
    have hp := hp.2
    have n4 := hp.1
    refine And.intro n4 ?_
    have hp := hp.2
    refine And.intro (fun (h5 : (xh_isIn u (q_ch u (Int32.toNatClampNeg v1)) 1) = 0) => ?_) (fun (h5 : ¬ (xh_isIn u (q_ch u (Int32.toNatClampNeg v1)) 1) = 0) => ?_)
    · have hp := hp.1 h5
      have n6 := hp.1
      refine And.intro n6 ?_
      have hp := hp.2
      have n7 := hp
      refine And.intro n7 ?_
      rw [show x_arrive u v1 = (0, (x_settle_s (x_untie u v1 (q_ch u (Int32.toNatClampNeg v1))) v1)) from (by unfold x_arrive; rw [if_neg h2, if_pos h5])] at hk
      exact hk
    · have hp := hp.2 h5
      have n8 := hp
      refine And.intro n8 ?_
      rw [show x_arrive u v1 = (1, (x_layReady u v1 (q_ch u (Int32.toNatClampNeg v1)))) from (by unfold x_arrive; rw [if_neg h2, if_neg h5])] at hk
      exact hk
  · rw [show x_arrive u v1 = ((-1), u) from (by unfold x_arrive; rw [if_pos h2])] at hk
    exact hk
-- HoldQueue.pick(I)I
def x_pick (u : q_S) (v1 : Int32) : Int32 × q_S := (if (xh_isIn u v1 2) = 0 then (0, u) else ((q_hy u (Int32.toNatClampNeg v1)), (q_cs_u (x_untie (q_hs_u u v1 3) (q_hy u (Int32.toNatClampNeg v1)) v1) (q_hy u (Int32.toNatClampNeg v1)) 1)))
def x_pick_r (u : q_S) (v1 : Int32) : Int32 := (x_pick u v1).1
def x_pick_s (u : q_S) (v1 : Int32) : q_S := (x_pick u v1).2
def x_pick_p (u : q_S) (v1 : Int32) : Prop := (xh_isIn_p u v1 2 ∧ (((xh_isIn u v1 2) = 0 → True) ∧ (¬ (xh_isIn u v1 2) = 0 → (vp_in v1 121 ∧ (x_untie_p (q_hs_u u v1 3) (q_hy u (Int32.toNatClampNeg v1)) v1 ∧ (vp_in (q_hy u (Int32.toNatClampNeg v1)) 61))))))
def x_pick_t : List (Nat × gz_T q_S) := [(0, gz_lda 1 0), (1, gz_getR 4 0 2), (4, gz_ldi 5 1), (5, gz_push 6 (gz_i 2)), (6, gz_c2P 9 2 xh_isIn_p xh_isIn), (9, gz_if 12 14 (fun x => ¬ x = 0) (fun x => x = 0)), (12, gz_push 13 (gz_i 0)), (13, gz_iret), (14, gz_lda 15 0), (15, gz_getR 18 0 2), (18, gz_getR 21 2 15), (21, gz_ldi 22 1), (22, gz_ild 23 x_ai), (23, gz_stor 24 2), (24, gz_lda 25 0), (25, gz_getR 28 0 2), (28, gz_getR 31 2 14), (31, gz_ldi 32 1), (32, gz_push 33 (gz_i 3)), (33, gz_ist 34 x_ai), (34, gz_lda 35 0), (35, gz_ldi 36 2), (36, gz_ldi 37 1), (37, gz_c2V 40 0 x_untie_p x_untie), (40, gz_lda 41 0), (41, gz_getR 44 0 1), (44, gz_getR 47 1 8), (47, gz_ldi 48 2), (48, gz_push 49 (gz_i 1)), (49, gz_ist 50 x_ai), (50, gz_ldi 51 2), (51, gz_iret)]
set_option maxRecDepth 100000 in
set_option maxHeartbeats 4000000 in
theorem x_pick_d {Kr : Option Int32 → q_S → Prop} (u : q_S) (v1 : Int32) (hp : x_pick_p u v1) (hk : Kr (some ((x_pick u v1)).1) ((x_pick u v1)).2) : gz_does x_pick_t Kr [(0, gz_r 0), (1, gz_i v1)] u := by
  intro Z hZ
  refine hZ.1 [] 500 0 _ _ _ ?_
  unfold x_pick_p at hp
  have n1 := hp.1
  refine And.intro n1 ?_
  have hp := hp.2
  refine And.intro (fun (h2 : ¬ (xh_isIn u v1 2) = 0) => ?_) (fun (h2 : (xh_isIn u v1 2) = 0) => ?_)
  · have hp := hp.2 h2
    have n3 := hp.1
    refine And.intro n3 ?_
    have hp := hp.2
    refine And.intro n3 ?_
    have n4 := hp.1
    refine And.intro n4 ?_
    have hp := hp.2
    have n5 := hp
    refine And.intro n5 ?_
    rw [show x_pick u v1 = ((q_hy u (Int32.toNatClampNeg v1)), (q_cs_u (x_untie (q_hs_u u v1 3) (q_hy u (Int32.toNatClampNeg v1)) v1) (q_hy u (Int32.toNatClampNeg v1)) 1)) from (by unfold x_pick; rw [if_neg h2])] at hk
    exact hk
  · rw [show x_pick u v1 = (0, u) from (by unfold x_pick; rw [if_pos h2])] at hk
    exact hk
-- HoldQueue.lend(I)I
def x_lend (u : q_S) (v1 : Int32) : Int32 × q_S := (if (xc_isIn u v1 0) = 0 then (0, u) else (1, (q_cs_u u v1 1)))
def x_lend_r (u : q_S) (v1 : Int32) : Int32 := (x_lend u v1).1
def x_lend_s (u : q_S) (v1 : Int32) : q_S := (x_lend u v1).2
def x_lend_p (u : q_S) (v1 : Int32) : Prop := (xc_isIn_p u v1 0 ∧ (((xc_isIn u v1 0) = 0 → True) ∧ (¬ (xc_isIn u v1 0) = 0 → (vp_in v1 61))))
def x_lend_t : List (Nat × gz_T q_S) := [(0, gz_lda 1 0), (1, gz_getR 4 0 1), (4, gz_ldi 5 1), (5, gz_push 6 (gz_i 0)), (6, gz_c2P 9 1 xc_isIn_p xc_isIn), (9, gz_if 12 14 (fun x => ¬ x = 0) (fun x => x = 0)), (12, gz_push 13 (gz_i 0)), (13, gz_iret), (14, gz_lda 15 0), (15, gz_getR 18 0 1), (18, gz_getR 21 1 8), (21, gz_ldi 22 1), (22, gz_push 23 (gz_i 1)), (23, gz_ist 24 x_ai), (24, gz_push 25 (gz_i 1)), (25, gz_iret)]
set_option maxRecDepth 100000 in
set_option maxHeartbeats 4000000 in
theorem x_lend_d {Kr : Option Int32 → q_S → Prop} (u : q_S) (v1 : Int32) (hp : x_lend_p u v1) (hk : Kr (some ((x_lend u v1)).1) ((x_lend u v1)).2) : gz_does x_lend_t Kr [(0, gz_r 0), (1, gz_i v1)] u := by
  intro Z hZ
  refine hZ.1 [] 500 0 _ _ _ ?_
  unfold x_lend_p at hp
  have n1 := hp.1
  refine And.intro n1 ?_
  have hp := hp.2
  refine And.intro (fun (h2 : ¬ (xc_isIn u v1 0) = 0) => ?_) (fun (h2 : (xc_isIn u v1 0) = 0) => ?_)
  · have hp := hp.2 h2
    have n3 := hp
    refine And.intro n3 ?_
    rw [show x_lend u v1 = (1, (q_cs_u u v1 1)) from (by unfold x_lend; rw [if_neg h2])] at hk
    exact hk
  · rw [show x_lend u v1 = (0, u) from (by unfold x_lend; rw [if_pos h2])] at hk
    exact hk
-- HoldQueue.letGo(I)V
def x_letGo (u : q_S) (v1 : Int32) : q_S := (x_settle_s (x_untie u (q_hy u (Int32.toNatClampNeg v1)) v1) (q_hy u (Int32.toNatClampNeg v1)))
def x_letGo_p (u : q_S) (v1 : Int32) : Prop := (vp_in v1 121 ∧ (x_untie_p u (q_hy u (Int32.toNatClampNeg v1)) v1 ∧ (x_settle_p (x_untie u (q_hy u (Int32.toNatClampNeg v1)) v1) (q_hy u (Int32.toNatClampNeg v1)))))
def x_letGo_t : List (Nat × gz_T q_S) := [(0, gz_lda 1 0), (1, gz_getR 4 0 2), (4, gz_getR 7 2 15), (7, gz_ldi 8 1), (8, gz_ild 9 x_ai), (9, gz_stor 10 2), (10, gz_lda 11 0), (11, gz_ldi 12 2), (12, gz_ldi 13 1), (13, gz_c2V 16 0 x_untie_p x_untie), (16, gz_lda 17 0), (17, gz_ldi 18 2), (18, gz_c1I 21 0 x_settle_p x_settle_r x_settle_s), (21, gz_pop 22), (22, gz_vret)]
set_option maxRecDepth 100000 in
set_option maxHeartbeats 4000000 in
theorem x_letGo_d {Kr : Option Int32 → q_S → Prop} (u : q_S) (v1 : Int32) (hp : x_letGo_p u v1) (hk : Kr none (x_letGo u v1)) : gz_does x_letGo_t Kr [(0, gz_r 0), (1, gz_i v1)] u := by
  intro Z hZ
  refine hZ.1 [] 500 0 _ _ _ ?_
  unfold x_letGo_p at hp
  have n1 := hp.1
  refine And.intro n1 ?_
  have hp := hp.2
  have n2 := hp.1
  refine And.intro n2 ?_
  have hp := hp.2
  have n3 := hp
  refine And.intro n3 ?_
  rw [show x_letGo u v1 = (x_settle_s (x_untie u (q_hy u (Int32.toNatClampNeg v1)) v1) (q_hy u (Int32.toNatClampNeg v1))) from rfl] at hk
  exact hk
-- HoldQueue.cancel(I)I
def x_cancel (u : q_S) (v1 : Int32) : Int32 × q_S := (if (xh_isOpen u v1) = 0 then (0, u) else (if (xh_isIn u v1 2) = 0 then (1, (q_hs_u u v1 5)) else (1, (x_letGo (q_hs_u u v1 5) v1))))
def x_cancel_r (u : q_S) (v1 : Int32) : Int32 := (x_cancel u v1).1
def x_cancel_s (u : q_S) (v1 : Int32) : q_S := (x_cancel u v1).2
def x_cancel_p (u : q_S) (v1 : Int32) : Prop := (xh_isOpen_p u v1 ∧ (((xh_isOpen u v1) = 0 → True) ∧ (¬ (xh_isOpen u v1) = 0 → (xh_isIn_p u v1 2 ∧ (vp_in v1 121 ∧ (((xh_isIn u v1 2) = 0 → True) ∧ (¬ (xh_isIn u v1 2) = 0 → (x_letGo_p (q_hs_u u v1 5) v1))))))))
def x_cancel_t : List (Nat × gz_T q_S) := [(0, gz_lda 1 0), (1, gz_getR 4 0 2), (4, gz_ldi 5 1), (5, gz_c1P 8 2 xh_isOpen_p xh_isOpen), (8, gz_if 11 13 (fun x => ¬ x = 0) (fun x => x = 0)), (11, gz_push 12 (gz_i 0)), (12, gz_iret), (13, gz_lda 14 0), (14, gz_getR 17 0 2), (17, gz_ldi 18 1), (18, gz_push 19 (gz_i 2)), (19, gz_c2P 22 2 xh_isIn_p xh_isIn), (22, gz_stor 23 2), (23, gz_lda 24 0), (24, gz_getR 27 0 2), (27, gz_getR 30 2 14), (30, gz_ldi 31 1), (31, gz_push 32 (gz_i 5)), (32, gz_ist 33 x_ai), (33, gz_ldi 34 2), (34, gz_if 37 42 (fun x => x = 0) (fun x => ¬ x = 0)), (37, gz_lda 38 0), (38, gz_ldi 39 1), (39, gz_c1V 42 0 x_letGo_p x_letGo), (42, gz_push 43 (gz_i 1)), (43, gz_iret)]
set_option maxRecDepth 100000 in
set_option maxHeartbeats 4000000 in
theorem x_cancel_d {Kr : Option Int32 → q_S → Prop} (u : q_S) (v1 : Int32) (hp : x_cancel_p u v1) (hk : Kr (some ((x_cancel u v1)).1) ((x_cancel u v1)).2) : gz_does x_cancel_t Kr [(0, gz_r 0), (1, gz_i v1)] u := by
  intro Z hZ
  refine hZ.1 [] 500 0 _ _ _ ?_
  unfold x_cancel_p at hp
  have n1 := hp.1
  refine And.intro n1 ?_
  have hp := hp.2
  refine And.intro (fun (h2 : ¬ (xh_isOpen u v1) = 0) => ?_) (fun (h2 : (xh_isOpen u v1) = 0) => ?_)
  · have hp := hp.2 h2
    have n3 := hp.1
    refine And.intro n3 ?_
    have hp := hp.2
    have n4 := hp.1
    refine And.intro n4 ?_
    have hp := hp.2
    refine And.intro (fun (h5 : (xh_isIn u v1 2) = 0) => ?_) (fun (h5 : ¬ (xh_isIn u v1 2) = 0) => ?_)
    · rw [show x_cancel u v1 = (1, (q_hs_u u v1 5)) from (by unfold x_cancel; rw [if_neg h2, if_pos h5])] at hk
      exact hk
    · have hp := hp.2 h5
      have n6 := hp
      refine And.intro n6 ?_
      rw [show x_cancel u v1 = (1, (x_letGo (q_hs_u u v1 5) v1)) from (by unfold x_cancel; rw [if_neg h2, if_neg h5])] at hk
      exact hk
  · rw [show x_cancel u v1 = (0, u) from (by unfold x_cancel; rw [if_pos h2])] at hk
    exact hk
-- HoldQueue.tick(J)I
def x_tick_l29_b (rec : Int64 → Int32 → Int32 → q_S → Int32 × q_S) (v1 : Int64) (v3 : Int32) (v4 : Int32) (u : q_S) : Int32 × q_S := (if (q_nh u) < v4 then (v3, u) else (if (xh_isIn u v4 2) = 0 then (rec v1 v3 (v4 + 1) u) else (if 0 ≤ (lg_cmp (q_he u (Int32.toNatClampNeg v4)) (q_td u)) then (rec v1 v3 (v4 + 1) u) else (rec v1 (v3 + 1) (v4 + 1) (x_letGo (q_hs_u u v4 4) v4)))))
def x_tick_l29 : Nat → Int64 → Int32 → Int32 → q_S → Int32 × q_S
  | 0, _, _, _, u => (0, u)
  | n + 1, v1, v3, v4, u => x_tick_l29_b (x_tick_l29 n) v1 v3 v4 u
def x_tick_l29_pb (rec : Int64 → Int32 → Int32 → q_S → Prop) (v1 : Int64) (v3 : Int32) (v4 : Int32) (u : q_S) : Prop := (((q_nh u) < v4 → True) ∧ (¬ (q_nh u) < v4 → (xh_isIn_p u v4 2 ∧ (((xh_isIn u v4 2) = 0 → (rec v1 v3 (v4 + 1) u)) ∧ (¬ (xh_isIn u v4 2) = 0 → (vp_in v4 121 ∧ ((0 ≤ (lg_cmp (q_he u (Int32.toNatClampNeg v4)) (q_td u)) → (rec v1 v3 (v4 + 1) u)) ∧ (¬ 0 ≤ (lg_cmp (q_he u (Int32.toNatClampNeg v4)) (q_td u)) → (x_letGo_p (q_hs_u u v4 4) v4 ∧ (rec v1 (v3 + 1) (v4 + 1) (x_letGo (q_hs_u u v4 4) v4)))))))))))
def x_tick_l29_p : Nat → Int64 → Int32 → Int32 → q_S → Prop
  | 0, _, _, _, _ => False
  | n + 1, v1, v3, v4, u => x_tick_l29_pb (x_tick_l29_p n) v1 v3 v4 u
def x_tick (u : q_S) (v1 : Int64) : Int32 × q_S := (if (lg_cmp v1 (q_td u)) ≤ 0 then ((-1), u) else (if (lg_cmp v1 1000000000) ≤ 0 then (x_tick_l29 200 v1 0 1 (q_td_s u v1)) else ((-1), u)))
def x_tick_r (u : q_S) (v1 : Int64) : Int32 := (x_tick u v1).1
def x_tick_s (u : q_S) (v1 : Int64) : q_S := (x_tick u v1).2
def x_tick_p (u : q_S) (v1 : Int64) : Prop := (((lg_cmp v1 (q_td u)) ≤ 0 → True) ∧ (¬ (lg_cmp v1 (q_td u)) ≤ 0 → (((lg_cmp v1 1000000000) ≤ 0 → (x_tick_l29_p 200 v1 0 1 (q_td_s u v1))) ∧ (¬ (lg_cmp v1 1000000000) ≤ 0 → True))))
def x_tick_t : List (Nat × gz_T q_S) := [(0, gz_ldl 1 1), (1, gz_lda 2 0), (2, gz_getL 5 0 q_td), (5, gz_lcmp 6), (6, gz_if 9 17 (fun x => x ≤ 0) (fun x => ¬ x ≤ 0)), (9, gz_ldl 10 1), (10, gz_push 13 (gz_l 1000000000)), (13, gz_lcmp 14), (14, gz_if 17 19 (fun x => x ≤ 0) (fun x => ¬ x ≤ 0)), (17, gz_push 18 (gz_i (-1))), (18, gz_iret), (19, gz_lda 20 0), (20, gz_ldl 21 1), (21, gz_putL 24 0 q_td_s), (24, gz_push 25 (gz_i 0)), (25, gz_stor 26 3), (26, gz_push 27 (gz_i 1)), (27, gz_stor 29 4), (29, gz_ldi 31 4), (31, gz_lda 32 0), (32, gz_getR 35 0 2), (35, gz_getI 38 2 q_nh), (38, gz_if2 41 98 (fun x y => y < x) (fun x y => ¬ y < x)), (41, gz_lda 42 0), (42, gz_getR 45 0 2), (45, gz_ldi 47 4), (47, gz_push 48 (gz_i 2)), (48, gz_c2P 51 2 xh_isIn_p xh_isIn), (51, gz_if 54 92 (fun x => x = 0) (fun x => ¬ x = 0)), (54, gz_lda 55 0), (55, gz_getR 58 0 2), (58, gz_getR 61 2 17), (61, gz_ldi 63 4), (63, gz_lld 64 x_al), (64, gz_lda 65 0), (65, gz_getL 68 0 q_td), (68, gz_lcmp 69), (69, gz_if 72 92 (fun x => 0 ≤ x) (fun x => ¬ 0 ≤ x)), (72, gz_lda 73 0), (73, gz_getR 76 0 2), (76, gz_getR 79 2 14), (79, gz_ldi 81 4), (81, gz_push 82 (gz_i 4)), (82, gz_ist 83 x_ai), (83, gz_lda 84 0), (84, gz_ldi 86 4), (86, gz_c1V 89 0 x_letGo_p x_letGo), (89, gz_iinc 92 3 1), (92, gz_iinc 95 4 1), (95, gz_goto 29), (98, gz_ldi 99 3), (99, gz_iret)]
set_option maxRecDepth 100000 in
set_option maxHeartbeats 4000000 in
theorem x_tick_l29_d {Kr : Option Int32 → q_S → Prop} {Z : gz_K q_S} (hZ : gz_shut x_tick_t Kr Z) : ∀ (n : Nat) (v1 : Int64) (v3 : Int32) (v4 : Int32) (u : q_S), x_tick_l29_p n v1 v3 v4 u → Kr (some ((x_tick_l29 n v1 v3 v4 u)).1) ((x_tick_l29 n v1 v3 v4 u)).2 → Z 29 [(0, gz_r 0), (1, gz_l v1), (3, gz_i v3), (4, gz_i v4)] [] u := by
  intro n
  induction n with
  | zero => intro v1 v3 v4 u hp _; exact False.elim hp
  | succ n ih =>
  intro v1 v3 v4 u hp hk
  refine hZ.1 [29] 500 29 _ _ _ ?_
  have hp : x_tick_l29_pb (x_tick_l29_p n) v1 v3 v4 u := hp
  refine And.intro (fun (h1 : (q_nh u) < v4) => ?_) (fun (h1 : ¬ (q_nh u) < v4) => ?_)
  · rw [show x_tick_l29 (n + 1) v1 v3 v4 u = (v3, u) from (by unfold x_tick_l29_b; rw [if_pos h1] : x_tick_l29_b (x_tick_l29 n) v1 v3 v4 u = (v3, u))] at hk
    exact hk
  · have hp := hp.2 h1
    have n2 := hp.1
    refine And.intro n2 ?_
    have hp := hp.2
    refine And.intro (fun (h3 : (xh_isIn u v4 2) = 0) => ?_) (fun (h3 : ¬ (xh_isIn u v4 2) = 0) => ?_)
    · have hp := hp.1 h3
      rw [show x_tick_l29 (n + 1) v1 v3 v4 u = (x_tick_l29 n v1 v3 (v4 + 1) u) from (by unfold x_tick_l29_b; rw [if_neg h1, if_pos h3] : x_tick_l29_b (x_tick_l29 n) v1 v3 v4 u = (x_tick_l29 n v1 v3 (v4 + 1) u))] at hk
      exact ih v1 v3 (v4 + 1) u hp hk
    · have hp := hp.2 h3
      have n4 := hp.1
      refine And.intro n4 ?_
      have hp := hp.2
      refine And.intro (fun (h5 : 0 ≤ (lg_cmp (q_he u (Int32.toNatClampNeg v4)) (q_td u))) => ?_) (fun (h5 : ¬ 0 ≤ (lg_cmp (q_he u (Int32.toNatClampNeg v4)) (q_td u))) => ?_)
      · have hp := hp.1 h5
        rw [show x_tick_l29 (n + 1) v1 v3 v4 u = (x_tick_l29 n v1 v3 (v4 + 1) u) from (by unfold x_tick_l29_b; rw [if_neg h1, if_neg h3, if_pos h5] : x_tick_l29_b (x_tick_l29 n) v1 v3 v4 u = (x_tick_l29 n v1 v3 (v4 + 1) u))] at hk
        exact ih v1 v3 (v4 + 1) u hp hk
      · have hp := hp.2 h5
        refine And.intro n4 ?_
        have n6 := hp.1
        refine And.intro n6 ?_
        have hp := hp.2
        rw [show x_tick_l29 (n + 1) v1 v3 v4 u = (x_tick_l29 n v1 (v3 + 1) (v4 + 1) (x_letGo (q_hs_u u v4 4) v4)) from (by unfold x_tick_l29_b; rw [if_neg h1, if_neg h3, if_neg h5] : x_tick_l29_b (x_tick_l29 n) v1 v3 v4 u = (x_tick_l29 n v1 (v3 + 1) (v4 + 1) (x_letGo (q_hs_u u v4 4) v4)))] at hk
        exact ih v1 (v3 + 1) (v4 + 1) (x_letGo (q_hs_u u v4 4) v4) hp hk
set_option maxRecDepth 100000 in
set_option maxHeartbeats 4000000 in
theorem x_tick_d {Kr : Option Int32 → q_S → Prop} (u : q_S) (v1 : Int64) (hp : x_tick_p u v1) (hk : Kr (some ((x_tick u v1)).1) ((x_tick u v1)).2) : gz_does x_tick_t Kr [(0, gz_r 0), (1, gz_l v1)] u := by
  intro Z hZ
  refine hZ.1 [29] 500 0 _ _ _ ?_
  unfold x_tick_p at hp
  refine And.intro (fun (h1 : (lg_cmp v1 (q_td u)) ≤ 0) => ?_) (fun (h1 : ¬ (lg_cmp v1 (q_td u)) ≤ 0) => ?_)
  · rw [show x_tick u v1 = ((-1), u) from (by unfold x_tick; rw [if_pos h1])] at hk
    exact hk
  · have hp := hp.2 h1
    refine And.intro (fun (h2 : (lg_cmp v1 1000000000) ≤ 0) => ?_) (fun (h2 : ¬ (lg_cmp v1 1000000000) ≤ 0) => ?_)
    · have hp := hp.1 h2
      rw [show x_tick u v1 = (x_tick_l29 200 v1 0 1 (q_td_s u v1)) from (by unfold x_tick; rw [if_neg h1, if_pos h2])] at hk
      exact x_tick_l29_d hZ 200 v1 0 1 (q_td_s u v1) hp hk
    · rw [show x_tick u v1 = ((-1), u) from (by unfold x_tick; rw [if_neg h1, if_neg h2])] at hk
      exact hk
-- HoldQueue.span(I)I
def x_span (u : q_S) (v1 : Int32) : Int32 × q_S := (if v1 < 1 then ((-1), u) else (if v1 ≤ 99 then ((q_sp u), (q_sp_s u v1)) else ((-1), u)))
def x_span_r (u : q_S) (v1 : Int32) : Int32 := (x_span u v1).1
def x_span_s (u : q_S) (v1 : Int32) : q_S := (x_span u v1).2
def x_span_p (u : q_S) (v1 : Int32) : Prop := True
def x_span_t : List (Nat × gz_T q_S) := [(0, gz_ldi 1 1), (1, gz_push 2 (gz_i 1)), (2, gz_if2 5 11 (fun x y => x < y) (fun x y => ¬ x < y)), (5, gz_ldi 6 1), (6, gz_push 8 (gz_i 99)), (8, gz_if2 11 13 (fun x y => x ≤ y) (fun x y => ¬ x ≤ y)), (11, gz_push 12 (gz_i (-1))), (12, gz_iret), (13, gz_lda 14 0), (14, gz_getI 17 0 q_sp), (17, gz_stor 18 2), (18, gz_lda 19 0), (19, gz_ldi 20 1), (20, gz_putI 23 0 q_sp_s), (23, gz_ldi 24 2), (24, gz_iret)]
set_option maxRecDepth 100000 in
set_option maxHeartbeats 4000000 in
theorem x_span_d {Kr : Option Int32 → q_S → Prop} (u : q_S) (v1 : Int32) (hk : Kr (some ((x_span u v1)).1) ((x_span u v1)).2) : gz_does x_span_t Kr [(0, gz_r 0), (1, gz_i v1)] u := by
  intro Z hZ
  refine hZ.1 [] 500 0 _ _ _ ?_
  refine And.intro (fun (h1 : v1 < 1) => ?_) (fun (h1 : ¬ v1 < 1) => ?_)
  · rw [show x_span u v1 = ((-1), u) from (by unfold x_span; rw [if_pos h1])] at hk
    exact hk
  · refine And.intro (fun (h2 : v1 ≤ 99) => ?_) (fun (h2 : ¬ v1 ≤ 99) => ?_)
    · rw [show x_span u v1 = ((q_sp u), (q_sp_s u v1)) from (by unfold x_span; rw [if_neg h1, if_pos h2])] at hk
      exact hk
    · rw [show x_span u v1 = ((-1), u) from (by unfold x_span; rw [if_neg h1, if_neg h2])] at hk
      exact hk
-- HoldQueue$Holds.placeInQueue(I)I
def xh_placeInQueue_l4_b (rec : Int32 → Int32 → Int32 → q_S → Int32) (v1 : Int32) (v2 : Int32) (v3 : Int32) (u : q_S) : Int32 := (if (q_nh u) < v3 then v2 else (if (xh_isQueued u v3 (q_hr u (Int32.toNatClampNeg v1))) = 0 then (rec v1 v2 (v3 + 1) u) else (if (xh_comesBefore u v3 v1) = 0 then (rec v1 v2 (v3 + 1) u) else (rec v1 (v2 + 1) (v3 + 1) u))))
def xh_placeInQueue_l4 : Nat → Int32 → Int32 → Int32 → q_S → Int32
  | 0, _, _, _, _ => 0
  | n + 1, v1, v2, v3, u => xh_placeInQueue_l4_b (xh_placeInQueue_l4 n) v1 v2 v3 u
def xh_placeInQueue_l4_pb (rec : Int32 → Int32 → Int32 → q_S → Prop) (v1 : Int32) (v2 : Int32) (v3 : Int32) (u : q_S) : Prop := (((q_nh u) < v3 → True) ∧ (¬ (q_nh u) < v3 → (vp_in v1 121 ∧ (xh_isQueued_p u v3 (q_hr u (Int32.toNatClampNeg v1)) ∧ (((xh_isQueued u v3 (q_hr u (Int32.toNatClampNeg v1))) = 0 → (rec v1 v2 (v3 + 1) u)) ∧ (¬ (xh_isQueued u v3 (q_hr u (Int32.toNatClampNeg v1))) = 0 → (xh_comesBefore_p u v3 v1 ∧ (((xh_comesBefore u v3 v1) = 0 → (rec v1 v2 (v3 + 1) u)) ∧ (¬ (xh_comesBefore u v3 v1) = 0 → (rec v1 (v2 + 1) (v3 + 1) u))))))))))
def xh_placeInQueue_l4_p : Nat → Int32 → Int32 → Int32 → q_S → Prop
  | 0, _, _, _, _ => False
  | n + 1, v1, v2, v3, u => xh_placeInQueue_l4_pb (xh_placeInQueue_l4_p n) v1 v2 v3 u
def xh_placeInQueue (u : q_S) (v1 : Int32) : Int32 := (xh_placeInQueue_l4 200 v1 0 1 u)
def xh_placeInQueue_p (u : q_S) (v1 : Int32) : Prop := (xh_placeInQueue_l4_p 200 v1 0 1 u)
def xh_placeInQueue_t : List (Nat × gz_T q_S) := [(0, gz_push 1 (gz_i 0)), (1, gz_stor 2 2), (2, gz_push 3 (gz_i 1)), (3, gz_stor 4 3), (4, gz_ldi 5 3), (5, gz_lda 6 0), (6, gz_getI 9 2 q_nh), (9, gz_if2 12 44 (fun x y => y < x) (fun x y => ¬ y < x)), (12, gz_lda 13 0), (13, gz_ldi 14 3), (14, gz_lda 15 0), (15, gz_getR 18 2 11), (18, gz_ldi 19 1), (19, gz_ild 20 x_ai), (20, gz_c2P 23 2 xh_isQueued_p xh_isQueued), (23, gz_if 26 38 (fun x => x = 0) (fun x => ¬ x = 0)), (26, gz_lda 27 0), (27, gz_ldi 28 3), (28, gz_ldi 29 1), (29, gz_c2P 32 2 xh_comesBefore_p xh_comesBefore), (32, gz_if 35 38 (fun x => x = 0) (fun x => ¬ x = 0)), (35, gz_iinc 38 2 1), (38, gz_iinc 41 3 1), (41, gz_goto 4), (44, gz_ldi 45 2), (45, gz_iret)]
set_option maxRecDepth 100000 in
set_option maxHeartbeats 4000000 in
theorem xh_placeInQueue_l4_d {Kr : Option Int32 → q_S → Prop} {Z : gz_K q_S} (hZ : gz_shut xh_placeInQueue_t Kr Z) : ∀ (n : Nat) (v1 : Int32) (v2 : Int32) (v3 : Int32) (u : q_S), xh_placeInQueue_l4_p n v1 v2 v3 u → Kr (some (xh_placeInQueue_l4 n v1 v2 v3 u)) u → Z 4 [(0, gz_r 2), (1, gz_i v1), (2, gz_i v2), (3, gz_i v3)] [] u := by
  intro n
  induction n with
  | zero => intro v1 v2 v3 u hp _; exact False.elim hp
  | succ n ih =>
  intro v1 v2 v3 u hp hk
  refine hZ.1 [4] 500 4 _ _ _ ?_
  have hp : xh_placeInQueue_l4_pb (xh_placeInQueue_l4_p n) v1 v2 v3 u := hp
  refine And.intro (fun (h1 : (q_nh u) < v3) => ?_) (fun (h1 : ¬ (q_nh u) < v3) => ?_)
  · rw [show xh_placeInQueue_l4 (n + 1) v1 v2 v3 u = v2 from (by unfold xh_placeInQueue_l4_b; rw [if_pos h1] : xh_placeInQueue_l4_b (xh_placeInQueue_l4 n) v1 v2 v3 u = v2)] at hk
    exact hk
  · have hp := hp.2 h1
    have n2 := hp.1
    refine And.intro n2 ?_
    have hp := hp.2
    have n3 := hp.1
    refine And.intro n3 ?_
    have hp := hp.2
    refine And.intro (fun (h4 : (xh_isQueued u v3 (q_hr u (Int32.toNatClampNeg v1))) = 0) => ?_) (fun (h4 : ¬ (xh_isQueued u v3 (q_hr u (Int32.toNatClampNeg v1))) = 0) => ?_)
    · have hp := hp.1 h4
      rw [show xh_placeInQueue_l4 (n + 1) v1 v2 v3 u = (xh_placeInQueue_l4 n v1 v2 (v3 + 1) u) from (by unfold xh_placeInQueue_l4_b; rw [if_neg h1, if_pos h4] : xh_placeInQueue_l4_b (xh_placeInQueue_l4 n) v1 v2 v3 u = (xh_placeInQueue_l4 n v1 v2 (v3 + 1) u))] at hk
      exact ih v1 v2 (v3 + 1) u hp hk
    · have hp := hp.2 h4
      have n5 := hp.1
      refine And.intro n5 ?_
      have hp := hp.2
      refine And.intro (fun (h6 : (xh_comesBefore u v3 v1) = 0) => ?_) (fun (h6 : ¬ (xh_comesBefore u v3 v1) = 0) => ?_)
      · have hp := hp.1 h6
        rw [show xh_placeInQueue_l4 (n + 1) v1 v2 v3 u = (xh_placeInQueue_l4 n v1 v2 (v3 + 1) u) from (by unfold xh_placeInQueue_l4_b; rw [if_neg h1, if_neg h4, if_pos h6] : xh_placeInQueue_l4_b (xh_placeInQueue_l4 n) v1 v2 v3 u = (xh_placeInQueue_l4 n v1 v2 (v3 + 1) u))] at hk
        exact ih v1 v2 (v3 + 1) u hp hk
      · have hp := hp.2 h6
        rw [show xh_placeInQueue_l4 (n + 1) v1 v2 v3 u = (xh_placeInQueue_l4 n v1 (v2 + 1) (v3 + 1) u) from (by unfold xh_placeInQueue_l4_b; rw [if_neg h1, if_neg h4, if_neg h6] : xh_placeInQueue_l4_b (xh_placeInQueue_l4 n) v1 v2 v3 u = (xh_placeInQueue_l4 n v1 (v2 + 1) (v3 + 1) u))] at hk
        exact ih v1 (v2 + 1) (v3 + 1) u hp hk
set_option maxRecDepth 100000 in
set_option maxHeartbeats 4000000 in
theorem xh_placeInQueue_d {Kr : Option Int32 → q_S → Prop} (u : q_S) (v1 : Int32) (hp : xh_placeInQueue_p u v1) (hk : Kr (some (xh_placeInQueue u v1)) u) : gz_does xh_placeInQueue_t Kr [(0, gz_r 2), (1, gz_i v1)] u := by
  intro Z hZ
  refine hZ.1 [4] 500 0 _ _ _ ?_
  unfold xh_placeInQueue_p at hp
  rw [show xh_placeInQueue u v1 = (xh_placeInQueue_l4 200 v1 0 1 u) from rfl] at hk
  exact xh_placeInQueue_l4_d hZ 200 v1 0 1 u hp hk
-- HoldQueue.rank(II)I
def x_rank (u : q_S) (v1 : Int32) (v2 : Int32) : Int32 × q_S := (if (xh_isIn u v1 0) = 0 then ((-1), u) else ((xh_placeInQueue (q_hk_u u v1 v2) v1), (q_hk_u u v1 v2)))
def x_rank_r (u : q_S) (v1 : Int32) (v2 : Int32) : Int32 := (x_rank u v1 v2).1
def x_rank_s (u : q_S) (v1 : Int32) (v2 : Int32) : q_S := (x_rank u v1 v2).2
def x_rank_p (u : q_S) (v1 : Int32) (v2 : Int32) : Prop := (xh_isIn_p u v1 0 ∧ (((xh_isIn u v1 0) = 0 → True) ∧ (¬ (xh_isIn u v1 0) = 0 → (vp_in v1 121 ∧ (xh_placeInQueue_p (q_hk_u u v1 v2) v1)))))
def x_rank_t : List (Nat × gz_T q_S) := [(0, gz_lda 1 0), (1, gz_getR 4 0 2), (4, gz_ldi 5 1), (5, gz_push 6 (gz_i 0)), (6, gz_c2P 9 2 xh_isIn_p xh_isIn), (9, gz_if 12 14 (fun x => ¬ x = 0) (fun x => x = 0)), (12, gz_push 13 (gz_i (-1))), (13, gz_iret), (14, gz_lda 15 0), (15, gz_getR 18 0 2), (18, gz_getR 21 2 13), (21, gz_ldi 22 1), (22, gz_ldi 23 2), (23, gz_ist 24 x_ai), (24, gz_lda 25 0), (25, gz_getR 28 0 2), (28, gz_ldi 29 1), (29, gz_c1P 32 2 xh_placeInQueue_p xh_placeInQueue), (32, gz_iret)]
set_option maxRecDepth 100000 in
set_option maxHeartbeats 4000000 in
theorem x_rank_d {Kr : Option Int32 → q_S → Prop} (u : q_S) (v1 : Int32) (v2 : Int32) (hp : x_rank_p u v1 v2) (hk : Kr (some ((x_rank u v1 v2)).1) ((x_rank u v1 v2)).2) : gz_does x_rank_t Kr [(0, gz_r 0), (1, gz_i v1), (2, gz_i v2)] u := by
  intro Z hZ
  refine hZ.1 [] 500 0 _ _ _ ?_
  unfold x_rank_p at hp
  have n1 := hp.1
  refine And.intro n1 ?_
  have hp := hp.2
  refine And.intro (fun (h2 : ¬ (xh_isIn u v1 0) = 0) => ?_) (fun (h2 : (xh_isIn u v1 0) = 0) => ?_)
  · have hp := hp.2 h2
    have n3 := hp.1
    refine And.intro n3 ?_
    have hp := hp.2
    have n4 := hp
    refine And.intro n4 ?_
    rw [show x_rank u v1 v2 = ((xh_placeInQueue (q_hk_u u v1 v2) v1), (q_hk_u u v1 v2)) from (by unfold x_rank; rw [if_neg h2])] at hk
    exact hk
  · rw [show x_rank u v1 v2 = ((-1), u) from (by unfold x_rank; rw [if_pos h2])] at hk
    exact hk
-- HoldQueue$Holds.atPlaceInQueue(II)I
def xh_atPlaceInQueue_l2_b (rec : Int32 → Int32 → Int32 → q_S → Int32) (v1 : Int32) (v2 : Int32) (v3 : Int32) (u : q_S) : Int32 := (if (q_nh u) < v3 then 0 else (if (xh_isQueued u v3 v1) = 0 then (rec v1 v2 (v3 + 1) u) else (if (xh_placeInQueue u v3) = v2 then v3 else (rec v1 v2 (v3 + 1) u))))
def xh_atPlaceInQueue_l2 : Nat → Int32 → Int32 → Int32 → q_S → Int32
  | 0, _, _, _, _ => 0
  | n + 1, v1, v2, v3, u => xh_atPlaceInQueue_l2_b (xh_atPlaceInQueue_l2 n) v1 v2 v3 u
def xh_atPlaceInQueue_l2_pb (rec : Int32 → Int32 → Int32 → q_S → Prop) (v1 : Int32) (v2 : Int32) (v3 : Int32) (u : q_S) : Prop := (((q_nh u) < v3 → True) ∧ (¬ (q_nh u) < v3 → (xh_isQueued_p u v3 v1 ∧ (((xh_isQueued u v3 v1) = 0 → (rec v1 v2 (v3 + 1) u)) ∧ (¬ (xh_isQueued u v3 v1) = 0 → (xh_placeInQueue_p u v3 ∧ (((xh_placeInQueue u v3) = v2 → True) ∧ (¬ (xh_placeInQueue u v3) = v2 → (rec v1 v2 (v3 + 1) u)))))))))
def xh_atPlaceInQueue_l2_p : Nat → Int32 → Int32 → Int32 → q_S → Prop
  | 0, _, _, _, _ => False
  | n + 1, v1, v2, v3, u => xh_atPlaceInQueue_l2_pb (xh_atPlaceInQueue_l2_p n) v1 v2 v3 u
def xh_atPlaceInQueue (u : q_S) (v1 : Int32) (v2 : Int32) : Int32 := (xh_atPlaceInQueue_l2 200 v1 v2 1 u)
def xh_atPlaceInQueue_p (u : q_S) (v1 : Int32) (v2 : Int32) : Prop := (xh_atPlaceInQueue_l2_p 200 v1 v2 1 u)
def xh_atPlaceInQueue_t : List (Nat × gz_T q_S) := [(0, gz_push 1 (gz_i 1)), (1, gz_stor 2 3), (2, gz_ldi 3 3), (3, gz_lda 4 0), (4, gz_getI 7 2 q_nh), (7, gz_if2 10 36 (fun x y => y < x) (fun x y => ¬ y < x)), (10, gz_lda 11 0), (11, gz_ldi 12 3), (12, gz_ldi 13 1), (13, gz_c2P 16 2 xh_isQueued_p xh_isQueued), (16, gz_if 19 30 (fun x => x = 0) (fun x => ¬ x = 0)), (19, gz_lda 20 0), (20, gz_ldi 21 3), (21, gz_c1P 24 2 xh_placeInQueue_p xh_placeInQueue), (24, gz_ldi 25 2), (25, gz_if2 28 30 (fun x y => ¬ x = y) (fun x y => x = y)), (28, gz_ldi 29 3), (29, gz_iret), (30, gz_iinc 33 3 1), (33, gz_goto 2), (36, gz_push 37 (gz_i 0)), (37, gz_iret)]
set_option maxRecDepth 100000 in
set_option maxHeartbeats 4000000 in
theorem xh_atPlaceInQueue_l2_d {Kr : Option Int32 → q_S → Prop} {Z : gz_K q_S} (hZ : gz_shut xh_atPlaceInQueue_t Kr Z) : ∀ (n : Nat) (v1 : Int32) (v2 : Int32) (v3 : Int32) (u : q_S), xh_atPlaceInQueue_l2_p n v1 v2 v3 u → Kr (some (xh_atPlaceInQueue_l2 n v1 v2 v3 u)) u → Z 2 [(0, gz_r 2), (1, gz_i v1), (2, gz_i v2), (3, gz_i v3)] [] u := by
  intro n
  induction n with
  | zero => intro v1 v2 v3 u hp _; exact False.elim hp
  | succ n ih =>
  intro v1 v2 v3 u hp hk
  refine hZ.1 [2] 500 2 _ _ _ ?_
  have hp : xh_atPlaceInQueue_l2_pb (xh_atPlaceInQueue_l2_p n) v1 v2 v3 u := hp
  refine And.intro (fun (h1 : (q_nh u) < v3) => ?_) (fun (h1 : ¬ (q_nh u) < v3) => ?_)
  · rw [show xh_atPlaceInQueue_l2 (n + 1) v1 v2 v3 u = 0 from (by unfold xh_atPlaceInQueue_l2_b; rw [if_pos h1] : xh_atPlaceInQueue_l2_b (xh_atPlaceInQueue_l2 n) v1 v2 v3 u = 0)] at hk
    exact hk
  · have hp := hp.2 h1
    have n2 := hp.1
    refine And.intro n2 ?_
    have hp := hp.2
    refine And.intro (fun (h3 : (xh_isQueued u v3 v1) = 0) => ?_) (fun (h3 : ¬ (xh_isQueued u v3 v1) = 0) => ?_)
    · have hp := hp.1 h3
      rw [show xh_atPlaceInQueue_l2 (n + 1) v1 v2 v3 u = (xh_atPlaceInQueue_l2 n v1 v2 (v3 + 1) u) from (by unfold xh_atPlaceInQueue_l2_b; rw [if_neg h1, if_pos h3] : xh_atPlaceInQueue_l2_b (xh_atPlaceInQueue_l2 n) v1 v2 v3 u = (xh_atPlaceInQueue_l2 n v1 v2 (v3 + 1) u))] at hk
      exact ih v1 v2 (v3 + 1) u hp hk
    · have hp := hp.2 h3
      have n4 := hp.1
      refine And.intro n4 ?_
      have hp := hp.2
      refine And.intro (fun (h5 : ¬ (xh_placeInQueue u v3) = v2) => ?_) (fun (h5 : (xh_placeInQueue u v3) = v2) => ?_)
      · have hp := hp.2 h5
        rw [show xh_atPlaceInQueue_l2 (n + 1) v1 v2 v3 u = (xh_atPlaceInQueue_l2 n v1 v2 (v3 + 1) u) from (by unfold xh_atPlaceInQueue_l2_b; rw [if_neg h1, if_neg h3, if_neg h5] : xh_atPlaceInQueue_l2_b (xh_atPlaceInQueue_l2 n) v1 v2 v3 u = (xh_atPlaceInQueue_l2 n v1 v2 (v3 + 1) u))] at hk
        exact ih v1 v2 (v3 + 1) u hp hk
      · rw [show xh_atPlaceInQueue_l2 (n + 1) v1 v2 v3 u = v3 from (by unfold xh_atPlaceInQueue_l2_b; rw [if_neg h1, if_neg h3, if_pos h5] : xh_atPlaceInQueue_l2_b (xh_atPlaceInQueue_l2 n) v1 v2 v3 u = v3)] at hk
        exact hk
set_option maxRecDepth 100000 in
set_option maxHeartbeats 4000000 in
theorem xh_atPlaceInQueue_d {Kr : Option Int32 → q_S → Prop} (u : q_S) (v1 : Int32) (v2 : Int32) (hp : xh_atPlaceInQueue_p u v1 v2) (hk : Kr (some (xh_atPlaceInQueue u v1 v2)) u) : gz_does xh_atPlaceInQueue_t Kr [(0, gz_r 2), (1, gz_i v1), (2, gz_i v2)] u := by
  intro Z hZ
  refine hZ.1 [2] 500 0 _ _ _ ?_
  unfold xh_atPlaceInQueue_p at hp
  rw [show xh_atPlaceInQueue u v1 v2 = (xh_atPlaceInQueue_l2 200 v1 v2 1 u) from rfl] at hk
  exact xh_atPlaceInQueue_l2_d hZ 200 v1 v2 1 u hp hk
-- HoldQueue.order(II)I
def x_order (u : q_S) (v1 : Int32) (v2 : Int32) : Int32 := (if (x_isRecord u v1) = 0 then 0 else (xh_atPlaceInQueue u v1 v2))
def x_order_p (u : q_S) (v1 : Int32) (v2 : Int32) : Prop := (x_isRecord_p u v1 ∧ (((x_isRecord u v1) = 0 → True) ∧ (¬ (x_isRecord u v1) = 0 → (xh_atPlaceInQueue_p u v1 v2))))
def x_order_t : List (Nat × gz_T q_S) := [(0, gz_lda 1 0), (1, gz_ldi 2 1), (2, gz_c1P 5 0 x_isRecord_p x_isRecord), (5, gz_if 8 20 (fun x => x = 0) (fun x => ¬ x = 0)), (8, gz_lda 9 0), (9, gz_getR 12 0 2), (12, gz_ldi 13 1), (13, gz_ldi 14 2), (14, gz_c2P 17 2 xh_atPlaceInQueue_p xh_atPlaceInQueue), (17, gz_goto 21), (20, gz_push 21 (gz_i 0)), (21, gz_iret)]
set_option maxRecDepth 100000 in
set_option maxHeartbeats 4000000 in
theorem x_order_d {Kr : Option Int32 → q_S → Prop} (u : q_S) (v1 : Int32) (v2 : Int32) (hp : x_order_p u v1 v2) (hk : Kr (some (x_order u v1 v2)) u) : gz_does x_order_t Kr [(0, gz_r 0), (1, gz_i v1), (2, gz_i v2)] u := by
  intro Z hZ
  refine hZ.1 [] 500 0 _ _ _ ?_
  unfold x_order_p at hp
  have n1 := hp.1
  refine And.intro n1 ?_
  have hp := hp.2
  refine And.intro (fun (h2 : (x_isRecord u v1) = 0) => ?_) (fun (h2 : ¬ (x_isRecord u v1) = 0) => ?_)
  · rw [show x_order u v1 v2 = 0 from (by unfold x_order; rw [if_pos h2])] at hk
    exact hk
  · have hp := hp.2 h2
    have n3 := hp
    refine And.intro n3 ?_
    rw [show x_order u v1 v2 = (xh_atPlaceInQueue u v1 v2) from (by unfold x_order; rw [if_neg h2])] at hk
    exact hk
-- HoldQueue.state(II)I
def x_state (u : q_S) (v1 : Int32) (v2 : Int32) : Int32 := (if (xh_has u v1) = 0 then (-1) else (if v2 = 0 then (q_hs u (Int32.toNatClampNeg v1)) else (if v2 = 1 then (q_hy u (Int32.toNatClampNeg v1)) else (if v2 = 2 then (if (xh_isIn u v1 0) = 0 then (-1) else (xh_placeInQueue u v1)) else (-1)))))
def x_state_p (u : q_S) (v1 : Int32) (v2 : Int32) : Prop := (xh_has_p u v1 ∧ (((xh_has u v1) = 0 → True) ∧ (¬ (xh_has u v1) = 0 → ((v2 = 0 → (vp_in v1 121)) ∧ (¬ v2 = 0 → ((v2 = 1 → (vp_in v1 121)) ∧ (¬ v2 = 1 → ((v2 = 2 → (xh_isIn_p u v1 0 ∧ (((xh_isIn u v1 0) = 0 → True) ∧ (¬ (xh_isIn u v1 0) = 0 → (xh_placeInQueue_p u v1))))) ∧ (¬ v2 = 2 → True)))))))))
def x_state_t : List (Nat × gz_T q_S) := [(0, gz_lda 1 0), (1, gz_getR 4 0 2), (4, gz_ldi 5 1), (5, gz_c1P 8 2 xh_has_p xh_has), (8, gz_if 11 13 (fun x => ¬ x = 0) (fun x => x = 0)), (11, gz_push 12 (gz_i (-1))), (12, gz_iret), (13, gz_ldi 14 2), (14, gz_sw [(0, 40), (1, 50), (2, 60)] 85), (40, gz_lda 41 0), (41, gz_getR 44 0 2), (44, gz_getR 47 2 14), (47, gz_ldi 48 1), (48, gz_ild 49 x_ai), (49, gz_iret), (50, gz_lda 51 0), (51, gz_getR 54 0 2), (54, gz_getR 57 2 15), (57, gz_ldi 58 1), (58, gz_ild 59 x_ai), (59, gz_iret), (60, gz_lda 61 0), (61, gz_getR 64 0 2), (64, gz_ldi 65 1), (65, gz_push 66 (gz_i 0)), (66, gz_c2P 69 2 xh_isIn_p xh_isIn), (69, gz_if 72 83 (fun x => x = 0) (fun x => ¬ x = 0)), (72, gz_lda 73 0), (73, gz_getR 76 0 2), (76, gz_ldi 77 1), (77, gz_c1P 80 2 xh_placeInQueue_p xh_placeInQueue), (80, gz_goto 84), (83, gz_push 84 (gz_i (-1))), (84, gz_iret), (85, gz_push 86 (gz_i (-1))), (86, gz_iret)]
set_option maxRecDepth 100000 in
set_option maxHeartbeats 4000000 in
theorem x_state_d {Kr : Option Int32 → q_S → Prop} (u : q_S) (v1 : Int32) (v2 : Int32) (hp : x_state_p u v1 v2) (hk : Kr (some (x_state u v1 v2)) u) : gz_does x_state_t Kr [(0, gz_r 0), (1, gz_i v1), (2, gz_i v2)] u := by
  intro Z hZ
  refine hZ.1 [] 500 0 _ _ _ ?_
  unfold x_state_p at hp
  have n1 := hp.1
  refine And.intro n1 ?_
  have hp := hp.2
  refine And.intro (fun (h2 : ¬ (xh_has u v1) = 0) => ?_) (fun (h2 : (xh_has u v1) = 0) => ?_)
  · have hp := hp.2 h2
    refine And.intro (fun (h3 : v2 = 0) => ?_) (fun (h3 : ¬ v2 = 0) => ?_)
    · have hp := hp.1 h3
      have n4 := hp
      refine And.intro n4 ?_
      rw [show x_state u v1 v2 = (q_hs u (Int32.toNatClampNeg v1)) from (by unfold x_state; rw [if_neg h2, if_pos h3])] at hk
      exact hk
    · have hp := hp.2 h3
      refine And.intro (fun (h5 : v2 = 1) => ?_) (fun (h5 : ¬ v2 = 1) => ?_)
      · have hp := hp.1 h5
        have n6 := hp
        refine And.intro n6 ?_
        rw [show x_state u v1 v2 = (q_hy u (Int32.toNatClampNeg v1)) from (by unfold x_state; rw [if_neg h2, if_neg h3, if_pos h5])] at hk
        exact hk
      · have hp := hp.2 h5
        refine And.intro (fun (h7 : v2 = 2) => ?_) (fun (h7 : ¬ v2 = 2) => ?_)
        · have hp := hp.1 h7
          have n8 := hp.1
          refine And.intro n8 ?_
          have hp := hp.2
          refine And.intro (fun (h9 : (xh_isIn u v1 0) = 0) => ?_) (fun (h9 : ¬ (xh_isIn u v1 0) = 0) => ?_)
          · rw [show x_state u v1 v2 = (-1) from (by unfold x_state; rw [if_neg h2, if_neg h3, if_neg h5, if_pos h7, if_pos h9])] at hk
            exact hk
          · have hp := hp.2 h9
            have n10 := hp
            refine And.intro n10 ?_
            rw [show x_state u v1 v2 = (xh_placeInQueue u v1) from (by unfold x_state; rw [if_neg h2, if_neg h3, if_neg h5, if_pos h7, if_neg h9])] at hk
            exact hk
        · rw [show x_state u v1 v2 = (-1) from (by unfold x_state; rw [if_neg h2, if_neg h3, if_neg h5, if_neg h7])] at hk
          exact hk
  · rw [show x_state u v1 v2 = (-1) from (by unfold x_state; rw [if_pos h2])] at hk
    exact hk
-- HoldQueue.where(II)I
def x_where (u : q_S) (v1 : Int32) (v2 : Int32) : Int32 := (if (xc_has u v1) = 0 then (-1) else (if v2 = 0 then (q_cs u (Int32.toNatClampNeg v1)) else (if v2 = 1 then (q_cp u (Int32.toNatClampNeg v1)) else (if v2 = 2 then (q_ch u (Int32.toNatClampNeg v1)) else (-1)))))
def x_where_p (u : q_S) (v1 : Int32) (v2 : Int32) : Prop := (xc_has_p u v1 ∧ (((xc_has u v1) = 0 → True) ∧ (¬ (xc_has u v1) = 0 → ((v2 = 0 → (vp_in v1 61)) ∧ (¬ v2 = 0 → ((v2 = 1 → (vp_in v1 61)) ∧ (¬ v2 = 1 → ((v2 = 2 → (vp_in v1 61)) ∧ (¬ v2 = 2 → True)))))))))
def x_where_t : List (Nat × gz_T q_S) := [(0, gz_lda 1 0), (1, gz_getR 4 0 1), (4, gz_ldi 5 1), (5, gz_c1P 8 1 xc_has_p xc_has), (8, gz_if 11 13 (fun x => ¬ x = 0) (fun x => x = 0)), (11, gz_push 12 (gz_i (-1))), (12, gz_iret), (13, gz_ldi 14 2), (14, gz_sw [(0, 40), (1, 50), (2, 60)] 70), (40, gz_lda 41 0), (41, gz_getR 44 0 1), (44, gz_getR 47 1 8), (47, gz_ldi 48 1), (48, gz_ild 49 x_ai), (49, gz_iret), (50, gz_lda 51 0), (51, gz_getR 54 0 1), (54, gz_getR 57 1 7), (57, gz_ldi 58 1), (58, gz_ild 59 x_ai), (59, gz_iret), (60, gz_lda 61 0), (61, gz_getR 64 0 1), (64, gz_getR 67 1 9), (67, gz_ldi 68 1), (68, gz_ild 69 x_ai), (69, gz_iret), (70, gz_push 71 (gz_i (-1))), (71, gz_iret)]
set_option maxRecDepth 100000 in
set_option maxHeartbeats 4000000 in
theorem x_where_d {Kr : Option Int32 → q_S → Prop} (u : q_S) (v1 : Int32) (v2 : Int32) (hp : x_where_p u v1 v2) (hk : Kr (some (x_where u v1 v2)) u) : gz_does x_where_t Kr [(0, gz_r 0), (1, gz_i v1), (2, gz_i v2)] u := by
  intro Z hZ
  refine hZ.1 [] 500 0 _ _ _ ?_
  unfold x_where_p at hp
  have n1 := hp.1
  refine And.intro n1 ?_
  have hp := hp.2
  refine And.intro (fun (h2 : ¬ (xc_has u v1) = 0) => ?_) (fun (h2 : (xc_has u v1) = 0) => ?_)
  · have hp := hp.2 h2
    refine And.intro (fun (h3 : v2 = 0) => ?_) (fun (h3 : ¬ v2 = 0) => ?_)
    · have hp := hp.1 h3
      have n4 := hp
      refine And.intro n4 ?_
      rw [show x_where u v1 v2 = (q_cs u (Int32.toNatClampNeg v1)) from (by unfold x_where; rw [if_neg h2, if_pos h3])] at hk
      exact hk
    · have hp := hp.2 h3
      refine And.intro (fun (h5 : v2 = 1) => ?_) (fun (h5 : ¬ v2 = 1) => ?_)
      · have hp := hp.1 h5
        have n6 := hp
        refine And.intro n6 ?_
        rw [show x_where u v1 v2 = (q_cp u (Int32.toNatClampNeg v1)) from (by unfold x_where; rw [if_neg h2, if_neg h3, if_pos h5])] at hk
        exact hk
      · have hp := hp.2 h5
        refine And.intro (fun (h7 : v2 = 2) => ?_) (fun (h7 : ¬ v2 = 2) => ?_)
        · have hp := hp.1 h7
          have n8 := hp
          refine And.intro n8 ?_
          rw [show x_where u v1 v2 = (q_ch u (Int32.toNatClampNeg v1)) from (by unfold x_where; rw [if_neg h2, if_neg h3, if_neg h5, if_pos h7])] at hk
          exact hk
        · rw [show x_where u v1 v2 = (-1) from (by unfold x_where; rw [if_neg h2, if_neg h3, if_neg h5, if_neg h7])] at hk
          exact hk
  · rw [show x_where u v1 v2 = (-1) from (by unfold x_where; rw [if_pos h2])] at hk
    exact hk
end
section
-- HoldQueueModel.in(III)Z
def m_in  (v0 : Int32) (v1 : Int32) (v2 : Int32) : Int32 := (if v0 < v1 then 0 else (if v2 < v0 then 0 else 1))
def m_in_t : List (Nat × gz_T q_S) := [(0, gz_ldi 1 0), (1, gz_ldi 2 1), (2, gz_if2 5 14 (fun x y => x < y) (fun x y => ¬ x < y)), (5, gz_ldi 6 0), (6, gz_ldi 7 2), (7, gz_if2 10 14 (fun x y => y < x) (fun x y => ¬ y < x)), (10, gz_push 11 (gz_i 1)), (11, gz_goto 15), (14, gz_push 15 (gz_i 0)), (15, gz_zret)]
set_option maxRecDepth 100000 in
set_option maxHeartbeats 4000000 in
theorem m_in_d {Kr : Option Int32 → q_S → Prop} (u : q_S) (v0 : Int32) (v1 : Int32) (v2 : Int32) (hk : Kr (some (m_in v0 v1 v2)) u) : gz_does m_in_t Kr [(0, gz_i v0), (1, gz_i v1), (2, gz_i v2)] u := by
  intro Z hZ
  refine hZ.1 [] 500 0 _ _ _ ?_
  refine And.intro (fun (h1 : v0 < v1) => ?_) (fun (h1 : ¬ v0 < v1) => ?_)
  · refine And.intro (by decide +kernel) ?_
    rw [show m_in v0 v1 v2 = 0 from (by unfold m_in; rw [if_pos h1])] at hk
    exact hk
  · refine And.intro (fun (h2 : v2 < v0) => ?_) (fun (h2 : ¬ v2 < v0) => ?_)
    · refine And.intro (by decide +kernel) ?_
      rw [show m_in v0 v1 v2 = 0 from (by unfold m_in; rw [if_neg h1, if_pos h2])] at hk
      exact hk
    · refine And.intro (by decide +kernel) ?_
      rw [show m_in v0 v1 v2 = 1 from (by unfold m_in; rw [if_neg h1, if_neg h2])] at hk
      exact hk
-- HoldQueueModel.record(I)I
def m_record (u : q_S) (v1 : Int32) : Int32 × q_S := (if (m_in v1 0 3) = 0 then (0, (q_th_s u 0)) else (if (q_nr u) = 30 then (0, (q_th_s u 0)) else (((q_nr u) + 1), (q_kd_u (q_nr_s (q_th_s u 0) ((q_nr u) + 1)) ((q_nr u) + 1) v1))))
def m_record_r (u : q_S) (v1 : Int32) : Int32 := (m_record u v1).1
def m_record_s (u : q_S) (v1 : Int32) : q_S := (m_record u v1).2
def m_record_p (u : q_S) (v1 : Int32) : Prop := (((m_in v1 0 3) = 0 → True) ∧ (¬ (m_in v1 0 3) = 0 → (((q_nr u) = 30 → True) ∧ (¬ (q_nr u) = 30 → (vp_in ((q_nr u) + 1) 31)))))
def m_record_t : List (Nat × gz_T q_S) := [(0, gz_lda 1 0), (1, gz_push 2 (gz_i 0)), (2, gz_putI 5 0 q_th_s), (5, gz_ldi 6 1), (6, gz_push 7 (gz_i 0)), (7, gz_push 8 (gz_i 3)), (8, gz_s3P 11 m_in), (11, gz_if 14 23 (fun x => x = 0) (fun x => ¬ x = 0)), (14, gz_lda 15 0), (15, gz_getI 18 0 q_nr), (18, gz_push 20 (gz_i 30)), (20, gz_if2 23 25 (fun x y => ¬ x = y) (fun x y => x = y)), (23, gz_push 24 (gz_i 0)), (24, gz_iret), (25, gz_lda 26 0), (26, gz_dup 27), (27, gz_getI 30 0 q_nr), (30, gz_push 31 (gz_i 1)), (31, gz_iop 32 (fun x y => x + y)), (32, gz_putI 35 0 q_nr_s), (35, gz_lda 36 0), (36, gz_getR 39 0 1), (39, gz_lda 40 0), (40, gz_getI 43 0 q_nr), (43, gz_ldi 44 1), (44, gz_ist 45 m_ai), (45, gz_lda 46 0), (46, gz_getI 49 0 q_nr), (49, gz_iret)]
set_option maxRecDepth 100000 in
set_option maxHeartbeats 4000000 in
theorem m_record_d {Kr : Option Int32 → q_S → Prop} (u : q_S) (v1 : Int32) (hp : m_record_p u v1) (hk : Kr (some ((m_record u v1)).1) ((m_record u v1)).2) : gz_does m_record_t Kr [(0, gz_r 0), (1, gz_i v1)] u := by
  intro Z hZ
  refine hZ.1 [] 500 0 _ _ _ ?_
  unfold m_record_p at hp
  refine And.intro (fun (h1 : (m_in v1 0 3) = 0) => ?_) (fun (h1 : ¬ (m_in v1 0 3) = 0) => ?_)
  · rw [show m_record u v1 = (0, (q_th_s u 0)) from (by unfold m_record; rw [if_pos h1])] at hk
    exact hk
  · have hp := hp.2 h1
    refine And.intro (fun (h2 : ¬ (q_nr u) = 30) => ?_) (fun (h2 : (q_nr u) = 30) => ?_)
    · have hp := hp.2 h2
      have n3 := hp
      refine And.intro n3 ?_
      rw [show m_record u v1 = (((q_nr u) + 1), (q_kd_u (q_nr_s (q_th_s u 0) ((q_nr u) + 1)) ((q_nr u) + 1) v1)) from (by unfold m_record; rw [if_neg h1, if_neg h2])] at hk
      exact hk
    · rw [show m_record u v1 = (0, (q_th_s u 0)) from (by unfold m_record; rw [if_neg h1, if_pos h2])] at hk
      exact hk
-- HoldQueueModel.copy(II)I
def m_copy (u : q_S) (v1 : Int32) (v2 : Int32) : Int32 × q_S := (if (m_in v1 1 (q_nr u)) = 0 then (0, (q_th_s u 0)) else (if (m_in v2 0 5) = 0 then (0, (q_th_s u 0)) else (if (q_nc u) = 60 then (0, (q_th_s u 0)) else (((q_nc u) + 1), (q_ch_u (q_cp_u (q_cs_u (q_cr_u (q_nc_s (q_th_s u 0) ((q_nc u) + 1)) ((q_nc u) + 1) v1) ((q_nc u) + 1) 1) ((q_nc u) + 1) v2) ((q_nc u) + 1) 0)))))
def m_copy_r (u : q_S) (v1 : Int32) (v2 : Int32) : Int32 := (m_copy u v1 v2).1
def m_copy_s (u : q_S) (v1 : Int32) (v2 : Int32) : q_S := (m_copy u v1 v2).2
def m_copy_p (u : q_S) (v1 : Int32) (v2 : Int32) : Prop := (((m_in v1 1 (q_nr u)) = 0 → True) ∧ (¬ (m_in v1 1 (q_nr u)) = 0 → (((m_in v2 0 5) = 0 → True) ∧ (¬ (m_in v2 0 5) = 0 → (((q_nc u) = 60 → True) ∧ (¬ (q_nc u) = 60 → (vp_in ((q_nc u) + 1) 61)))))))
def m_copy_t : List (Nat × gz_T q_S) := [(0, gz_lda 1 0), (1, gz_push 2 (gz_i 0)), (2, gz_putI 5 0 q_th_s), (5, gz_ldi 6 1), (6, gz_push 7 (gz_i 1)), (7, gz_lda 8 0), (8, gz_getI 11 0 q_nr), (11, gz_s3P 14 m_in), (14, gz_if 17 35 (fun x => x = 0) (fun x => ¬ x = 0)), (17, gz_ldi 18 2), (18, gz_push 19 (gz_i 0)), (19, gz_push 20 (gz_i 5)), (20, gz_s3P 23 m_in), (23, gz_if 26 35 (fun x => x = 0) (fun x => ¬ x = 0)), (26, gz_lda 27 0), (27, gz_getI 30 0 q_nc), (30, gz_push 32 (gz_i 60)), (32, gz_if2 35 37 (fun x y => ¬ x = y) (fun x y => x = y)), (35, gz_push 36 (gz_i 0)), (36, gz_iret), (37, gz_lda 38 0), (38, gz_dup 39), (39, gz_getI 42 0 q_nc), (42, gz_push 43 (gz_i 1)), (43, gz_iop 44 (fun x y => x + y)), (44, gz_putI 47 0 q_nc_s), (47, gz_lda 48 0), (48, gz_getR 51 0 4), (51, gz_lda 52 0), (52, gz_getI 55 0 q_nc), (55, gz_ldi 56 1), (56, gz_ist 57 m_ai), (57, gz_lda 58 0), (58, gz_getR 61 0 5), (61, gz_lda 62 0), (62, gz_getI 65 0 q_nc), (65, gz_push 66 (gz_i 1)), (66, gz_ist 67 m_ai), (67, gz_lda 68 0), (68, gz_getR 71 0 6), (71, gz_lda 72 0), (72, gz_getI 75 0 q_nc), (75, gz_ldi 76 2), (76, gz_ist 77 m_ai), (77, gz_lda 78 0), (78, gz_getR 81 0 7), (81, gz_lda 82 0), (82, gz_getI 85 0 q_nc), (85, gz_push 86 (gz_i 0)), (86, gz_ist 87 m_ai), (87, gz_lda 88 0), (88, gz_getI 91 0 q_nc), (91, gz_iret)]
set_option maxRecDepth 100000 in
set_option maxHeartbeats 4000000 in
theorem m_copy_d {Kr : Option Int32 → q_S → Prop} (u : q_S) (v1 : Int32) (v2 : Int32) (hp : m_copy_p u v1 v2) (hk : Kr (some ((m_copy u v1 v2)).1) ((m_copy u v1 v2)).2) : gz_does m_copy_t Kr [(0, gz_r 0), (1, gz_i v1), (2, gz_i v2)] u := by
  intro Z hZ
  refine hZ.1 [] 500 0 _ _ _ ?_
  unfold m_copy_p at hp
  refine And.intro (fun (h1 : (m_in v1 1 (q_nr u)) = 0) => ?_) (fun (h1 : ¬ (m_in v1 1 (q_nr u)) = 0) => ?_)
  · rw [show m_copy u v1 v2 = (0, (q_th_s u 0)) from (by unfold m_copy; rw [if_pos h1])] at hk
    exact hk
  · have hp := hp.2 h1
    refine And.intro (fun (h2 : (m_in v2 0 5) = 0) => ?_) (fun (h2 : ¬ (m_in v2 0 5) = 0) => ?_)
    · rw [show m_copy u v1 v2 = (0, (q_th_s u 0)) from (by unfold m_copy; rw [if_neg h1, if_pos h2])] at hk
      exact hk
    · have hp := hp.2 h2
      refine And.intro (fun (h3 : ¬ (q_nc u) = 60) => ?_) (fun (h3 : (q_nc u) = 60) => ?_)
      · have hp := hp.2 h3
        have n4 := hp
        refine And.intro n4 ?_
        refine And.intro n4 ?_
        refine And.intro n4 ?_
        refine And.intro n4 ?_
        rw [show m_copy u v1 v2 = (((q_nc u) + 1), (q_ch_u (q_cp_u (q_cs_u (q_cr_u (q_nc_s (q_th_s u 0) ((q_nc u) + 1)) ((q_nc u) + 1) v1) ((q_nc u) + 1) 1) ((q_nc u) + 1) v2) ((q_nc u) + 1) 0)) from (by unfold m_copy; rw [if_neg h1, if_neg h2, if_neg h3])] at hk
        exact hk
      · rw [show m_copy u v1 v2 = (0, (q_th_s u 0)) from (by unfold m_copy; rw [if_neg h1, if_neg h2, if_pos h3])] at hk
        exact hk
-- HoldQueueModel.bar(IZ)Z
def m_bar (u : q_S) (v1 : Int32) (v2 : Int32) : Int32 × q_S := (if (m_in v1 0 3) = 0 then (0, (q_th_s u 0)) else ((q_bd u (Int32.toNatClampNeg v1)), (q_bd_u (q_th_s u 0) v1 (vp_nar .boolean v2))))
def m_bar_r (u : q_S) (v1 : Int32) (v2 : Int32) : Int32 := (m_bar u v1 v2).1
def m_bar_s (u : q_S) (v1 : Int32) (v2 : Int32) : q_S := (m_bar u v1 v2).2
def m_bar_p (u : q_S) (v1 : Int32) (v2 : Int32) : Prop := (((m_in v1 0 3) = 0 → True) ∧ (¬ (m_in v1 0 3) = 0 → (vp_in v1 4 ∧ (narrow .boolean (.int (q_bd u (Int32.toNatClampNeg v1))) = .int (q_bd u (Int32.toNatClampNeg v1))))))
def m_bar_t : List (Nat × gz_T q_S) := [(0, gz_lda 1 0), (1, gz_push 2 (gz_i 0)), (2, gz_putI 5 0 q_th_s), (5, gz_ldi 6 1), (6, gz_push 7 (gz_i 0)), (7, gz_push 8 (gz_i 3)), (8, gz_s3P 11 m_in), (11, gz_if 14 16 (fun x => ¬ x = 0) (fun x => x = 0)), (14, gz_push 15 (gz_i 0)), (15, gz_zret), (16, gz_lda 17 0), (17, gz_getR 20 0 2), (20, gz_ldi 21 1), (21, gz_ild 22 m_az), (22, gz_stor 23 3), (23, gz_lda 24 0), (24, gz_getR 27 0 2), (27, gz_ldi 28 1), (28, gz_ldi 29 2), (29, gz_zst 30 m_az), (30, gz_ldi 31 3), (31, gz_zret)]
set_option maxRecDepth 100000 in
set_option maxHeartbeats 4000000 in
theorem m_bar_d {Kr : Option Int32 → q_S → Prop} (u : q_S) (v1 : Int32) (v2 : Int32) (hp : m_bar_p u v1 v2) (hk : Kr (some ((m_bar u v1 v2)).1) ((m_bar u v1 v2)).2) : gz_does m_bar_t Kr [(0, gz_r 0), (1, gz_i v1), (2, gz_i v2)] u := by
  intro Z hZ
  refine hZ.1 [] 500 0 _ _ _ ?_
  unfold m_bar_p at hp
  refine And.intro (fun (h1 : ¬ (m_in v1 0 3) = 0) => ?_) (fun (h1 : (m_in v1 0 3) = 0) => ?_)
  · have hp := hp.2 h1
    have n2 := hp.1
    refine And.intro n2 ?_
    have hp := hp.2
    refine And.intro n2 ?_
    have n3 := hp
    refine And.intro n3 ?_
    rw [show m_bar u v1 v2 = ((q_bd u (Int32.toNatClampNeg v1)), (q_bd_u (q_th_s u 0) v1 (vp_nar .boolean v2))) from (by unfold m_bar; rw [if_neg h1])] at hk
    exact hk
  · refine And.intro (by decide +kernel) ?_
    rw [show m_bar u v1 v2 = (0, (q_th_s u 0)) from (by unfold m_bar; rw [if_pos h1])] at hk
    exact hk
-- HoldQueueModel.isOpen(I)Z
def m_isOpen (u : q_S) (v1 : Int32) : Int32 := (if 2 < (q_hs u (Int32.toNatClampNeg v1)) then 0 else 1)
def m_isOpen_p (u : q_S) (v1 : Int32) : Prop := (vp_in v1 121)
def m_isOpen_t : List (Nat × gz_T q_S) := [(0, gz_lda 1 0), (1, gz_getR 4 0 12), (4, gz_ldi 5 1), (5, gz_ild 6 m_ai), (6, gz_push 7 (gz_i 2)), (7, gz_if2 10 14 (fun x y => y < x) (fun x y => ¬ y < x)), (10, gz_push 11 (gz_i 1)), (11, gz_goto 15), (14, gz_push 15 (gz_i 0)), (15, gz_zret)]
set_option maxRecDepth 100000 in
set_option maxHeartbeats 4000000 in
theorem m_isOpen_d {Kr : Option Int32 → q_S → Prop} (u : q_S) (v1 : Int32) (hp : m_isOpen_p u v1) (hk : Kr (some (m_isOpen u v1)) u) : gz_does m_isOpen_t Kr [(0, gz_r 0), (1, gz_i v1)] u := by
  intro Z hZ
  refine hZ.1 [] 500 0 _ _ _ ?_
  unfold m_isOpen_p at hp
  have n1 := hp
  refine And.intro n1 ?_
  refine And.intro (fun (h2 : 2 < (q_hs u (Int32.toNatClampNeg v1))) => ?_) (fun (h2 : ¬ 2 < (q_hs u (Int32.toNatClampNeg v1))) => ?_)
  · refine And.intro (by decide +kernel) ?_
    rw [show m_isOpen u v1 = 0 from (by unfold m_isOpen; rw [if_pos h2])] at hk
    exact hk
  · refine And.intro (by decide +kernel) ?_
    rw [show m_isOpen u v1 = 1 from (by unfold m_isOpen; rw [if_neg h2])] at hk
    exact hk
-- HoldQueueModel.isAhead(II)Z
def m_isAhead (u : q_S) (v1 : Int32) (v2 : Int32) : Int32 := (if (q_hk u (Int32.toNatClampNeg v1)) < (q_hk u (Int32.toNatClampNeg v2)) then 1 else (if (q_hk u (Int32.toNatClampNeg v1)) = (q_hk u (Int32.toNatClampNeg v2)) then (if v2 ≤ v1 then 0 else 1) else 0))
def m_isAhead_p (u : q_S) (v1 : Int32) (v2 : Int32) : Prop := (vp_in v1 121 ∧ (vp_in v2 121))
def m_isAhead_t : List (Nat × gz_T q_S) := [(0, gz_lda 1 0), (1, gz_getR 4 0 11), (4, gz_ldi 5 1), (5, gz_ild 6 m_ai), (6, gz_lda 7 0), (7, gz_getR 10 0 11), (10, gz_ldi 11 2), (11, gz_ild 12 m_ai), (12, gz_if2 15 35 (fun x y => x < y) (fun x y => ¬ x < y)), (15, gz_lda 16 0), (16, gz_getR 19 0 11), (19, gz_ldi 20 1), (20, gz_ild 21 m_ai), (21, gz_lda 22 0), (22, gz_getR 25 0 11), (25, gz_ldi 26 2), (26, gz_ild 27 m_ai), (27, gz_if2 30 39 (fun x y => ¬ x = y) (fun x y => x = y)), (30, gz_ldi 31 1), (31, gz_ldi 32 2), (32, gz_if2 35 39 (fun x y => y ≤ x) (fun x y => ¬ y ≤ x)), (35, gz_push 36 (gz_i 1)), (36, gz_goto 40), (39, gz_push 40 (gz_i 0)), (40, gz_zret)]
set_option maxRecDepth 100000 in
set_option maxHeartbeats 4000000 in
theorem m_isAhead_d {Kr : Option Int32 → q_S → Prop} (u : q_S) (v1 : Int32) (v2 : Int32) (hp : m_isAhead_p u v1 v2) (hk : Kr (some (m_isAhead u v1 v2)) u) : gz_does m_isAhead_t Kr [(0, gz_r 0), (1, gz_i v1), (2, gz_i v2)] u := by
  intro Z hZ
  refine hZ.1 [] 500 0 _ _ _ ?_
  unfold m_isAhead_p at hp
  have n1 := hp.1
  refine And.intro n1 ?_
  have hp := hp.2
  have n2 := hp
  refine And.intro n2 ?_
  refine And.intro (fun (h3 : (q_hk u (Int32.toNatClampNeg v1)) < (q_hk u (Int32.toNatClampNeg v2))) => ?_) (fun (h3 : ¬ (q_hk u (Int32.toNatClampNeg v1)) < (q_hk u (Int32.toNatClampNeg v2))) => ?_)
  · refine And.intro (by decide +kernel) ?_
    rw [show m_isAhead u v1 v2 = 1 from (by unfold m_isAhead; rw [if_pos h3])] at hk
    exact hk
  · refine And.intro n1 ?_
    refine And.intro n2 ?_
    refine And.intro (fun (h4 : ¬ (q_hk u (Int32.toNatClampNeg v1)) = (q_hk u (Int32.toNatClampNeg v2))) => ?_) (fun (h4 : (q_hk u (Int32.toNatClampNeg v1)) = (q_hk u (Int32.toNatClampNeg v2))) => ?_)
    · refine And.intro (by decide +kernel) ?_
      rw [show m_isAhead u v1 v2 = 0 from (by unfold m_isAhead; rw [if_neg h3, if_neg h4])] at hk
      exact hk
    · refine And.intro (fun (h5 : v2 ≤ v1) => ?_) (fun (h5 : ¬ v2 ≤ v1) => ?_)
      · refine And.intro (by decide +kernel) ?_
        rw [show m_isAhead u v1 v2 = 0 from (by unfold m_isAhead; rw [if_neg h3, if_pos h4, if_pos h5])] at hk
        exact hk
      · refine And.intro (by decide +kernel) ?_
        rw [show m_isAhead u v1 v2 = 1 from (by unfold m_isAhead; rw [if_neg h3, if_pos h4, if_neg h5])] at hk
        exact hk
-- HoldQueueModel.placeOf(I)I
def m_placeOf_l4_b (rec : Int32 → Int32 → Int32 → q_S → Int32) (v1 : Int32) (v2 : Int32) (v3 : Int32) (u : q_S) : Int32 := (if (q_nh u) < v3 then v2 else (if (q_hs u (Int32.toNatClampNeg v3)) = 0 then (if (q_hr u (Int32.toNatClampNeg v3)) = (q_hr u (Int32.toNatClampNeg v1)) then (if (m_isAhead u v3 v1) = 0 then (rec v1 (v2 + 0) (v3 + 1) u) else (rec v1 (v2 + 1) (v3 + 1) u)) else (rec v1 (v2 + 0) (v3 + 1) u)) else (rec v1 (v2 + 0) (v3 + 1) u)))
def m_placeOf_l4 : Nat → Int32 → Int32 → Int32 → q_S → Int32
  | 0, _, _, _, _ => 0
  | n + 1, v1, v2, v3, u => m_placeOf_l4_b (m_placeOf_l4 n) v1 v2 v3 u
def m_placeOf_l4_pb (rec : Int32 → Int32 → Int32 → q_S → Prop) (v1 : Int32) (v2 : Int32) (v3 : Int32) (u : q_S) : Prop := (((q_nh u) < v3 → True) ∧ (¬ (q_nh u) < v3 → (vp_in v3 121 ∧ (((q_hs u (Int32.toNatClampNeg v3)) = 0 → (vp_in v1 121 ∧ (((q_hr u (Int32.toNatClampNeg v3)) = (q_hr u (Int32.toNatClampNeg v1)) → (m_isAhead_p u v3 v1 ∧ (((m_isAhead u v3 v1) = 0 → (rec v1 (v2 + 0) (v3 + 1) u)) ∧ (¬ (m_isAhead u v3 v1) = 0 → (rec v1 (v2 + 1) (v3 + 1) u))))) ∧ (¬ (q_hr u (Int32.toNatClampNeg v3)) = (q_hr u (Int32.toNatClampNeg v1)) → (rec v1 (v2 + 0) (v3 + 1) u))))) ∧ (¬ (q_hs u (Int32.toNatClampNeg v3)) = 0 → (rec v1 (v2 + 0) (v3 + 1) u))))))
def m_placeOf_l4_p : Nat → Int32 → Int32 → Int32 → q_S → Prop
  | 0, _, _, _, _ => False
  | n + 1, v1, v2, v3, u => m_placeOf_l4_pb (m_placeOf_l4_p n) v1 v2 v3 u
def m_placeOf (u : q_S) (v1 : Int32) : Int32 := (m_placeOf_l4 200 v1 0 1 u)
def m_placeOf_p (u : q_S) (v1 : Int32) : Prop := (m_placeOf_l4_p 200 v1 0 1 u)
def m_placeOf_t : List (Nat × gz_T q_S) := [(0, gz_push 1 (gz_i 0)), (1, gz_stor 2 2), (2, gz_push 3 (gz_i 1)), (3, gz_stor 4 3), (4, gz_ldi 5 3), (5, gz_lda 6 0), (6, gz_getI 9 0 q_nh), (9, gz_if2 12 59 (fun x y => y < x) (fun x y => ¬ y < x)), (12, gz_ldi 13 2), (13, gz_lda 14 0), (14, gz_getR 17 0 12), (17, gz_ldi 18 3), (18, gz_ild 19 m_ai), (19, gz_if 22 50 (fun x => ¬ x = 0) (fun x => x = 0)), (22, gz_lda 23 0), (23, gz_getR 26 0 9), (26, gz_ldi 27 3), (27, gz_ild 28 m_ai), (28, gz_lda 29 0), (29, gz_getR 32 0 9), (32, gz_ldi 33 1), (33, gz_ild 34 m_ai), (34, gz_if2 37 50 (fun x y => ¬ x = y) (fun x y => x = y)), (37, gz_lda 38 0), (38, gz_ldi 39 3), (39, gz_ldi 40 1), (40, gz_c2P 43 0 m_isAhead_p m_isAhead), (43, gz_if 46 50 (fun x => x = 0) (fun x => ¬ x = 0)), (46, gz_push 47 (gz_i 1)), (47, gz_goto 51), (50, gz_push 51 (gz_i 0)), (51, gz_iop 52 (fun x y => x + y)), (52, gz_stor 53 2), (53, gz_iinc 56 3 1), (56, gz_goto 4), (59, gz_ldi 60 2), (60, gz_iret)]
set_option maxRecDepth 100000 in
set_option maxHeartbeats 4000000 in
theorem m_placeOf_l4_d {Kr : Option Int32 → q_S → Prop} {Z : gz_K q_S} (hZ : gz_shut m_placeOf_t Kr Z) : ∀ (n : Nat) (v1 : Int32) (v2 : Int32) (v3 : Int32) (u : q_S), m_placeOf_l4_p n v1 v2 v3 u → Kr (some (m_placeOf_l4 n v1 v2 v3 u)) u → Z 4 [(0, gz_r 0), (1, gz_i v1), (2, gz_i v2), (3, gz_i v3)] [] u := by
  intro n
  induction n with
  | zero => intro v1 v2 v3 u hp _; exact False.elim hp
  | succ n ih =>
  intro v1 v2 v3 u hp hk
  refine hZ.1 [4] 500 4 _ _ _ ?_
  have hp : m_placeOf_l4_pb (m_placeOf_l4_p n) v1 v2 v3 u := hp
  refine And.intro (fun (h1 : (q_nh u) < v3) => ?_) (fun (h1 : ¬ (q_nh u) < v3) => ?_)
  · rw [show m_placeOf_l4 (n + 1) v1 v2 v3 u = v2 from (by unfold m_placeOf_l4_b; rw [if_pos h1] : m_placeOf_l4_b (m_placeOf_l4 n) v1 v2 v3 u = v2)] at hk
    exact hk
  · have hp := hp.2 h1
    have n2 := hp.1
    refine And.intro n2 ?_
    have hp := hp.2
    refine And.intro (fun (h3 : ¬ (q_hs u (Int32.toNatClampNeg v3)) = 0) => ?_) (fun (h3 : (q_hs u (Int32.toNatClampNeg v3)) = 0) => ?_)
    · have hp := hp.2 h3
      rw [show m_placeOf_l4 (n + 1) v1 v2 v3 u = (m_placeOf_l4 n v1 (v2 + 0) (v3 + 1) u) from (by unfold m_placeOf_l4_b; rw [if_neg h1, if_neg h3] : m_placeOf_l4_b (m_placeOf_l4 n) v1 v2 v3 u = (m_placeOf_l4 n v1 (v2 + 0) (v3 + 1) u))] at hk
      exact ih v1 (v2 + 0) (v3 + 1) u hp hk
    · have hp := hp.1 h3
      refine And.intro n2 ?_
      have n4 := hp.1
      refine And.intro n4 ?_
      have hp := hp.2
      refine And.intro (fun (h5 : ¬ (q_hr u (Int32.toNatClampNeg v3)) = (q_hr u (Int32.toNatClampNeg v1))) => ?_) (fun (h5 : (q_hr u (Int32.toNatClampNeg v3)) = (q_hr u (Int32.toNatClampNeg v1))) => ?_)
      · have hp := hp.2 h5
        rw [show m_placeOf_l4 (n + 1) v1 v2 v3 u = (m_placeOf_l4 n v1 (v2 + 0) (v3 + 1) u) from (by unfold m_placeOf_l4_b; rw [if_neg h1, if_pos h3, if_neg h5] : m_placeOf_l4_b (m_placeOf_l4 n) v1 v2 v3 u = (m_placeOf_l4 n v1 (v2 + 0) (v3 + 1) u))] at hk
        exact ih v1 (v2 + 0) (v3 + 1) u hp hk
      · have hp := hp.1 h5
        have n6 := hp.1
        refine And.intro n6 ?_
        have hp := hp.2
        refine And.intro (fun (h7 : (m_isAhead u v3 v1) = 0) => ?_) (fun (h7 : ¬ (m_isAhead u v3 v1) = 0) => ?_)
        · have hp := hp.1 h7
          rw [show m_placeOf_l4 (n + 1) v1 v2 v3 u = (m_placeOf_l4 n v1 (v2 + 0) (v3 + 1) u) from (by unfold m_placeOf_l4_b; rw [if_neg h1, if_pos h3, if_pos h5, if_pos h7] : m_placeOf_l4_b (m_placeOf_l4 n) v1 v2 v3 u = (m_placeOf_l4 n v1 (v2 + 0) (v3 + 1) u))] at hk
          exact ih v1 (v2 + 0) (v3 + 1) u hp hk
        · have hp := hp.2 h7
          rw [show m_placeOf_l4 (n + 1) v1 v2 v3 u = (m_placeOf_l4 n v1 (v2 + 1) (v3 + 1) u) from (by unfold m_placeOf_l4_b; rw [if_neg h1, if_pos h3, if_pos h5, if_neg h7] : m_placeOf_l4_b (m_placeOf_l4 n) v1 v2 v3 u = (m_placeOf_l4 n v1 (v2 + 1) (v3 + 1) u))] at hk
          exact ih v1 (v2 + 1) (v3 + 1) u hp hk
set_option maxRecDepth 100000 in
set_option maxHeartbeats 4000000 in
theorem m_placeOf_d {Kr : Option Int32 → q_S → Prop} (u : q_S) (v1 : Int32) (hp : m_placeOf_p u v1) (hk : Kr (some (m_placeOf u v1)) u) : gz_does m_placeOf_t Kr [(0, gz_r 0), (1, gz_i v1)] u := by
  intro Z hZ
  refine hZ.1 [4] 500 0 _ _ _ ?_
  unfold m_placeOf_p at hp
  rw [show m_placeOf u v1 = (m_placeOf_l4 200 v1 0 1 u) from rfl] at hk
  exact m_placeOf_l4_d hZ 200 v1 0 1 u hp hk
-- HoldQueueModel.fits(I)I
def m_fits_l4_b (rec : Int32 → Int32 → Int32 → q_S → Int32) (v1 : Int32) (v2 : Int32) (v3 : Int32) (u : q_S) : Int32 := (if (q_nh u) < v3 then v2 else (if (q_hs u (Int32.toNatClampNeg v3)) = 0 then (if (q_hr u (Int32.toNatClampNeg v3)) = v1 then (if 0 < (lg_cmp (q_hu u (Int32.toNatClampNeg v3)) (q_td u)) then (rec v1 v2 (v3 + 1) u) else (if v2 = 0 then (rec v1 v3 (v3 + 1) u) else (if (m_isAhead u v3 v2) = 0 then (rec v1 v2 (v3 + 1) u) else (rec v1 v3 (v3 + 1) u)))) else (rec v1 v2 (v3 + 1) u)) else (rec v1 v2 (v3 + 1) u)))
def m_fits_l4 : Nat → Int32 → Int32 → Int32 → q_S → Int32
  | 0, _, _, _, _ => 0
  | n + 1, v1, v2, v3, u => m_fits_l4_b (m_fits_l4 n) v1 v2 v3 u
def m_fits_l4_pb (rec : Int32 → Int32 → Int32 → q_S → Prop) (v1 : Int32) (v2 : Int32) (v3 : Int32) (u : q_S) : Prop := (((q_nh u) < v3 → True) ∧ (¬ (q_nh u) < v3 → (vp_in v3 121 ∧ (((q_hs u (Int32.toNatClampNeg v3)) = 0 → (((q_hr u (Int32.toNatClampNeg v3)) = v1 → ((0 < (lg_cmp (q_hu u (Int32.toNatClampNeg v3)) (q_td u)) → (rec v1 v2 (v3 + 1) u)) ∧ (¬ 0 < (lg_cmp (q_hu u (Int32.toNatClampNeg v3)) (q_td u)) → ((v2 = 0 → (rec v1 v3 (v3 + 1) u)) ∧ (¬ v2 = 0 → (m_isAhead_p u v3 v2 ∧ (((m_isAhead u v3 v2) = 0 → (rec v1 v2 (v3 + 1) u)) ∧ (¬ (m_isAhead u v3 v2) = 0 → (rec v1 v3 (v3 + 1) u))))))))) ∧ (¬ (q_hr u (Int32.toNatClampNeg v3)) = v1 → (rec v1 v2 (v3 + 1) u)))) ∧ (¬ (q_hs u (Int32.toNatClampNeg v3)) = 0 → (rec v1 v2 (v3 + 1) u))))))
def m_fits_l4_p : Nat → Int32 → Int32 → Int32 → q_S → Prop
  | 0, _, _, _, _ => False
  | n + 1, v1, v2, v3, u => m_fits_l4_pb (m_fits_l4_p n) v1 v2 v3 u
def m_fits (u : q_S) (v1 : Int32) : Int32 := (m_fits_l4 200 v1 0 1 u)
def m_fits_p (u : q_S) (v1 : Int32) : Prop := (m_fits_l4_p 200 v1 0 1 u)
def m_fits_t : List (Nat × gz_T q_S) := [(0, gz_push 1 (gz_i 0)), (1, gz_stor 2 2), (2, gz_push 3 (gz_i 1)), (3, gz_stor 4 3), (4, gz_ldi 5 3), (5, gz_lda 6 0), (6, gz_getI 9 0 q_nh), (9, gz_if2 12 82 (fun x y => y < x) (fun x y => ¬ y < x)), (12, gz_lda 13 0), (13, gz_getR 16 0 12), (16, gz_ldi 17 3), (17, gz_ild 18 m_ai), (18, gz_if 21 49 (fun x => ¬ x = 0) (fun x => x = 0)), (21, gz_lda 22 0), (22, gz_getR 25 0 9), (25, gz_ldi 26 3), (26, gz_ild 27 m_ai), (27, gz_ldi 28 1), (28, gz_if2 31 49 (fun x y => ¬ x = y) (fun x y => x = y)), (31, gz_lda 32 0), (32, gz_getR 35 0 14), (35, gz_ldi 36 3), (36, gz_lld 37 m_al), (37, gz_lda 38 0), (38, gz_getL 41 0 q_td), (41, gz_lcmp 42), (42, gz_if 45 49 (fun x => 0 < x) (fun x => ¬ 0 < x)), (45, gz_push 46 (gz_i 1)), (46, gz_goto 50), (49, gz_push 50 (gz_i 0)), (50, gz_stor 52 4), (52, gz_ldi 54 4), (54, gz_if 57 74 (fun x => x = 0) (fun x => ¬ x = 0)), (57, gz_ldi 58 2), (58, gz_if 61 70 (fun x => x = 0) (fun x => ¬ x = 0)), (61, gz_lda 62 0), (62, gz_ldi 63 3), (63, gz_ldi 64 2), (64, gz_c2P 67 0 m_isAhead_p m_isAhead), (67, gz_if 70 74 (fun x => x = 0) (fun x => ¬ x = 0)), (70, gz_ldi 71 3), (71, gz_goto 75), (74, gz_ldi 75 2), (75, gz_stor 76 2), (76, gz_iinc 79 3 1), (79, gz_goto 4), (82, gz_ldi 83 2), (83, gz_iret)]
set_option maxRecDepth 100000 in
set_option maxHeartbeats 4000000 in
theorem m_fits_l4_d {Kr : Option Int32 → q_S → Prop} {Z : gz_K q_S} (hZ : gz_shut m_fits_t Kr Z) : ∀ (n : Nat) (v1 : Int32) (v2 : Int32) (v3 : Int32) (u : q_S), m_fits_l4_p n v1 v2 v3 u → Kr (some (m_fits_l4 n v1 v2 v3 u)) u → Z 4 [(0, gz_r 0), (1, gz_i v1), (2, gz_i v2), (3, gz_i v3)] [] u := by
  intro n
  induction n with
  | zero => intro v1 v2 v3 u hp _; exact False.elim hp
  | succ n ih =>
  intro v1 v2 v3 u hp hk
  refine hZ.1 [4] 500 4 _ _ _ ?_
  have hp : m_fits_l4_pb (m_fits_l4_p n) v1 v2 v3 u := hp
  refine And.intro (fun (h1 : (q_nh u) < v3) => ?_) (fun (h1 : ¬ (q_nh u) < v3) => ?_)
  · rw [show m_fits_l4 (n + 1) v1 v2 v3 u = v2 from (by unfold m_fits_l4_b; rw [if_pos h1] : m_fits_l4_b (m_fits_l4 n) v1 v2 v3 u = v2)] at hk
    exact hk
  · have hp := hp.2 h1
    have n2 := hp.1
    refine And.intro n2 ?_
    have hp := hp.2
    refine And.intro (fun (h3 : ¬ (q_hs u (Int32.toNatClampNeg v3)) = 0) => ?_) (fun (h3 : (q_hs u (Int32.toNatClampNeg v3)) = 0) => ?_)
    · have hp := hp.2 h3
      refine And.intro (fun _ => ?_) (fun (h : ¬ (0 : Int32) = 0) => absurd h (by decide +kernel))
      rw [show m_fits_l4 (n + 1) v1 v2 v3 u = (m_fits_l4 n v1 v2 (v3 + 1) u) from (by unfold m_fits_l4_b; rw [if_neg h1, if_neg h3] : m_fits_l4_b (m_fits_l4 n) v1 v2 v3 u = (m_fits_l4 n v1 v2 (v3 + 1) u))] at hk
      refine hZ.2 [0, 1, 2, 3] 4 _ _ _ ?_
      exact ih v1 v2 (v3 + 1) u hp hk
    · have hp := hp.1 h3
      refine And.intro n2 ?_
      refine And.intro (fun (h4 : ¬ (q_hr u (Int32.toNatClampNeg v3)) = v1) => ?_) (fun (h4 : (q_hr u (Int32.toNatClampNeg v3)) = v1) => ?_)
      · have hp := hp.2 h4
        refine And.intro (fun _ => ?_) (fun (h : ¬ (0 : Int32) = 0) => absurd h (by decide +kernel))
        rw [show m_fits_l4 (n + 1) v1 v2 v3 u = (m_fits_l4 n v1 v2 (v3 + 1) u) from (by unfold m_fits_l4_b; rw [if_neg h1, if_pos h3, if_neg h4] : m_fits_l4_b (m_fits_l4 n) v1 v2 v3 u = (m_fits_l4 n v1 v2 (v3 + 1) u))] at hk
        refine hZ.2 [0, 1, 2, 3] 4 _ _ _ ?_
        exact ih v1 v2 (v3 + 1) u hp hk
      · have hp := hp.1 h4
        refine And.intro n2 ?_
        refine And.intro (fun (h5 : 0 < (lg_cmp (q_hu u (Int32.toNatClampNeg v3)) (q_td u))) => ?_) (fun (h5 : ¬ 0 < (lg_cmp (q_hu u (Int32.toNatClampNeg v3)) (q_td u))) => ?_)
        · have hp := hp.1 h5
          refine And.intro (fun _ => ?_) (fun (h : ¬ (0 : Int32) = 0) => absurd h (by decide +kernel))
          rw [show m_fits_l4 (n + 1) v1 v2 v3 u = (m_fits_l4 n v1 v2 (v3 + 1) u) from (by unfold m_fits_l4_b; rw [if_neg h1, if_pos h3, if_pos h4, if_pos h5] : m_fits_l4_b (m_fits_l4 n) v1 v2 v3 u = (m_fits_l4 n v1 v2 (v3 + 1) u))] at hk
          refine hZ.2 [0, 1, 2, 3] 4 _ _ _ ?_
          exact ih v1 v2 (v3 + 1) u hp hk
        · have hp := hp.2 h5
          refine And.intro (fun (h : (1 : Int32) = 0) => absurd h (by decide +kernel)) (fun _ => ?_)
          refine And.intro (fun (h6 : v2 = 0) => ?_) (fun (h6 : ¬ v2 = 0) => ?_)
          · have hp := hp.1 h6
            rw [show m_fits_l4 (n + 1) v1 v2 v3 u = (m_fits_l4 n v1 v3 (v3 + 1) u) from (by unfold m_fits_l4_b; rw [if_neg h1, if_pos h3, if_pos h4, if_neg h5, if_pos h6] : m_fits_l4_b (m_fits_l4 n) v1 v2 v3 u = (m_fits_l4 n v1 v3 (v3 + 1) u))] at hk
            refine hZ.2 [0, 1, 2, 3] 4 _ _ _ ?_
            exact ih v1 v3 (v3 + 1) u hp hk
          · have hp := hp.2 h6
            have n7 := hp.1
            refine And.intro n7 ?_
            have hp := hp.2
            refine And.intro (fun (h8 : (m_isAhead u v3 v2) = 0) => ?_) (fun (h8 : ¬ (m_isAhead u v3 v2) = 0) => ?_)
            · have hp := hp.1 h8
              rw [show m_fits_l4 (n + 1) v1 v2 v3 u = (m_fits_l4 n v1 v2 (v3 + 1) u) from (by unfold m_fits_l4_b; rw [if_neg h1, if_pos h3, if_pos h4, if_neg h5, if_neg h6, if_pos h8] : m_fits_l4_b (m_fits_l4 n) v1 v2 v3 u = (m_fits_l4 n v1 v2 (v3 + 1) u))] at hk
              refine hZ.2 [0, 1, 2, 3] 4 _ _ _ ?_
              exact ih v1 v2 (v3 + 1) u hp hk
            · have hp := hp.2 h8
              rw [show m_fits_l4 (n + 1) v1 v2 v3 u = (m_fits_l4 n v1 v3 (v3 + 1) u) from (by unfold m_fits_l4_b; rw [if_neg h1, if_pos h3, if_pos h4, if_neg h5, if_neg h6, if_neg h8] : m_fits_l4_b (m_fits_l4 n) v1 v2 v3 u = (m_fits_l4 n v1 v3 (v3 + 1) u))] at hk
              refine hZ.2 [0, 1, 2, 3] 4 _ _ _ ?_
              exact ih v1 v3 (v3 + 1) u hp hk
set_option maxRecDepth 100000 in
set_option maxHeartbeats 4000000 in
theorem m_fits_d {Kr : Option Int32 → q_S → Prop} (u : q_S) (v1 : Int32) (hp : m_fits_p u v1) (hk : Kr (some (m_fits u v1)) u) : gz_does m_fits_t Kr [(0, gz_r 0), (1, gz_i v1)] u := by
  intro Z hZ
  refine hZ.1 [4] 500 0 _ _ _ ?_
  unfold m_fits_p at hp
  rw [show m_fits u v1 = (m_fits_l4 200 v1 0 1 u) from rfl] at hk
  exact m_fits_l4_d hZ 200 v1 0 1 u hp hk
-- HoldQueueModel.lies(II)V
def m_lies (u : q_S) (v1 : Int32) (v2 : Int32) : q_S := (q_cs_u (q_he_u (q_hs_u u v2 2) v2 ((q_td u) + (Int32.toInt64 (q_sp u)))) v1 3)
def m_lies_p (u : q_S) (v1 : Int32) (v2 : Int32) : Prop := (vp_in v2 121 ∧ (vp_in v1 61))
def m_lies_t : List (Nat × gz_T q_S) := [(0, gz_lda 1 0), (1, gz_getR 4 0 12), (4, gz_ldi 5 2), (5, gz_push 6 (gz_i 2)), (6, gz_ist 7 m_ai), (7, gz_lda 8 0), (8, gz_getR 11 0 15), (11, gz_ldi 12 2), (12, gz_lda 13 0), (13, gz_getL 16 0 q_td), (16, gz_lda 17 0), (17, gz_getI 20 0 q_sp), (20, gz_itol 21), (21, gz_lop 22 (fun x y => x + y)), (22, gz_lst 23 m_al), (23, gz_lda 24 0), (24, gz_getR 27 0 5), (27, gz_ldi 28 1), (28, gz_push 29 (gz_i 3)), (29, gz_ist 30 m_ai), (30, gz_vret)]
set_option maxRecDepth 100000 in
set_option maxHeartbeats 4000000 in
theorem m_lies_d {Kr : Option Int32 → q_S → Prop} (u : q_S) (v1 : Int32) (v2 : Int32) (hp : m_lies_p u v1 v2) (hk : Kr none (m_lies u v1 v2)) : gz_does m_lies_t Kr [(0, gz_r 0), (1, gz_i v1), (2, gz_i v2)] u := by
  intro Z hZ
  refine hZ.1 [] 500 0 _ _ _ ?_
  unfold m_lies_p at hp
  have n1 := hp.1
  refine And.intro n1 ?_
  have hp := hp.2
  refine And.intro n1 ?_
  have n2 := hp
  refine And.intro n2 ?_
  rw [show m_lies u v1 v2 = (q_cs_u (q_he_u (q_hs_u u v2 2) v2 ((q_td u) + (Int32.toInt64 (q_sp u)))) v1 3) from rfl] at hk
  exact hk
-- HoldQueueModel.goes(I)I
def m_goes (u : q_S) (v1 : Int32) : Int32 × q_S := (if (m_fits u (q_cr u (Int32.toNatClampNeg v1))) = 0 then (0, (q_cs_u (q_ch_u u v1 (m_fits u (q_cr u (Int32.toNatClampNeg v1)))) v1 0)) else (if (q_cp u (Int32.toNatClampNeg v1)) = (q_hl u (Int32.toNatClampNeg (m_fits u (q_cr u (Int32.toNatClampNeg v1))))) then ((m_fits u (q_cr u (Int32.toNatClampNeg v1))), (m_lies (q_hy_u (q_cs_u (q_ch_u u v1 (m_fits u (q_cr u (Int32.toNatClampNeg v1)))) v1 0) (m_fits u (q_cr u (Int32.toNatClampNeg v1))) v1) v1 (m_fits u (q_cr u (Int32.toNatClampNeg v1))))) else ((m_fits u (q_cr u (Int32.toNatClampNeg v1))), (q_cp_u (q_cs_u (q_hs_u (q_hy_u (q_cs_u (q_ch_u u v1 (m_fits u (q_cr u (Int32.toNatClampNeg v1)))) v1 0) (m_fits u (q_cr u (Int32.toNatClampNeg v1))) v1) (m_fits u (q_cr u (Int32.toNatClampNeg v1))) 1) v1 2) v1 (q_hl u (Int32.toNatClampNeg (m_fits u (q_cr u (Int32.toNatClampNeg v1)))))))))
def m_goes_r (u : q_S) (v1 : Int32) : Int32 := (m_goes u v1).1
def m_goes_s (u : q_S) (v1 : Int32) : q_S := (m_goes u v1).2
def m_goes_p (u : q_S) (v1 : Int32) : Prop := (vp_in v1 61 ∧ (m_fits_p u (q_cr u (Int32.toNatClampNeg v1)) ∧ (((m_fits u (q_cr u (Int32.toNatClampNeg v1))) = 0 → True) ∧ (¬ (m_fits u (q_cr u (Int32.toNatClampNeg v1))) = 0 → (vp_in (m_fits u (q_cr u (Int32.toNatClampNeg v1))) 121 ∧ (((q_cp u (Int32.toNatClampNeg v1)) = (q_hl u (Int32.toNatClampNeg (m_fits u (q_cr u (Int32.toNatClampNeg v1))))) → (m_lies_p (q_hy_u (q_cs_u (q_ch_u u v1 (m_fits u (q_cr u (Int32.toNatClampNeg v1)))) v1 0) (m_fits u (q_cr u (Int32.toNatClampNeg v1))) v1) v1 (m_fits u (q_cr u (Int32.toNatClampNeg v1))))) ∧ (¬ (q_cp u (Int32.toNatClampNeg v1)) = (q_hl u (Int32.toNatClampNeg (m_fits u (q_cr u (Int32.toNatClampNeg v1))))) → True)))))))
def m_goes_t : List (Nat × gz_T q_S) := [(0, gz_lda 1 0), (1, gz_lda 2 0), (2, gz_getR 5 0 4), (5, gz_ldi 6 1), (6, gz_ild 7 m_ai), (7, gz_c1P 10 0 m_fits_p m_fits), (10, gz_stor 11 2), (11, gz_lda 12 0), (12, gz_getR 15 0 7), (15, gz_ldi 16 1), (16, gz_ldi 17 2), (17, gz_ist 18 m_ai), (18, gz_lda 19 0), (19, gz_getR 22 0 5), (22, gz_ldi 23 1), (23, gz_push 24 (gz_i 0)), (24, gz_ist 25 m_ai), (25, gz_ldi 26 2), (26, gz_if 29 31 (fun x => ¬ x = 0) (fun x => x = 0)), (29, gz_push 30 (gz_i 0)), (30, gz_iret), (31, gz_lda 32 0), (32, gz_getR 35 0 13), (35, gz_ldi 36 2), (36, gz_ldi 37 1), (37, gz_ist 38 m_ai), (38, gz_lda 39 0), (39, gz_getR 42 0 6), (42, gz_ldi 43 1), (43, gz_ild 44 m_ai), (44, gz_lda 45 0), (45, gz_getR 48 0 10), (48, gz_ldi 49 2), (49, gz_ild 50 m_ai), (50, gz_if2 53 62 (fun x y => ¬ x = y) (fun x y => x = y)), (53, gz_lda 54 0), (54, gz_ldi 55 1), (55, gz_ldi 56 2), (56, gz_c2V 59 0 m_lies_p m_lies), (59, gz_goto 88), (62, gz_lda 63 0), (63, gz_getR 66 0 12), (66, gz_ldi 67 2), (67, gz_push 68 (gz_i 1)), (68, gz_ist 69 m_ai), (69, gz_lda 70 0), (70, gz_getR 73 0 5), (73, gz_ldi 74 1), (74, gz_push 75 (gz_i 2)), (75, gz_ist 76 m_ai), (76, gz_lda 77 0), (77, gz_getR 80 0 6), (80, gz_ldi 81 1), (81, gz_lda 82 0), (82, gz_getR 85 0 10), (85, gz_ldi 86 2), (86, gz_ild 87 m_ai), (87, gz_ist 88 m_ai), (88, gz_ldi 89 2), (89, gz_iret)]
set_option maxRecDepth 100000 in
set_option maxHeartbeats 4000000 in
theorem m_goes_d {Kr : Option Int32 → q_S → Prop} (u : q_S) (v1 : Int32) (hp : m_goes_p u v1) (hk : Kr (some ((m_goes u v1)).1) ((m_goes u v1)).2) : gz_does m_goes_t Kr [(0, gz_r 0), (1, gz_i v1)] u := by
  intro Z hZ
  refine hZ.1 [] 500 0 _ _ _ ?_
  unfold m_goes_p at hp
  have n1 := hp.1
  refine And.intro n1 ?_
  have hp := hp.2
  have n2 := hp.1
  refine And.intro n2 ?_
  have hp := hp.2
  refine And.intro n1 ?_
  refine And.intro n1 ?_
  refine And.intro (fun (h3 : ¬ (m_fits u (q_cr u (Int32.toNatClampNeg v1))) = 0) => ?_) (fun (h3 : (m_fits u (q_cr u (Int32.toNatClampNeg v1))) = 0) => ?_)
  · have hp := hp.2 h3
    have n4 := hp.1
    refine And.intro n4 ?_
    have hp := hp.2
    refine And.intro n1 ?_
    refine And.intro n4 ?_
    refine And.intro (fun (h5 : ¬ (q_cp u (Int32.toNatClampNeg v1)) = (q_hl u (Int32.toNatClampNeg (m_fits u (q_cr u (Int32.toNatClampNeg v1)))))) => ?_) (fun (h5 : (q_cp u (Int32.toNatClampNeg v1)) = (q_hl u (Int32.toNatClampNeg (m_fits u (q_cr u (Int32.toNatClampNeg v1)))))) => ?_)
    · refine And.intro n4 ?_
      refine And.intro n1 ?_
      refine And.intro n4 ?_
      refine And.intro n1 ?_
      rw [show m_goes u v1 = ((m_fits u (q_cr u (Int32.toNatClampNeg v1))), (q_cp_u (q_cs_u (q_hs_u (q_hy_u (q_cs_u (q_ch_u u v1 (m_fits u (q_cr u (Int32.toNatClampNeg v1)))) v1 0) (m_fits u (q_cr u (Int32.toNatClampNeg v1))) v1) (m_fits u (q_cr u (Int32.toNatClampNeg v1))) 1) v1 2) v1 (q_hl u (Int32.toNatClampNeg (m_fits u (q_cr u (Int32.toNatClampNeg v1))))))) from (by unfold m_goes; rw [if_neg h3, if_neg h5])] at hk
      exact hk
    · have hp := hp.1 h5
      have n6 := hp
      refine And.intro n6 ?_
      rw [show m_goes u v1 = ((m_fits u (q_cr u (Int32.toNatClampNeg v1))), (m_lies (q_hy_u (q_cs_u (q_ch_u u v1 (m_fits u (q_cr u (Int32.toNatClampNeg v1)))) v1 0) (m_fits u (q_cr u (Int32.toNatClampNeg v1))) v1) v1 (m_fits u (q_cr u (Int32.toNatClampNeg v1))))) from (by unfold m_goes; rw [if_neg h3, if_pos h5])] at hk
      exact hk
  · rw [show m_goes u v1 = (0, (q_cs_u (q_ch_u u v1 (m_fits u (q_cr u (Int32.toNatClampNeg v1)))) v1 0)) from (by unfold m_goes; rw [if_pos h3])] at hk
    exact hk
-- HoldQueueModel.hold(IIII)I
def m_hold_l232_b (rec : Int32 → Int32 → Int32 → Int32 → Int32 → Int32 → Int32 → Int32 → q_S → Int32 × q_S) (v1 : Int32) (v2 : Int32) (v3 : Int32) (v4 : Int32) (v5 : Int32) (v6 : Int32) (v7 : Int32) (v8 : Int32) (u : q_S) : Int32 × q_S := (if v8 ≤ 0 then (if v7 ≤ 0 then (v6, u) else (v6, (m_goes_s u v7))) else (if (q_cr u (Int32.toNatClampNeg v8)) = v2 then (if (q_cs u (Int32.toNatClampNeg v8)) = 0 then (rec v1 v2 v3 v4 v5 v6 v8 (v8 + (-1)) u) else (rec v1 v2 v3 v4 v5 v6 v7 (v8 + (-1)) u)) else (rec v1 v2 v3 v4 v5 v6 v7 (v8 + (-1)) u)))
def m_hold_l232 : Nat → Int32 → Int32 → Int32 → Int32 → Int32 → Int32 → Int32 → Int32 → q_S → Int32 × q_S
  | 0, _, _, _, _, _, _, _, _, u => (0, u)
  | n + 1, v1, v2, v3, v4, v5, v6, v7, v8, u => m_hold_l232_b (m_hold_l232 n) v1 v2 v3 v4 v5 v6 v7 v8 u
def m_hold_l232_pb (rec : Int32 → Int32 → Int32 → Int32 → Int32 → Int32 → Int32 → Int32 → q_S → Prop) (v1 : Int32) (v2 : Int32) (v3 : Int32) (v4 : Int32) (v5 : Int32) (v6 : Int32) (v7 : Int32) (v8 : Int32) (u : q_S) : Prop := ((v8 ≤ 0 → ((v7 ≤ 0 → True) ∧ (¬ v7 ≤ 0 → (m_goes_p u v7)))) ∧ (¬ v8 ≤ 0 → (vp_in v8 61 ∧ (((q_cr u (Int32.toNatClampNeg v8)) = v2 → (((q_cs u (Int32.toNatClampNeg v8)) = 0 → (rec v1 v2 v3 v4 v5 v6 v8 (v8 + (-1)) u)) ∧ (¬ (q_cs u (Int32.toNatClampNeg v8)) = 0 → (rec v1 v2 v3 v4 v5 v6 v7 (v8 + (-1)) u)))) ∧ (¬ (q_cr u (Int32.toNatClampNeg v8)) = v2 → (rec v1 v2 v3 v4 v5 v6 v7 (v8 + (-1)) u))))))
def m_hold_l232_p : Nat → Int32 → Int32 → Int32 → Int32 → Int32 → Int32 → Int32 → Int32 → q_S → Prop
  | 0, _, _, _, _, _, _, _, _, _ => False
  | n + 1, v1, v2, v3, v4, v5, v6, v7, v8, u => m_hold_l232_pb (m_hold_l232_p n) v1 v2 v3 v4 v5 v6 v7 v8 u
def m_hold_l67_b (rec : Int32 → Int32 → Int32 → Int32 → Int32 → Int32 → q_S → Int32 × q_S) (v1 : Int32) (v2 : Int32) (v3 : Int32) (v4 : Int32) (v5 : Int32) (v6 : Int32) (u : q_S) : Int32 × q_S := (if (q_nh u) < v6 then (if v5 < (q_mo u (Int32.toNatClampNeg v1)) then (m_hold_l232 200 v1 v2 v3 v4 v5 ((q_nh u) + 1) 0 (q_nc u) (q_hu_u (q_hy_u (q_hs_u (q_hk_u (q_hl_u (q_hr_u (q_hp_u (q_nh_s u ((q_nh u) + 1)) ((q_nh u) + 1) v1) ((q_nh u) + 1) v2) ((q_nh u) + 1) v3) ((q_nh u) + 1) v4) ((q_nh u) + 1) 0) ((q_nh u) + 1) 0) ((q_nh u) + 1) (-9223372036854775807))) else ((-1), u)) else (if (q_hp u (Int32.toNatClampNeg v6)) = v1 then (if (m_isOpen u v6) = 0 then (rec v1 v2 v3 v4 v5 (v6 + 1) u) else (if (q_hr u (Int32.toNatClampNeg v6)) = v2 then (0, u) else (rec v1 v2 v3 v4 (v5 + 1) (v6 + 1) u))) else (rec v1 v2 v3 v4 v5 (v6 + 1) u)))
def m_hold_l67 : Nat → Int32 → Int32 → Int32 → Int32 → Int32 → Int32 → q_S → Int32 × q_S
  | 0, _, _, _, _, _, _, u => (0, u)
  | n + 1, v1, v2, v3, v4, v5, v6, u => m_hold_l67_b (m_hold_l67 n) v1 v2 v3 v4 v5 v6 u
def m_hold_l67_pb (rec : Int32 → Int32 → Int32 → Int32 → Int32 → Int32 → q_S → Prop) (v1 : Int32) (v2 : Int32) (v3 : Int32) (v4 : Int32) (v5 : Int32) (v6 : Int32) (u : q_S) : Prop := (((q_nh u) < v6 → (vp_in v1 40 ∧ ((v5 < (q_mo u (Int32.toNatClampNeg v1)) → (vp_in ((q_nh u) + 1) 121 ∧ (m_hold_l232_p 200 v1 v2 v3 v4 v5 ((q_nh u) + 1) 0 (q_nc u) (q_hu_u (q_hy_u (q_hs_u (q_hk_u (q_hl_u (q_hr_u (q_hp_u (q_nh_s u ((q_nh u) + 1)) ((q_nh u) + 1) v1) ((q_nh u) + 1) v2) ((q_nh u) + 1) v3) ((q_nh u) + 1) v4) ((q_nh u) + 1) 0) ((q_nh u) + 1) 0) ((q_nh u) + 1) (-9223372036854775807))))) ∧ (¬ v5 < (q_mo u (Int32.toNatClampNeg v1)) → True)))) ∧ (¬ (q_nh u) < v6 → (vp_in v6 121 ∧ (((q_hp u (Int32.toNatClampNeg v6)) = v1 → (m_isOpen_p u v6 ∧ (((m_isOpen u v6) = 0 → (rec v1 v2 v3 v4 v5 (v6 + 1) u)) ∧ (¬ (m_isOpen u v6) = 0 → (((q_hr u (Int32.toNatClampNeg v6)) = v2 → True) ∧ (¬ (q_hr u (Int32.toNatClampNeg v6)) = v2 → (rec v1 v2 v3 v4 (v5 + 1) (v6 + 1) u))))))) ∧ (¬ (q_hp u (Int32.toNatClampNeg v6)) = v1 → (rec v1 v2 v3 v4 v5 (v6 + 1) u))))))
def m_hold_l67_p : Nat → Int32 → Int32 → Int32 → Int32 → Int32 → Int32 → q_S → Prop
  | 0, _, _, _, _, _, _, _ => False
  | n + 1, v1, v2, v3, v4, v5, v6, u => m_hold_l67_pb (m_hold_l67_p n) v1 v2 v3 v4 v5 v6 u
def m_hold (u : q_S) (v1 : Int32) (v2 : Int32) (v3 : Int32) (v4 : Int32) : Int32 × q_S := (if (m_in v1 0 39) = 0 then (0, (q_th_s u 0)) else (if (m_in v2 1 (q_nr u)) = 0 then (0, (q_th_s u 0)) else (if (m_in v3 0 5) = 0 then (0, (q_th_s u 0)) else (if (q_bd u (Int32.toNatClampNeg (q_kd u (Int32.toNatClampNeg v2)))) = 0 then (if (q_nh u) = 120 then (0, (q_th_s u 0)) else (m_hold_l67 200 v1 v2 v3 v4 0 1 (q_th_s u 0))) else (0, (q_th_s u 0))))))
def m_hold_r (u : q_S) (v1 : Int32) (v2 : Int32) (v3 : Int32) (v4 : Int32) : Int32 := (m_hold u v1 v2 v3 v4).1
def m_hold_s (u : q_S) (v1 : Int32) (v2 : Int32) (v3 : Int32) (v4 : Int32) : q_S := (m_hold u v1 v2 v3 v4).2
def m_hold_p (u : q_S) (v1 : Int32) (v2 : Int32) (v3 : Int32) (v4 : Int32) : Prop := (((m_in v1 0 39) = 0 → True) ∧ (¬ (m_in v1 0 39) = 0 → (((m_in v2 1 (q_nr u)) = 0 → True) ∧ (¬ (m_in v2 1 (q_nr u)) = 0 → (((m_in v3 0 5) = 0 → True) ∧ (¬ (m_in v3 0 5) = 0 → (vp_in v2 31 ∧ (vp_in (q_kd u (Int32.toNatClampNeg v2)) 4 ∧ (((q_bd u (Int32.toNatClampNeg (q_kd u (Int32.toNatClampNeg v2)))) = 0 → (((q_nh u) = 120 → True) ∧ (¬ (q_nh u) = 120 → (m_hold_l67_p 200 v1 v2 v3 v4 0 1 (q_th_s u 0))))) ∧ (¬ (q_bd u (Int32.toNatClampNeg (q_kd u (Int32.toNatClampNeg v2)))) = 0 → True))))))))))
def m_hold_t : List (Nat × gz_T q_S) := [(0, gz_lda 1 0), (1, gz_push 2 (gz_i 0)), (2, gz_putI 5 0 q_th_s), (5, gz_ldi 6 1), (6, gz_push 7 (gz_i 0)), (7, gz_push 9 (gz_i 39)), (9, gz_s3P 12 m_in), (12, gz_if 15 59 (fun x => x = 0) (fun x => ¬ x = 0)), (15, gz_ldi 16 2), (16, gz_push 17 (gz_i 1)), (17, gz_lda 18 0), (18, gz_getI 21 0 q_nr), (21, gz_s3P 24 m_in), (24, gz_if 27 59 (fun x => x = 0) (fun x => ¬ x = 0)), (27, gz_ldi 28 3), (28, gz_push 29 (gz_i 0)), (29, gz_push 30 (gz_i 5)), (30, gz_s3P 33 m_in), (33, gz_if 36 59 (fun x => x = 0) (fun x => ¬ x = 0)), (36, gz_lda 37 0), (37, gz_getR 40 0 2), (40, gz_lda 41 0), (41, gz_getR 44 0 1), (44, gz_ldi 45 2), (45, gz_ild 46 m_ai), (46, gz_ild 47 m_az), (47, gz_if 50 59 (fun x => ¬ x = 0) (fun x => x = 0)), (50, gz_lda 51 0), (51, gz_getI 54 0 q_nh), (54, gz_push 56 (gz_i 120)), (56, gz_if2 59 61 (fun x y => ¬ x = y) (fun x y => x = y)), (59, gz_push 60 (gz_i 0)), (60, gz_iret), (61, gz_push 62 (gz_i 0)), (62, gz_stor 64 5), (64, gz_push 65 (gz_i 1)), (65, gz_stor 67 6), (67, gz_ldi 69 6), (69, gz_lda 70 0), (70, gz_getI 73 0 q_nh), (73, gz_if2 76 121 (fun x y => y < x) (fun x y => ¬ y < x)), (76, gz_lda 77 0), (77, gz_getR 80 0 8), (80, gz_ldi 82 6), (82, gz_ild 83 m_ai), (83, gz_ldi 84 1), (84, gz_if2 87 115 (fun x y => ¬ x = y) (fun x y => x = y)), (87, gz_lda 88 0), (88, gz_ldi 90 6), (90, gz_c1P 93 0 m_isOpen_p m_isOpen), (93, gz_if 96 99 (fun x => ¬ x = 0) (fun x => x = 0)), (96, gz_goto 115), (99, gz_lda 100 0), (100, gz_getR 103 0 9), (103, gz_ldi 105 6), (105, gz_ild 106 m_ai), (106, gz_ldi 107 2), (107, gz_if2 110 112 (fun x y => ¬ x = y) (fun x y => x = y)), (110, gz_push 111 (gz_i 0)), (111, gz_iret), (112, gz_iinc 115 5 1), (115, gz_iinc 118 6 1), (118, gz_goto 67), (121, gz_ldi 123 5), (123, gz_lda 124 0), (124, gz_getR 127 0 3), (127, gz_ldi 128 1), (128, gz_ild 129 m_ai), (129, gz_if2 132 134 (fun x y => x < y) (fun x y => ¬ x < y)), (132, gz_push 133 (gz_i (-1))), (133, gz_iret), (134, gz_lda 135 0), (135, gz_dup 136), (136, gz_getI 139 0 q_nh), (139, gz_push 140 (gz_i 1)), (140, gz_iop 141 (fun x y => x + y)), (141, gz_putI 144 0 q_nh_s), (144, gz_lda 145 0), (145, gz_getR 148 0 8), (148, gz_lda 149 0), (149, gz_getI 152 0 q_nh), (152, gz_ldi 153 1), (153, gz_ist 154 m_ai), (154, gz_lda 155 0), (155, gz_getR 158 0 9), (158, gz_lda 159 0), (159, gz_getI 162 0 q_nh), (162, gz_ldi 163 2), (163, gz_ist 164 m_ai), (164, gz_lda 165 0), (165, gz_getR 168 0 10), (168, gz_lda 169 0), (169, gz_getI 172 0 q_nh), (172, gz_ldi 173 3), (173, gz_ist 174 m_ai), (174, gz_lda 175 0), (175, gz_getR 178 0 11), (178, gz_lda 179 0), (179, gz_getI 182 0 q_nh), (182, gz_ldi 184 4), (184, gz_ist 185 m_ai), (185, gz_lda 186 0), (186, gz_getR 189 0 12), (189, gz_lda 190 0), (190, gz_getI 193 0 q_nh), (193, gz_push 194 (gz_i 0)), (194, gz_ist 195 m_ai), (195, gz_lda 196 0), (196, gz_getR 199 0 13), (199, gz_lda 200 0), (200, gz_getI 203 0 q_nh), (203, gz_push 204 (gz_i 0)), (204, gz_ist 205 m_ai), (205, gz_lda 206 0), (206, gz_getR 209 0 14), (209, gz_lda 210 0), (210, gz_getI 213 0 q_nh), (213, gz_push 216 (gz_l (-9223372036854775807))), (216, gz_lst 217 m_al), (217, gz_lda 218 0), (218, gz_getI 221 0 q_nh), (221, gz_stor 223 6), (223, gz_push 224 (gz_i 0)), (224, gz_stor 226 7), (226, gz_lda 227 0), (227, gz_getI 230 0 q_nc), (230, gz_stor 232 8), (232, gz_ldi 234 8), (234, gz_if 237 273 (fun x => x ≤ 0) (fun x => ¬ x ≤ 0)), (237, gz_lda 238 0), (238, gz_getR 241 0 4), (241, gz_ldi 243 8), (243, gz_ild 244 m_ai), (244, gz_ldi 245 2), (245, gz_if2 248 263 (fun x y => ¬ x = y) (fun x y => x = y)), (248, gz_lda 249 0), (249, gz_getR 252 0 5), (252, gz_ldi 254 8), (254, gz_ild 255 m_ai), (255, gz_if 258 263 (fun x => ¬ x = 0) (fun x => x = 0)), (258, gz_ldi 260 8), (260, gz_goto 265), (263, gz_ldi 265 7), (265, gz_stor 267 7), (267, gz_iinc 270 8 (-1)), (270, gz_goto 232), (273, gz_ldi 275 7), (275, gz_if 278 285 (fun x => x ≤ 0) (fun x => ¬ x ≤ 0)), (278, gz_lda 279 0), (279, gz_ldi 281 7), (281, gz_c1I 284 0 m_goes_p m_goes_r m_goes_s), (284, gz_pop 285), (285, gz_ldi 287 6), (287, gz_iret)]
set_option maxRecDepth 100000 in
set_option maxHeartbeats 4000000 in
theorem m_hold_l232_d {Kr : Option Int32 → q_S → Prop} {Z : gz_K q_S} (hZ : gz_shut m_hold_t Kr Z) : ∀ (n : Nat) (v1 : Int32) (v2 : Int32) (v3 : Int32) (v4 : Int32) (v5 : Int32) (v6 : Int32) (v7 : Int32) (v8 : Int32) (u : q_S), m_hold_l232_p n v1 v2 v3 v4 v5 v6 v7 v8 u → Kr (some ((m_hold_l232 n v1 v2 v3 v4 v5 v6 v7 v8 u)).1) ((m_hold_l232 n v1 v2 v3 v4 v5 v6 v7 v8 u)).2 → Z 232 [(0, gz_r 0), (1, gz_i v1), (2, gz_i v2), (3, gz_i v3), (4, gz_i v4), (5, gz_i v5), (6, gz_i v6), (7, gz_i v7), (8, gz_i v8)] [] u := by
  intro n
  induction n with
  | zero => intro v1 v2 v3 v4 v5 v6 v7 v8 u hp _; exact False.elim hp
  | succ n ih =>
  intro v1 v2 v3 v4 v5 v6 v7 v8 u hp hk
  refine hZ.1 [67, 232] 500 232 _ _ _ ?_
  have hp : m_hold_l232_pb (m_hold_l232_p n) v1 v2 v3 v4 v5 v6 v7 v8 u := hp
  refine And.intro (fun (h1 : v8 ≤ 0) => ?_) (fun (h1 : ¬ v8 ≤ 0) => ?_)
  · have hp := hp.1 h1
    refine And.intro (fun (h2 : v7 ≤ 0) => ?_) (fun (h2 : ¬ v7 ≤ 0) => ?_)
    · rw [show m_hold_l232 (n + 1) v1 v2 v3 v4 v5 v6 v7 v8 u = (v6, u) from (by unfold m_hold_l232_b; rw [if_pos h1, if_pos h2] : m_hold_l232_b (m_hold_l232 n) v1 v2 v3 v4 v5 v6 v7 v8 u = (v6, u))] at hk
      exact hk
    · have hp := hp.2 h2
      have n3 := hp
      refine And.intro n3 ?_
      rw [show m_hold_l232 (n + 1) v1 v2 v3 v4 v5 v6 v7 v8 u = (v6, (m_goes_s u v7)) from (by unfold m_hold_l232_b; rw [if_pos h1, if_neg h2] : m_hold_l232_b (m_hold_l232 n) v1 v2 v3 v4 v5 v6 v7 v8 u = (v6, (m_goes_s u v7)))] at hk
      exact hk
  · have hp := hp.2 h1
    have n4 := hp.1
    refine And.intro n4 ?_
    have hp := hp.2
    refine And.intro (fun (h5 : ¬ (q_cr u (Int32.toNatClampNeg v8)) = v2) => ?_) (fun (h5 : (q_cr u (Int32.toNatClampNeg v8)) = v2) => ?_)
    · have hp := hp.2 h5
      rw [show m_hold_l232 (n + 1) v1 v2 v3 v4 v5 v6 v7 v8 u = (m_hold_l232 n v1 v2 v3 v4 v5 v6 v7 (v8 + (-1)) u) from (by unfold m_hold_l232_b; rw [if_neg h1, if_neg h5] : m_hold_l232_b (m_hold_l232 n) v1 v2 v3 v4 v5 v6 v7 v8 u = (m_hold_l232 n v1 v2 v3 v4 v5 v6 v7 (v8 + (-1)) u))] at hk
      exact ih v1 v2 v3 v4 v5 v6 v7 (v8 + (-1)) u hp hk
    · have hp := hp.1 h5
      refine And.intro n4 ?_
      refine And.intro (fun (h6 : ¬ (q_cs u (Int32.toNatClampNeg v8)) = 0) => ?_) (fun (h6 : (q_cs u (Int32.toNatClampNeg v8)) = 0) => ?_)
      · have hp := hp.2 h6
        rw [show m_hold_l232 (n + 1) v1 v2 v3 v4 v5 v6 v7 v8 u = (m_hold_l232 n v1 v2 v3 v4 v5 v6 v7 (v8 + (-1)) u) from (by unfold m_hold_l232_b; rw [if_neg h1, if_pos h5, if_neg h6] : m_hold_l232_b (m_hold_l232 n) v1 v2 v3 v4 v5 v6 v7 v8 u = (m_hold_l232 n v1 v2 v3 v4 v5 v6 v7 (v8 + (-1)) u))] at hk
        exact ih v1 v2 v3 v4 v5 v6 v7 (v8 + (-1)) u hp hk
      · have hp := hp.1 h6
        rw [show m_hold_l232 (n + 1) v1 v2 v3 v4 v5 v6 v7 v8 u = (m_hold_l232 n v1 v2 v3 v4 v5 v6 v8 (v8 + (-1)) u) from (by unfold m_hold_l232_b; rw [if_neg h1, if_pos h5, if_pos h6] : m_hold_l232_b (m_hold_l232 n) v1 v2 v3 v4 v5 v6 v7 v8 u = (m_hold_l232 n v1 v2 v3 v4 v5 v6 v8 (v8 + (-1)) u))] at hk
        exact ih v1 v2 v3 v4 v5 v6 v8 (v8 + (-1)) u hp hk
set_option maxRecDepth 100000 in
set_option maxHeartbeats 4000000 in
theorem m_hold_l67_d {Kr : Option Int32 → q_S → Prop} {Z : gz_K q_S} (hZ : gz_shut m_hold_t Kr Z) : ∀ (n : Nat) (v1 : Int32) (v2 : Int32) (v3 : Int32) (v4 : Int32) (v5 : Int32) (v6 : Int32) (u : q_S), m_hold_l67_p n v1 v2 v3 v4 v5 v6 u → Kr (some ((m_hold_l67 n v1 v2 v3 v4 v5 v6 u)).1) ((m_hold_l67 n v1 v2 v3 v4 v5 v6 u)).2 → Z 67 [(0, gz_r 0), (1, gz_i v1), (2, gz_i v2), (3, gz_i v3), (4, gz_i v4), (5, gz_i v5), (6, gz_i v6)] [] u := by
  intro n
  induction n with
  | zero => intro v1 v2 v3 v4 v5 v6 u hp _; exact False.elim hp
  | succ n ih =>
  intro v1 v2 v3 v4 v5 v6 u hp hk
  refine hZ.1 [67, 232] 500 67 _ _ _ ?_
  have hp : m_hold_l67_pb (m_hold_l67_p n) v1 v2 v3 v4 v5 v6 u := hp
  refine And.intro (fun (h1 : (q_nh u) < v6) => ?_) (fun (h1 : ¬ (q_nh u) < v6) => ?_)
  · have hp := hp.1 h1
    have n2 := hp.1
    refine And.intro n2 ?_
    have hp := hp.2
    refine And.intro (fun (h3 : v5 < (q_mo u (Int32.toNatClampNeg v1))) => ?_) (fun (h3 : ¬ v5 < (q_mo u (Int32.toNatClampNeg v1))) => ?_)
    · have hp := hp.1 h3
      have n4 := hp.1
      refine And.intro n4 ?_
      have hp := hp.2
      refine And.intro n4 ?_
      refine And.intro n4 ?_
      refine And.intro n4 ?_
      refine And.intro n4 ?_
      refine And.intro n4 ?_
      refine And.intro n4 ?_
      rw [show m_hold_l67 (n + 1) v1 v2 v3 v4 v5 v6 u = (m_hold_l232 200 v1 v2 v3 v4 v5 ((q_nh u) + 1) 0 (q_nc u) (q_hu_u (q_hy_u (q_hs_u (q_hk_u (q_hl_u (q_hr_u (q_hp_u (q_nh_s u ((q_nh u) + 1)) ((q_nh u) + 1) v1) ((q_nh u) + 1) v2) ((q_nh u) + 1) v3) ((q_nh u) + 1) v4) ((q_nh u) + 1) 0) ((q_nh u) + 1) 0) ((q_nh u) + 1) (-9223372036854775807))) from (by unfold m_hold_l67_b; rw [if_pos h1, if_pos h3] : m_hold_l67_b (m_hold_l67 n) v1 v2 v3 v4 v5 v6 u = (m_hold_l232 200 v1 v2 v3 v4 v5 ((q_nh u) + 1) 0 (q_nc u) (q_hu_u (q_hy_u (q_hs_u (q_hk_u (q_hl_u (q_hr_u (q_hp_u (q_nh_s u ((q_nh u) + 1)) ((q_nh u) + 1) v1) ((q_nh u) + 1) v2) ((q_nh u) + 1) v3) ((q_nh u) + 1) v4) ((q_nh u) + 1) 0) ((q_nh u) + 1) 0) ((q_nh u) + 1) (-9223372036854775807))))] at hk
      exact m_hold_l232_d hZ 200 v1 v2 v3 v4 v5 ((q_nh u) + 1) 0 (q_nc u) (q_hu_u (q_hy_u (q_hs_u (q_hk_u (q_hl_u (q_hr_u (q_hp_u (q_nh_s u ((q_nh u) + 1)) ((q_nh u) + 1) v1) ((q_nh u) + 1) v2) ((q_nh u) + 1) v3) ((q_nh u) + 1) v4) ((q_nh u) + 1) 0) ((q_nh u) + 1) 0) ((q_nh u) + 1) (-9223372036854775807)) hp hk
    · rw [show m_hold_l67 (n + 1) v1 v2 v3 v4 v5 v6 u = ((-1), u) from (by unfold m_hold_l67_b; rw [if_pos h1, if_neg h3] : m_hold_l67_b (m_hold_l67 n) v1 v2 v3 v4 v5 v6 u = ((-1), u))] at hk
      exact hk
  · have hp := hp.2 h1
    have n5 := hp.1
    refine And.intro n5 ?_
    have hp := hp.2
    refine And.intro (fun (h6 : ¬ (q_hp u (Int32.toNatClampNeg v6)) = v1) => ?_) (fun (h6 : (q_hp u (Int32.toNatClampNeg v6)) = v1) => ?_)
    · have hp := hp.2 h6
      rw [show m_hold_l67 (n + 1) v1 v2 v3 v4 v5 v6 u = (m_hold_l67 n v1 v2 v3 v4 v5 (v6 + 1) u) from (by unfold m_hold_l67_b; rw [if_neg h1, if_neg h6] : m_hold_l67_b (m_hold_l67 n) v1 v2 v3 v4 v5 v6 u = (m_hold_l67 n v1 v2 v3 v4 v5 (v6 + 1) u))] at hk
      exact ih v1 v2 v3 v4 v5 (v6 + 1) u hp hk
    · have hp := hp.1 h6
      have n7 := hp.1
      refine And.intro n7 ?_
      have hp := hp.2
      refine And.intro (fun (h8 : ¬ (m_isOpen u v6) = 0) => ?_) (fun (h8 : (m_isOpen u v6) = 0) => ?_)
      · have hp := hp.2 h8
        refine And.intro n5 ?_
        refine And.intro (fun (h9 : ¬ (q_hr u (Int32.toNatClampNeg v6)) = v2) => ?_) (fun (h9 : (q_hr u (Int32.toNatClampNeg v6)) = v2) => ?_)
        · have hp := hp.2 h9
          rw [show m_hold_l67 (n + 1) v1 v2 v3 v4 v5 v6 u = (m_hold_l67 n v1 v2 v3 v4 (v5 + 1) (v6 + 1) u) from (by unfold m_hold_l67_b; rw [if_neg h1, if_pos h6, if_neg h8, if_neg h9] : m_hold_l67_b (m_hold_l67 n) v1 v2 v3 v4 v5 v6 u = (m_hold_l67 n v1 v2 v3 v4 (v5 + 1) (v6 + 1) u))] at hk
          exact ih v1 v2 v3 v4 (v5 + 1) (v6 + 1) u hp hk
        · rw [show m_hold_l67 (n + 1) v1 v2 v3 v4 v5 v6 u = (0, u) from (by unfold m_hold_l67_b; rw [if_neg h1, if_pos h6, if_neg h8, if_pos h9] : m_hold_l67_b (m_hold_l67 n) v1 v2 v3 v4 v5 v6 u = (0, u))] at hk
          exact hk
      · have hp := hp.1 h8
        rw [show m_hold_l67 (n + 1) v1 v2 v3 v4 v5 v6 u = (m_hold_l67 n v1 v2 v3 v4 v5 (v6 + 1) u) from (by unfold m_hold_l67_b; rw [if_neg h1, if_pos h6, if_pos h8] : m_hold_l67_b (m_hold_l67 n) v1 v2 v3 v4 v5 v6 u = (m_hold_l67 n v1 v2 v3 v4 v5 (v6 + 1) u))] at hk
        exact ih v1 v2 v3 v4 v5 (v6 + 1) u hp hk
set_option maxRecDepth 100000 in
set_option maxHeartbeats 4000000 in
theorem m_hold_d {Kr : Option Int32 → q_S → Prop} (u : q_S) (v1 : Int32) (v2 : Int32) (v3 : Int32) (v4 : Int32) (hp : m_hold_p u v1 v2 v3 v4) (hk : Kr (some ((m_hold u v1 v2 v3 v4)).1) ((m_hold u v1 v2 v3 v4)).2) : gz_does m_hold_t Kr [(0, gz_r 0), (1, gz_i v1), (2, gz_i v2), (3, gz_i v3), (4, gz_i v4)] u := by
  intro Z hZ
  refine hZ.1 [67, 232] 500 0 _ _ _ ?_
  unfold m_hold_p at hp
  refine And.intro (fun (h1 : (m_in v1 0 39) = 0) => ?_) (fun (h1 : ¬ (m_in v1 0 39) = 0) => ?_)
  · rw [show m_hold u v1 v2 v3 v4 = (0, (q_th_s u 0)) from (by unfold m_hold; rw [if_pos h1])] at hk
    exact hk
  · have hp := hp.2 h1
    refine And.intro (fun (h2 : (m_in v2 1 (q_nr u)) = 0) => ?_) (fun (h2 : ¬ (m_in v2 1 (q_nr u)) = 0) => ?_)
    · rw [show m_hold u v1 v2 v3 v4 = (0, (q_th_s u 0)) from (by unfold m_hold; rw [if_neg h1, if_pos h2])] at hk
      exact hk
    · have hp := hp.2 h2
      refine And.intro (fun (h3 : (m_in v3 0 5) = 0) => ?_) (fun (h3 : ¬ (m_in v3 0 5) = 0) => ?_)
      · rw [show m_hold u v1 v2 v3 v4 = (0, (q_th_s u 0)) from (by unfold m_hold; rw [if_neg h1, if_neg h2, if_pos h3])] at hk
        exact hk
      · have hp := hp.2 h3
        have n4 := hp.1
        refine And.intro n4 ?_
        have hp := hp.2
        have n5 := hp.1
        refine And.intro n5 ?_
        have hp := hp.2
        refine And.intro (fun (h6 : ¬ (q_bd u (Int32.toNatClampNeg (q_kd u (Int32.toNatClampNeg v2)))) = 0) => ?_) (fun (h6 : (q_bd u (Int32.toNatClampNeg (q_kd u (Int32.toNatClampNeg v2)))) = 0) => ?_)
        · rw [show m_hold u v1 v2 v3 v4 = (0, (q_th_s u 0)) from (by unfold m_hold; rw [if_neg h1, if_neg h2, if_neg h3, if_neg h6])] at hk
          exact hk
        · have hp := hp.1 h6
          refine And.intro (fun (h7 : ¬ (q_nh u) = 120) => ?_) (fun (h7 : (q_nh u) = 120) => ?_)
          · have hp := hp.2 h7
            rw [show m_hold u v1 v2 v3 v4 = (m_hold_l67 200 v1 v2 v3 v4 0 1 (q_th_s u 0)) from (by unfold m_hold; rw [if_neg h1, if_neg h2, if_neg h3, if_pos h6, if_neg h7])] at hk
            exact m_hold_l67_d hZ 200 v1 v2 v3 v4 0 1 (q_th_s u 0) hp hk
          · rw [show m_hold u v1 v2 v3 v4 = (0, (q_th_s u 0)) from (by unfold m_hold; rw [if_neg h1, if_neg h2, if_neg h3, if_pos h6, if_pos h7])] at hk
            exact hk
-- HoldQueueModel.most(II)I
def m_most (u : q_S) (v1 : Int32) (v2 : Int32) : Int32 × q_S := (if (m_in v1 0 39) = 0 then ((-1), (q_th_s u 0)) else (if (m_in v2 0 20) = 0 then ((-1), (q_th_s u 0)) else ((q_mo u (Int32.toNatClampNeg v1)), (q_mo_u (q_th_s u 0) v1 v2))))
def m_most_r (u : q_S) (v1 : Int32) (v2 : Int32) : Int32 := (m_most u v1 v2).1
def m_most_s (u : q_S) (v1 : Int32) (v2 : Int32) : q_S := (m_most u v1 v2).2
def m_most_p (u : q_S) (v1 : Int32) (v2 : Int32) : Prop := (((m_in v1 0 39) = 0 → True) ∧ (¬ (m_in v1 0 39) = 0 → (((m_in v2 0 20) = 0 → True) ∧ (¬ (m_in v2 0 20) = 0 → (vp_in v1 40)))))
def m_most_t : List (Nat × gz_T q_S) := [(0, gz_lda 1 0), (1, gz_push 2 (gz_i 0)), (2, gz_putI 5 0 q_th_s), (5, gz_ldi 6 1), (6, gz_push 7 (gz_i 0)), (7, gz_push 9 (gz_i 39)), (9, gz_s3P 12 m_in), (12, gz_if 15 25 (fun x => x = 0) (fun x => ¬ x = 0)), (15, gz_ldi 16 2), (16, gz_push 17 (gz_i 0)), (17, gz_push 19 (gz_i 20)), (19, gz_s3P 22 m_in), (22, gz_if 25 27 (fun x => ¬ x = 0) (fun x => x = 0)), (25, gz_push 26 (gz_i (-1))), (26, gz_iret), (27, gz_lda 28 0), (28, gz_getR 31 0 3), (31, gz_ldi 32 1), (32, gz_ild 33 m_ai), (33, gz_stor 34 3), (34, gz_lda 35 0), (35, gz_getR 38 0 3), (38, gz_ldi 39 1), (39, gz_ldi 40 2), (40, gz_ist 41 m_ai), (41, gz_ldi 42 3), (42, gz_iret)]
set_option maxRecDepth 100000 in
set_option maxHeartbeats 4000000 in
theorem m_most_d {Kr : Option Int32 → q_S → Prop} (u : q_S) (v1 : Int32) (v2 : Int32) (hp : m_most_p u v1 v2) (hk : Kr (some ((m_most u v1 v2)).1) ((m_most u v1 v2)).2) : gz_does m_most_t Kr [(0, gz_r 0), (1, gz_i v1), (2, gz_i v2)] u := by
  intro Z hZ
  refine hZ.1 [] 500 0 _ _ _ ?_
  unfold m_most_p at hp
  refine And.intro (fun (h1 : (m_in v1 0 39) = 0) => ?_) (fun (h1 : ¬ (m_in v1 0 39) = 0) => ?_)
  · rw [show m_most u v1 v2 = ((-1), (q_th_s u 0)) from (by unfold m_most; rw [if_pos h1])] at hk
    exact hk
  · have hp := hp.2 h1
    refine And.intro (fun (h2 : ¬ (m_in v2 0 20) = 0) => ?_) (fun (h2 : (m_in v2 0 20) = 0) => ?_)
    · have hp := hp.2 h2
      have n3 := hp
      refine And.intro n3 ?_
      refine And.intro n3 ?_
      rw [show m_most u v1 v2 = ((q_mo u (Int32.toNatClampNeg v1)), (q_mo_u (q_th_s u 0) v1 v2)) from (by unfold m_most; rw [if_neg h1, if_neg h2])] at hk
      exact hk
    · rw [show m_most u v1 v2 = ((-1), (q_th_s u 0)) from (by unfold m_most; rw [if_neg h1, if_pos h2])] at hk
      exact hk
-- HoldQueueModel.isHold(I)Z
def m_isHold (u : q_S) (v1 : Int32) : Int32 := (m_in v1 1 (q_nh u))
def m_isHold_p (u : q_S) (v1 : Int32) : Prop := (narrow .boolean (.int (m_in v1 1 (q_nh u))) = .int (m_in v1 1 (q_nh u)))
def m_isHold_t : List (Nat × gz_T q_S) := [(0, gz_ldi 1 1), (1, gz_push 2 (gz_i 1)), (2, gz_lda 3 0), (3, gz_getI 6 0 q_nh), (6, gz_s3P 9 m_in), (9, gz_zret)]
set_option maxRecDepth 100000 in
set_option maxHeartbeats 4000000 in
theorem m_isHold_d {Kr : Option Int32 → q_S → Prop} (u : q_S) (v1 : Int32) (hp : m_isHold_p u v1) (hk : Kr (some (m_isHold u v1)) u) : gz_does m_isHold_t Kr [(0, gz_r 0), (1, gz_i v1)] u := by
  intro Z hZ
  refine hZ.1 [] 500 0 _ _ _ ?_
  unfold m_isHold_p at hp
  have n1 := hp
  refine And.intro n1 ?_
  rw [show m_isHold u v1 = (m_in v1 1 (q_nh u)) from rfl] at hk
  exact hk
-- HoldQueueModel.isWaiting(I)Z
def m_isWaiting (u : q_S) (v1 : Int32) : Int32 := (if (m_isHold u v1) = 0 then 0 else (if (q_hs u (Int32.toNatClampNeg v1)) = 0 then 1 else 0))
def m_isWaiting_p (u : q_S) (v1 : Int32) : Prop := (m_isHold_p u v1 ∧ (((m_isHold u v1) = 0 → True) ∧ (¬ (m_isHold u v1) = 0 → (vp_in v1 121))))
def m_isWaiting_t : List (Nat × gz_T q_S) := [(0, gz_lda 1 0), (1, gz_ldi 2 1), (2, gz_c1P 5 0 m_isHold_p m_isHold), (5, gz_if 8 21 (fun x => x = 0) (fun x => ¬ x = 0)), (8, gz_lda 9 0), (9, gz_getR 12 0 12), (12, gz_ldi 13 1), (13, gz_ild 14 m_ai), (14, gz_if 17 21 (fun x => ¬ x = 0) (fun x => x = 0)), (17, gz_push 18 (gz_i 1)), (18, gz_goto 22), (21, gz_push 22 (gz_i 0)), (22, gz_zret)]
set_option maxRecDepth 100000 in
set_option maxHeartbeats 4000000 in
theorem m_isWaiting_d {Kr : Option Int32 → q_S → Prop} (u : q_S) (v1 : Int32) (hp : m_isWaiting_p u v1) (hk : Kr (some (m_isWaiting u v1)) u) : gz_does m_isWaiting_t Kr [(0, gz_r 0), (1, gz_i v1)] u := by
  intro Z hZ
  refine hZ.1 [] 500 0 _ _ _ ?_
  unfold m_isWaiting_p at hp
  have n1 := hp.1
  refine And.intro n1 ?_
  have hp := hp.2
  refine And.intro (fun (h2 : (m_isHold u v1) = 0) => ?_) (fun (h2 : ¬ (m_isHold u v1) = 0) => ?_)
  · refine And.intro (by decide +kernel) ?_
    rw [show m_isWaiting u v1 = 0 from (by unfold m_isWaiting; rw [if_pos h2])] at hk
    exact hk
  · have hp := hp.2 h2
    have n3 := hp
    refine And.intro n3 ?_
    refine And.intro (fun (h4 : ¬ (q_hs u (Int32.toNatClampNeg v1)) = 0) => ?_) (fun (h4 : (q_hs u (Int32.toNatClampNeg v1)) = 0) => ?_)
    · refine And.intro (by decide +kernel) ?_
      rw [show m_isWaiting u v1 = 0 from (by unfold m_isWaiting; rw [if_neg h2, if_neg h4])] at hk
      exact hk
    · refine And.intro (by decide +kernel) ?_
      rw [show m_isWaiting u v1 = 1 from (by unfold m_isWaiting; rw [if_neg h2, if_pos h4])] at hk
      exact hk
-- HoldQueueModel.suspend(IJ)I
def m_suspend (u : q_S) (v1 : Int32) (v2 : Int64) : Int32 × q_S := (if (m_isWaiting (q_th_s u 0) v1) = 0 then (0, (q_th_s u 0)) else (1, (q_hu_u (q_th_s u 0) v1 v2)))
def m_suspend_r (u : q_S) (v1 : Int32) (v2 : Int64) : Int32 := (m_suspend u v1 v2).1
def m_suspend_s (u : q_S) (v1 : Int32) (v2 : Int64) : q_S := (m_suspend u v1 v2).2
def m_suspend_p (u : q_S) (v1 : Int32) (v2 : Int64) : Prop := (m_isWaiting_p (q_th_s u 0) v1 ∧ (((m_isWaiting (q_th_s u 0) v1) = 0 → True) ∧ (¬ (m_isWaiting (q_th_s u 0) v1) = 0 → (vp_in v1 121))))
def m_suspend_t : List (Nat × gz_T q_S) := [(0, gz_lda 1 0), (1, gz_push 2 (gz_i 0)), (2, gz_putI 5 0 q_th_s), (5, gz_lda 6 0), (6, gz_ldi 7 1), (7, gz_c1P 10 0 m_isWaiting_p m_isWaiting), (10, gz_if 13 15 (fun x => ¬ x = 0) (fun x => x = 0)), (13, gz_push 14 (gz_i 0)), (14, gz_iret), (15, gz_lda 16 0), (16, gz_getR 19 0 14), (19, gz_ldi 20 1), (20, gz_ldl 21 2), (21, gz_lst 22 m_al), (22, gz_push 23 (gz_i 1)), (23, gz_iret)]
set_option maxRecDepth 100000 in
set_option maxHeartbeats 4000000 in
theorem m_suspend_d {Kr : Option Int32 → q_S → Prop} (u : q_S) (v1 : Int32) (v2 : Int64) (hp : m_suspend_p u v1 v2) (hk : Kr (some ((m_suspend u v1 v2)).1) ((m_suspend u v1 v2)).2) : gz_does m_suspend_t Kr [(0, gz_r 0), (1, gz_i v1), (2, gz_l v2)] u := by
  intro Z hZ
  refine hZ.1 [] 500 0 _ _ _ ?_
  unfold m_suspend_p at hp
  have n1 := hp.1
  refine And.intro n1 ?_
  have hp := hp.2
  refine And.intro (fun (h2 : ¬ (m_isWaiting (q_th_s u 0) v1) = 0) => ?_) (fun (h2 : (m_isWaiting (q_th_s u 0) v1) = 0) => ?_)
  · have hp := hp.2 h2
    have n3 := hp
    refine And.intro n3 ?_
    rw [show m_suspend u v1 v2 = (1, (q_hu_u (q_th_s u 0) v1 v2)) from (by unfold m_suspend; rw [if_neg h2])] at hk
    exact hk
  · rw [show m_suspend u v1 v2 = (0, (q_th_s u 0)) from (by unfold m_suspend; rw [if_pos h2])] at hk
    exact hk
-- HoldQueueModel.isCopy(II)Z
def m_isCopy (u : q_S) (v1 : Int32) (v2 : Int32) : Int32 := (if (m_in v1 1 (q_nc u)) = 0 then 0 else (if (q_cs u (Int32.toNatClampNeg v1)) = v2 then 1 else 0))
def m_isCopy_p (u : q_S) (v1 : Int32) (v2 : Int32) : Prop := (((m_in v1 1 (q_nc u)) = 0 → True) ∧ (¬ (m_in v1 1 (q_nc u)) = 0 → (vp_in v1 61)))
def m_isCopy_t : List (Nat × gz_T q_S) := [(0, gz_ldi 1 1), (1, gz_push 2 (gz_i 1)), (2, gz_lda 3 0), (3, gz_getI 6 0 q_nc), (6, gz_s3P 9 m_in), (9, gz_if 12 26 (fun x => x = 0) (fun x => ¬ x = 0)), (12, gz_lda 13 0), (13, gz_getR 16 0 5), (16, gz_ldi 17 1), (17, gz_ild 18 m_ai), (18, gz_ldi 19 2), (19, gz_if2 22 26 (fun x y => ¬ x = y) (fun x y => x = y)), (22, gz_push 23 (gz_i 1)), (23, gz_goto 27), (26, gz_push 27 (gz_i 0)), (27, gz_zret)]
set_option maxRecDepth 100000 in
set_option maxHeartbeats 4000000 in
theorem m_isCopy_d {Kr : Option Int32 → q_S → Prop} (u : q_S) (v1 : Int32) (v2 : Int32) (hp : m_isCopy_p u v1 v2) (hk : Kr (some (m_isCopy u v1 v2)) u) : gz_does m_isCopy_t Kr [(0, gz_r 0), (1, gz_i v1), (2, gz_i v2)] u := by
  intro Z hZ
  refine hZ.1 [] 500 0 _ _ _ ?_
  unfold m_isCopy_p at hp
  refine And.intro (fun (h1 : (m_in v1 1 (q_nc u)) = 0) => ?_) (fun (h1 : ¬ (m_in v1 1 (q_nc u)) = 0) => ?_)
  · refine And.intro (by decide +kernel) ?_
    rw [show m_isCopy u v1 v2 = 0 from (by unfold m_isCopy; rw [if_pos h1])] at hk
    exact hk
  · have hp := hp.2 h1
    have n2 := hp
    refine And.intro n2 ?_
    refine And.intro (fun (h3 : ¬ (q_cs u (Int32.toNatClampNeg v1)) = v2) => ?_) (fun (h3 : (q_cs u (Int32.toNatClampNeg v1)) = v2) => ?_)
    · refine And.intro (by decide +kernel) ?_
      rw [show m_isCopy u v1 v2 = 0 from (by unfold m_isCopy; rw [if_neg h1, if_neg h3])] at hk
      exact hk
    · refine And.intro (by decide +kernel) ?_
      rw [show m_isCopy u v1 v2 = 1 from (by unfold m_isCopy; rw [if_neg h1, if_pos h3])] at hk
      exact hk
-- HoldQueueModel.back(II)I
def m_back (u : q_S) (v1 : Int32) (v2 : Int32) : Int32 × q_S := (if (m_isCopy (q_th_s u 0) v1 1) = 0 then ((-1), (q_th_s u 0)) else (if (m_in v2 0 5) = 0 then ((-1), (q_th_s u 0)) else ((m_goes_r (q_cp_u (q_th_s u 0) v1 v2) v1), (m_goes_s (q_cp_u (q_th_s u 0) v1 v2) v1))))
def m_back_r (u : q_S) (v1 : Int32) (v2 : Int32) : Int32 := (m_back u v1 v2).1
def m_back_s (u : q_S) (v1 : Int32) (v2 : Int32) : q_S := (m_back u v1 v2).2
def m_back_p (u : q_S) (v1 : Int32) (v2 : Int32) : Prop := (m_isCopy_p (q_th_s u 0) v1 1 ∧ (((m_isCopy (q_th_s u 0) v1 1) = 0 → True) ∧ (¬ (m_isCopy (q_th_s u 0) v1 1) = 0 → (((m_in v2 0 5) = 0 → True) ∧ (¬ (m_in v2 0 5) = 0 → (vp_in v1 61 ∧ (m_goes_p (q_cp_u (q_th_s u 0) v1 v2) v1)))))))
def m_back_t : List (Nat × gz_T q_S) := [(0, gz_lda 1 0), (1, gz_push 2 (gz_i 0)), (2, gz_putI 5 0 q_th_s), (5, gz_lda 6 0), (6, gz_ldi 7 1), (7, gz_push 8 (gz_i 1)), (8, gz_c2P 11 0 m_isCopy_p m_isCopy), (11, gz_if 14 23 (fun x => x = 0) (fun x => ¬ x = 0)), (14, gz_ldi 15 2), (15, gz_push 16 (gz_i 0)), (16, gz_push 17 (gz_i 5)), (17, gz_s3P 20 m_in), (20, gz_if 23 25 (fun x => ¬ x = 0) (fun x => x = 0)), (23, gz_push 24 (gz_i (-1))), (24, gz_iret), (25, gz_lda 26 0), (26, gz_getR 29 0 6), (29, gz_ldi 30 1), (30, gz_ldi 31 2), (31, gz_ist 32 m_ai), (32, gz_lda 33 0), (33, gz_ldi 34 1), (34, gz_c1I 37 0 m_goes_p m_goes_r m_goes_s), (37, gz_iret)]
set_option maxRecDepth 100000 in
set_option maxHeartbeats 4000000 in
theorem m_back_d {Kr : Option Int32 → q_S → Prop} (u : q_S) (v1 : Int32) (v2 : Int32) (hp : m_back_p u v1 v2) (hk : Kr (some ((m_back u v1 v2)).1) ((m_back u v1 v2)).2) : gz_does m_back_t Kr [(0, gz_r 0), (1, gz_i v1), (2, gz_i v2)] u := by
  intro Z hZ
  refine hZ.1 [] 500 0 _ _ _ ?_
  unfold m_back_p at hp
  have n1 := hp.1
  refine And.intro n1 ?_
  have hp := hp.2
  refine And.intro (fun (h2 : (m_isCopy (q_th_s u 0) v1 1) = 0) => ?_) (fun (h2 : ¬ (m_isCopy (q_th_s u 0) v1 1) = 0) => ?_)
  · rw [show m_back u v1 v2 = ((-1), (q_th_s u 0)) from (by unfold m_back; rw [if_pos h2])] at hk
    exact hk
  · have hp := hp.2 h2
    refine And.intro (fun (h3 : ¬ (m_in v2 0 5) = 0) => ?_) (fun (h3 : (m_in v2 0 5) = 0) => ?_)
    · have hp := hp.2 h3
      have n4 := hp.1
      refine And.intro n4 ?_
      have hp := hp.2
      have n5 := hp
      refine And.intro n5 ?_
      rw [show m_back u v1 v2 = ((m_goes_r (q_cp_u (q_th_s u 0) v1 v2) v1), (m_goes_s (q_cp_u (q_th_s u 0) v1 v2) v1)) from (by unfold m_back; rw [if_neg h2, if_neg h3])] at hk
      exact hk
    · rw [show m_back u v1 v2 = ((-1), (q_th_s u 0)) from (by unfold m_back; rw [if_neg h2, if_pos h3])] at hk
      exact hk
-- HoldQueueModel.arrive(I)I
def m_arrive (u : q_S) (v1 : Int32) : Int32 × q_S := (if (m_isCopy (q_th_s u 0) v1 2) = 0 then ((-1), (q_th_s u 0)) else (if (q_ch u (Int32.toNatClampNeg v1)) ≤ 0 then (0, (m_goes_s (q_th_s u 0) v1)) else (1, (m_lies (q_th_s u 0) v1 (q_ch u (Int32.toNatClampNeg v1))))))
def m_arrive_r (u : q_S) (v1 : Int32) : Int32 := (m_arrive u v1).1
def m_arrive_s (u : q_S) (v1 : Int32) : q_S := (m_arrive u v1).2
def m_arrive_p (u : q_S) (v1 : Int32) : Prop := (m_isCopy_p (q_th_s u 0) v1 2 ∧ (((m_isCopy (q_th_s u 0) v1 2) = 0 → True) ∧ (¬ (m_isCopy (q_th_s u 0) v1 2) = 0 → (vp_in v1 61 ∧ (((q_ch u (Int32.toNatClampNeg v1)) ≤ 0 → (m_goes_p (q_th_s u 0) v1)) ∧ (¬ (q_ch u (Int32.toNatClampNeg v1)) ≤ 0 → (m_lies_p (q_th_s u 0) v1 (q_ch u (Int32.toNatClampNeg v1)))))))))
def m_arrive_t : List (Nat × gz_T q_S) := [(0, gz_lda 1 0), (1, gz_push 2 (gz_i 0)), (2, gz_putI 5 0 q_th_s), (5, gz_lda 6 0), (6, gz_ldi 7 1), (7, gz_push 8 (gz_i 2)), (8, gz_c2P 11 0 m_isCopy_p m_isCopy), (11, gz_if 14 16 (fun x => ¬ x = 0) (fun x => x = 0)), (14, gz_push 15 (gz_i (-1))), (15, gz_iret), (16, gz_lda 17 0), (17, gz_getR 20 0 7), (20, gz_ldi 21 1), (21, gz_ild 22 m_ai), (22, gz_stor 23 2), (23, gz_ldi 24 2), (24, gz_if 27 35 (fun x => x ≤ 0) (fun x => ¬ x ≤ 0)), (27, gz_lda 28 0), (28, gz_ldi 29 1), (29, gz_ldi 30 2), (30, gz_c2V 33 0 m_lies_p m_lies), (33, gz_push 34 (gz_i 1)), (34, gz_iret), (35, gz_lda 36 0), (36, gz_ldi 37 1), (37, gz_c1I 40 0 m_goes_p m_goes_r m_goes_s), (40, gz_pop 41), (41, gz_push 42 (gz_i 0)), (42, gz_iret)]
set_option maxRecDepth 100000 in
set_option maxHeartbeats 4000000 in
theorem m_arrive_d {Kr : Option Int32 → q_S → Prop} (u : q_S) (v1 : Int32) (hp : m_arrive_p u v1) (hk : Kr (some ((m_arrive u v1)).1) ((m_arrive u v1)).2) : gz_does m_arrive_t Kr [(0, gz_r 0), (1, gz_i v1)] u := by
  intro Z hZ
  refine hZ.1 [] 500 0 _ _ _ ?_
  unfold m_arrive_p at hp
  have n1 := hp.1
  refine And.intro n1 ?_
  have hp := hp.2
  refine And.intro (fun (h2 : ¬ (m_isCopy (q_th_s u 0) v1 2) = 0) => ?_) (fun (h2 : (m_isCopy (q_th_s u 0) v1 2) = 0) => ?_)
  · have hp := hp.2 h2
    have n3 := hp.1
    refine And.intro n3 ?_
    have hp := hp.2
    refine And.intro (fun (h4 : (q_ch u (Int32.toNatClampNeg v1)) ≤ 0) => ?_) (fun (h4 : ¬ (q_ch u (Int32.toNatClampNeg v1)) ≤ 0) => ?_)
    · have hp := hp.1 h4
      have n5 := hp
      refine And.intro n5 ?_
      rw [show m_arrive u v1 = (0, (m_goes_s (q_th_s u 0) v1)) from (by unfold m_arrive; rw [if_neg h2, if_pos h4])] at hk
      exact hk
    · have hp := hp.2 h4
      have n6 := hp
      refine And.intro n6 ?_
      rw [show m_arrive u v1 = (1, (m_lies (q_th_s u 0) v1 (q_ch u (Int32.toNatClampNeg v1)))) from (by unfold m_arrive; rw [if_neg h2, if_neg h4])] at hk
      exact hk
  · rw [show m_arrive u v1 = ((-1), (q_th_s u 0)) from (by unfold m_arrive; rw [if_pos h2])] at hk
    exact hk
-- HoldQueueModel.pick(I)I
def m_pick (u : q_S) (v1 : Int32) : Int32 × q_S := (if (m_isHold (q_th_s u 0) v1) = 0 then (0, (q_th_s u 0)) else (if (q_hs u (Int32.toNatClampNeg v1)) = 2 then ((q_hy u (Int32.toNatClampNeg v1)), (q_ch_u (q_cs_u (q_hy_u (q_hs_u (q_th_s u 0) v1 3) v1 0) (q_hy u (Int32.toNatClampNeg v1)) 1) (q_hy u (Int32.toNatClampNeg v1)) 0)) else (0, (q_th_s u 0))))
def m_pick_r (u : q_S) (v1 : Int32) : Int32 := (m_pick u v1).1
def m_pick_s (u : q_S) (v1 : Int32) : q_S := (m_pick u v1).2
def m_pick_p (u : q_S) (v1 : Int32) : Prop := (m_isHold_p (q_th_s u 0) v1 ∧ (((m_isHold (q_th_s u 0) v1) = 0 → True) ∧ (¬ (m_isHold (q_th_s u 0) v1) = 0 → (vp_in v1 121 ∧ (((q_hs u (Int32.toNatClampNeg v1)) = 2 → (vp_in (q_hy u (Int32.toNatClampNeg v1)) 61)) ∧ (¬ (q_hs u (Int32.toNatClampNeg v1)) = 2 → True))))))
def m_pick_t : List (Nat × gz_T q_S) := [(0, gz_lda 1 0), (1, gz_push 2 (gz_i 0)), (2, gz_putI 5 0 q_th_s), (5, gz_lda 6 0), (6, gz_ldi 7 1), (7, gz_c1P 10 0 m_isHold_p m_isHold), (10, gz_if 13 23 (fun x => x = 0) (fun x => ¬ x = 0)), (13, gz_lda 14 0), (14, gz_getR 17 0 12), (17, gz_ldi 18 1), (18, gz_ild 19 m_ai), (19, gz_push 20 (gz_i 2)), (20, gz_if2 23 25 (fun x y => x = y) (fun x y => ¬ x = y)), (23, gz_push 24 (gz_i 0)), (24, gz_iret), (25, gz_lda 26 0), (26, gz_getR 29 0 13), (29, gz_ldi 30 1), (30, gz_ild 31 m_ai), (31, gz_stor 32 2), (32, gz_lda 33 0), (33, gz_getR 36 0 12), (36, gz_ldi 37 1), (37, gz_push 38 (gz_i 3)), (38, gz_ist 39 m_ai), (39, gz_lda 40 0), (40, gz_getR 43 0 13), (43, gz_ldi 44 1), (44, gz_push 45 (gz_i 0)), (45, gz_ist 46 m_ai), (46, gz_lda 47 0), (47, gz_getR 50 0 5), (50, gz_ldi 51 2), (51, gz_push 52 (gz_i 1)), (52, gz_ist 53 m_ai), (53, gz_lda 54 0), (54, gz_getR 57 0 7), (57, gz_ldi 58 2), (58, gz_push 59 (gz_i 0)), (59, gz_ist 60 m_ai), (60, gz_ldi 61 2), (61, gz_iret)]
set_option maxRecDepth 100000 in
set_option maxHeartbeats 4000000 in
theorem m_pick_d {Kr : Option Int32 → q_S → Prop} (u : q_S) (v1 : Int32) (hp : m_pick_p u v1) (hk : Kr (some ((m_pick u v1)).1) ((m_pick u v1)).2) : gz_does m_pick_t Kr [(0, gz_r 0), (1, gz_i v1)] u := by
  intro Z hZ
  refine hZ.1 [] 500 0 _ _ _ ?_
  unfold m_pick_p at hp
  have n1 := hp.1
  refine And.intro n1 ?_
  have hp := hp.2
  refine And.intro (fun (h2 : (m_isHold (q_th_s u 0) v1) = 0) => ?_) (fun (h2 : ¬ (m_isHold (q_th_s u 0) v1) = 0) => ?_)
  · rw [show m_pick u v1 = (0, (q_th_s u 0)) from (by unfold m_pick; rw [if_pos h2])] at hk
    exact hk
  · have hp := hp.2 h2
    have n3 := hp.1
    refine And.intro n3 ?_
    have hp := hp.2
    refine And.intro (fun (h4 : (q_hs u (Int32.toNatClampNeg v1)) = 2) => ?_) (fun (h4 : ¬ (q_hs u (Int32.toNatClampNeg v1)) = 2) => ?_)
    · have hp := hp.1 h4
      refine And.intro n3 ?_
      refine And.intro n3 ?_
      refine And.intro n3 ?_
      have n5 := hp
      refine And.intro n5 ?_
      refine And.intro n5 ?_
      rw [show m_pick u v1 = ((q_hy u (Int32.toNatClampNeg v1)), (q_ch_u (q_cs_u (q_hy_u (q_hs_u (q_th_s u 0) v1 3) v1 0) (q_hy u (Int32.toNatClampNeg v1)) 1) (q_hy u (Int32.toNatClampNeg v1)) 0)) from (by unfold m_pick; rw [if_neg h2, if_pos h4])] at hk
      exact hk
    · rw [show m_pick u v1 = (0, (q_th_s u 0)) from (by unfold m_pick; rw [if_neg h2, if_neg h4])] at hk
      exact hk
-- HoldQueueModel.lend(I)I
def m_lend (u : q_S) (v1 : Int32) : Int32 × q_S := (if (m_isCopy (q_th_s u 0) v1 0) = 0 then (0, (q_th_s u 0)) else (1, (q_cs_u (q_th_s u 0) v1 1)))
def m_lend_r (u : q_S) (v1 : Int32) : Int32 := (m_lend u v1).1
def m_lend_s (u : q_S) (v1 : Int32) : q_S := (m_lend u v1).2
def m_lend_p (u : q_S) (v1 : Int32) : Prop := (m_isCopy_p (q_th_s u 0) v1 0 ∧ (((m_isCopy (q_th_s u 0) v1 0) = 0 → True) ∧ (¬ (m_isCopy (q_th_s u 0) v1 0) = 0 → (vp_in v1 61))))
def m_lend_t : List (Nat × gz_T q_S) := [(0, gz_lda 1 0), (1, gz_push 2 (gz_i 0)), (2, gz_putI 5 0 q_th_s), (5, gz_lda 6 0), (6, gz_ldi 7 1), (7, gz_push 8 (gz_i 0)), (8, gz_c2P 11 0 m_isCopy_p m_isCopy), (11, gz_if 14 16 (fun x => ¬ x = 0) (fun x => x = 0)), (14, gz_push 15 (gz_i 0)), (15, gz_iret), (16, gz_lda 17 0), (17, gz_getR 20 0 5), (20, gz_ldi 21 1), (21, gz_push 22 (gz_i 1)), (22, gz_ist 23 m_ai), (23, gz_push 24 (gz_i 1)), (24, gz_iret)]
set_option maxRecDepth 100000 in
set_option maxHeartbeats 4000000 in
theorem m_lend_d {Kr : Option Int32 → q_S → Prop} (u : q_S) (v1 : Int32) (hp : m_lend_p u v1) (hk : Kr (some ((m_lend u v1)).1) ((m_lend u v1)).2) : gz_does m_lend_t Kr [(0, gz_r 0), (1, gz_i v1)] u := by
  intro Z hZ
  refine hZ.1 [] 500 0 _ _ _ ?_
  unfold m_lend_p at hp
  have n1 := hp.1
  refine And.intro n1 ?_
  have hp := hp.2
  refine And.intro (fun (h2 : ¬ (m_isCopy (q_th_s u 0) v1 0) = 0) => ?_) (fun (h2 : (m_isCopy (q_th_s u 0) v1 0) = 0) => ?_)
  · have hp := hp.2 h2
    have n3 := hp
    refine And.intro n3 ?_
    rw [show m_lend u v1 = (1, (q_cs_u (q_th_s u 0) v1 1)) from (by unfold m_lend; rw [if_neg h2])] at hk
    exact hk
  · rw [show m_lend u v1 = (0, (q_th_s u 0)) from (by unfold m_lend; rw [if_pos h2])] at hk
    exact hk
-- HoldQueueModel.ends(II)V
def m_ends (u : q_S) (v1 : Int32) (v2 : Int32) : q_S := (if (q_hs u (Int32.toNatClampNeg v1)) = 2 then (if (q_hy u (Int32.toNatClampNeg v1)) ≤ 0 then (m_goes_s (q_hy_u (q_hs_u u v1 v2) v1 0) (q_hy u (Int32.toNatClampNeg v1))) else (m_goes_s (q_ch_u (q_hy_u (q_hs_u u v1 v2) v1 0) (q_hy u (Int32.toNatClampNeg v1)) 0) (q_hy u (Int32.toNatClampNeg v1)))) else (if (q_hy u (Int32.toNatClampNeg v1)) ≤ 0 then (q_hy_u (q_hs_u u v1 v2) v1 0) else (q_ch_u (q_hy_u (q_hs_u u v1 v2) v1 0) (q_hy u (Int32.toNatClampNeg v1)) 0)))
def m_ends_p (u : q_S) (v1 : Int32) (v2 : Int32) : Prop := (vp_in v1 121 ∧ (((q_hs u (Int32.toNatClampNeg v1)) = 2 → (((q_hy u (Int32.toNatClampNeg v1)) ≤ 0 → (m_goes_p (q_hy_u (q_hs_u u v1 v2) v1 0) (q_hy u (Int32.toNatClampNeg v1)))) ∧ (¬ (q_hy u (Int32.toNatClampNeg v1)) ≤ 0 → (vp_in (q_hy u (Int32.toNatClampNeg v1)) 61 ∧ (m_goes_p (q_ch_u (q_hy_u (q_hs_u u v1 v2) v1 0) (q_hy u (Int32.toNatClampNeg v1)) 0) (q_hy u (Int32.toNatClampNeg v1))))))) ∧ (¬ (q_hs u (Int32.toNatClampNeg v1)) = 2 → (((q_hy u (Int32.toNatClampNeg v1)) ≤ 0 → True) ∧ (¬ (q_hy u (Int32.toNatClampNeg v1)) ≤ 0 → (vp_in (q_hy u (Int32.toNatClampNeg v1)) 61))))))
def m_ends_t : List (Nat × gz_T q_S) := [(0, gz_lda 1 0), (1, gz_getR 4 0 13), (4, gz_ldi 5 1), (5, gz_ild 6 m_ai), (6, gz_stor 7 3), (7, gz_lda 8 0), (8, gz_getR 11 0 12), (11, gz_ldi 12 1), (12, gz_ild 13 m_ai), (13, gz_push 14 (gz_i 2)), (14, gz_if2 17 21 (fun x y => ¬ x = y) (fun x y => x = y)), (17, gz_push 18 (gz_i 1)), (18, gz_goto 22), (21, gz_push 22 (gz_i 0)), (22, gz_stor 24 4), (24, gz_lda 25 0), (25, gz_getR 28 0 12), (28, gz_ldi 29 1), (29, gz_ldi 30 2), (30, gz_ist 31 m_ai), (31, gz_lda 32 0), (32, gz_getR 35 0 13), (35, gz_ldi 36 1), (36, gz_push 37 (gz_i 0)), (37, gz_ist 38 m_ai), (38, gz_ldi 39 3), (39, gz_if 42 49 (fun x => x ≤ 0) (fun x => ¬ x ≤ 0)), (42, gz_lda 43 0), (43, gz_getR 46 0 7), (46, gz_ldi 47 3), (47, gz_push 48 (gz_i 0)), (48, gz_ist 49 m_ai), (49, gz_ldi 51 4), (51, gz_if 54 60 (fun x => x = 0) (fun x => ¬ x = 0)), (54, gz_lda 55 0), (55, gz_ldi 56 3), (56, gz_c1I 59 0 m_goes_p m_goes_r m_goes_s), (59, gz_pop 60), (60, gz_vret)]
set_option maxRecDepth 100000 in
set_option maxHeartbeats 4000000 in
theorem m_ends_d {Kr : Option Int32 → q_S → Prop} (u : q_S) (v1 : Int32) (v2 : Int32) (hp : m_ends_p u v1 v2) (hk : Kr none (m_ends u v1 v2)) : gz_does m_ends_t Kr [(0, gz_r 0), (1, gz_i v1), (2, gz_i v2)] u := by
  intro Z hZ
  refine hZ.1 [] 500 0 _ _ _ ?_
  unfold m_ends_p at hp
  have n1 := hp.1
  refine And.intro n1 ?_
  have hp := hp.2
  refine And.intro n1 ?_
  refine And.intro (fun (h2 : ¬ (q_hs u (Int32.toNatClampNeg v1)) = 2) => ?_) (fun (h2 : (q_hs u (Int32.toNatClampNeg v1)) = 2) => ?_)
  · have hp := hp.2 h2
    refine And.intro n1 ?_
    refine And.intro n1 ?_
    refine And.intro (fun (h3 : (q_hy u (Int32.toNatClampNeg v1)) ≤ 0) => ?_) (fun (h3 : ¬ (q_hy u (Int32.toNatClampNeg v1)) ≤ 0) => ?_)
    · refine And.intro (fun _ => ?_) (fun (h : ¬ (0 : Int32) = 0) => absurd h (by decide +kernel))
      rw [show m_ends u v1 v2 = (q_hy_u (q_hs_u u v1 v2) v1 0) from (by unfold m_ends; rw [if_neg h2, if_pos h3])] at hk
      exact hk
    · have hp := hp.2 h3
      have n4 := hp
      refine And.intro n4 ?_
      refine And.intro (fun _ => ?_) (fun (h : ¬ (0 : Int32) = 0) => absurd h (by decide +kernel))
      rw [show m_ends u v1 v2 = (q_ch_u (q_hy_u (q_hs_u u v1 v2) v1 0) (q_hy u (Int32.toNatClampNeg v1)) 0) from (by unfold m_ends; rw [if_neg h2, if_neg h3])] at hk
      exact hk
  · have hp := hp.1 h2
    refine And.intro n1 ?_
    refine And.intro n1 ?_
    refine And.intro (fun (h5 : (q_hy u (Int32.toNatClampNeg v1)) ≤ 0) => ?_) (fun (h5 : ¬ (q_hy u (Int32.toNatClampNeg v1)) ≤ 0) => ?_)
    · have hp := hp.1 h5
      refine And.intro (fun (h : (1 : Int32) = 0) => absurd h (by decide +kernel)) (fun _ => ?_)
      have n6 := hp
      refine And.intro n6 ?_
      rw [show m_ends u v1 v2 = (m_goes_s (q_hy_u (q_hs_u u v1 v2) v1 0) (q_hy u (Int32.toNatClampNeg v1))) from (by unfold m_ends; rw [if_pos h2, if_pos h5])] at hk
      exact hk
    · have hp := hp.2 h5
      have n7 := hp.1
      refine And.intro n7 ?_
      have hp := hp.2
      refine And.intro (fun (h : (1 : Int32) = 0) => absurd h (by decide +kernel)) (fun _ => ?_)
      have n8 := hp
      refine And.intro n8 ?_
      rw [show m_ends u v1 v2 = (m_goes_s (q_ch_u (q_hy_u (q_hs_u u v1 v2) v1 0) (q_hy u (Int32.toNatClampNeg v1)) 0) (q_hy u (Int32.toNatClampNeg v1))) from (by unfold m_ends; rw [if_pos h2, if_neg h5])] at hk
      exact hk
-- HoldQueueModel.cancel(I)I
def m_cancel (u : q_S) (v1 : Int32) : Int32 × q_S := (if (m_isHold (q_th_s u 0) v1) = 0 then (0, (q_th_s u 0)) else (if (m_isOpen (q_th_s u 0) v1) = 0 then (0, (q_th_s u 0)) else (1, (m_ends (q_th_s u 0) v1 5))))
def m_cancel_r (u : q_S) (v1 : Int32) : Int32 := (m_cancel u v1).1
def m_cancel_s (u : q_S) (v1 : Int32) : q_S := (m_cancel u v1).2
def m_cancel_p (u : q_S) (v1 : Int32) : Prop := (m_isHold_p (q_th_s u 0) v1 ∧ (((m_isHold (q_th_s u 0) v1) = 0 → True) ∧ (¬ (m_isHold (q_th_s u 0) v1) = 0 → (m_isOpen_p (q_th_s u 0) v1 ∧ (((m_isOpen (q_th_s u 0) v1) = 0 → True) ∧ (¬ (m_isOpen (q_th_s u 0) v1) = 0 → (m_ends_p (q_th_s u 0) v1 5)))))))
def m_cancel_t : List (Nat × gz_T q_S) := [(0, gz_lda 1 0), (1, gz_push 2 (gz_i 0)), (2, gz_putI 5 0 q_th_s), (5, gz_lda 6 0), (6, gz_ldi 7 1), (7, gz_c1P 10 0 m_isHold_p m_isHold), (10, gz_if 13 21 (fun x => x = 0) (fun x => ¬ x = 0)), (13, gz_lda 14 0), (14, gz_ldi 15 1), (15, gz_c1P 18 0 m_isOpen_p m_isOpen), (18, gz_if 21 23 (fun x => ¬ x = 0) (fun x => x = 0)), (21, gz_push 22 (gz_i 0)), (22, gz_iret), (23, gz_lda 24 0), (24, gz_ldi 25 1), (25, gz_push 26 (gz_i 5)), (26, gz_c2V 29 0 m_ends_p m_ends), (29, gz_push 30 (gz_i 1)), (30, gz_iret)]
set_option maxRecDepth 100000 in
set_option maxHeartbeats 4000000 in
theorem m_cancel_d {Kr : Option Int32 → q_S → Prop} (u : q_S) (v1 : Int32) (hp : m_cancel_p u v1) (hk : Kr (some ((m_cancel u v1)).1) ((m_cancel u v1)).2) : gz_does m_cancel_t Kr [(0, gz_r 0), (1, gz_i v1)] u := by
  intro Z hZ
  refine hZ.1 [] 500 0 _ _ _ ?_
  unfold m_cancel_p at hp
  have n1 := hp.1
  refine And.intro n1 ?_
  have hp := hp.2
  refine And.intro (fun (h2 : (m_isHold (q_th_s u 0) v1) = 0) => ?_) (fun (h2 : ¬ (m_isHold (q_th_s u 0) v1) = 0) => ?_)
  · rw [show m_cancel u v1 = (0, (q_th_s u 0)) from (by unfold m_cancel; rw [if_pos h2])] at hk
    exact hk
  · have hp := hp.2 h2
    have n3 := hp.1
    refine And.intro n3 ?_
    have hp := hp.2
    refine And.intro (fun (h4 : ¬ (m_isOpen (q_th_s u 0) v1) = 0) => ?_) (fun (h4 : (m_isOpen (q_th_s u 0) v1) = 0) => ?_)
    · have hp := hp.2 h4
      have n5 := hp
      refine And.intro n5 ?_
      rw [show m_cancel u v1 = (1, (m_ends (q_th_s u 0) v1 5)) from (by unfold m_cancel; rw [if_neg h2, if_neg h4])] at hk
      exact hk
    · rw [show m_cancel u v1 = (0, (q_th_s u 0)) from (by unfold m_cancel; rw [if_neg h2, if_pos h4])] at hk
      exact hk
-- HoldQueueModel.tick(J)I
def m_tick_l34_b (rec : Int64 → Int32 → Int32 → q_S → Int32 × q_S) (v1 : Int64) (v3 : Int32) (v4 : Int32) (u : q_S) : Int32 × q_S := (if (q_nh u) < v4 then (v3, u) else (if (q_hs u (Int32.toNatClampNeg v4)) = 2 then (if 0 ≤ (lg_cmp (q_he u (Int32.toNatClampNeg v4)) (q_td u)) then (rec v1 v3 (v4 + 1) u) else (rec v1 (v3 + 1) (v4 + 1) (m_ends u v4 4))) else (rec v1 v3 (v4 + 1) u)))
def m_tick_l34 : Nat → Int64 → Int32 → Int32 → q_S → Int32 × q_S
  | 0, _, _, _, u => (0, u)
  | n + 1, v1, v3, v4, u => m_tick_l34_b (m_tick_l34 n) v1 v3 v4 u
def m_tick_l34_pb (rec : Int64 → Int32 → Int32 → q_S → Prop) (v1 : Int64) (v3 : Int32) (v4 : Int32) (u : q_S) : Prop := (((q_nh u) < v4 → True) ∧ (¬ (q_nh u) < v4 → (vp_in v4 121 ∧ (((q_hs u (Int32.toNatClampNeg v4)) = 2 → ((0 ≤ (lg_cmp (q_he u (Int32.toNatClampNeg v4)) (q_td u)) → (rec v1 v3 (v4 + 1) u)) ∧ (¬ 0 ≤ (lg_cmp (q_he u (Int32.toNatClampNeg v4)) (q_td u)) → (m_ends_p u v4 4 ∧ (rec v1 (v3 + 1) (v4 + 1) (m_ends u v4 4)))))) ∧ (¬ (q_hs u (Int32.toNatClampNeg v4)) = 2 → (rec v1 v3 (v4 + 1) u))))))
def m_tick_l34_p : Nat → Int64 → Int32 → Int32 → q_S → Prop
  | 0, _, _, _, _ => False
  | n + 1, v1, v3, v4, u => m_tick_l34_pb (m_tick_l34_p n) v1 v3 v4 u
def m_tick (u : q_S) (v1 : Int64) : Int32 × q_S := (if (lg_cmp v1 (q_td u)) ≤ 0 then ((-1), (q_th_s u 0)) else (if (lg_cmp v1 1000000000) ≤ 0 then (m_tick_l34 200 v1 0 1 (q_td_s (q_th_s u 0) v1)) else ((-1), (q_th_s u 0))))
def m_tick_r (u : q_S) (v1 : Int64) : Int32 := (m_tick u v1).1
def m_tick_s (u : q_S) (v1 : Int64) : q_S := (m_tick u v1).2
def m_tick_p (u : q_S) (v1 : Int64) : Prop := (((lg_cmp v1 (q_td u)) ≤ 0 → True) ∧ (¬ (lg_cmp v1 (q_td u)) ≤ 0 → (((lg_cmp v1 1000000000) ≤ 0 → (m_tick_l34_p 200 v1 0 1 (q_td_s (q_th_s u 0) v1))) ∧ (¬ (lg_cmp v1 1000000000) ≤ 0 → True))))
def m_tick_t : List (Nat × gz_T q_S) := [(0, gz_lda 1 0), (1, gz_push 2 (gz_i 0)), (2, gz_putI 5 0 q_th_s), (5, gz_ldl 6 1), (6, gz_lda 7 0), (7, gz_getL 10 0 q_td), (10, gz_lcmp 11), (11, gz_if 14 22 (fun x => x ≤ 0) (fun x => ¬ x ≤ 0)), (14, gz_ldl 15 1), (15, gz_push 18 (gz_l 1000000000)), (18, gz_lcmp 19), (19, gz_if 22 24 (fun x => x ≤ 0) (fun x => ¬ x ≤ 0)), (22, gz_push 23 (gz_i (-1))), (23, gz_iret), (24, gz_lda 25 0), (25, gz_ldl 26 1), (26, gz_putL 29 0 q_td_s), (29, gz_push 30 (gz_i 0)), (30, gz_stor 31 3), (31, gz_push 32 (gz_i 1)), (32, gz_stor 34 4), (34, gz_ldi 36 4), (36, gz_lda 37 0), (37, gz_getI 40 0 q_nh), (40, gz_if2 43 85 (fun x y => y < x) (fun x y => ¬ y < x)), (43, gz_lda 44 0), (44, gz_getR 47 0 12), (47, gz_ldi 49 4), (49, gz_ild 50 m_ai), (50, gz_push 51 (gz_i 2)), (51, gz_if2 54 79 (fun x y => ¬ x = y) (fun x y => x = y)), (54, gz_lda 55 0), (55, gz_getR 58 0 15), (58, gz_ldi 60 4), (60, gz_lld 61 m_al), (61, gz_lda 62 0), (62, gz_getL 65 0 q_td), (65, gz_lcmp 66), (66, gz_if 69 79 (fun x => 0 ≤ x) (fun x => ¬ 0 ≤ x)), (69, gz_lda 70 0), (70, gz_ldi 72 4), (72, gz_push 73 (gz_i 4)), (73, gz_c2V 76 0 m_ends_p m_ends), (76, gz_iinc 79 3 1), (79, gz_iinc 82 4 1), (82, gz_goto 34), (85, gz_ldi 86 3), (86, gz_iret)]
set_option maxRecDepth 100000 in
set_option maxHeartbeats 4000000 in
theorem m_tick_l34_d {Kr : Option Int32 → q_S → Prop} {Z : gz_K q_S} (hZ : gz_shut m_tick_t Kr Z) : ∀ (n : Nat) (v1 : Int64) (v3 : Int32) (v4 : Int32) (u : q_S), m_tick_l34_p n v1 v3 v4 u → Kr (some ((m_tick_l34 n v1 v3 v4 u)).1) ((m_tick_l34 n v1 v3 v4 u)).2 → Z 34 [(0, gz_r 0), (1, gz_l v1), (3, gz_i v3), (4, gz_i v4)] [] u := by
  intro n
  induction n with
  | zero => intro v1 v3 v4 u hp _; exact False.elim hp
  | succ n ih =>
  intro v1 v3 v4 u hp hk
  refine hZ.1 [34] 500 34 _ _ _ ?_
  have hp : m_tick_l34_pb (m_tick_l34_p n) v1 v3 v4 u := hp
  refine And.intro (fun (h1 : (q_nh u) < v4) => ?_) (fun (h1 : ¬ (q_nh u) < v4) => ?_)
  · rw [show m_tick_l34 (n + 1) v1 v3 v4 u = (v3, u) from (by unfold m_tick_l34_b; rw [if_pos h1] : m_tick_l34_b (m_tick_l34 n) v1 v3 v4 u = (v3, u))] at hk
    exact hk
  · have hp := hp.2 h1
    have n2 := hp.1
    refine And.intro n2 ?_
    have hp := hp.2
    refine And.intro (fun (h3 : ¬ (q_hs u (Int32.toNatClampNeg v4)) = 2) => ?_) (fun (h3 : (q_hs u (Int32.toNatClampNeg v4)) = 2) => ?_)
    · have hp := hp.2 h3
      rw [show m_tick_l34 (n + 1) v1 v3 v4 u = (m_tick_l34 n v1 v3 (v4 + 1) u) from (by unfold m_tick_l34_b; rw [if_neg h1, if_neg h3] : m_tick_l34_b (m_tick_l34 n) v1 v3 v4 u = (m_tick_l34 n v1 v3 (v4 + 1) u))] at hk
      exact ih v1 v3 (v4 + 1) u hp hk
    · have hp := hp.1 h3
      refine And.intro n2 ?_
      refine And.intro (fun (h4 : 0 ≤ (lg_cmp (q_he u (Int32.toNatClampNeg v4)) (q_td u))) => ?_) (fun (h4 : ¬ 0 ≤ (lg_cmp (q_he u (Int32.toNatClampNeg v4)) (q_td u))) => ?_)
      · have hp := hp.1 h4
        rw [show m_tick_l34 (n + 1) v1 v3 v4 u = (m_tick_l34 n v1 v3 (v4 + 1) u) from (by unfold m_tick_l34_b; rw [if_neg h1, if_pos h3, if_pos h4] : m_tick_l34_b (m_tick_l34 n) v1 v3 v4 u = (m_tick_l34 n v1 v3 (v4 + 1) u))] at hk
        exact ih v1 v3 (v4 + 1) u hp hk
      · have hp := hp.2 h4
        have n5 := hp.1
        refine And.intro n5 ?_
        have hp := hp.2
        rw [show m_tick_l34 (n + 1) v1 v3 v4 u = (m_tick_l34 n v1 (v3 + 1) (v4 + 1) (m_ends u v4 4)) from (by unfold m_tick_l34_b; rw [if_neg h1, if_pos h3, if_neg h4] : m_tick_l34_b (m_tick_l34 n) v1 v3 v4 u = (m_tick_l34 n v1 (v3 + 1) (v4 + 1) (m_ends u v4 4)))] at hk
        exact ih v1 (v3 + 1) (v4 + 1) (m_ends u v4 4) hp hk
set_option maxRecDepth 100000 in
set_option maxHeartbeats 4000000 in
theorem m_tick_d {Kr : Option Int32 → q_S → Prop} (u : q_S) (v1 : Int64) (hp : m_tick_p u v1) (hk : Kr (some ((m_tick u v1)).1) ((m_tick u v1)).2) : gz_does m_tick_t Kr [(0, gz_r 0), (1, gz_l v1)] u := by
  intro Z hZ
  refine hZ.1 [34] 500 0 _ _ _ ?_
  unfold m_tick_p at hp
  refine And.intro (fun (h1 : (lg_cmp v1 (q_td u)) ≤ 0) => ?_) (fun (h1 : ¬ (lg_cmp v1 (q_td u)) ≤ 0) => ?_)
  · rw [show m_tick u v1 = ((-1), (q_th_s u 0)) from (by unfold m_tick; rw [if_pos h1])] at hk
    exact hk
  · have hp := hp.2 h1
    refine And.intro (fun (h2 : (lg_cmp v1 1000000000) ≤ 0) => ?_) (fun (h2 : ¬ (lg_cmp v1 1000000000) ≤ 0) => ?_)
    · have hp := hp.1 h2
      rw [show m_tick u v1 = (m_tick_l34 200 v1 0 1 (q_td_s (q_th_s u 0) v1)) from (by unfold m_tick; rw [if_neg h1, if_pos h2])] at hk
      exact m_tick_l34_d hZ 200 v1 0 1 (q_td_s (q_th_s u 0) v1) hp hk
    · rw [show m_tick u v1 = ((-1), (q_th_s u 0)) from (by unfold m_tick; rw [if_neg h1, if_neg h2])] at hk
      exact hk
-- HoldQueueModel.span(I)I
def m_span (u : q_S) (v1 : Int32) : Int32 × q_S := (if (m_in v1 1 99) = 0 then ((-1), (q_th_s u 0)) else ((q_sp u), (q_sp_s (q_th_s u 0) v1)))
def m_span_r (u : q_S) (v1 : Int32) : Int32 := (m_span u v1).1
def m_span_s (u : q_S) (v1 : Int32) : q_S := (m_span u v1).2
def m_span_p (u : q_S) (v1 : Int32) : Prop := True
def m_span_t : List (Nat × gz_T q_S) := [(0, gz_lda 1 0), (1, gz_push 2 (gz_i 0)), (2, gz_putI 5 0 q_th_s), (5, gz_ldi 6 1), (6, gz_push 7 (gz_i 1)), (7, gz_push 9 (gz_i 99)), (9, gz_s3P 12 m_in), (12, gz_if 15 17 (fun x => ¬ x = 0) (fun x => x = 0)), (15, gz_push 16 (gz_i (-1))), (16, gz_iret), (17, gz_lda 18 0), (18, gz_getI 21 0 q_sp), (21, gz_stor 22 2), (22, gz_lda 23 0), (23, gz_ldi 24 1), (24, gz_putI 27 0 q_sp_s), (27, gz_ldi 28 2), (28, gz_iret)]
set_option maxRecDepth 100000 in
set_option maxHeartbeats 4000000 in
theorem m_span_d {Kr : Option Int32 → q_S → Prop} (u : q_S) (v1 : Int32) (hk : Kr (some ((m_span u v1)).1) ((m_span u v1)).2) : gz_does m_span_t Kr [(0, gz_r 0), (1, gz_i v1)] u := by
  intro Z hZ
  refine hZ.1 [] 500 0 _ _ _ ?_
  refine And.intro (fun (h1 : ¬ (m_in v1 1 99) = 0) => ?_) (fun (h1 : (m_in v1 1 99) = 0) => ?_)
  · rw [show m_span u v1 = ((q_sp u), (q_sp_s (q_th_s u 0) v1)) from (by unfold m_span; rw [if_neg h1])] at hk
    exact hk
  · rw [show m_span u v1 = ((-1), (q_th_s u 0)) from (by unfold m_span; rw [if_pos h1])] at hk
    exact hk
-- HoldQueueModel.rank(II)I
def m_rank (u : q_S) (v1 : Int32) (v2 : Int32) : Int32 × q_S := (if (m_isWaiting (q_th_s u 0) v1) = 0 then ((-1), (q_th_s u 0)) else ((m_placeOf (q_hk_u (q_th_s u 0) v1 v2) v1), (q_hk_u (q_th_s u 0) v1 v2)))
def m_rank_r (u : q_S) (v1 : Int32) (v2 : Int32) : Int32 := (m_rank u v1 v2).1
def m_rank_s (u : q_S) (v1 : Int32) (v2 : Int32) : q_S := (m_rank u v1 v2).2
def m_rank_p (u : q_S) (v1 : Int32) (v2 : Int32) : Prop := (m_isWaiting_p (q_th_s u 0) v1 ∧ (((m_isWaiting (q_th_s u 0) v1) = 0 → True) ∧ (¬ (m_isWaiting (q_th_s u 0) v1) = 0 → (vp_in v1 121 ∧ (m_placeOf_p (q_hk_u (q_th_s u 0) v1 v2) v1)))))
def m_rank_t : List (Nat × gz_T q_S) := [(0, gz_lda 1 0), (1, gz_push 2 (gz_i 0)), (2, gz_putI 5 0 q_th_s), (5, gz_lda 6 0), (6, gz_ldi 7 1), (7, gz_c1P 10 0 m_isWaiting_p m_isWaiting), (10, gz_if 13 15 (fun x => ¬ x = 0) (fun x => x = 0)), (13, gz_push 14 (gz_i (-1))), (14, gz_iret), (15, gz_lda 16 0), (16, gz_getR 19 0 11), (19, gz_ldi 20 1), (20, gz_ldi 21 2), (21, gz_ist 22 m_ai), (22, gz_lda 23 0), (23, gz_ldi 24 1), (24, gz_c1P 27 0 m_placeOf_p m_placeOf), (27, gz_iret)]
set_option maxRecDepth 100000 in
set_option maxHeartbeats 4000000 in
theorem m_rank_d {Kr : Option Int32 → q_S → Prop} (u : q_S) (v1 : Int32) (v2 : Int32) (hp : m_rank_p u v1 v2) (hk : Kr (some ((m_rank u v1 v2)).1) ((m_rank u v1 v2)).2) : gz_does m_rank_t Kr [(0, gz_r 0), (1, gz_i v1), (2, gz_i v2)] u := by
  intro Z hZ
  refine hZ.1 [] 500 0 _ _ _ ?_
  unfold m_rank_p at hp
  have n1 := hp.1
  refine And.intro n1 ?_
  have hp := hp.2
  refine And.intro (fun (h2 : ¬ (m_isWaiting (q_th_s u 0) v1) = 0) => ?_) (fun (h2 : (m_isWaiting (q_th_s u 0) v1) = 0) => ?_)
  · have hp := hp.2 h2
    have n3 := hp.1
    refine And.intro n3 ?_
    have hp := hp.2
    have n4 := hp
    refine And.intro n4 ?_
    rw [show m_rank u v1 v2 = ((m_placeOf (q_hk_u (q_th_s u 0) v1 v2) v1), (q_hk_u (q_th_s u 0) v1 v2)) from (by unfold m_rank; rw [if_neg h2])] at hk
    exact hk
  · rw [show m_rank u v1 v2 = ((-1), (q_th_s u 0)) from (by unfold m_rank; rw [if_pos h2])] at hk
    exact hk
-- HoldQueueModel.order(II)I
def m_order_l7_b (rec : Int32 → Int32 → Int32 → q_S → Int32 × q_S) (v1 : Int32) (v2 : Int32) (v3 : Int32) (u : q_S) : Int32 × q_S := (if (q_nh u) < v3 then (0, u) else (if (q_hs u (Int32.toNatClampNeg v3)) = 0 then (if (q_hr u (Int32.toNatClampNeg v3)) = v1 then (if (m_placeOf u v3) = v2 then (v3, u) else (rec v1 v2 (v3 + 1) u)) else (rec v1 v2 (v3 + 1) u)) else (rec v1 v2 (v3 + 1) u)))
def m_order_l7 : Nat → Int32 → Int32 → Int32 → q_S → Int32 × q_S
  | 0, _, _, _, u => (0, u)
  | n + 1, v1, v2, v3, u => m_order_l7_b (m_order_l7 n) v1 v2 v3 u
def m_order_l7_pb (rec : Int32 → Int32 → Int32 → q_S → Prop) (v1 : Int32) (v2 : Int32) (v3 : Int32) (u : q_S) : Prop := (((q_nh u) < v3 → True) ∧ (¬ (q_nh u) < v3 → (vp_in v3 121 ∧ (((q_hs u (Int32.toNatClampNeg v3)) = 0 → (((q_hr u (Int32.toNatClampNeg v3)) = v1 → (m_placeOf_p u v3 ∧ (((m_placeOf u v3) = v2 → True) ∧ (¬ (m_placeOf u v3) = v2 → (rec v1 v2 (v3 + 1) u))))) ∧ (¬ (q_hr u (Int32.toNatClampNeg v3)) = v1 → (rec v1 v2 (v3 + 1) u)))) ∧ (¬ (q_hs u (Int32.toNatClampNeg v3)) = 0 → (rec v1 v2 (v3 + 1) u))))))
def m_order_l7_p : Nat → Int32 → Int32 → Int32 → q_S → Prop
  | 0, _, _, _, _ => False
  | n + 1, v1, v2, v3, u => m_order_l7_pb (m_order_l7_p n) v1 v2 v3 u
def m_order (u : q_S) (v1 : Int32) (v2 : Int32) : Int32 × q_S := (m_order_l7 200 v1 v2 1 (q_th_s u 0))
def m_order_r (u : q_S) (v1 : Int32) (v2 : Int32) : Int32 := (m_order u v1 v2).1
def m_order_s (u : q_S) (v1 : Int32) (v2 : Int32) : q_S := (m_order u v1 v2).2
def m_order_p (u : q_S) (v1 : Int32) (v2 : Int32) : Prop := (m_order_l7_p 200 v1 v2 1 (q_th_s u 0))
def m_order_t : List (Nat × gz_T q_S) := [(0, gz_lda 1 0), (1, gz_push 2 (gz_i 0)), (2, gz_putI 5 0 q_th_s), (5, gz_push 6 (gz_i 1)), (6, gz_stor 7 3), (7, gz_ldi 8 3), (8, gz_lda 9 0), (9, gz_getI 12 0 q_nh), (12, gz_if2 15 51 (fun x y => y < x) (fun x y => ¬ y < x)), (15, gz_lda 16 0), (16, gz_getR 19 0 12), (19, gz_ldi 20 3), (20, gz_ild 21 m_ai), (21, gz_if 24 45 (fun x => ¬ x = 0) (fun x => x = 0)), (24, gz_lda 25 0), (25, gz_getR 28 0 9), (28, gz_ldi 29 3), (29, gz_ild 30 m_ai), (30, gz_ldi 31 1), (31, gz_if2 34 45 (fun x y => ¬ x = y) (fun x y => x = y)), (34, gz_lda 35 0), (35, gz_ldi 36 3), (36, gz_c1P 39 0 m_placeOf_p m_placeOf), (39, gz_ldi 40 2), (40, gz_if2 43 45 (fun x y => ¬ x = y) (fun x y => x = y)), (43, gz_ldi 44 3), (44, gz_iret), (45, gz_iinc 48 3 1), (48, gz_goto 7), (51, gz_push 52 (gz_i 0)), (52, gz_iret)]
set_option maxRecDepth 100000 in
set_option maxHeartbeats 4000000 in
theorem m_order_l7_d {Kr : Option Int32 → q_S → Prop} {Z : gz_K q_S} (hZ : gz_shut m_order_t Kr Z) : ∀ (n : Nat) (v1 : Int32) (v2 : Int32) (v3 : Int32) (u : q_S), m_order_l7_p n v1 v2 v3 u → Kr (some ((m_order_l7 n v1 v2 v3 u)).1) ((m_order_l7 n v1 v2 v3 u)).2 → Z 7 [(0, gz_r 0), (1, gz_i v1), (2, gz_i v2), (3, gz_i v3)] [] u := by
  intro n
  induction n with
  | zero => intro v1 v2 v3 u hp _; exact False.elim hp
  | succ n ih =>
  intro v1 v2 v3 u hp hk
  refine hZ.1 [7] 500 7 _ _ _ ?_
  have hp : m_order_l7_pb (m_order_l7_p n) v1 v2 v3 u := hp
  refine And.intro (fun (h1 : (q_nh u) < v3) => ?_) (fun (h1 : ¬ (q_nh u) < v3) => ?_)
  · rw [show m_order_l7 (n + 1) v1 v2 v3 u = (0, u) from (by unfold m_order_l7_b; rw [if_pos h1] : m_order_l7_b (m_order_l7 n) v1 v2 v3 u = (0, u))] at hk
    exact hk
  · have hp := hp.2 h1
    have n2 := hp.1
    refine And.intro n2 ?_
    have hp := hp.2
    refine And.intro (fun (h3 : ¬ (q_hs u (Int32.toNatClampNeg v3)) = 0) => ?_) (fun (h3 : (q_hs u (Int32.toNatClampNeg v3)) = 0) => ?_)
    · have hp := hp.2 h3
      rw [show m_order_l7 (n + 1) v1 v2 v3 u = (m_order_l7 n v1 v2 (v3 + 1) u) from (by unfold m_order_l7_b; rw [if_neg h1, if_neg h3] : m_order_l7_b (m_order_l7 n) v1 v2 v3 u = (m_order_l7 n v1 v2 (v3 + 1) u))] at hk
      exact ih v1 v2 (v3 + 1) u hp hk
    · have hp := hp.1 h3
      refine And.intro n2 ?_
      refine And.intro (fun (h4 : ¬ (q_hr u (Int32.toNatClampNeg v3)) = v1) => ?_) (fun (h4 : (q_hr u (Int32.toNatClampNeg v3)) = v1) => ?_)
      · have hp := hp.2 h4
        rw [show m_order_l7 (n + 1) v1 v2 v3 u = (m_order_l7 n v1 v2 (v3 + 1) u) from (by unfold m_order_l7_b; rw [if_neg h1, if_pos h3, if_neg h4] : m_order_l7_b (m_order_l7 n) v1 v2 v3 u = (m_order_l7 n v1 v2 (v3 + 1) u))] at hk
        exact ih v1 v2 (v3 + 1) u hp hk
      · have hp := hp.1 h4
        have n5 := hp.1
        refine And.intro n5 ?_
        have hp := hp.2
        refine And.intro (fun (h6 : ¬ (m_placeOf u v3) = v2) => ?_) (fun (h6 : (m_placeOf u v3) = v2) => ?_)
        · have hp := hp.2 h6
          rw [show m_order_l7 (n + 1) v1 v2 v3 u = (m_order_l7 n v1 v2 (v3 + 1) u) from (by unfold m_order_l7_b; rw [if_neg h1, if_pos h3, if_pos h4, if_neg h6] : m_order_l7_b (m_order_l7 n) v1 v2 v3 u = (m_order_l7 n v1 v2 (v3 + 1) u))] at hk
          exact ih v1 v2 (v3 + 1) u hp hk
        · rw [show m_order_l7 (n + 1) v1 v2 v3 u = (v3, u) from (by unfold m_order_l7_b; rw [if_neg h1, if_pos h3, if_pos h4, if_pos h6] : m_order_l7_b (m_order_l7 n) v1 v2 v3 u = (v3, u))] at hk
          exact hk
set_option maxRecDepth 100000 in
set_option maxHeartbeats 4000000 in
theorem m_order_d {Kr : Option Int32 → q_S → Prop} (u : q_S) (v1 : Int32) (v2 : Int32) (hp : m_order_p u v1 v2) (hk : Kr (some ((m_order u v1 v2)).1) ((m_order u v1 v2)).2) : gz_does m_order_t Kr [(0, gz_r 0), (1, gz_i v1), (2, gz_i v2)] u := by
  intro Z hZ
  refine hZ.1 [7] 500 0 _ _ _ ?_
  unfold m_order_p at hp
  rw [show m_order u v1 v2 = (m_order_l7 200 v1 v2 1 (q_th_s u 0)) from rfl] at hk
  exact m_order_l7_d hZ 200 v1 v2 1 (q_th_s u 0) hp hk
-- HoldQueueModel.state(II)I
def m_state (u : q_S) (v1 : Int32) (v2 : Int32) : Int32 × q_S := (if (m_isHold (q_th_s u 0) v1) = 0 then ((-1), (q_th_s u 0)) else (if v2 = 0 then ((q_hs u (Int32.toNatClampNeg v1)), (q_th_s u 0)) else (if v2 = 1 then ((q_hy u (Int32.toNatClampNeg v1)), (q_th_s u 0)) else (if v2 = 2 then (if (q_hs u (Int32.toNatClampNeg v1)) = 0 then ((m_placeOf (q_th_s u 0) v1), (q_th_s u 0)) else ((-1), (q_th_s u 0))) else ((-1), (q_th_s u 0))))))
def m_state_r (u : q_S) (v1 : Int32) (v2 : Int32) : Int32 := (m_state u v1 v2).1
def m_state_s (u : q_S) (v1 : Int32) (v2 : Int32) : q_S := (m_state u v1 v2).2
def m_state_p (u : q_S) (v1 : Int32) (v2 : Int32) : Prop := (m_isHold_p (q_th_s u 0) v1 ∧ (((m_isHold (q_th_s u 0) v1) = 0 → True) ∧ (¬ (m_isHold (q_th_s u 0) v1) = 0 → ((v2 = 0 → (vp_in v1 121)) ∧ (¬ v2 = 0 → ((v2 = 1 → (vp_in v1 121)) ∧ (¬ v2 = 1 → ((v2 = 2 → (vp_in v1 121 ∧ (((q_hs u (Int32.toNatClampNeg v1)) = 0 → (m_placeOf_p (q_th_s u 0) v1)) ∧ (¬ (q_hs u (Int32.toNatClampNeg v1)) = 0 → True)))) ∧ (¬ v2 = 2 → True)))))))))
def m_state_t : List (Nat × gz_T q_S) := [(0, gz_lda 1 0), (1, gz_push 2 (gz_i 0)), (2, gz_putI 5 0 q_th_s), (5, gz_lda 6 0), (6, gz_ldi 7 1), (7, gz_c1P 10 0 m_isHold_p m_isHold), (10, gz_if 13 15 (fun x => ¬ x = 0) (fun x => x = 0)), (13, gz_push 14 (gz_i (-1))), (14, gz_iret), (15, gz_ldi 16 2), (16, gz_sw [(0, 44), (1, 51), (2, 58)] 77), (44, gz_lda 45 0), (45, gz_getR 48 0 12), (48, gz_ldi 49 1), (49, gz_ild 50 m_ai), (50, gz_iret), (51, gz_lda 52 0), (52, gz_getR 55 0 13), (55, gz_ldi 56 1), (56, gz_ild 57 m_ai), (57, gz_iret), (58, gz_lda 59 0), (59, gz_getR 62 0 12), (62, gz_ldi 63 1), (63, gz_ild 64 m_ai), (64, gz_if 67 75 (fun x => ¬ x = 0) (fun x => x = 0)), (67, gz_lda 68 0), (68, gz_ldi 69 1), (69, gz_c1P 72 0 m_placeOf_p m_placeOf), (72, gz_goto 76), (75, gz_push 76 (gz_i (-1))), (76, gz_iret), (77, gz_push 78 (gz_i (-1))), (78, gz_iret)]
set_option maxRecDepth 100000 in
set_option maxHeartbeats 4000000 in
theorem m_state_d {Kr : Option Int32 → q_S → Prop} (u : q_S) (v1 : Int32) (v2 : Int32) (hp : m_state_p u v1 v2) (hk : Kr (some ((m_state u v1 v2)).1) ((m_state u v1 v2)).2) : gz_does m_state_t Kr [(0, gz_r 0), (1, gz_i v1), (2, gz_i v2)] u := by
  intro Z hZ
  refine hZ.1 [] 500 0 _ _ _ ?_
  unfold m_state_p at hp
  have n1 := hp.1
  refine And.intro n1 ?_
  have hp := hp.2
  refine And.intro (fun (h2 : ¬ (m_isHold (q_th_s u 0) v1) = 0) => ?_) (fun (h2 : (m_isHold (q_th_s u 0) v1) = 0) => ?_)
  · have hp := hp.2 h2
    refine And.intro (fun (h3 : v2 = 0) => ?_) (fun (h3 : ¬ v2 = 0) => ?_)
    · have hp := hp.1 h3
      have n4 := hp
      refine And.intro n4 ?_
      rw [show m_state u v1 v2 = ((q_hs u (Int32.toNatClampNeg v1)), (q_th_s u 0)) from (by unfold m_state; rw [if_neg h2, if_pos h3])] at hk
      exact hk
    · have hp := hp.2 h3
      refine And.intro (fun (h5 : v2 = 1) => ?_) (fun (h5 : ¬ v2 = 1) => ?_)
      · have hp := hp.1 h5
        have n6 := hp
        refine And.intro n6 ?_
        rw [show m_state u v1 v2 = ((q_hy u (Int32.toNatClampNeg v1)), (q_th_s u 0)) from (by unfold m_state; rw [if_neg h2, if_neg h3, if_pos h5])] at hk
        exact hk
      · have hp := hp.2 h5
        refine And.intro (fun (h7 : v2 = 2) => ?_) (fun (h7 : ¬ v2 = 2) => ?_)
        · have hp := hp.1 h7
          have n8 := hp.1
          refine And.intro n8 ?_
          have hp := hp.2
          refine And.intro (fun (h9 : ¬ (q_hs u (Int32.toNatClampNeg v1)) = 0) => ?_) (fun (h9 : (q_hs u (Int32.toNatClampNeg v1)) = 0) => ?_)
          · rw [show m_state u v1 v2 = ((-1), (q_th_s u 0)) from (by unfold m_state; rw [if_neg h2, if_neg h3, if_neg h5, if_pos h7, if_neg h9])] at hk
            exact hk
          · have hp := hp.1 h9
            have n10 := hp
            refine And.intro n10 ?_
            rw [show m_state u v1 v2 = ((m_placeOf (q_th_s u 0) v1), (q_th_s u 0)) from (by unfold m_state; rw [if_neg h2, if_neg h3, if_neg h5, if_pos h7, if_pos h9])] at hk
            exact hk
        · rw [show m_state u v1 v2 = ((-1), (q_th_s u 0)) from (by unfold m_state; rw [if_neg h2, if_neg h3, if_neg h5, if_neg h7])] at hk
          exact hk
  · rw [show m_state u v1 v2 = ((-1), (q_th_s u 0)) from (by unfold m_state; rw [if_pos h2])] at hk
    exact hk
-- HoldQueueModel.where(II)I
def m_where (u : q_S) (v1 : Int32) (v2 : Int32) : Int32 × q_S := (if (m_in v1 1 (q_nc u)) = 0 then ((-1), (q_th_s u 0)) else (if v2 = 0 then ((q_cs u (Int32.toNatClampNeg v1)), (q_th_s u 0)) else (if v2 = 1 then ((q_cp u (Int32.toNatClampNeg v1)), (q_th_s u 0)) else (if v2 = 2 then ((q_ch u (Int32.toNatClampNeg v1)), (q_th_s u 0)) else ((-1), (q_th_s u 0))))))
def m_where_r (u : q_S) (v1 : Int32) (v2 : Int32) : Int32 := (m_where u v1 v2).1
def m_where_s (u : q_S) (v1 : Int32) (v2 : Int32) : q_S := (m_where u v1 v2).2
def m_where_p (u : q_S) (v1 : Int32) (v2 : Int32) : Prop := (((m_in v1 1 (q_nc u)) = 0 → True) ∧ (¬ (m_in v1 1 (q_nc u)) = 0 → ((v2 = 0 → (vp_in v1 61)) ∧ (¬ v2 = 0 → ((v2 = 1 → (vp_in v1 61)) ∧ (¬ v2 = 1 → ((v2 = 2 → (vp_in v1 61)) ∧ (¬ v2 = 2 → True))))))))
def m_where_t : List (Nat × gz_T q_S) := [(0, gz_lda 1 0), (1, gz_push 2 (gz_i 0)), (2, gz_putI 5 0 q_th_s), (5, gz_ldi 6 1), (6, gz_push 7 (gz_i 1)), (7, gz_lda 8 0), (8, gz_getI 11 0 q_nc), (11, gz_s3P 14 m_in), (14, gz_if 17 19 (fun x => ¬ x = 0) (fun x => x = 0)), (17, gz_push 18 (gz_i (-1))), (18, gz_iret), (19, gz_ldi 20 2), (20, gz_sw [(0, 48), (1, 55), (2, 62)] 69), (48, gz_lda 49 0), (49, gz_getR 52 0 5), (52, gz_ldi 53 1), (53, gz_ild 54 m_ai), (54, gz_iret), (55, gz_lda 56 0), (56, gz_getR 59 0 6), (59, gz_ldi 60 1), (60, gz_ild 61 m_ai), (61, gz_iret), (62, gz_lda 63 0), (63, gz_getR 66 0 7), (66, gz_ldi 67 1), (67, gz_ild 68 m_ai), (68, gz_iret), (69, gz_push 70 (gz_i (-1))), (70, gz_iret)]
set_option maxRecDepth 100000 in
set_option maxHeartbeats 4000000 in
theorem m_where_d {Kr : Option Int32 → q_S → Prop} (u : q_S) (v1 : Int32) (v2 : Int32) (hp : m_where_p u v1 v2) (hk : Kr (some ((m_where u v1 v2)).1) ((m_where u v1 v2)).2) : gz_does m_where_t Kr [(0, gz_r 0), (1, gz_i v1), (2, gz_i v2)] u := by
  intro Z hZ
  refine hZ.1 [] 500 0 _ _ _ ?_
  unfold m_where_p at hp
  refine And.intro (fun (h1 : ¬ (m_in v1 1 (q_nc u)) = 0) => ?_) (fun (h1 : (m_in v1 1 (q_nc u)) = 0) => ?_)
  · have hp := hp.2 h1
    refine And.intro (fun (h2 : v2 = 0) => ?_) (fun (h2 : ¬ v2 = 0) => ?_)
    · have hp := hp.1 h2
      have n3 := hp
      refine And.intro n3 ?_
      rw [show m_where u v1 v2 = ((q_cs u (Int32.toNatClampNeg v1)), (q_th_s u 0)) from (by unfold m_where; rw [if_neg h1, if_pos h2])] at hk
      exact hk
    · have hp := hp.2 h2
      refine And.intro (fun (h4 : v2 = 1) => ?_) (fun (h4 : ¬ v2 = 1) => ?_)
      · have hp := hp.1 h4
        have n5 := hp
        refine And.intro n5 ?_
        rw [show m_where u v1 v2 = ((q_cp u (Int32.toNatClampNeg v1)), (q_th_s u 0)) from (by unfold m_where; rw [if_neg h1, if_neg h2, if_pos h4])] at hk
        exact hk
      · have hp := hp.2 h4
        refine And.intro (fun (h6 : v2 = 2) => ?_) (fun (h6 : ¬ v2 = 2) => ?_)
        · have hp := hp.1 h6
          have n7 := hp
          refine And.intro n7 ?_
          rw [show m_where u v1 v2 = ((q_ch u (Int32.toNatClampNeg v1)), (q_th_s u 0)) from (by unfold m_where; rw [if_neg h1, if_neg h2, if_neg h4, if_pos h6])] at hk
          exact hk
        · rw [show m_where u v1 v2 = ((-1), (q_th_s u 0)) from (by unfold m_where; rw [if_neg h1, if_neg h2, if_neg h4, if_neg h6])] at hk
          exact hk
  · rw [show m_where u v1 v2 = ((-1), (q_th_s u 0)) from (by unfold m_where; rw [if_pos h1])] at hk
    exact hk
end
section
/-! SAFETY: what keeps every index in range, of the landed code and of the reference alike -/
def q_I (u : q_S) : Prop := ((∃ N, N ≤ 30 ∧ q_nr u = nI N) ∧ (∃ N, N ≤ 60 ∧ q_nc u = nI N) ∧ (∃ N, N ≤ 120 ∧ q_nh u = nI N)) ∧ (∀ i, vp_in (q_kd u i) 4) ∧ (∀ i, q_bd u i = 0 ∨ q_bd u i = 1) ∧ (∀ i, vp_in (q_hy u i) 61) ∧ ∀ i, vp_in (q_ch u i) 121
theorem q_I_nr {u : q_S} (h : q_I u) : ∃ N, N ≤ 30 ∧ q_nr u = nI N := h.1.1
theorem q_I_nc {u : q_S} (h : q_I u) : ∃ N, N ≤ 60 ∧ q_nc u = nI N := h.1.2.1
theorem q_I_nh {u : q_S} (h : q_I u) : ∃ N, N ≤ 120 ∧ q_nh u = nI N := h.1.2.2
theorem q_I_kd {u : q_S} (h : q_I u) : ∀ i, vp_in (q_kd u i) 4 := h.2.1
theorem q_I_bd {u : q_S} (h : q_I u) : ∀ i, q_bd u i = 0 ∨ q_bd u i = 1 := h.2.2.1
theorem q_I_hy {u : q_S} (h : q_I u) : ∀ i, vp_in (q_hy u i) 61 := h.2.2.2.1
theorem q_I_ch {u : q_S} (h : q_I u) : ∀ i, vp_in (q_ch u i) 121 := h.2.2.2.2
theorem q_up {P : Int32 → Prop} {f : Nat → Int32} {k : Nat} {x : Int32} (h : ∀ i, P (f i)) (hx : P x) : ∀ i, P (upd f k x i) := by
  intro i
  by_cases e : i = k
  · subst e; rw [pk_us]; exact hx
  · rw [pk_un e]; exact h i
theorem q_I_hy_u {u : q_S} (h : q_I u) (i x : Int32) (hx : vp_in x 61) : q_I (q_hy_u u i x) := ⟨h.1, h.2.1, h.2.2.1, q_up (P := fun z => vp_in z 61) h.2.2.2.1 hx, h.2.2.2.2⟩
theorem q_I_ch_u {u : q_S} (h : q_I u) (i x : Int32) (hx : vp_in x 121) : q_I (q_ch_u u i x) := ⟨h.1, h.2.1, h.2.2.1, h.2.2.2.1, q_up (P := fun z => vp_in z 121) h.2.2.2.2 hx⟩
theorem q_I_kd_u {u : q_S} (h : q_I u) (i x : Int32) (hx : vp_in x 4) : q_I (q_kd_u u i x) := ⟨h.1, q_up (P := fun z => vp_in z 4) h.2.1 hx, h.2.2.1, h.2.2.2.1, h.2.2.2.2⟩
theorem q_I_bd_u {u : q_S} (h : q_I u) (i x : Int32) (hx : x = 0 ∨ x = 1) : q_I (q_bd_u u i x) := ⟨h.1, h.2.1, q_up (P := fun z => z = 0 ∨ z = 1) h.2.2.1 hx, h.2.2.2.1, h.2.2.2.2⟩
theorem q_I_nr_s {u : q_S} (h : q_I u) {x : Int32} (hx : ∃ N, N ≤ 30 ∧ x = nI N) : q_I (q_nr_s u x) := ⟨⟨hx, h.1.2.1, h.1.2.2⟩, h.2⟩
theorem q_I_nc_s {u : q_S} (h : q_I u) {x : Int32} (hx : ∃ N, N ≤ 60 ∧ x = nI N) : q_I (q_nc_s u x) := ⟨⟨h.1.1, hx, h.1.2.2⟩, h.2⟩
theorem q_I_nh_s {u : q_S} (h : q_I u) {x : Int32} (hx : ∃ N, N ≤ 120 ∧ x = nI N) : q_I (q_nh_s u x) := ⟨⟨h.1.1, h.1.2.1, hx⟩, h.2⟩
theorem q_I_mo_u {u : q_S} (h : q_I u) (i x : Int32) : q_I (q_mo_u u i x) := ⟨h.1, h.2.1, h.2.2.1, h.2.2.2.1, h.2.2.2.2⟩
theorem q_I_cr_u {u : q_S} (h : q_I u) (i x : Int32) : q_I (q_cr_u u i x) := ⟨h.1, h.2.1, h.2.2.1, h.2.2.2.1, h.2.2.2.2⟩
theorem q_I_cp_u {u : q_S} (h : q_I u) (i x : Int32) : q_I (q_cp_u u i x) := ⟨h.1, h.2.1, h.2.2.1, h.2.2.2.1, h.2.2.2.2⟩
theorem q_I_cs_u {u : q_S} (h : q_I u) (i x : Int32) : q_I (q_cs_u u i x) := ⟨h.1, h.2.1, h.2.2.1, h.2.2.2.1, h.2.2.2.2⟩
theorem q_I_hp_u {u : q_S} (h : q_I u) (i x : Int32) : q_I (q_hp_u u i x) := ⟨h.1, h.2.1, h.2.2.1, h.2.2.2.1, h.2.2.2.2⟩
theorem q_I_hr_u {u : q_S} (h : q_I u) (i x : Int32) : q_I (q_hr_u u i x) := ⟨h.1, h.2.1, h.2.2.1, h.2.2.2.1, h.2.2.2.2⟩
theorem q_I_hl_u {u : q_S} (h : q_I u) (i x : Int32) : q_I (q_hl_u u i x) := ⟨h.1, h.2.1, h.2.2.1, h.2.2.2.1, h.2.2.2.2⟩
theorem q_I_hk_u {u : q_S} (h : q_I u) (i x : Int32) : q_I (q_hk_u u i x) := ⟨h.1, h.2.1, h.2.2.1, h.2.2.2.1, h.2.2.2.2⟩
theorem q_I_hs_u {u : q_S} (h : q_I u) (i x : Int32) : q_I (q_hs_u u i x) := ⟨h.1, h.2.1, h.2.2.1, h.2.2.2.1, h.2.2.2.2⟩
theorem q_I_hu_u {u : q_S} (h : q_I u) (i : Int32) (x : Int64) : q_I (q_hu_u u i x) := ⟨h.1, h.2.1, h.2.2.1, h.2.2.2.1, h.2.2.2.2⟩
theorem q_I_he_u {u : q_S} (h : q_I u) (i : Int32) (x : Int64) : q_I (q_he_u u i x) := ⟨h.1, h.2.1, h.2.2.1, h.2.2.2.1, h.2.2.2.2⟩
theorem q_I_th_s {u : q_S} (h : q_I u) (x : Int32) : q_I (q_th_s u x) := ⟨h.1, h.2.1, h.2.2.1, h.2.2.2.1, h.2.2.2.2⟩
theorem q_I_sp_s {u : q_S} (h : q_I u) (x : Int32) : q_I (q_sp_s u x) := ⟨h.1, h.2.1, h.2.2.1, h.2.2.2.1, h.2.2.2.2⟩
theorem q_I_td_s {u : q_S} (h : q_I u) (x : Int64) : q_I (q_td_s u x) := ⟨h.1, h.2.1, h.2.2.1, h.2.2.2.1, h.2.2.2.2⟩
theorem q_nh_kd_u (u : q_S) (i x : Int32) : q_nh (q_kd_u u i x) = q_nh u := rfl
theorem q_nh_bd_u (u : q_S) (i x : Int32) : q_nh (q_bd_u u i x) = q_nh u := rfl
theorem q_nh_mo_u (u : q_S) (i x : Int32) : q_nh (q_mo_u u i x) = q_nh u := rfl
theorem q_nh_cr_u (u : q_S) (i x : Int32) : q_nh (q_cr_u u i x) = q_nh u := rfl
theorem q_nh_cp_u (u : q_S) (i x : Int32) : q_nh (q_cp_u u i x) = q_nh u := rfl
theorem q_nh_cs_u (u : q_S) (i x : Int32) : q_nh (q_cs_u u i x) = q_nh u := rfl
theorem q_nh_ch_u (u : q_S) (i x : Int32) : q_nh (q_ch_u u i x) = q_nh u := rfl
theorem q_nh_hp_u (u : q_S) (i x : Int32) : q_nh (q_hp_u u i x) = q_nh u := rfl
theorem q_nh_hr_u (u : q_S) (i x : Int32) : q_nh (q_hr_u u i x) = q_nh u := rfl
theorem q_nh_hl_u (u : q_S) (i x : Int32) : q_nh (q_hl_u u i x) = q_nh u := rfl
theorem q_nh_hk_u (u : q_S) (i x : Int32) : q_nh (q_hk_u u i x) = q_nh u := rfl
theorem q_nh_hs_u (u : q_S) (i x : Int32) : q_nh (q_hs_u u i x) = q_nh u := rfl
theorem q_nh_hy_u (u : q_S) (i x : Int32) : q_nh (q_hy_u u i x) = q_nh u := rfl
theorem q_nh_hu_u (u : q_S) (i : Int32) (x : Int64) : q_nh (q_hu_u u i x) = q_nh u := rfl
theorem q_nh_he_u (u : q_S) (i : Int32) (x : Int64) : q_nh (q_he_u u i x) = q_nh u := rfl
theorem q_0in (n : Nat) (h : 0 < n) (hn : n < 2 ^ 31) : vp_in 0 n := vp_in_nI (n := 0) h hn
theorem q_lt1 {N j : Nat} (h : N < 1000) (hj : j < 1000) (hlt : ¬ nI N < nI j) : j ≤ N := by
  rcases Nat.lt_or_ge N j with q | q
  · exact absurd (nI_lt q (by omega)) hlt
  · exact q
theorem q_rng {v : Int32} {N : Nat} (hN : N < 1000) (h1 : ¬ v < 1) (h2 : ¬ nI N < v) : ∃ j, 1 ≤ j ∧ j ≤ N ∧ v = nI j := by
  have e1 : (1 : Int32).toInt = 1 := by decide +kernel
  have e0 : (0 : Int32).toInt = 0 := by decide +kernel
  have eN := nI_toInt (n := N) (by omega)
  have h0 : ¬ v < 0 := by
    rw [Int32.lt_iff_toInt_lt] at h1 ⊢
    omega
  have h3 : v ≤ nI N := by
    rw [Int32.lt_iff_toInt_lt] at h2
    rw [Int32.le_iff_toInt_le]
    omega
  obtain ⟨j, hj, rfl⟩ := nI_of2 eN h0 h3
  refine ⟨j, ?_, hj, rfl⟩
  rcases Nat.eq_zero_or_pos j with h | h
  · subst h
    exact absurd (by decide +kernel : nI 0 < 1) h1
  · exact h
/-- a number of a row between 0 and one less than n -/
theorem q_rng0 {v M : Int32} {n : Nat} (hM : M.toInt = n) (hn : n < 1000) (h1 : ¬ v < 0) (h2 : ¬ M < v) : vp_in v (n + 1) := by
  have h3 : v ≤ M := by
    rw [Int32.lt_iff_toInt_lt] at h2
    rw [Int32.le_iff_toInt_le]
    omega
  obtain ⟨j, hj, rfl⟩ := nI_of2 hM h1 h3
  exact vp_in_nI (by omega) (by omega)
theorem q_rng1 {v M : Int32} {n : Nat} (hM : M.toInt = n) (hn : n < 1000) (h1 : ¬ v < 0) (h2 : ¬ M ≤ v) : vp_in v n := by
  rw [vp_in_iff]
  rw [Int32.lt_iff_toInt_lt] at h1
  rw [Int32.le_iff_toInt_le] at h2
  have e0 : (0 : Int32).toInt = 0 := by decide +kernel
  omega
theorem q_has {u c v : Int32} {N : Nat} (hN : N < 1000) (hc : c = nI N) (h : ¬ (if v < 1 then (0 : Int32) else (if c < v then 0 else 1)) = 0) : ∃ j, 1 ≤ j ∧ j ≤ N ∧ v = nI j := by
  by_cases h1 : v < 1
  · rw [if_pos h1] at h; exact absurd rfl h
  · rw [if_neg h1] at h
    by_cases h2 : c < v
    · rw [if_pos h2] at h; exact absurd rfl h
    · rw [hc] at h2
      exact q_rng hN h1 h2
theorem q_nb {x : Int32} (h : x = 0 ∨ x = 1) : narrow .boolean (.int x) = .int x := by
  rcases h with h | h <;> (subst h; decide +kernel)
theorem q_nz (x : Int32) : vp_nar .boolean x = 0 ∨ vp_nar .boolean x = 1 := by
  have e : vp_nar .boolean x = x &&& 1 := rfl
  obtain ⟨j, hj, h⟩ := pk_andE x (m := 1) 1 (by decide +kernel)
  have hj : j < 2 := hj
  rw [e, h]
  rcases (show j = 0 ∨ j = 1 by omega) with r | r
  · subst r; exact Or.inl (by decide +kernel)
  · subst r; exact Or.inr (by decide +kernel)
/-- a loop's number is at most the count where the loop goes on -/
theorem q_lp {c : Int32} {N k : Nat} (e : c = nI N) (hN : N ≤ 120) (hk : k ≤ N + 1) (h : ¬ c < nI k) : k ≤ N := q_lt1 (by omega) (by omega) (by rw [← e]; exact h)
theorem q_lpv {c : Int32} {N k B : Nat} (e : c = nI N) (hN : N ≤ 120) (hk : k ≤ N + 1) (h : ¬ c < nI k) (hB : N < B) (hb : B < 1000) : vp_in (nI k) B := by
  have h2 := q_lp e hN hk h
  exact vp_in_nI (by omega) (by omega)

-- the landed code
theorem xh_has_in {u : q_S} {v : Int32} (hI : q_I u) (h : ¬ xh_has u v = 0) : ∃ j N, q_nh u = nI N ∧ N ≤ 120 ∧ 1 ≤ j ∧ j ≤ N ∧ v = nI j := by
  obtain ⟨N, hN, e⟩ := q_I_nh hI
  obtain ⟨j, a, b, c⟩ := q_has (u := 0) (N := N) (by omega) e h
  exact ⟨j, N, e, hN, a, b, c⟩
theorem xc_has_in {u : q_S} {v : Int32} (hI : q_I u) (h : ¬ xc_has u v = 0) : ∃ j N, q_nc u = nI N ∧ N ≤ 60 ∧ 1 ≤ j ∧ j ≤ N ∧ v = nI j := by
  obtain ⟨N, hN, e⟩ := q_I_nc hI
  obtain ⟨j, a, b, c⟩ := q_has (u := 0) (N := N) (by omega) e h
  exact ⟨j, N, e, hN, a, b, c⟩
theorem x_isRecord_in {u : q_S} {v : Int32} (hI : q_I u) (h : ¬ x_isRecord u v = 0) : ∃ j N, q_nr u = nI N ∧ N ≤ 30 ∧ 1 ≤ j ∧ j ≤ N ∧ v = nI j := by
  obtain ⟨N, hN, e⟩ := q_I_nr hI
  obtain ⟨j, a, b, c⟩ := q_has (u := 0) (N := N) (by omega) e h
  exact ⟨j, N, e, hN, a, b, c⟩
theorem xh_has_vp {u : q_S} {v : Int32} (hI : q_I u) (h : ¬ xh_has u v = 0) : vp_in v 121 := by
  obtain ⟨j, N, -, hN, h1, h2, rfl⟩ := xh_has_in hI h
  exact vp_in_nI (by omega) (by omega)
theorem xc_has_vp {u : q_S} {v : Int32} (hI : q_I u) (h : ¬ xc_has u v = 0) : vp_in v 61 := by
  obtain ⟨j, N, -, hN, h1, h2, rfl⟩ := xc_has_in hI h
  exact vp_in_nI (by omega) (by omega)
theorem x_isRecord_vp {u : q_S} {v : Int32} (hI : q_I u) (h : ¬ x_isRecord u v = 0) : vp_in v 31 := by
  obtain ⟨j, N, -, hN, h1, h2, rfl⟩ := x_isRecord_in hI h
  exact vp_in_nI (by omega) (by omega)
theorem x_isKind_vp {v : Int32} (h : ¬ x_isKind v = 0) : vp_in v 4 := by
  unfold x_isKind at h
  by_cases h1 : v < 0
  · rw [if_pos h1] at h; exact absurd rfl h
  · rw [if_neg h1] at h
    by_cases h2 : 4 ≤ v
    · rw [if_pos h2] at h; exact absurd rfl h
    · exact q_rng1 (M := 4) (n := 4) (by decide +kernel) (by omega) h1 h2
theorem x_isPerson_vp {v : Int32} (h : ¬ x_isPerson v = 0) : vp_in v 40 := by
  unfold x_isPerson at h
  by_cases h1 : v < 0
  · rw [if_pos h1] at h; exact absurd rfl h
  · rw [if_neg h1] at h
    by_cases h2 : 40 ≤ v
    · rw [if_pos h2] at h; exact absurd rfl h
    · exact q_rng1 (M := 40) (n := 40) (by decide +kernel) (by omega) h1 h2
theorem xh_isIn_ne {u : q_S} {v w : Int32} (h : ¬ xh_isIn u v w = 0) : ¬ xh_has u v = 0 ∧ q_hs u v.toNatClampNeg = w := by
  unfold xh_isIn at h
  by_cases h1 : xh_has u v = 0
  · rw [if_pos h1] at h; exact absurd rfl h
  · rw [if_neg h1] at h
    by_cases h2 : q_hs u v.toNatClampNeg = w
    · exact ⟨h1, h2⟩
    · rw [if_neg h2] at h; exact absurd rfl h
theorem xc_isIn_ne {u : q_S} {v w : Int32} (h : ¬ xc_isIn u v w = 0) : ¬ xc_has u v = 0 ∧ q_cs u v.toNatClampNeg = w := by
  unfold xc_isIn at h
  by_cases h1 : xc_has u v = 0
  · rw [if_pos h1] at h; exact absurd rfl h
  · rw [if_neg h1] at h
    by_cases h2 : q_cs u v.toNatClampNeg = w
    · exact ⟨h1, h2⟩
    · rw [if_neg h2] at h; exact absurd rfl h
theorem xh_isOpen_ne {u : q_S} {v : Int32} (h : ¬ xh_isOpen u v = 0) : ¬ xh_has u v = 0 := by
  intro h0
  have e : ∀ w, xh_isIn u v w = 0 := fun w => by unfold xh_isIn; rw [if_pos h0]
  unfold xh_isOpen at h
  rw [e 0, e 1, e 2] at h
  exact h rfl

theorem q_inc_nr {u : q_S} (hI : q_I u) (h : q_nr u < 30) : (∃ N, N ≤ 30 ∧ q_nr u + 1 = nI N) ∧ vp_in (q_nr u + 1) 31 := by
  obtain ⟨N, hN, e⟩ := q_I_nr hI
  rw [e] at h ⊢
  have h2 : N < 30 := (nI_ltI (by omega) (by omega)).mp (show nI N < nI 30 from h)
  rw [nI_1]
  exact ⟨⟨N + 1, by omega, rfl⟩, vp_in_nI (by omega) (by omega)⟩
theorem q_inc_nc {u : q_S} (hI : q_I u) (h : q_nc u < 60) : (∃ N, N ≤ 60 ∧ q_nc u + 1 = nI N) ∧ vp_in (q_nc u + 1) 61 := by
  obtain ⟨N, hN, e⟩ := q_I_nc hI
  rw [e] at h ⊢
  have h2 : N < 60 := (nI_ltI (by omega) (by omega)).mp (show nI N < nI 60 from h)
  rw [nI_1]
  exact ⟨⟨N + 1, by omega, rfl⟩, vp_in_nI (by omega) (by omega)⟩
theorem q_inc_nh {u : q_S} (hI : q_I u) (h : q_nh u < 120) : (∃ N, N ≤ 120 ∧ q_nh u + 1 = nI N) ∧ vp_in (q_nh u + 1) 121 := by
  obtain ⟨N, hN, e⟩ := q_I_nh hI
  rw [e] at h ⊢
  have h2 : N < 120 := (nI_ltI (by omega) (by omega)).mp (show nI N < nI 120 from h)
  rw [nI_1]
  exact ⟨⟨N + 1, by omega, rfl⟩, vp_in_nI (by omega) (by omega)⟩
theorem q_ne_nr {u : q_S} (hI : q_I u) (h : ¬ q_nr u = 30) : q_nr u < 30 := by
  obtain ⟨N, hN, e⟩ := q_I_nr hI
  rw [e] at h ⊢
  have h2 : N ≠ 30 := fun q => h (by rw [q]; rfl)
  exact (show nI N < nI 30 from nI_lt (by omega) (by omega))
theorem q_ne_nc {u : q_S} (hI : q_I u) (h : ¬ q_nc u = 60) : q_nc u < 60 := by
  obtain ⟨N, hN, e⟩ := q_I_nc hI
  rw [e] at h ⊢
  have h2 : N ≠ 60 := fun q => h (by rw [q]; rfl)
  exact (show nI N < nI 60 from nI_lt (by omega) (by omega))
theorem q_ne_nh {u : q_S} (hI : q_I u) (h : ¬ q_nh u = 120) : q_nh u < 120 := by
  obtain ⟨N, hN, e⟩ := q_I_nh hI
  rw [e] at h ⊢
  have h2 : N ≠ 120 := fun q => h (by rw [q]; rfl)
  exact (show nI N < nI 120 from nI_lt (by omega) (by omega))
theorem xc_areFull_lt {u : q_S} (h : xc_areFull u = 0) : q_nc u < 60 := by
  unfold xc_areFull at h
  by_cases h1 : q_nc u < 60
  · exact h1
  · rw [if_neg h1] at h; exact absurd h (by decide +kernel)
theorem xh_areFull_lt {u : q_S} (h : xh_areFull u = 0) : q_nh u < 120 := by
  unfold xh_areFull at h
  by_cases h1 : q_nh u < 120
  · exact h1
  · rw [if_neg h1] at h; exact absurd h (by decide +kernel)
-- the reference
theorem m_in_ne {v a b : Int32} (h : ¬ m_in v a b = 0) : ¬ v < a ∧ ¬ b < v := by
  unfold m_in at h
  by_cases h1 : v < a
  · rw [if_pos h1] at h; exact absurd rfl h
  · rw [if_neg h1] at h
    by_cases h2 : b < v
    · rw [if_pos h2] at h; exact absurd rfl h
    · exact ⟨h1, h2⟩
theorem m_in_01 (v a b : Int32) : m_in v a b = 0 ∨ m_in v a b = 1 := by
  unfold m_in
  split
  · exact Or.inl rfl
  · split
    · exact Or.inl rfl
    · exact Or.inr rfl
theorem m_in3 {v : Int32} (h : ¬ m_in v 0 3 = 0) : vp_in v 4 := q_rng0 (M := 3) (n := 3) (by decide +kernel) (by omega) (m_in_ne h).1 (m_in_ne h).2
theorem m_in39 {v : Int32} (h : ¬ m_in v 0 39 = 0) : vp_in v 40 := q_rng0 (M := 39) (n := 39) (by decide +kernel) (by omega) (m_in_ne h).1 (m_in_ne h).2
theorem m_in_nr {u : q_S} {v : Int32} (hI : q_I u) (h : ¬ m_in v 1 (q_nr u) = 0) : vp_in v 31 := by
  obtain ⟨N, hN, e⟩ := q_I_nr hI
  obtain ⟨h1, h2⟩ := m_in_ne h
  rw [e] at h2
  obtain ⟨j, a, b, rfl⟩ := q_rng (by omega) h1 h2
  exact vp_in_nI (by omega) (by omega)
theorem m_in_nc {u : q_S} {v : Int32} (hI : q_I u) (h : ¬ m_in v 1 (q_nc u) = 0) : vp_in v 61 := by
  obtain ⟨N, hN, e⟩ := q_I_nc hI
  obtain ⟨h1, h2⟩ := m_in_ne h
  rw [e] at h2
  obtain ⟨j, a, b, rfl⟩ := q_rng (by omega) h1 h2
  exact vp_in_nI (by omega) (by omega)
theorem m_in_nh {u : q_S} {v : Int32} (hI : q_I u) (h : ¬ m_in v 1 (q_nh u) = 0) : vp_in v 121 := by
  obtain ⟨N, hN, e⟩ := q_I_nh hI
  obtain ⟨h1, h2⟩ := m_in_ne h
  rw [e] at h2
  obtain ⟨j, a, b, rfl⟩ := q_rng (by omega) h1 h2
  exact vp_in_nI (by omega) (by omega)
theorem m_isHold_vp {u : q_S} {v : Int32} (hI : q_I u) (h : ¬ m_isHold u v = 0) : vp_in v 121 := m_in_nh hI h
theorem m_isWaiting_ne {u : q_S} {v : Int32} (h : ¬ m_isWaiting u v = 0) : ¬ m_isHold u v = 0 ∧ q_hs u v.toNatClampNeg = 0 := by
  unfold m_isWaiting at h
  by_cases h1 : m_isHold u v = 0
  · rw [if_pos h1] at h; exact absurd rfl h
  · rw [if_neg h1] at h
    by_cases h2 : q_hs u v.toNatClampNeg = 0
    · exact ⟨h1, h2⟩
    · rw [if_neg h2] at h; exact absurd rfl h
theorem m_isCopy_ne {u : q_S} {v w : Int32} (h : ¬ m_isCopy u v w = 0) : ¬ m_in v 1 (q_nc u) = 0 ∧ q_cs u v.toNatClampNeg = w := by
  unfold m_isCopy at h
  by_cases h1 : m_in v 1 (q_nc u) = 0
  · rw [if_pos h1] at h; exact absurd rfl h
  · rw [if_neg h1] at h
    by_cases h2 : q_cs u v.toNatClampNeg = w
    · exact ⟨h1, h2⟩
    · rw [if_neg h2] at h; exact absurd rfl h
theorem m_isCopy_vp {u : q_S} {v w : Int32} (hI : q_I u) (h : ¬ m_isCopy u v w = 0) : vp_in v 61 := m_in_nc hI (m_isCopy_ne h).1
theorem x_record_pp {u : q_S} (hI : q_I u) (v1 : Int32) : x_record_p u v1 := by
  unfold x_record_p
  exact ⟨fun _ => trivial, fun _ => ⟨fun h2 => (q_inc_nr hI h2).2, fun _ => trivial⟩⟩
theorem x_record_I {u : q_S} (hI : q_I u) (v1 : Int32) : q_I (x_record_s u v1) := by
  show q_I ((x_record u v1).2)
  unfold x_record
  by_cases h1 : (x_isKind v1) = 0
  · rw [if_pos h1]
    exact hI
  · rw [if_neg h1]
    by_cases h2 : (q_nr u) < 30
    · rw [if_pos h2]
      exact (q_I_kd_u (q_I_nr_s hI (q_inc_nr hI h2).1) _ _ (x_isKind_vp h1))
    · rw [if_neg h2]
      exact hI
theorem xc_add_pp {u : q_S} (hI : q_I u) (v1 : Int32) (v2 : Int32) (hlt : q_nc u < 60) : xc_add_p u v1 v2 := by
  unfold xc_add_p
  exact (q_inc_nc hI hlt).2
theorem xc_add_I {u : q_S} (hI : q_I u) (v1 : Int32) (v2 : Int32) (hlt : q_nc u < 60) : q_I (xc_add_s u v1 v2) := by
  show q_I ((xc_add u v1 v2).2)
  unfold xc_add
  exact (q_I_cs_u (q_I_cp_u (q_I_cr_u (q_I_nc_s hI (q_inc_nc hI hlt).1) _ _) _ _) _ _)
theorem x_copy_pp {u : q_S} (hI : q_I u) (v1 : Int32) (v2 : Int32) : x_copy_p u v1 v2 := by
  unfold x_copy_p
  exact ⟨trivial, ⟨fun _ => trivial, fun _ => ⟨fun _ => trivial, fun _ => ⟨fun h3 => xc_add_pp hI _ _ (xc_areFull_lt h3), fun _ => trivial⟩⟩⟩⟩
theorem x_copy_I {u : q_S} (hI : q_I u) (v1 : Int32) (v2 : Int32) : q_I (x_copy_s u v1 v2) := by
  show q_I ((x_copy u v1 v2).2)
  unfold x_copy
  by_cases h1 : (x_isRecord u v1) = 0
  · rw [if_pos h1]
    exact hI
  · rw [if_neg h1]
    by_cases h2 : (x_isPlace v2) = 0
    · rw [if_pos h2]
      exact hI
    · rw [if_neg h2]
      by_cases h3 : (xc_areFull u) = 0
      · rw [if_pos h3]
        exact (xc_add_I hI _ _ (xc_areFull_lt h3))
      · rw [if_neg h3]
        exact hI
theorem x_bar_pp {u : q_S} (hI : q_I u) (v1 : Int32) (v2 : Int32) : x_bar_p u v1 v2 := by
  unfold x_bar_p
  exact ⟨fun _ => trivial, fun h1 => ⟨(x_isKind_vp h1), q_nb (q_I_bd hI _)⟩⟩
theorem x_bar_I {u : q_S} (hI : q_I u) (v1 : Int32) (v2 : Int32) : q_I (x_bar_s u v1 v2) := by
  show q_I ((x_bar u v1 v2).2)
  unfold x_bar
  by_cases h1 : (x_isKind v1) = 0
  · rw [if_pos h1]
    exact hI
  · rw [if_neg h1]
    exact (q_I_bd_u hI _ _ (q_nz _))
theorem xh_isIn_pp {u : q_S} (hI : q_I u) (v1 : Int32) (v2 : Int32) : xh_isIn_p u v1 v2 := by
  unfold xh_isIn_p
  exact ⟨trivial, ⟨fun _ => trivial, fun h1 => (xh_has_vp hI h1)⟩⟩
theorem xh_isOpen_pp {u : q_S} (hI : q_I u) (v1 : Int32) : xh_isOpen_p u v1 := by
  unfold xh_isOpen_p
  exact ⟨xh_isIn_pp hI _ _, ⟨fun _ => ⟨xh_isIn_pp hI _ _, ⟨fun _ => xh_isIn_pp hI _ _, fun _ => trivial⟩⟩, fun _ => trivial⟩⟩
theorem xh_hasOpen_l2_pp {N : Nat} (hB : N ≤ 120) : ∀ (n k : Nat) (v1 : Int32) (v2 : Int32) (u : q_S), q_I u → q_nh u = nI N → 1 ≤ k → k ≤ N + 1 → N + 1 < k + n → xh_hasOpen_l2_p n v1 v2 (nI k) u := by
  intro n
  induction n with
  | zero => intro k v1 v2 u hI hN h1 h2 h3; omega
  | succ n ih =>
    intro k v1 v2 u hI hN h1 h2 h3
    show xh_hasOpen_l2_pb (xh_hasOpen_l2_p n) v1 v2 (nI k) u
    unfold xh_hasOpen_l2_pb
    exact ⟨fun _ => trivial, fun h1 => ⟨(q_lpv hN (by omega) (by omega) h1 (by omega) (by omega)), ⟨fun h2 => ⟨fun _ => ⟨xh_isOpen_pp hI _, ⟨fun _ => (by have ih2 := ih (k + 1) v1 v2 u hI hN (by omega) (by have := q_lp hN (by omega) (by omega) h1; omega) (by omega); rw [← nI_1] at ih2; exact ih2), fun _ => trivial⟩⟩, fun _ => (by have ih2 := ih (k + 1) v1 v2 u hI hN (by omega) (by have := q_lp hN (by omega) (by omega) h1; omega) (by omega); rw [← nI_1] at ih2; exact ih2)⟩, fun h2 => (by have ih2 := ih (k + 1) v1 v2 u hI hN (by omega) (by have := q_lp hN (by omega) (by omega) h1; omega) (by omega); rw [← nI_1] at ih2; exact ih2)⟩⟩⟩
theorem xh_hasOpen_pp {u : q_S} (hI : q_I u) (v1 : Int32) (v2 : Int32) : xh_hasOpen_p u v1 v2 := by
  unfold xh_hasOpen_p
  exact (by obtain ⟨N, hB, hN⟩ := q_I_nh hI; exact xh_hasOpen_l2_pp hB 200 1 v1 v2 u hI hN (by omega) (by omega) (by omega))
theorem xh_countOpen_l4_pp {N : Nat} (hB : N ≤ 120) : ∀ (n k : Nat) (v1 : Int32) (v2 : Int32) (u : q_S), q_I u → q_nh u = nI N → 1 ≤ k → k ≤ N + 1 → N + 1 < k + n → xh_countOpen_l4_p n v1 v2 (nI k) u := by
  intro n
  induction n with
  | zero => intro k v1 v2 u hI hN h1 h2 h3; omega
  | succ n ih =>
    intro k v1 v2 u hI hN h1 h2 h3
    show xh_countOpen_l4_pb (xh_countOpen_l4_p n) v1 v2 (nI k) u
    unfold xh_countOpen_l4_pb
    exact ⟨fun _ => trivial, fun h1 => ⟨(q_lpv hN (by omega) (by omega) h1 (by omega) (by omega)), ⟨fun h2 => ⟨xh_isOpen_pp hI _, ⟨fun _ => (by have ih2 := ih (k + 1) v1 v2 u hI hN (by omega) (by have := q_lp hN (by omega) (by omega) h1; omega) (by omega); rw [← nI_1] at ih2; exact ih2), fun _ => (by have ih2 := ih (k + 1) v1 (v2 + 1) u hI hN (by omega) (by have := q_lp hN (by omega) (by omega) h1; omega) (by omega); rw [← nI_1] at ih2; exact ih2)⟩⟩, fun h2 => (by have ih2 := ih (k + 1) v1 v2 u hI hN (by omega) (by have := q_lp hN (by omega) (by omega) h1; omega) (by omega); rw [← nI_1] at ih2; exact ih2)⟩⟩⟩
theorem xh_countOpen_pp {u : q_S} (hI : q_I u) (v1 : Int32) : xh_countOpen_p u v1 := by
  unfold xh_countOpen_p
  exact (by obtain ⟨N, hB, hN⟩ := q_I_nh hI; exact xh_countOpen_l4_pp hB 200 1 v1 0 u hI hN (by omega) (by omega) (by omega))
theorem xh_add_pp {u : q_S} (hI : q_I u) (v1 : Int32) (v2 : Int32) (v3 : Int32) (v4 : Int32) (hlt : q_nh u < 120) : xh_add_p u v1 v2 v3 v4 := by
  unfold xh_add_p
  exact (q_inc_nh hI hlt).2
theorem xh_add_I {u : q_S} (hI : q_I u) (v1 : Int32) (v2 : Int32) (v3 : Int32) (v4 : Int32) (hlt : q_nh u < 120) : q_I (xh_add_s u v1 v2 v3 v4) := by
  show q_I ((xh_add u v1 v2 v3 v4).2)
  unfold xh_add
  exact (q_I_hs_u (q_I_hk_u (q_I_hl_u (q_I_hr_u (q_I_hp_u (q_I_nh_s hI (q_inc_nh hI hlt).1) _ _) _ _) _ _) _ _) _ _)
theorem xc_leastFree_l2_pp {N : Nat} (hB : N ≤ 60) : ∀ (n k : Nat) (v1 : Int32) (u : q_S), q_I u → q_nc u = nI N → 1 ≤ k → k ≤ N + 1 → N + 1 < k + n → xc_leastFree_l2_p n v1 (nI k) u := by
  intro n
  induction n with
  | zero => intro k v1 u hI hN h1 h2 h3; omega
  | succ n ih =>
    intro k v1 u hI hN h1 h2 h3
    show xc_leastFree_l2_pb (xc_leastFree_l2_p n) v1 (nI k) u
    unfold xc_leastFree_l2_pb
    exact ⟨fun _ => trivial, fun h1 => ⟨(q_lpv hN (by omega) (by omega) h1 (by omega) (by omega)), ⟨fun h2 => ⟨fun _ => trivial, fun _ => (by have ih2 := ih (k + 1) v1 u hI hN (by omega) (by have := q_lp hN (by omega) (by omega) h1; omega) (by omega); rw [← nI_1] at ih2; exact ih2)⟩, fun h2 => (by have ih2 := ih (k + 1) v1 u hI hN (by omega) (by have := q_lp hN (by omega) (by omega) h1; omega) (by omega); rw [← nI_1] at ih2; exact ih2)⟩⟩⟩
theorem xc_leastFree_pp {u : q_S} (hI : q_I u) (v1 : Int32) : xc_leastFree_p u v1 := by
  unfold xc_leastFree_p
  exact (by obtain ⟨N, hB, hN⟩ := q_I_nc hI; exact xc_leastFree_l2_pp hB 200 1 v1 u hI hN (by omega) (by omega) (by omega))
theorem xc_leastFree_l2_vp {N : Nat} (hB : N ≤ 60) : ∀ (n k : Nat) (v1 : Int32) (u : q_S), q_I u → q_nc u = nI N → 1 ≤ k → k ≤ N + 1 → N + 1 < k + n → vp_in (xc_leastFree_l2 n v1 (nI k) u) 61 := by
  intro n
  induction n with
  | zero => intro k v1 u hI hN h1 h2 h3; omega
  | succ n ih =>
    intro k v1 u hI hN h1 h2 h3
    show vp_in (xc_leastFree_l2_b (xc_leastFree_l2 n) v1 (nI k) u) 61
    unfold xc_leastFree_l2_b
    by_cases h11 : (q_nc u) < (nI k)
    · rw [if_pos h11]
      exact (q_0in 61 (by omega) (by omega))
    · rw [if_neg h11]
      by_cases h12 : (q_cr u (Int32.toNatClampNeg (nI k))) = v1
      · rw [if_pos h12]
        by_cases h13 : (q_cs u (Int32.toNatClampNeg (nI k))) = 0
        · rw [if_pos h13]
          exact (q_lpv hN (by omega) (by omega) h11 (by omega) (by omega))
        · rw [if_neg h13]
          exact (by have ih2 := ih (k + 1) v1 u hI hN (by omega) (by have := q_lp hN (by omega) (by omega) h11; omega) (by omega); rw [← nI_1] at ih2; exact ih2)
      · rw [if_neg h12]
        exact (by have ih2 := ih (k + 1) v1 u hI hN (by omega) (by have := q_lp hN (by omega) (by omega) h11; omega) (by omega); rw [← nI_1] at ih2; exact ih2)
theorem xc_leastFree_vp {u : q_S} (hI : q_I u) (v1 : Int32) : vp_in (xc_leastFree u v1) 61 := by
  obtain ⟨N, hB, hN⟩ := q_I_nc hI
  exact xc_leastFree_l2_vp hB 200 1 v1 u hI hN (by omega) (by omega) (by omega)
theorem xh_isQueued_pp {u : q_S} (hI : q_I u) (v1 : Int32) (v2 : Int32) (e0 : vp_in v1 121) : xh_isQueued_p u v1 v2 := by
  unfold xh_isQueued_p
  exact e0
theorem xh_comesBefore_pp {u : q_S} (hI : q_I u) (v1 : Int32) (v2 : Int32) (e0 : vp_in v1 121) (e1 : vp_in v2 121) : xh_comesBefore_p u v1 v2 := by
  unfold xh_comesBefore_p
  exact ⟨e0, e1⟩
theorem xh_firstFitting_l6_pp {N : Nat} (hB : N ≤ 120) : ∀ (n k : Nat) (v1 : Int32) (v2 : Int64) (v4 : Int32) (u : q_S), q_I u → q_nh u = nI N → 1 ≤ k → k ≤ N + 1 → N + 1 < k + n → vp_in v4 121 → xh_firstFitting_l6_p n v1 v2 v4 (nI k) u := by
  intro n
  induction n with
  | zero => intro k v1 v2 v4 u hI hN h1 h2 h3; omega
  | succ n ih =>
    intro k v1 v2 v4 u hI hN h1 h2 h3 e4
    show xh_firstFitting_l6_pb (xh_firstFitting_l6_p n) v1 v2 v4 (nI k) u
    unfold xh_firstFitting_l6_pb
    exact ⟨fun _ => trivial, fun h1 => ⟨xh_isQueued_pp hI _ _ (q_lpv hN (by omega) (by omega) h1 (by omega) (by omega)), ⟨fun h2 => (by have ih2 := ih (k + 1) v1 v2 v4 u hI hN (by omega) (by have := q_lp hN (by omega) (by omega) h1; omega) (by omega) e4; rw [← nI_1] at ih2; exact ih2), fun h2 => ⟨(q_lpv hN (by omega) (by omega) h1 (by omega) (by omega)), ⟨fun _ => (by have ih2 := ih (k + 1) v1 v2 v4 u hI hN (by omega) (by have := q_lp hN (by omega) (by omega) h1; omega) (by omega) e4; rw [← nI_1] at ih2; exact ih2), fun _ => ⟨fun _ => (by have ih2 := ih (k + 1) v1 v2 (nI k) u hI hN (by omega) (by have := q_lp hN (by omega) (by omega) h1; omega) (by omega) (q_lpv hN (by omega) (by omega) h1 (by omega) (by omega)); rw [← nI_1] at ih2; exact ih2), fun _ => ⟨xh_comesBefore_pp hI _ _ (q_lpv hN (by omega) (by omega) h1 (by omega) (by omega)) e4, ⟨fun _ => (by have ih2 := ih (k + 1) v1 v2 v4 u hI hN (by omega) (by have := q_lp hN (by omega) (by omega) h1; omega) (by omega) e4; rw [← nI_1] at ih2; exact ih2), fun _ => (by have ih2 := ih (k + 1) v1 v2 (nI k) u hI hN (by omega) (by have := q_lp hN (by omega) (by omega) h1; omega) (by omega) (q_lpv hN (by omega) (by omega) h1 (by omega) (by omega)); rw [← nI_1] at ih2; exact ih2)⟩⟩⟩⟩⟩⟩⟩⟩
theorem xh_firstFitting_pp {u : q_S} (hI : q_I u) (v1 : Int32) (v2 : Int64) : xh_firstFitting_p u v1 v2 := by
  unfold xh_firstFitting_p
  exact (by obtain ⟨N, hB, hN⟩ := q_I_nh hI; exact xh_firstFitting_l6_pp hB 200 1 v1 v2 0 u hI hN (by omega) (by omega) (by omega) (q_0in 121 (by omega) (by omega)))
theorem xh_firstFitting_l6_vp {N : Nat} (hB : N ≤ 120) : ∀ (n k : Nat) (v1 : Int32) (v2 : Int64) (v4 : Int32) (u : q_S), q_I u → q_nh u = nI N → 1 ≤ k → k ≤ N + 1 → N + 1 < k + n → vp_in v4 121 → vp_in (xh_firstFitting_l6 n v1 v2 v4 (nI k) u) 121 := by
  intro n
  induction n with
  | zero => intro k v1 v2 v4 u hI hN h1 h2 h3; omega
  | succ n ih =>
    intro k v1 v2 v4 u hI hN h1 h2 h3 e4
    show vp_in (xh_firstFitting_l6_b (xh_firstFitting_l6 n) v1 v2 v4 (nI k) u) 121
    unfold xh_firstFitting_l6_b
    by_cases h11 : (q_nh u) < (nI k)
    · rw [if_pos h11]
      exact e4
    · rw [if_neg h11]
      by_cases h12 : (xh_isQueued u (nI k) v1) = 0
      · rw [if_pos h12]
        exact (by have ih2 := ih (k + 1) v1 v2 v4 u hI hN (by omega) (by have := q_lp hN (by omega) (by omega) h11; omega) (by omega) e4; rw [← nI_1] at ih2; exact ih2)
      · rw [if_neg h12]
        by_cases h13 : 0 < (lg_cmp (q_hu u (Int32.toNatClampNeg (nI k))) v2)
        · rw [if_pos h13]
          exact (by have ih2 := ih (k + 1) v1 v2 v4 u hI hN (by omega) (by have := q_lp hN (by omega) (by omega) h11; omega) (by omega) e4; rw [← nI_1] at ih2; exact ih2)
        · rw [if_neg h13]
          by_cases h14 : v4 = 0
          · rw [if_pos h14]
            exact (by have ih2 := ih (k + 1) v1 v2 (nI k) u hI hN (by omega) (by have := q_lp hN (by omega) (by omega) h11; omega) (by omega) (q_lpv hN (by omega) (by omega) h11 (by omega) (by omega)); rw [← nI_1] at ih2; exact ih2)
          · rw [if_neg h14]
            by_cases h15 : (xh_comesBefore u (nI k) v4) = 0
            · rw [if_pos h15]
              exact (by have ih2 := ih (k + 1) v1 v2 v4 u hI hN (by omega) (by have := q_lp hN (by omega) (by omega) h11; omega) (by omega) e4; rw [← nI_1] at ih2; exact ih2)
            · rw [if_neg h15]
              exact (by have ih2 := ih (k + 1) v1 v2 (nI k) u hI hN (by omega) (by have := q_lp hN (by omega) (by omega) h11; omega) (by omega) (q_lpv hN (by omega) (by omega) h11 (by omega) (by omega)); rw [← nI_1] at ih2; exact ih2)
theorem xh_firstFitting_vp {u : q_S} (hI : q_I u) (v1 : Int32) (v2 : Int64) : vp_in (xh_firstFitting u v1 v2) 121 := by
  obtain ⟨N, hB, hN⟩ := q_I_nh hI
  exact xh_firstFitting_l6_vp hB 200 1 v1 v2 0 u hI hN (by omega) (by omega) (by omega) (q_0in 121 (by omega) (by omega))
theorem x_layReady_pp {u : q_S} (hI : q_I u) (v1 : Int32) (v2 : Int32) (e0 : vp_in v1 61) (e1 : vp_in v2 121) : x_layReady_p u v1 v2 := by
  unfold x_layReady_p
  exact ⟨e0, e1⟩
theorem x_layReady_I {u : q_S} (hI : q_I u) (v1 : Int32) (v2 : Int32) (e0 : vp_in v1 61) (e1 : vp_in v2 121) : q_I (x_layReady u v1 v2) := by
  show q_I (x_layReady u v1 v2)
  unfold x_layReady
  exact (q_I_he_u (q_I_hs_u (q_I_cs_u hI _ _) _ _) _ _)
theorem x_send_pp {u : q_S} (hI : q_I u) (v1 : Int32) (v2 : Int32) (e0 : vp_in v1 61) (e1 : vp_in v2 121) : x_send_p u v1 v2 := by
  unfold x_send_p
  exact ⟨e0, e1⟩
theorem x_send_I {u : q_S} (hI : q_I u) (v1 : Int32) (v2 : Int32) (e0 : vp_in v1 61) (e1 : vp_in v2 121) : q_I (x_send u v1 v2) := by
  show q_I (x_send u v1 v2)
  unfold x_send
  exact (q_I_hs_u (q_I_cp_u (q_I_cs_u hI _ _) _ _) _ _)
theorem x_settle_pp {u : q_S} (hI : q_I u) (v1 : Int32) (e0 : vp_in v1 61) : x_settle_p u v1 := by
  unfold x_settle_p
  exact ⟨e0, ⟨xh_firstFitting_pp hI _ _, ⟨fun _ => trivial, fun _ => ⟨(xh_firstFitting_vp hI _ _), ⟨fun _ => x_layReady_pp (q_I_hy_u (q_I_ch_u hI _ _ (xh_firstFitting_vp hI _ _)) _ _ e0) _ _ e0 (xh_firstFitting_vp hI _ _), fun _ => x_send_pp (q_I_hy_u (q_I_ch_u hI _ _ (xh_firstFitting_vp hI _ _)) _ _ e0) _ _ e0 (xh_firstFitting_vp hI _ _)⟩⟩⟩⟩⟩
theorem x_settle_I {u : q_S} (hI : q_I u) (v1 : Int32) (e0 : vp_in v1 61) : q_I (x_settle_s u v1) := by
  show q_I ((x_settle u v1).2)
  unfold x_settle
  by_cases h1 : (xh_firstFitting u (q_cr u (Int32.toNatClampNeg v1)) (q_td u)) = 0
  · rw [if_pos h1]
    exact (q_I_cs_u hI _ _)
  · rw [if_neg h1]
    by_cases h2 : (q_cp u (Int32.toNatClampNeg v1)) = (q_hl u (Int32.toNatClampNeg (xh_firstFitting u (q_cr u (Int32.toNatClampNeg v1)) (q_td u))))
    · rw [if_pos h2]
      exact (x_layReady_I (q_I_hy_u (q_I_ch_u hI _ _ (xh_firstFitting_vp hI _ _)) _ _ e0) _ _ e0 (xh_firstFitting_vp hI _ _))
    · rw [if_neg h2]
      exact (x_send_I (q_I_hy_u (q_I_ch_u hI _ _ (xh_firstFitting_vp hI _ _)) _ _ e0) _ _ e0 (xh_firstFitting_vp hI _ _))
theorem x_hold_pp {u : q_S} (hI : q_I u) (v1 : Int32) (v2 : Int32) (v3 : Int32) (v4 : Int32) : x_hold_p u v1 v2 v3 v4 := by
  unfold x_hold_p
  exact ⟨fun _ => trivial, fun h1 => ⟨trivial, ⟨fun _ => trivial, fun h2 => ⟨fun _ => trivial, fun _ => ⟨(x_isRecord_vp hI h2), ⟨(q_I_kd hI _), ⟨fun _ => ⟨xh_hasOpen_pp hI _ _, ⟨fun _ => ⟨fun h6 => ⟨xh_countOpen_pp hI _, ⟨(x_isPerson_vp h1), ⟨fun _ => ⟨xh_add_pp hI _ _ _ _ (xh_areFull_lt h6), ⟨xc_leastFree_pp (xh_add_I hI _ _ _ _ (xh_areFull_lt h6)) _, ⟨fun _ => trivial, fun _ => x_settle_pp (xh_add_I hI _ _ _ _ (xh_areFull_lt h6)) _ (xc_leastFree_vp (xh_add_I hI _ _ _ _ (xh_areFull_lt h6)) _)⟩⟩⟩, fun _ => trivial⟩⟩⟩, fun _ => trivial⟩, fun _ => trivial⟩⟩, fun _ => trivial⟩⟩⟩⟩⟩⟩⟩
theorem x_hold_I {u : q_S} (hI : q_I u) (v1 : Int32) (v2 : Int32) (v3 : Int32) (v4 : Int32) : q_I (x_hold_s u v1 v2 v3 v4) := by
  show q_I ((x_hold u v1 v2 v3 v4).2)
  unfold x_hold
  by_cases h1 : (x_isPerson v1) = 0
  · rw [if_pos h1]
    exact hI
  · rw [if_neg h1]
    by_cases h2 : (x_isRecord u v2) = 0
    · rw [if_pos h2]
      exact hI
    · rw [if_neg h2]
      by_cases h3 : (x_isPlace v3) = 0
      · rw [if_pos h3]
        exact hI
      · rw [if_neg h3]
        by_cases h4 : (q_bd u (Int32.toNatClampNeg (q_kd u (Int32.toNatClampNeg v2)))) = 0
        · rw [if_pos h4]
          by_cases h5 : (xh_hasOpen u v1 v2) = 0
          · rw [if_pos h5]
            by_cases h6 : (xh_areFull u) = 0
            · rw [if_pos h6]
              by_cases h7 : (xh_countOpen u v1) < (q_mo u (Int32.toNatClampNeg v1))
              · rw [if_pos h7]
                by_cases h8 : (xc_leastFree (xh_add_s u v1 v2 v3 v4) v2) = 0
                · rw [if_pos h8]
                  exact (xh_add_I hI _ _ _ _ (xh_areFull_lt h6))
                · rw [if_neg h8]
                  exact (x_settle_I (xh_add_I hI _ _ _ _ (xh_areFull_lt h6)) _ (xc_leastFree_vp (xh_add_I hI _ _ _ _ (xh_areFull_lt h6)) _))
              · rw [if_neg h7]
                exact hI
            · rw [if_neg h6]
              exact hI
          · rw [if_neg h5]
            exact hI
        · rw [if_neg h4]
          exact hI
theorem x_most_pp {u : q_S} (hI : q_I u) (v1 : Int32) (v2 : Int32) : x_most_p u v1 v2 := by
  unfold x_most_p
  exact ⟨fun _ => trivial, fun h1 => ⟨fun _ => trivial, fun _ => ⟨fun _ => (x_isPerson_vp h1), fun _ => trivial⟩⟩⟩
theorem x_most_I {u : q_S} (hI : q_I u) (v1 : Int32) (v2 : Int32) : q_I (x_most_s u v1 v2) := by
  show q_I ((x_most u v1 v2).2)
  unfold x_most
  by_cases h1 : (x_isPerson v1) = 0
  · rw [if_pos h1]
    exact hI
  · rw [if_neg h1]
    by_cases h2 : v2 < 0
    · rw [if_pos h2]
      exact hI
    · rw [if_neg h2]
      by_cases h3 : v2 ≤ 20
      · rw [if_pos h3]
        exact (q_I_mo_u hI _ _)
      · rw [if_neg h3]
        exact hI
theorem x_suspend_pp {u : q_S} (hI : q_I u) (v1 : Int32) (v2 : Int64) : x_suspend_p u v1 v2 := by
  unfold x_suspend_p
  exact ⟨xh_isIn_pp hI _ _, ⟨fun _ => trivial, fun h1 => (xh_has_vp hI (xh_isIn_ne h1).1)⟩⟩
theorem x_suspend_I {u : q_S} (hI : q_I u) (v1 : Int32) (v2 : Int64) : q_I (x_suspend_s u v1 v2) := by
  show q_I ((x_suspend u v1 v2).2)
  unfold x_suspend
  by_cases h1 : (xh_isIn u v1 0) = 0
  · rw [if_pos h1]
    exact hI
  · rw [if_neg h1]
    exact (q_I_hu_u hI _ _)
theorem xc_isIn_pp {u : q_S} (hI : q_I u) (v1 : Int32) (v2 : Int32) : xc_isIn_p u v1 v2 := by
  unfold xc_isIn_p
  exact ⟨trivial, ⟨fun _ => trivial, fun h1 => (xc_has_vp hI h1)⟩⟩
theorem x_back_pp {u : q_S} (hI : q_I u) (v1 : Int32) (v2 : Int32) : x_back_p u v1 v2 := by
  unfold x_back_p
  exact ⟨xc_isIn_pp hI _ _, ⟨fun _ => trivial, fun h1 => ⟨fun _ => trivial, fun _ => ⟨(xc_has_vp hI (xc_isIn_ne h1).1), x_settle_pp (q_I_cp_u hI _ _) _ (xc_has_vp hI (xc_isIn_ne h1).1)⟩⟩⟩⟩
theorem x_back_I {u : q_S} (hI : q_I u) (v1 : Int32) (v2 : Int32) : q_I (x_back_s u v1 v2) := by
  show q_I ((x_back u v1 v2).2)
  unfold x_back
  by_cases h1 : (xc_isIn u v1 1) = 0
  · rw [if_pos h1]
    exact hI
  · rw [if_neg h1]
    by_cases h2 : (x_isPlace v2) = 0
    · rw [if_pos h2]
      exact hI
    · rw [if_neg h2]
      exact (x_settle_I (q_I_cp_u hI _ _) _ (xc_has_vp hI (xc_isIn_ne h1).1))
theorem x_untie_pp {u : q_S} (hI : q_I u) (v1 : Int32) (v2 : Int32) (e0 : vp_in v1 61) (e1 : vp_in v2 121) : x_untie_p u v1 v2 := by
  unfold x_untie_p
  exact ⟨e0, e1⟩
theorem x_untie_I {u : q_S} (hI : q_I u) (v1 : Int32) (v2 : Int32) (e0 : vp_in v1 61) (e1 : vp_in v2 121) : q_I (x_untie u v1 v2) := by
  show q_I (x_untie u v1 v2)
  unfold x_untie
  exact (q_I_hy_u (q_I_ch_u hI _ _ (q_0in 121 (by omega) (by omega))) _ _ (q_0in 61 (by omega) (by omega)))
theorem x_arrive_pp {u : q_S} (hI : q_I u) (v1 : Int32) : x_arrive_p u v1 := by
  unfold x_arrive_p
  exact ⟨xc_isIn_pp hI _ _, ⟨fun _ => trivial, fun h1 => ⟨(xc_has_vp hI (xc_isIn_ne h1).1), ⟨xh_isIn_pp hI _ _, ⟨fun _ => ⟨x_untie_pp hI _ _ (xc_has_vp hI (xc_isIn_ne h1).1) (q_I_ch hI _), x_settle_pp (x_untie_I hI _ _ (xc_has_vp hI (xc_isIn_ne h1).1) (q_I_ch hI _)) _ (xc_has_vp hI (xc_isIn_ne h1).1)⟩, fun _ => x_layReady_pp hI _ _ (xc_has_vp hI (xc_isIn_ne h1).1) (q_I_ch hI _)⟩⟩⟩⟩⟩
theorem x_arrive_I {u : q_S} (hI : q_I u) (v1 : Int32) : q_I (x_arrive_s u v1) := by
  show q_I ((x_arrive u v1).2)
  unfold x_arrive
  by_cases h1 : (xc_isIn u v1 2) = 0
  · rw [if_pos h1]
    exact hI
  · rw [if_neg h1]
    by_cases h2 : (xh_isIn u (q_ch u (Int32.toNatClampNeg v1)) 1) = 0
    · rw [if_pos h2]
      exact (x_settle_I (x_untie_I hI _ _ (xc_has_vp hI (xc_isIn_ne h1).1) (q_I_ch hI _)) _ (xc_has_vp hI (xc_isIn_ne h1).1))
    · rw [if_neg h2]
      exact (x_layReady_I hI _ _ (xc_has_vp hI (xc_isIn_ne h1).1) (q_I_ch hI _))
theorem x_pick_pp {u : q_S} (hI : q_I u) (v1 : Int32) : x_pick_p u v1 := by
  unfold x_pick_p
  exact ⟨xh_isIn_pp hI _ _, ⟨fun _ => trivial, fun h1 => ⟨(xh_has_vp hI (xh_isIn_ne h1).1), ⟨x_untie_pp (q_I_hs_u hI _ _) _ _ (q_I_hy hI _) (xh_has_vp hI (xh_isIn_ne h1).1), (q_I_hy hI _)⟩⟩⟩⟩
theorem x_pick_I {u : q_S} (hI : q_I u) (v1 : Int32) : q_I (x_pick_s u v1) := by
  show q_I ((x_pick u v1).2)
  unfold x_pick
  by_cases h1 : (xh_isIn u v1 2) = 0
  · rw [if_pos h1]
    exact hI
  · rw [if_neg h1]
    exact (q_I_cs_u (x_untie_I (q_I_hs_u hI _ _) _ _ (q_I_hy hI _) (xh_has_vp hI (xh_isIn_ne h1).1)) _ _)
theorem x_lend_pp {u : q_S} (hI : q_I u) (v1 : Int32) : x_lend_p u v1 := by
  unfold x_lend_p
  exact ⟨xc_isIn_pp hI _ _, ⟨fun _ => trivial, fun h1 => (xc_has_vp hI (xc_isIn_ne h1).1)⟩⟩
theorem x_lend_I {u : q_S} (hI : q_I u) (v1 : Int32) : q_I (x_lend_s u v1) := by
  show q_I ((x_lend u v1).2)
  unfold x_lend
  by_cases h1 : (xc_isIn u v1 0) = 0
  · rw [if_pos h1]
    exact hI
  · rw [if_neg h1]
    exact (q_I_cs_u hI _ _)
theorem x_letGo_pp {u : q_S} (hI : q_I u) (v1 : Int32) (e0 : vp_in v1 121) : x_letGo_p u v1 := by
  unfold x_letGo_p
  exact ⟨e0, ⟨x_untie_pp hI _ _ (q_I_hy hI _) e0, x_settle_pp (x_untie_I hI _ _ (q_I_hy hI _) e0) _ (q_I_hy hI _)⟩⟩
theorem x_letGo_I {u : q_S} (hI : q_I u) (v1 : Int32) (e0 : vp_in v1 121) : q_I (x_letGo u v1) := by
  show q_I (x_letGo u v1)
  unfold x_letGo
  exact (x_settle_I (x_untie_I hI _ _ (q_I_hy hI _) e0) _ (q_I_hy hI _))
theorem x_settle_nh (u : q_S) (c : Int32) : q_nh (x_settle_s u c) = q_nh u := by
  show q_nh (x_settle u c).2 = q_nh u
  unfold x_settle
  split
  · rfl
  · split
    · rfl
    · rfl
theorem x_letGo_nh (u : q_S) (h : Int32) : q_nh (x_letGo u h) = q_nh u := x_settle_nh _ _
theorem x_cancel_pp {u : q_S} (hI : q_I u) (v1 : Int32) : x_cancel_p u v1 := by
  unfold x_cancel_p
  exact ⟨xh_isOpen_pp hI _, ⟨fun _ => trivial, fun h1 => ⟨xh_isIn_pp hI _ _, ⟨(xh_has_vp hI (xh_isOpen_ne h1)), ⟨fun _ => trivial, fun _ => x_letGo_pp (q_I_hs_u hI _ _) _ (xh_has_vp hI (xh_isOpen_ne h1))⟩⟩⟩⟩⟩
theorem x_cancel_I {u : q_S} (hI : q_I u) (v1 : Int32) : q_I (x_cancel_s u v1) := by
  show q_I ((x_cancel u v1).2)
  unfold x_cancel
  by_cases h1 : (xh_isOpen u v1) = 0
  · rw [if_pos h1]
    exact hI
  · rw [if_neg h1]
    by_cases h2 : (xh_isIn u v1 2) = 0
    · rw [if_pos h2]
      exact (q_I_hs_u hI _ _)
    · rw [if_neg h2]
      exact (x_letGo_I (q_I_hs_u hI _ _) _ (xh_has_vp hI (xh_isOpen_ne h1)))
theorem x_tick_l29_pp {N : Nat} (hB : N ≤ 120) : ∀ (n k : Nat) (v1 : Int64) (v3 : Int32) (u : q_S), q_I u → q_nh u = nI N → 1 ≤ k → k ≤ N + 1 → N + 1 < k + n → x_tick_l29_p n v1 v3 (nI k) u := by
  intro n
  induction n with
  | zero => intro k v1 v3 u hI hN h1 h2 h3; omega
  | succ n ih =>
    intro k v1 v3 u hI hN h1 h2 h3
    show x_tick_l29_pb (x_tick_l29_p n) v1 v3 (nI k) u
    unfold x_tick_l29_pb
    exact ⟨fun _ => trivial, fun h1 => ⟨xh_isIn_pp hI _ _, ⟨fun h2 => (by have ih2 := ih (k + 1) v1 v3 u hI hN (by omega) (by have := q_lp hN (by omega) (by omega) h1; omega) (by omega); rw [← nI_1] at ih2; exact ih2), fun h2 => ⟨(q_lpv hN (by omega) (by omega) h1 (by omega) (by omega)), ⟨fun _ => (by have ih2 := ih (k + 1) v1 v3 u hI hN (by omega) (by have := q_lp hN (by omega) (by omega) h1; omega) (by omega); rw [← nI_1] at ih2; exact ih2), fun _ => ⟨x_letGo_pp (q_I_hs_u hI _ _) _ (q_lpv hN (by omega) (by omega) h1 (by omega) (by omega)), (by have ih2 := ih (k + 1) v1 (v3 + 1) (x_letGo (q_hs_u u (nI k) 4) (nI k)) (x_letGo_I (q_I_hs_u hI _ _) _ (q_lpv hN (by omega) (by omega) h1 (by omega) (by omega))) ((x_letGo_nh _ _).trans hN) (by omega) (by have := q_lp hN (by omega) (by omega) h1; omega) (by omega); rw [← nI_1] at ih2; exact ih2)⟩⟩⟩⟩⟩⟩
theorem x_tick_pp {u : q_S} (hI : q_I u) (v1 : Int64) : x_tick_p u v1 := by
  unfold x_tick_p
  exact ⟨fun _ => trivial, fun _ => ⟨fun _ => (by obtain ⟨N, hB, hN⟩ := q_I_nh hI; exact x_tick_l29_pp hB 200 1 v1 0 (q_td_s u v1) (q_I_td_s hI _) hN (by omega) (by omega) (by omega)), fun _ => trivial⟩⟩
theorem x_tick_l29_I {N : Nat} (hB : N ≤ 120) : ∀ (n k : Nat) (v1 : Int64) (v3 : Int32) (u : q_S), q_I u → q_nh u = nI N → 1 ≤ k → k ≤ N + 1 → q_I (x_tick_l29 n v1 v3 (nI k) u).2 := by
  intro n
  induction n with
  | zero => intro k v1 v3 u hI hN h1 h2; exact hI
  | succ n ih =>
    intro k v1 v3 u hI hN h1 h2
    show q_I (x_tick_l29_b (x_tick_l29 n) v1 v3 (nI k) u).2
    unfold x_tick_l29_b
    by_cases h11 : (q_nh u) < (nI k)
    · rw [if_pos h11]
      exact hI
    · rw [if_neg h11]
      by_cases h12 : (xh_isIn u (nI k) 2) = 0
      · rw [if_pos h12]
        exact (by have ih2 := ih (k + 1) v1 v3 u hI hN (by omega) (by have := q_lp hN (by omega) (by omega) h11; omega); rw [← nI_1] at ih2; exact ih2)
      · rw [if_neg h12]
        by_cases h13 : 0 ≤ (lg_cmp (q_he u (Int32.toNatClampNeg (nI k))) (q_td u))
        · rw [if_pos h13]
          exact (by have ih2 := ih (k + 1) v1 v3 u hI hN (by omega) (by have := q_lp hN (by omega) (by omega) h11; omega); rw [← nI_1] at ih2; exact ih2)
        · rw [if_neg h13]
          exact (by have ih2 := ih (k + 1) v1 (v3 + 1) (x_letGo (q_hs_u u (nI k) 4) (nI k)) (x_letGo_I (q_I_hs_u hI _ _) _ (q_lpv hN (by omega) (by omega) h11 (by omega) (by omega))) ((x_letGo_nh _ _).trans hN) (by omega) (by have := q_lp hN (by omega) (by omega) h11; omega); rw [← nI_1] at ih2; exact ih2)
theorem x_tick_I {u : q_S} (hI : q_I u) (v1 : Int64) : q_I (x_tick_s u v1) := by
  show q_I ((x_tick u v1).2)
  unfold x_tick
  by_cases h11 : (lg_cmp v1 (q_td u)) ≤ 0
  · rw [if_pos h11]
    exact hI
  · rw [if_neg h11]
    by_cases h12 : (lg_cmp v1 1000000000) ≤ 0
    · rw [if_pos h12]
      obtain ⟨N, hB, hN⟩ := q_I_nh hI
      exact x_tick_l29_I hB 200 1 v1 0 (q_td_s u v1) (q_I_td_s hI _) hN (by omega) (by omega)
    · rw [if_neg h12]
      exact hI
theorem x_span_I {u : q_S} (hI : q_I u) (v1 : Int32) : q_I (x_span_s u v1) := by
  show q_I ((x_span u v1).2)
  unfold x_span
  by_cases h1 : v1 < 1
  · rw [if_pos h1]
    exact hI
  · rw [if_neg h1]
    by_cases h2 : v1 ≤ 99
    · rw [if_pos h2]
      exact (q_I_sp_s hI _)
    · rw [if_neg h2]
      exact hI
theorem xh_placeInQueue_l4_pp {N : Nat} (hB : N ≤ 120) : ∀ (n k : Nat) (v1 : Int32) (v2 : Int32) (u : q_S), q_I u → q_nh u = nI N → 1 ≤ k → k ≤ N + 1 → N + 1 < k + n → vp_in v1 121 → xh_placeInQueue_l4_p n v1 v2 (nI k) u := by
  intro n
  induction n with
  | zero => intro k v1 v2 u hI hN h1 h2 h3; omega
  | succ n ih =>
    intro k v1 v2 u hI hN h1 h2 h3 e1
    show xh_placeInQueue_l4_pb (xh_placeInQueue_l4_p n) v1 v2 (nI k) u
    unfold xh_placeInQueue_l4_pb
    exact ⟨fun _ => trivial, fun h1 => ⟨e1, ⟨xh_isQueued_pp hI _ _ (q_lpv hN (by omega) (by omega) h1 (by omega) (by omega)), ⟨fun h2 => (by have ih2 := ih (k + 1) v1 v2 u hI hN (by omega) (by have := q_lp hN (by omega) (by omega) h1; omega) (by omega) e1; rw [← nI_1] at ih2; exact ih2), fun h2 => ⟨xh_comesBefore_pp hI _ _ (q_lpv hN (by omega) (by omega) h1 (by omega) (by omega)) e1, ⟨fun _ => (by have ih2 := ih (k + 1) v1 v2 u hI hN (by omega) (by have := q_lp hN (by omega) (by omega) h1; omega) (by omega) e1; rw [← nI_1] at ih2; exact ih2), fun _ => (by have ih2 := ih (k + 1) v1 (v2 + 1) u hI hN (by omega) (by have := q_lp hN (by omega) (by omega) h1; omega) (by omega) e1; rw [← nI_1] at ih2; exact ih2)⟩⟩⟩⟩⟩⟩
theorem xh_placeInQueue_pp {u : q_S} (hI : q_I u) (v1 : Int32) (e0 : vp_in v1 121) : xh_placeInQueue_p u v1 := by
  unfold xh_placeInQueue_p
  exact (by obtain ⟨N, hB, hN⟩ := q_I_nh hI; exact xh_placeInQueue_l4_pp hB 200 1 v1 0 u hI hN (by omega) (by omega) (by omega) e0)
theorem x_rank_pp {u : q_S} (hI : q_I u) (v1 : Int32) (v2 : Int32) : x_rank_p u v1 v2 := by
  unfold x_rank_p
  exact ⟨xh_isIn_pp hI _ _, ⟨fun _ => trivial, fun h1 => ⟨(xh_has_vp hI (xh_isIn_ne h1).1), xh_placeInQueue_pp (q_I_hk_u hI _ _) _ (xh_has_vp hI (xh_isIn_ne h1).1)⟩⟩⟩
theorem x_rank_I {u : q_S} (hI : q_I u) (v1 : Int32) (v2 : Int32) : q_I (x_rank_s u v1 v2) := by
  show q_I ((x_rank u v1 v2).2)
  unfold x_rank
  by_cases h1 : (xh_isIn u v1 0) = 0
  · rw [if_pos h1]
    exact hI
  · rw [if_neg h1]
    exact (q_I_hk_u hI _ _)
theorem xh_atPlaceInQueue_l2_pp {N : Nat} (hB : N ≤ 120) : ∀ (n k : Nat) (v1 : Int32) (v2 : Int32) (u : q_S), q_I u → q_nh u = nI N → 1 ≤ k → k ≤ N + 1 → N + 1 < k + n → xh_atPlaceInQueue_l2_p n v1 v2 (nI k) u := by
  intro n
  induction n with
  | zero => intro k v1 v2 u hI hN h1 h2 h3; omega
  | succ n ih =>
    intro k v1 v2 u hI hN h1 h2 h3
    show xh_atPlaceInQueue_l2_pb (xh_atPlaceInQueue_l2_p n) v1 v2 (nI k) u
    unfold xh_atPlaceInQueue_l2_pb
    exact ⟨fun _ => trivial, fun h1 => ⟨xh_isQueued_pp hI _ _ (q_lpv hN (by omega) (by omega) h1 (by omega) (by omega)), ⟨fun h2 => (by have ih2 := ih (k + 1) v1 v2 u hI hN (by omega) (by have := q_lp hN (by omega) (by omega) h1; omega) (by omega); rw [← nI_1] at ih2; exact ih2), fun h2 => ⟨xh_placeInQueue_pp hI _ (q_lpv hN (by omega) (by omega) h1 (by omega) (by omega)), ⟨fun _ => trivial, fun _ => (by have ih2 := ih (k + 1) v1 v2 u hI hN (by omega) (by have := q_lp hN (by omega) (by omega) h1; omega) (by omega); rw [← nI_1] at ih2; exact ih2)⟩⟩⟩⟩⟩
theorem xh_atPlaceInQueue_pp {u : q_S} (hI : q_I u) (v1 : Int32) (v2 : Int32) : xh_atPlaceInQueue_p u v1 v2 := by
  unfold xh_atPlaceInQueue_p
  exact (by obtain ⟨N, hB, hN⟩ := q_I_nh hI; exact xh_atPlaceInQueue_l2_pp hB 200 1 v1 v2 u hI hN (by omega) (by omega) (by omega))
theorem x_order_pp {u : q_S} (hI : q_I u) (v1 : Int32) (v2 : Int32) : x_order_p u v1 v2 := by
  unfold x_order_p
  exact ⟨trivial, ⟨fun _ => trivial, fun _ => xh_atPlaceInQueue_pp hI _ _⟩⟩
theorem x_state_pp {u : q_S} (hI : q_I u) (v1 : Int32) (v2 : Int32) : x_state_p u v1 v2 := by
  unfold x_state_p
  exact ⟨trivial, ⟨fun _ => trivial, fun h1 => ⟨fun _ => (xh_has_vp hI h1), fun _ => ⟨fun _ => (xh_has_vp hI h1), fun _ => ⟨fun _ => ⟨xh_isIn_pp hI _ _, ⟨fun _ => trivial, fun _ => xh_placeInQueue_pp hI _ (xh_has_vp hI h1)⟩⟩, fun _ => trivial⟩⟩⟩⟩⟩
theorem x_where_pp {u : q_S} (hI : q_I u) (v1 : Int32) (v2 : Int32) : x_where_p u v1 v2 := by
  unfold x_where_p
  exact ⟨trivial, ⟨fun _ => trivial, fun h1 => ⟨fun _ => (xc_has_vp hI h1), fun _ => ⟨fun _ => (xc_has_vp hI h1), fun _ => ⟨fun _ => (xc_has_vp hI h1), fun _ => trivial⟩⟩⟩⟩⟩
end
section
theorem m_record_pp {u : q_S} (hI : q_I u) (v1 : Int32) : m_record_p u v1 := by
  unfold m_record_p
  exact ⟨fun _ => trivial, fun _ => ⟨fun _ => trivial, fun h2 => (q_inc_nr hI (q_ne_nr hI h2)).2⟩⟩
theorem m_record_I {u : q_S} (hI : q_I u) (v1 : Int32) : q_I (m_record_s u v1) := by
  show q_I ((m_record u v1).2)
  unfold m_record
  by_cases h1 : (m_in v1 0 3) = 0
  · rw [if_pos h1]
    exact (q_I_th_s hI _)
  · rw [if_neg h1]
    by_cases h2 : (q_nr u) = 30
    · rw [if_pos h2]
      exact (q_I_th_s hI _)
    · rw [if_neg h2]
      exact (q_I_kd_u (q_I_nr_s (q_I_th_s hI _) (q_inc_nr hI (q_ne_nr hI h2)).1) _ _ (m_in3 h1))
theorem m_copy_pp {u : q_S} (hI : q_I u) (v1 : Int32) (v2 : Int32) : m_copy_p u v1 v2 := by
  unfold m_copy_p
  exact ⟨fun _ => trivial, fun _ => ⟨fun _ => trivial, fun _ => ⟨fun _ => trivial, fun h3 => (q_inc_nc hI (q_ne_nc hI h3)).2⟩⟩⟩
theorem m_copy_I {u : q_S} (hI : q_I u) (v1 : Int32) (v2 : Int32) : q_I (m_copy_s u v1 v2) := by
  show q_I ((m_copy u v1 v2).2)
  unfold m_copy
  by_cases h1 : (m_in v1 1 (q_nr u)) = 0
  · rw [if_pos h1]
    exact (q_I_th_s hI _)
  · rw [if_neg h1]
    by_cases h2 : (m_in v2 0 5) = 0
    · rw [if_pos h2]
      exact (q_I_th_s hI _)
    · rw [if_neg h2]
      by_cases h3 : (q_nc u) = 60
      · rw [if_pos h3]
        exact (q_I_th_s hI _)
      · rw [if_neg h3]
        exact (q_I_ch_u (q_I_cp_u (q_I_cs_u (q_I_cr_u (q_I_nc_s (q_I_th_s hI _) (q_inc_nc hI (q_ne_nc hI h3)).1) _ _) _ _) _ _) _ _ (q_0in 121 (by omega) (by omega)))
theorem m_bar_pp {u : q_S} (hI : q_I u) (v1 : Int32) (v2 : Int32) : m_bar_p u v1 v2 := by
  unfold m_bar_p
  exact ⟨fun _ => trivial, fun h1 => ⟨(m_in3 h1), q_nb (q_I_bd hI _)⟩⟩
theorem m_bar_I {u : q_S} (hI : q_I u) (v1 : Int32) (v2 : Int32) : q_I (m_bar_s u v1 v2) := by
  show q_I ((m_bar u v1 v2).2)
  unfold m_bar
  by_cases h1 : (m_in v1 0 3) = 0
  · rw [if_pos h1]
    exact (q_I_th_s hI _)
  · rw [if_neg h1]
    exact (q_I_bd_u (q_I_th_s hI _) _ _ (q_nz _))
theorem m_isOpen_pp {u : q_S} (hI : q_I u) (v1 : Int32) (e0 : vp_in v1 121) : m_isOpen_p u v1 := by
  unfold m_isOpen_p
  exact e0
theorem m_isAhead_pp {u : q_S} (hI : q_I u) (v1 : Int32) (v2 : Int32) (e0 : vp_in v1 121) (e1 : vp_in v2 121) : m_isAhead_p u v1 v2 := by
  unfold m_isAhead_p
  exact ⟨e0, e1⟩
theorem m_placeOf_l4_pp {N : Nat} (hB : N ≤ 120) : ∀ (n k : Nat) (v1 : Int32) (v2 : Int32) (u : q_S), q_I u → q_nh u = nI N → 1 ≤ k → k ≤ N + 1 → N + 1 < k + n → vp_in v1 121 → m_placeOf_l4_p n v1 v2 (nI k) u := by
  intro n
  induction n with
  | zero => intro k v1 v2 u hI hN h1 h2 h3; omega
  | succ n ih =>
    intro k v1 v2 u hI hN h1 h2 h3 e1
    show m_placeOf_l4_pb (m_placeOf_l4_p n) v1 v2 (nI k) u
    unfold m_placeOf_l4_pb
    exact ⟨fun _ => trivial, fun h1 => ⟨(q_lpv hN (by omega) (by omega) h1 (by omega) (by omega)), ⟨fun h2 => ⟨e1, ⟨fun _ => ⟨m_isAhead_pp hI _ _ (q_lpv hN (by omega) (by omega) h1 (by omega) (by omega)) e1, ⟨fun _ => (by have ih2 := ih (k + 1) v1 (v2 + 0) u hI hN (by omega) (by have := q_lp hN (by omega) (by omega) h1; omega) (by omega) e1; rw [← nI_1] at ih2; exact ih2), fun _ => (by have ih2 := ih (k + 1) v1 (v2 + 1) u hI hN (by omega) (by have := q_lp hN (by omega) (by omega) h1; omega) (by omega) e1; rw [← nI_1] at ih2; exact ih2)⟩⟩, fun _ => (by have ih2 := ih (k + 1) v1 (v2 + 0) u hI hN (by omega) (by have := q_lp hN (by omega) (by omega) h1; omega) (by omega) e1; rw [← nI_1] at ih2; exact ih2)⟩⟩, fun h2 => (by have ih2 := ih (k + 1) v1 (v2 + 0) u hI hN (by omega) (by have := q_lp hN (by omega) (by omega) h1; omega) (by omega) e1; rw [← nI_1] at ih2; exact ih2)⟩⟩⟩
theorem m_placeOf_pp {u : q_S} (hI : q_I u) (v1 : Int32) (e0 : vp_in v1 121) : m_placeOf_p u v1 := by
  unfold m_placeOf_p
  exact (by obtain ⟨N, hB, hN⟩ := q_I_nh hI; exact m_placeOf_l4_pp hB 200 1 v1 0 u hI hN (by omega) (by omega) (by omega) e0)
theorem m_fits_l4_pp {N : Nat} (hB : N ≤ 120) : ∀ (n k : Nat) (v1 : Int32) (v2 : Int32) (u : q_S), q_I u → q_nh u = nI N → 1 ≤ k → k ≤ N + 1 → N + 1 < k + n → vp_in v2 121 → m_fits_l4_p n v1 v2 (nI k) u := by
  intro n
  induction n with
  | zero => intro k v1 v2 u hI hN h1 h2 h3; omega
  | succ n ih =>
    intro k v1 v2 u hI hN h1 h2 h3 e2
    show m_fits_l4_pb (m_fits_l4_p n) v1 v2 (nI k) u
    unfold m_fits_l4_pb
    exact ⟨fun _ => trivial, fun h1 => ⟨(q_lpv hN (by omega) (by omega) h1 (by omega) (by omega)), ⟨fun h2 => ⟨fun _ => ⟨fun _ => (by have ih2 := ih (k + 1) v1 v2 u hI hN (by omega) (by have := q_lp hN (by omega) (by omega) h1; omega) (by omega) e2; rw [← nI_1] at ih2; exact ih2), fun _ => ⟨fun _ => (by have ih2 := ih (k + 1) v1 (nI k) u hI hN (by omega) (by have := q_lp hN (by omega) (by omega) h1; omega) (by omega) (q_lpv hN (by omega) (by omega) h1 (by omega) (by omega)); rw [← nI_1] at ih2; exact ih2), fun _ => ⟨m_isAhead_pp hI _ _ (q_lpv hN (by omega) (by omega) h1 (by omega) (by omega)) e2, ⟨fun _ => (by have ih2 := ih (k + 1) v1 v2 u hI hN (by omega) (by have := q_lp hN (by omega) (by omega) h1; omega) (by omega) e2; rw [← nI_1] at ih2; exact ih2), fun _ => (by have ih2 := ih (k + 1) v1 (nI k) u hI hN (by omega) (by have := q_lp hN (by omega) (by omega) h1; omega) (by omega) (q_lpv hN (by omega) (by omega) h1 (by omega) (by omega)); rw [← nI_1] at ih2; exact ih2)⟩⟩⟩⟩, fun _ => (by have ih2 := ih (k + 1) v1 v2 u hI hN (by omega) (by have := q_lp hN (by omega) (by omega) h1; omega) (by omega) e2; rw [← nI_1] at ih2; exact ih2)⟩, fun h2 => (by have ih2 := ih (k + 1) v1 v2 u hI hN (by omega) (by have := q_lp hN (by omega) (by omega) h1; omega) (by omega) e2; rw [← nI_1] at ih2; exact ih2)⟩⟩⟩
theorem m_fits_pp {u : q_S} (hI : q_I u) (v1 : Int32) : m_fits_p u v1 := by
  unfold m_fits_p
  exact (by obtain ⟨N, hB, hN⟩ := q_I_nh hI; exact m_fits_l4_pp hB 200 1 v1 0 u hI hN (by omega) (by omega) (by omega) (q_0in 121 (by omega) (by omega)))
theorem m_fits_l4_vp {N : Nat} (hB : N ≤ 120) : ∀ (n k : Nat) (v1 : Int32) (v2 : Int32) (u : q_S), q_I u → q_nh u = nI N → 1 ≤ k → k ≤ N + 1 → N + 1 < k + n → vp_in v2 121 → vp_in (m_fits_l4 n v1 v2 (nI k) u) 121 := by
  intro n
  induction n with
  | zero => intro k v1 v2 u hI hN h1 h2 h3; omega
  | succ n ih =>
    intro k v1 v2 u hI hN h1 h2 h3 e2
    show vp_in (m_fits_l4_b (m_fits_l4 n) v1 v2 (nI k) u) 121
    unfold m_fits_l4_b
    by_cases h11 : (q_nh u) < (nI k)
    · rw [if_pos h11]
      exact e2
    · rw [if_neg h11]
      by_cases h12 : (q_hs u (Int32.toNatClampNeg (nI k))) = 0
      · rw [if_pos h12]
        by_cases h13 : (q_hr u (Int32.toNatClampNeg (nI k))) = v1
        · rw [if_pos h13]
          by_cases h14 : 0 < (lg_cmp (q_hu u (Int32.toNatClampNeg (nI k))) (q_td u))
          · rw [if_pos h14]
            exact (by have ih2 := ih (k + 1) v1 v2 u hI hN (by omega) (by have := q_lp hN (by omega) (by omega) h11; omega) (by omega) e2; rw [← nI_1] at ih2; exact ih2)
          · rw [if_neg h14]
            by_cases h15 : v2 = 0
            · rw [if_pos h15]
              exact (by have ih2 := ih (k + 1) v1 (nI k) u hI hN (by omega) (by have := q_lp hN (by omega) (by omega) h11; omega) (by omega) (q_lpv hN (by omega) (by omega) h11 (by omega) (by omega)); rw [← nI_1] at ih2; exact ih2)
            · rw [if_neg h15]
              by_cases h16 : (m_isAhead u (nI k) v2) = 0
              · rw [if_pos h16]
                exact (by have ih2 := ih (k + 1) v1 v2 u hI hN (by omega) (by have := q_lp hN (by omega) (by omega) h11; omega) (by omega) e2; rw [← nI_1] at ih2; exact ih2)
              · rw [if_neg h16]
                exact (by have ih2 := ih (k + 1) v1 (nI k) u hI hN (by omega) (by have := q_lp hN (by omega) (by omega) h11; omega) (by omega) (q_lpv hN (by omega) (by omega) h11 (by omega) (by omega)); rw [← nI_1] at ih2; exact ih2)
        · rw [if_neg h13]
          exact (by have ih2 := ih (k + 1) v1 v2 u hI hN (by omega) (by have := q_lp hN (by omega) (by omega) h11; omega) (by omega) e2; rw [← nI_1] at ih2; exact ih2)
      · rw [if_neg h12]
        exact (by have ih2 := ih (k + 1) v1 v2 u hI hN (by omega) (by have := q_lp hN (by omega) (by omega) h11; omega) (by omega) e2; rw [← nI_1] at ih2; exact ih2)
theorem m_fits_vp {u : q_S} (hI : q_I u) (v1 : Int32) : vp_in (m_fits u v1) 121 := by
  obtain ⟨N, hB, hN⟩ := q_I_nh hI
  exact m_fits_l4_vp hB 200 1 v1 0 u hI hN (by omega) (by omega) (by omega) (q_0in 121 (by omega) (by omega))
theorem m_lies_pp {u : q_S} (hI : q_I u) (v1 : Int32) (v2 : Int32) (e0 : vp_in v1 61) (e1 : vp_in v2 121) : m_lies_p u v1 v2 := by
  unfold m_lies_p
  exact ⟨e1, e0⟩
theorem m_lies_I {u : q_S} (hI : q_I u) (v1 : Int32) (v2 : Int32) (e0 : vp_in v1 61) (e1 : vp_in v2 121) : q_I (m_lies u v1 v2) := by
  show q_I (m_lies u v1 v2)
  unfold m_lies
  exact (q_I_cs_u (q_I_he_u (q_I_hs_u hI _ _) _ _) _ _)
theorem m_goes_pp {u : q_S} (hI : q_I u) (v1 : Int32) (e0 : vp_in v1 61) : m_goes_p u v1 := by
  unfold m_goes_p
  exact ⟨e0, ⟨m_fits_pp hI _, ⟨fun _ => trivial, fun _ => ⟨(m_fits_vp hI _), ⟨fun _ => m_lies_pp (q_I_hy_u (q_I_cs_u (q_I_ch_u hI _ _ (m_fits_vp hI _)) _ _) _ _ e0) _ _ e0 (m_fits_vp hI _), fun _ => trivial⟩⟩⟩⟩⟩
theorem m_goes_I {u : q_S} (hI : q_I u) (v1 : Int32) (e0 : vp_in v1 61) : q_I (m_goes_s u v1) := by
  show q_I ((m_goes u v1).2)
  unfold m_goes
  by_cases h1 : (m_fits u (q_cr u (Int32.toNatClampNeg v1))) = 0
  · rw [if_pos h1]
    exact (q_I_cs_u (q_I_ch_u hI _ _ (m_fits_vp hI _)) _ _)
  · rw [if_neg h1]
    by_cases h2 : (q_cp u (Int32.toNatClampNeg v1)) = (q_hl u (Int32.toNatClampNeg (m_fits u (q_cr u (Int32.toNatClampNeg v1)))))
    · rw [if_pos h2]
      exact (m_lies_I (q_I_hy_u (q_I_cs_u (q_I_ch_u hI _ _ (m_fits_vp hI _)) _ _) _ _ e0) _ _ e0 (m_fits_vp hI _))
    · rw [if_neg h2]
      exact (q_I_cp_u (q_I_cs_u (q_I_hs_u (q_I_hy_u (q_I_cs_u (q_I_ch_u hI _ _ (m_fits_vp hI _)) _ _) _ _ e0) _ _) _ _) _ _)
theorem m_hold_l232_pp {u : q_S} {cn : Int32} (hI : q_I u) (hN : ∃ N, N ≤ 60 ∧ cn = nI N) (v1 v2 v3 v4 v5 v6 : Int32) : m_hold_l232_p 200 v1 v2 v3 v4 v5 v6 0 cn u := by
  have key : ∀ (n k : Nat) (v7 : Int32), k ≤ 60 → k < n → vp_in v7 61 → m_hold_l232_p n v1 v2 v3 v4 v5 v6 v7 (nI k) u := by
    intro n
    induction n with
    | zero => intro k v7 h1 h2; omega
    | succ n ih =>
      intro k v7 h1 h2 h7
      show m_hold_l232_pb (m_hold_l232_p n) v1 v2 v3 v4 v5 v6 v7 (nI k) u
      unfold m_hold_l232_pb
      refine ⟨fun _ => ⟨fun _ => trivial, fun _ => m_goes_pp hI _ h7⟩, fun h => ?_⟩
      cases k with
      | zero => exact absurd (by decide +kernel : nI 0 ≤ 0) h
      | succ k =>
        have A : vp_in (nI (k + 1)) 61 := vp_in_nI (by omega) (by omega)
        rw [pk_m1]
        exact ⟨A, ⟨fun _ => ⟨fun _ => ih k _ (by omega) (by omega) A, fun _ => ih k _ (by omega) (by omega) h7⟩, fun _ => ih k _ (by omega) (by omega) h7⟩⟩
  obtain ⟨N, hB, e⟩ := hN
  rw [e]
  exact key 200 N 0 hB (by omega) (q_0in 61 (by omega) (by omega))
theorem m_hold_l232_I {u : q_S} {cn : Int32} (hI : q_I u) (hN : ∃ N, N ≤ 60 ∧ cn = nI N) (v1 v2 v3 v4 v5 v6 : Int32) : q_I (m_hold_l232 200 v1 v2 v3 v4 v5 v6 0 cn u).2 := by
  have key : ∀ (n k : Nat) (v7 : Int32), k ≤ 60 → vp_in v7 61 → q_I (m_hold_l232 n v1 v2 v3 v4 v5 v6 v7 (nI k) u).2 := by
    intro n
    induction n with
    | zero => intro k v7 h1 h2; exact hI
    | succ n ih =>
      intro k v7 h1 h7
      show q_I (m_hold_l232_b (m_hold_l232 n) v1 v2 v3 v4 v5 v6 v7 (nI k) u).2
      unfold m_hold_l232_b
      by_cases h : nI k ≤ 0
      · rw [if_pos h]
        by_cases h2 : v7 ≤ 0
        · rw [if_pos h2]; exact hI
        · rw [if_neg h2]; exact m_goes_I hI _ h7
      · rw [if_neg h]
        cases k with
        | zero => exact absurd (by decide +kernel : nI 0 ≤ 0) h
        | succ k =>
          have A : vp_in (nI (k + 1)) 61 := vp_in_nI (by omega) (by omega)
          rw [pk_m1]
          split
          · split
            · exact ih k _ (by omega) A
            · exact ih k _ (by omega) h7
          · exact ih k _ (by omega) h7
  obtain ⟨N, hB, e⟩ := hN
  rw [e]
  exact key 200 N 0 hB (q_0in 61 (by omega) (by omega))

theorem m_hold_l67_pp {N : Nat} (hB : N ≤ 120) : ∀ (n k : Nat) (v1 : Int32) (v2 : Int32) (v3 : Int32) (v4 : Int32) (v5 : Int32) (u : q_S), q_I u → q_nh u = nI N → 1 ≤ k → k ≤ N + 1 → N + 1 < k + n → vp_in v1 40 → q_nh u < 120 → m_hold_l67_p n v1 v2 v3 v4 v5 (nI k) u := by
  intro n
  induction n with
  | zero => intro k v1 v2 v3 v4 v5 u hI hN h1 h2 h3; omega
  | succ n ih =>
    intro k v1 v2 v3 v4 v5 u hI hN h1 h2 h3 e1 hst
    show m_hold_l67_pb (m_hold_l67_p n) v1 v2 v3 v4 v5 (nI k) u
    unfold m_hold_l67_pb
    exact ⟨fun _ => ⟨e1, ⟨fun _ => ⟨(q_inc_nh hI hst).2, (m_hold_l232_pp (q_I_hu_u (q_I_hy_u (q_I_hs_u (q_I_hk_u (q_I_hl_u (q_I_hr_u (q_I_hp_u (q_I_nh_s hI (q_inc_nh hI hst).1) _ _) _ _) _ _) _ _) _ _) _ _ (q_0in 61 (by omega) (by omega))) _ _) (q_I_nc hI) _ _ _ _ _ _)⟩, fun _ => trivial⟩⟩, fun h1 => ⟨(q_lpv hN (by omega) (by omega) h1 (by omega) (by omega)), ⟨fun _ => ⟨m_isOpen_pp hI _ (q_lpv hN (by omega) (by omega) h1 (by omega) (by omega)), ⟨fun _ => (by have ih2 := ih (k + 1) v1 v2 v3 v4 v5 u hI hN (by omega) (by have := q_lp hN (by omega) (by omega) h1; omega) (by omega) e1 hst; rw [← nI_1] at ih2; exact ih2), fun _ => ⟨fun _ => trivial, fun _ => (by have ih2 := ih (k + 1) v1 v2 v3 v4 (v5 + 1) u hI hN (by omega) (by have := q_lp hN (by omega) (by omega) h1; omega) (by omega) e1 hst; rw [← nI_1] at ih2; exact ih2)⟩⟩⟩, fun _ => (by have ih2 := ih (k + 1) v1 v2 v3 v4 v5 u hI hN (by omega) (by have := q_lp hN (by omega) (by omega) h1; omega) (by omega) e1 hst; rw [← nI_1] at ih2; exact ih2)⟩⟩⟩
theorem m_hold_pp {u : q_S} (hI : q_I u) (v1 : Int32) (v2 : Int32) (v3 : Int32) (v4 : Int32) : m_hold_p u v1 v2 v3 v4 := by
  unfold m_hold_p
  exact ⟨fun _ => trivial, fun h1 => ⟨fun _ => trivial, fun h2 => ⟨fun _ => trivial, fun _ => ⟨(m_in_nr hI h2), ⟨(q_I_kd hI _), ⟨fun _ => ⟨fun _ => trivial, fun h5 => (by obtain ⟨N, hB, hN⟩ := q_I_nh hI; exact m_hold_l67_pp hB 200 1 v1 v2 v3 v4 0 (q_th_s u 0) (q_I_th_s hI _) hN (by omega) (by omega) (by omega) (m_in39 h1) (q_ne_nh hI h5))⟩, fun _ => trivial⟩⟩⟩⟩⟩⟩
theorem m_hold_l67_I {N : Nat} (hB : N ≤ 120) : ∀ (n k : Nat) (v1 : Int32) (v2 : Int32) (v3 : Int32) (v4 : Int32) (v5 : Int32) (u : q_S), q_I u → q_nh u = nI N → 1 ≤ k → k ≤ N + 1 → vp_in v1 40 → q_nh u < 120 → q_I (m_hold_l67 n v1 v2 v3 v4 v5 (nI k) u).2 := by
  intro n
  induction n with
  | zero => intro k v1 v2 v3 v4 v5 u hI hN h1 h2 e1 hst; exact hI
  | succ n ih =>
    intro k v1 v2 v3 v4 v5 u hI hN h1 h2 e1 hst
    show q_I (m_hold_l67_b (m_hold_l67 n) v1 v2 v3 v4 v5 (nI k) u).2
    unfold m_hold_l67_b
    by_cases h11 : (q_nh u) < (nI k)
    · rw [if_pos h11]
      by_cases h12 : v5 < (q_mo u (Int32.toNatClampNeg v1))
      · rw [if_pos h12]
        exact (m_hold_l232_I (q_I_hu_u (q_I_hy_u (q_I_hs_u (q_I_hk_u (q_I_hl_u (q_I_hr_u (q_I_hp_u (q_I_nh_s hI (q_inc_nh hI hst).1) _ _) _ _) _ _) _ _) _ _) _ _ (q_0in 61 (by omega) (by omega))) _ _) (q_I_nc hI) _ _ _ _ _ _)
      · rw [if_neg h12]
        exact hI
    · rw [if_neg h11]
      by_cases h13 : (q_hp u (Int32.toNatClampNeg (nI k))) = v1
      · rw [if_pos h13]
        by_cases h14 : (m_isOpen u (nI k)) = 0
        · rw [if_pos h14]
          exact (by have ih2 := ih (k + 1) v1 v2 v3 v4 v5 u hI hN (by omega) (by have := q_lp hN (by omega) (by omega) h11; omega) e1 hst; rw [← nI_1] at ih2; exact ih2)
        · rw [if_neg h14]
          by_cases h15 : (q_hr u (Int32.toNatClampNeg (nI k))) = v2
          · rw [if_pos h15]
            exact hI
          · rw [if_neg h15]
            exact (by have ih2 := ih (k + 1) v1 v2 v3 v4 (v5 + 1) u hI hN (by omega) (by have := q_lp hN (by omega) (by omega) h11; omega) e1 hst; rw [← nI_1] at ih2; exact ih2)
      · rw [if_neg h13]
        exact (by have ih2 := ih (k + 1) v1 v2 v3 v4 v5 u hI hN (by omega) (by have := q_lp hN (by omega) (by omega) h11; omega) e1 hst; rw [← nI_1] at ih2; exact ih2)
theorem m_hold_I {u : q_S} (hI : q_I u) (v1 : Int32) (v2 : Int32) (v3 : Int32) (v4 : Int32) : q_I (m_hold_s u v1 v2 v3 v4) := by
  show q_I ((m_hold u v1 v2 v3 v4).2)
  unfold m_hold
  by_cases h11 : (m_in v1 0 39) = 0
  · rw [if_pos h11]
    exact (q_I_th_s hI _)
  · rw [if_neg h11]
    by_cases h12 : (m_in v2 1 (q_nr u)) = 0
    · rw [if_pos h12]
      exact (q_I_th_s hI _)
    · rw [if_neg h12]
      by_cases h13 : (m_in v3 0 5) = 0
      · rw [if_pos h13]
        exact (q_I_th_s hI _)
      · rw [if_neg h13]
        by_cases h14 : (q_bd u (Int32.toNatClampNeg (q_kd u (Int32.toNatClampNeg v2)))) = 0
        · rw [if_pos h14]
          by_cases h15 : (q_nh u) = 120
          · rw [if_pos h15]
            exact (q_I_th_s hI _)
          · rw [if_neg h15]
            obtain ⟨N, hB, hN⟩ := q_I_nh hI
            exact m_hold_l67_I hB 200 1 v1 v2 v3 v4 0 (q_th_s u 0) (q_I_th_s hI _) hN (by omega) (by omega) (m_in39 h11) (q_ne_nh hI h15)
        · rw [if_neg h14]
          exact (q_I_th_s hI _)
theorem m_most_pp {u : q_S} (hI : q_I u) (v1 : Int32) (v2 : Int32) : m_most_p u v1 v2 := by
  unfold m_most_p
  exact ⟨fun _ => trivial, fun h1 => ⟨fun _ => trivial, fun _ => (m_in39 h1)⟩⟩
theorem m_most_I {u : q_S} (hI : q_I u) (v1 : Int32) (v2 : Int32) : q_I (m_most_s u v1 v2) := by
  show q_I ((m_most u v1 v2).2)
  unfold m_most
  by_cases h1 : (m_in v1 0 39) = 0
  · rw [if_pos h1]
    exact (q_I_th_s hI _)
  · rw [if_neg h1]
    by_cases h2 : (m_in v2 0 20) = 0
    · rw [if_pos h2]
      exact (q_I_th_s hI _)
    · rw [if_neg h2]
      exact (q_I_mo_u (q_I_th_s hI _) _ _)
theorem m_isHold_pp {u : q_S} (hI : q_I u) (v1 : Int32) : m_isHold_p u v1 := by
  unfold m_isHold_p
  exact q_nb (m_in_01 _ _ _)
theorem m_isWaiting_pp {u : q_S} (hI : q_I u) (v1 : Int32) : m_isWaiting_p u v1 := by
  unfold m_isWaiting_p
  exact ⟨m_isHold_pp hI _, ⟨fun _ => trivial, fun h1 => (m_isHold_vp hI h1)⟩⟩
theorem m_suspend_pp {u : q_S} (hI : q_I u) (v1 : Int32) (v2 : Int64) : m_suspend_p u v1 v2 := by
  unfold m_suspend_p
  exact ⟨m_isWaiting_pp (q_I_th_s hI _) _, ⟨fun _ => trivial, fun h1 => (m_isHold_vp (q_I_th_s hI _) (m_isWaiting_ne h1).1)⟩⟩
theorem m_suspend_I {u : q_S} (hI : q_I u) (v1 : Int32) (v2 : Int64) : q_I (m_suspend_s u v1 v2) := by
  show q_I ((m_suspend u v1 v2).2)
  unfold m_suspend
  by_cases h1 : (m_isWaiting (q_th_s u 0) v1) = 0
  · rw [if_pos h1]
    exact (q_I_th_s hI _)
  · rw [if_neg h1]
    exact (q_I_hu_u (q_I_th_s hI _) _ _)
theorem m_isCopy_pp {u : q_S} (hI : q_I u) (v1 : Int32) (v2 : Int32) : m_isCopy_p u v1 v2 := by
  unfold m_isCopy_p
  exact ⟨fun _ => trivial, fun h1 => (m_in_nc hI h1)⟩
theorem m_back_pp {u : q_S} (hI : q_I u) (v1 : Int32) (v2 : Int32) : m_back_p u v1 v2 := by
  unfold m_back_p
  exact ⟨m_isCopy_pp (q_I_th_s hI _) _ _, ⟨fun _ => trivial, fun h1 => ⟨fun _ => trivial, fun _ => ⟨(m_isCopy_vp (q_I_th_s hI _) h1), m_goes_pp (q_I_cp_u (q_I_th_s hI _) _ _) _ (m_isCopy_vp (q_I_th_s hI _) h1)⟩⟩⟩⟩
theorem m_back_I {u : q_S} (hI : q_I u) (v1 : Int32) (v2 : Int32) : q_I (m_back_s u v1 v2) := by
  show q_I ((m_back u v1 v2).2)
  unfold m_back
  by_cases h1 : (m_isCopy (q_th_s u 0) v1 1) = 0
  · rw [if_pos h1]
    exact (q_I_th_s hI _)
  · rw [if_neg h1]
    by_cases h2 : (m_in v2 0 5) = 0
    · rw [if_pos h2]
      exact (q_I_th_s hI _)
    · rw [if_neg h2]
      exact (m_goes_I (q_I_cp_u (q_I_th_s hI _) _ _) _ (m_isCopy_vp (q_I_th_s hI _) h1))
theorem m_arrive_pp {u : q_S} (hI : q_I u) (v1 : Int32) : m_arrive_p u v1 := by
  unfold m_arrive_p
  exact ⟨m_isCopy_pp (q_I_th_s hI _) _ _, ⟨fun _ => trivial, fun h1 => ⟨(m_isCopy_vp (q_I_th_s hI _) h1), ⟨fun _ => m_goes_pp (q_I_th_s hI _) _ (m_isCopy_vp (q_I_th_s hI _) h1), fun _ => m_lies_pp (q_I_th_s hI _) _ _ (m_isCopy_vp (q_I_th_s hI _) h1) (q_I_ch hI _)⟩⟩⟩⟩
theorem m_arrive_I {u : q_S} (hI : q_I u) (v1 : Int32) : q_I (m_arrive_s u v1) := by
  show q_I ((m_arrive u v1).2)
  unfold m_arrive
  by_cases h1 : (m_isCopy (q_th_s u 0) v1 2) = 0
  · rw [if_pos h1]
    exact (q_I_th_s hI _)
  · rw [if_neg h1]
    by_cases h2 : (q_ch u (Int32.toNatClampNeg v1)) ≤ 0
    · rw [if_pos h2]
      exact (m_goes_I (q_I_th_s hI _) _ (m_isCopy_vp (q_I_th_s hI _) h1))
    · rw [if_neg h2]
      exact (m_lies_I (q_I_th_s hI _) _ _ (m_isCopy_vp (q_I_th_s hI _) h1) (q_I_ch hI _))
theorem m_pick_pp {u : q_S} (hI : q_I u) (v1 : Int32) : m_pick_p u v1 := by
  unfold m_pick_p
  exact ⟨m_isHold_pp (q_I_th_s hI _) _, ⟨fun _ => trivial, fun h1 => ⟨(m_isHold_vp (q_I_th_s hI _) h1), ⟨fun _ => (q_I_hy hI _), fun _ => trivial⟩⟩⟩⟩
theorem m_pick_I {u : q_S} (hI : q_I u) (v1 : Int32) : q_I (m_pick_s u v1) := by
  show q_I ((m_pick u v1).2)
  unfold m_pick
  by_cases h1 : (m_isHold (q_th_s u 0) v1) = 0
  · rw [if_pos h1]
    exact (q_I_th_s hI _)
  · rw [if_neg h1]
    by_cases h2 : (q_hs u (Int32.toNatClampNeg v1)) = 2
    · rw [if_pos h2]
      exact (q_I_ch_u (q_I_cs_u (q_I_hy_u (q_I_hs_u (q_I_th_s hI _) _ _) _ _ (q_0in 61 (by omega) (by omega))) _ _) _ _ (q_0in 121 (by omega) (by omega)))
    · rw [if_neg h2]
      exact (q_I_th_s hI _)
theorem m_lend_pp {u : q_S} (hI : q_I u) (v1 : Int32) : m_lend_p u v1 := by
  unfold m_lend_p
  exact ⟨m_isCopy_pp (q_I_th_s hI _) _ _, ⟨fun _ => trivial, fun h1 => (m_isCopy_vp (q_I_th_s hI _) h1)⟩⟩
theorem m_lend_I {u : q_S} (hI : q_I u) (v1 : Int32) : q_I (m_lend_s u v1) := by
  show q_I ((m_lend u v1).2)
  unfold m_lend
  by_cases h1 : (m_isCopy (q_th_s u 0) v1 0) = 0
  · rw [if_pos h1]
    exact (q_I_th_s hI _)
  · rw [if_neg h1]
    exact (q_I_cs_u (q_I_th_s hI _) _ _)
theorem m_ends_pp {u : q_S} (hI : q_I u) (v1 : Int32) (v2 : Int32) (e0 : vp_in v1 121) : m_ends_p u v1 v2 := by
  unfold m_ends_p
  exact ⟨e0, ⟨fun _ => ⟨fun _ => m_goes_pp (q_I_hy_u (q_I_hs_u hI _ _) _ _ (q_0in 61 (by omega) (by omega))) _ (q_I_hy hI _), fun _ => ⟨(q_I_hy hI _), m_goes_pp (q_I_ch_u (q_I_hy_u (q_I_hs_u hI _ _) _ _ (q_0in 61 (by omega) (by omega))) _ _ (q_0in 121 (by omega) (by omega))) _ (q_I_hy hI _)⟩⟩, fun _ => ⟨fun _ => trivial, fun _ => (q_I_hy hI _)⟩⟩⟩
theorem m_ends_I {u : q_S} (hI : q_I u) (v1 : Int32) (v2 : Int32) (e0 : vp_in v1 121) : q_I (m_ends u v1 v2) := by
  show q_I (m_ends u v1 v2)
  unfold m_ends
  by_cases h1 : (q_hs u (Int32.toNatClampNeg v1)) = 2
  · rw [if_pos h1]
    by_cases h2 : (q_hy u (Int32.toNatClampNeg v1)) ≤ 0
    · rw [if_pos h2]
      exact (m_goes_I (q_I_hy_u (q_I_hs_u hI _ _) _ _ (q_0in 61 (by omega) (by omega))) _ (q_I_hy hI _))
    · rw [if_neg h2]
      exact (m_goes_I (q_I_ch_u (q_I_hy_u (q_I_hs_u hI _ _) _ _ (q_0in 61 (by omega) (by omega))) _ _ (q_0in 121 (by omega) (by omega))) _ (q_I_hy hI _))
  · rw [if_neg h1]
    by_cases h3 : (q_hy u (Int32.toNatClampNeg v1)) ≤ 0
    · rw [if_pos h3]
      exact (q_I_hy_u (q_I_hs_u hI _ _) _ _ (q_0in 61 (by omega) (by omega)))
    · rw [if_neg h3]
      exact (q_I_ch_u (q_I_hy_u (q_I_hs_u hI _ _) _ _ (q_0in 61 (by omega) (by omega))) _ _ (q_0in 121 (by omega) (by omega)))
theorem m_goes_nh (u : q_S) (c : Int32) : q_nh (m_goes_s u c) = q_nh u := by
  show q_nh (m_goes u c).2 = q_nh u
  unfold m_goes m_lies
  split
  · simp only [q_nh_cp_u, q_nh_cs_u, q_nh_hs_u, q_nh_hy_u, q_nh_ch_u, q_nh_he_u]
  · split
    · simp only [q_nh_cp_u, q_nh_cs_u, q_nh_hs_u, q_nh_hy_u, q_nh_ch_u, q_nh_he_u]
    · simp only [q_nh_cp_u, q_nh_cs_u, q_nh_hs_u, q_nh_hy_u, q_nh_ch_u, q_nh_he_u]
theorem m_ends_nh (u : q_S) (h v : Int32) : q_nh (m_ends u h v) = q_nh u := by
  unfold m_ends
  split
  · split
    · simp only [m_goes_nh, q_nh_cp_u, q_nh_cs_u, q_nh_hs_u, q_nh_hy_u, q_nh_ch_u, q_nh_he_u]
    · simp only [m_goes_nh, q_nh_cp_u, q_nh_cs_u, q_nh_hs_u, q_nh_hy_u, q_nh_ch_u, q_nh_he_u]
  · split
    · simp only [q_nh_cp_u, q_nh_cs_u, q_nh_hs_u, q_nh_hy_u, q_nh_ch_u, q_nh_he_u]
    · simp only [q_nh_cp_u, q_nh_cs_u, q_nh_hs_u, q_nh_hy_u, q_nh_ch_u, q_nh_he_u]
theorem m_cancel_pp {u : q_S} (hI : q_I u) (v1 : Int32) : m_cancel_p u v1 := by
  unfold m_cancel_p
  exact ⟨m_isHold_pp (q_I_th_s hI _) _, ⟨fun _ => trivial, fun h1 => ⟨m_isOpen_pp (q_I_th_s hI _) _ (m_isHold_vp (q_I_th_s hI _) h1), ⟨fun _ => trivial, fun _ => m_ends_pp (q_I_th_s hI _) _ _ (m_isHold_vp (q_I_th_s hI _) h1)⟩⟩⟩⟩
theorem m_cancel_I {u : q_S} (hI : q_I u) (v1 : Int32) : q_I (m_cancel_s u v1) := by
  show q_I ((m_cancel u v1).2)
  unfold m_cancel
  by_cases h1 : (m_isHold (q_th_s u 0) v1) = 0
  · rw [if_pos h1]
    exact (q_I_th_s hI _)
  · rw [if_neg h1]
    by_cases h2 : (m_isOpen (q_th_s u 0) v1) = 0
    · rw [if_pos h2]
      exact (q_I_th_s hI _)
    · rw [if_neg h2]
      exact (m_ends_I (q_I_th_s hI _) _ _ (m_isHold_vp (q_I_th_s hI _) h1))
theorem m_tick_l34_pp {N : Nat} (hB : N ≤ 120) : ∀ (n k : Nat) (v1 : Int64) (v3 : Int32) (u : q_S), q_I u → q_nh u = nI N → 1 ≤ k → k ≤ N + 1 → N + 1 < k + n → m_tick_l34_p n v1 v3 (nI k) u := by
  intro n
  induction n with
  | zero => intro k v1 v3 u hI hN h1 h2 h3; omega
  | succ n ih =>
    intro k v1 v3 u hI hN h1 h2 h3
    show m_tick_l34_pb (m_tick_l34_p n) v1 v3 (nI k) u
    unfold m_tick_l34_pb
    exact ⟨fun _ => trivial, fun h1 => ⟨(q_lpv hN (by omega) (by omega) h1 (by omega) (by omega)), ⟨fun h2 => ⟨fun _ => (by have ih2 := ih (k + 1) v1 v3 u hI hN (by omega) (by have := q_lp hN (by omega) (by omega) h1; omega) (by omega); rw [← nI_1] at ih2; exact ih2), fun _ => ⟨m_ends_pp hI _ _ (q_lpv hN (by omega) (by omega) h1 (by omega) (by omega)), (by have ih2 := ih (k + 1) v1 (v3 + 1) (m_ends u (nI k) 4) (m_ends_I hI _ _ (q_lpv hN (by omega) (by omega) h1 (by omega) (by omega))) ((m_ends_nh _ _ _).trans hN) (by omega) (by have := q_lp hN (by omega) (by omega) h1; omega) (by omega); rw [← nI_1] at ih2; exact ih2)⟩⟩, fun h2 => (by have ih2 := ih (k + 1) v1 v3 u hI hN (by omega) (by have := q_lp hN (by omega) (by omega) h1; omega) (by omega); rw [← nI_1] at ih2; exact ih2)⟩⟩⟩
theorem m_tick_pp {u : q_S} (hI : q_I u) (v1 : Int64) : m_tick_p u v1 := by
  unfold m_tick_p
  exact ⟨fun _ => trivial, fun _ => ⟨fun _ => (by obtain ⟨N, hB, hN⟩ := q_I_nh hI; exact m_tick_l34_pp hB 200 1 v1 0 (q_td_s (q_th_s u 0) v1) (q_I_td_s (q_I_th_s hI _) _) hN (by omega) (by omega) (by omega)), fun _ => trivial⟩⟩
theorem m_tick_l34_I {N : Nat} (hB : N ≤ 120) : ∀ (n k : Nat) (v1 : Int64) (v3 : Int32) (u : q_S), q_I u → q_nh u = nI N → 1 ≤ k → k ≤ N + 1 → q_I (m_tick_l34 n v1 v3 (nI k) u).2 := by
  intro n
  induction n with
  | zero => intro k v1 v3 u hI hN h1 h2; exact hI
  | succ n ih =>
    intro k v1 v3 u hI hN h1 h2
    show q_I (m_tick_l34_b (m_tick_l34 n) v1 v3 (nI k) u).2
    unfold m_tick_l34_b
    by_cases h11 : (q_nh u) < (nI k)
    · rw [if_pos h11]
      exact hI
    · rw [if_neg h11]
      by_cases h12 : (q_hs u (Int32.toNatClampNeg (nI k))) = 2
      · rw [if_pos h12]
        by_cases h13 : 0 ≤ (lg_cmp (q_he u (Int32.toNatClampNeg (nI k))) (q_td u))
        · rw [if_pos h13]
          exact (by have ih2 := ih (k + 1) v1 v3 u hI hN (by omega) (by have := q_lp hN (by omega) (by omega) h11; omega); rw [← nI_1] at ih2; exact ih2)
        · rw [if_neg h13]
          exact (by have ih2 := ih (k + 1) v1 (v3 + 1) (m_ends u (nI k) 4) (m_ends_I hI _ _ (q_lpv hN (by omega) (by omega) h11 (by omega) (by omega))) ((m_ends_nh _ _ _).trans hN) (by omega) (by have := q_lp hN (by omega) (by omega) h11; omega); rw [← nI_1] at ih2; exact ih2)
      · rw [if_neg h12]
        exact (by have ih2 := ih (k + 1) v1 v3 u hI hN (by omega) (by have := q_lp hN (by omega) (by omega) h11; omega); rw [← nI_1] at ih2; exact ih2)
theorem m_tick_I {u : q_S} (hI : q_I u) (v1 : Int64) : q_I (m_tick_s u v1) := by
  show q_I ((m_tick u v1).2)
  unfold m_tick
  by_cases h11 : (lg_cmp v1 (q_td u)) ≤ 0
  · rw [if_pos h11]
    exact (q_I_th_s hI _)
  · rw [if_neg h11]
    by_cases h12 : (lg_cmp v1 1000000000) ≤ 0
    · rw [if_pos h12]
      obtain ⟨N, hB, hN⟩ := q_I_nh hI
      exact m_tick_l34_I hB 200 1 v1 0 (q_td_s (q_th_s u 0) v1) (q_I_td_s (q_I_th_s hI _) _) hN (by omega) (by omega)
    · rw [if_neg h12]
      exact (q_I_th_s hI _)
theorem m_span_I {u : q_S} (hI : q_I u) (v1 : Int32) : q_I (m_span_s u v1) := by
  show q_I ((m_span u v1).2)
  unfold m_span
  by_cases h1 : (m_in v1 1 99) = 0
  · rw [if_pos h1]
    exact (q_I_th_s hI _)
  · rw [if_neg h1]
    exact (q_I_sp_s (q_I_th_s hI _) _)
theorem m_rank_pp {u : q_S} (hI : q_I u) (v1 : Int32) (v2 : Int32) : m_rank_p u v1 v2 := by
  unfold m_rank_p
  exact ⟨m_isWaiting_pp (q_I_th_s hI _) _, ⟨fun _ => trivial, fun h1 => ⟨(m_isHold_vp (q_I_th_s hI _) (m_isWaiting_ne h1).1), m_placeOf_pp (q_I_hk_u (q_I_th_s hI _) _ _) _ (m_isHold_vp (q_I_th_s hI _) (m_isWaiting_ne h1).1)⟩⟩⟩
theorem m_rank_I {u : q_S} (hI : q_I u) (v1 : Int32) (v2 : Int32) : q_I (m_rank_s u v1 v2) := by
  show q_I ((m_rank u v1 v2).2)
  unfold m_rank
  by_cases h1 : (m_isWaiting (q_th_s u 0) v1) = 0
  · rw [if_pos h1]
    exact (q_I_th_s hI _)
  · rw [if_neg h1]
    exact (q_I_hk_u (q_I_th_s hI _) _ _)
theorem m_order_l7_pp {N : Nat} (hB : N ≤ 120) : ∀ (n k : Nat) (v1 : Int32) (v2 : Int32) (u : q_S), q_I u → q_nh u = nI N → 1 ≤ k → k ≤ N + 1 → N + 1 < k + n → m_order_l7_p n v1 v2 (nI k) u := by
  intro n
  induction n with
  | zero => intro k v1 v2 u hI hN h1 h2 h3; omega
  | succ n ih =>
    intro k v1 v2 u hI hN h1 h2 h3
    show m_order_l7_pb (m_order_l7_p n) v1 v2 (nI k) u
    unfold m_order_l7_pb
    exact ⟨fun _ => trivial, fun h1 => ⟨(q_lpv hN (by omega) (by omega) h1 (by omega) (by omega)), ⟨fun h2 => ⟨fun _ => ⟨m_placeOf_pp hI _ (q_lpv hN (by omega) (by omega) h1 (by omega) (by omega)), ⟨fun _ => trivial, fun _ => (by have ih2 := ih (k + 1) v1 v2 u hI hN (by omega) (by have := q_lp hN (by omega) (by omega) h1; omega) (by omega); rw [← nI_1] at ih2; exact ih2)⟩⟩, fun _ => (by have ih2 := ih (k + 1) v1 v2 u hI hN (by omega) (by have := q_lp hN (by omega) (by omega) h1; omega) (by omega); rw [← nI_1] at ih2; exact ih2)⟩, fun h2 => (by have ih2 := ih (k + 1) v1 v2 u hI hN (by omega) (by have := q_lp hN (by omega) (by omega) h1; omega) (by omega); rw [← nI_1] at ih2; exact ih2)⟩⟩⟩
theorem m_order_pp {u : q_S} (hI : q_I u) (v1 : Int32) (v2 : Int32) : m_order_p u v1 v2 := by
  unfold m_order_p
  exact (by obtain ⟨N, hB, hN⟩ := q_I_nh hI; exact m_order_l7_pp hB 200 1 v1 v2 (q_th_s u 0) (q_I_th_s hI _) hN (by omega) (by omega) (by omega))
theorem m_order_l7_I {N : Nat} (hB : N ≤ 120) : ∀ (n k : Nat) (v1 : Int32) (v2 : Int32) (u : q_S), q_I u → q_nh u = nI N → 1 ≤ k → k ≤ N + 1 → q_I (m_order_l7 n v1 v2 (nI k) u).2 := by
  intro n
  induction n with
  | zero => intro k v1 v2 u hI hN h1 h2; exact hI
  | succ n ih =>
    intro k v1 v2 u hI hN h1 h2
    show q_I (m_order_l7_b (m_order_l7 n) v1 v2 (nI k) u).2
    unfold m_order_l7_b
    by_cases h11 : (q_nh u) < (nI k)
    · rw [if_pos h11]
      exact hI
    · rw [if_neg h11]
      by_cases h12 : (q_hs u (Int32.toNatClampNeg (nI k))) = 0
      · rw [if_pos h12]
        by_cases h13 : (q_hr u (Int32.toNatClampNeg (nI k))) = v1
        · rw [if_pos h13]
          by_cases h14 : (m_placeOf u (nI k)) = v2
          · rw [if_pos h14]
            exact hI
          · rw [if_neg h14]
            exact (by have ih2 := ih (k + 1) v1 v2 u hI hN (by omega) (by have := q_lp hN (by omega) (by omega) h11; omega); rw [← nI_1] at ih2; exact ih2)
        · rw [if_neg h13]
          exact (by have ih2 := ih (k + 1) v1 v2 u hI hN (by omega) (by have := q_lp hN (by omega) (by omega) h11; omega); rw [← nI_1] at ih2; exact ih2)
      · rw [if_neg h12]
        exact (by have ih2 := ih (k + 1) v1 v2 u hI hN (by omega) (by have := q_lp hN (by omega) (by omega) h11; omega); rw [← nI_1] at ih2; exact ih2)
theorem m_order_I {u : q_S} (hI : q_I u) (v1 : Int32) (v2 : Int32) : q_I (m_order_s u v1 v2) := by
  show q_I ((m_order u v1 v2).2)
  unfold m_order
  obtain ⟨N, hB, hN⟩ := q_I_nh hI
  exact m_order_l7_I hB 200 1 v1 v2 (q_th_s u 0) (q_I_th_s hI _) hN (by omega) (by omega)
theorem m_state_pp {u : q_S} (hI : q_I u) (v1 : Int32) (v2 : Int32) : m_state_p u v1 v2 := by
  unfold m_state_p
  exact ⟨m_isHold_pp (q_I_th_s hI _) _, ⟨fun _ => trivial, fun h1 => ⟨fun _ => (m_isHold_vp (q_I_th_s hI _) h1), fun _ => ⟨fun _ => (m_isHold_vp (q_I_th_s hI _) h1), fun _ => ⟨fun _ => ⟨(m_isHold_vp (q_I_th_s hI _) h1), ⟨fun _ => m_placeOf_pp (q_I_th_s hI _) _ (m_isHold_vp (q_I_th_s hI _) h1), fun _ => trivial⟩⟩, fun _ => trivial⟩⟩⟩⟩⟩
theorem m_state_I {u : q_S} (hI : q_I u) (v1 : Int32) (v2 : Int32) : q_I (m_state_s u v1 v2) := by
  show q_I ((m_state u v1 v2).2)
  unfold m_state
  by_cases h1 : (m_isHold (q_th_s u 0) v1) = 0
  · rw [if_pos h1]
    exact (q_I_th_s hI _)
  · rw [if_neg h1]
    by_cases h2 : v2 = 0
    · rw [if_pos h2]
      exact (q_I_th_s hI _)
    · rw [if_neg h2]
      by_cases h3 : v2 = 1
      · rw [if_pos h3]
        exact (q_I_th_s hI _)
      · rw [if_neg h3]
        by_cases h4 : v2 = 2
        · rw [if_pos h4]
          by_cases h5 : (q_hs u (Int32.toNatClampNeg v1)) = 0
          · rw [if_pos h5]
            exact (q_I_th_s hI _)
          · rw [if_neg h5]
            exact (q_I_th_s hI _)
        · rw [if_neg h4]
          exact (q_I_th_s hI _)
theorem m_where_pp {u : q_S} (hI : q_I u) (v1 : Int32) (v2 : Int32) : m_where_p u v1 v2 := by
  unfold m_where_p
  exact ⟨fun _ => trivial, fun h1 => ⟨fun _ => (m_in_nc hI h1), fun _ => ⟨fun _ => (m_in_nc hI h1), fun _ => ⟨fun _ => (m_in_nc hI h1), fun _ => trivial⟩⟩⟩⟩
theorem m_where_I {u : q_S} (hI : q_I u) (v1 : Int32) (v2 : Int32) : q_I (m_where_s u v1 v2) := by
  show q_I ((m_where u v1 v2).2)
  unfold m_where
  by_cases h1 : (m_in v1 1 (q_nc u)) = 0
  · rw [if_pos h1]
    exact (q_I_th_s hI _)
  · rw [if_neg h1]
    by_cases h2 : v2 = 0
    · rw [if_pos h2]
      exact (q_I_th_s hI _)
    · rw [if_neg h2]
      by_cases h3 : v2 = 1
      · rw [if_pos h3]
        exact (q_I_th_s hI _)
      · rw [if_neg h3]
        by_cases h4 : v2 = 2
        · rw [if_pos h4]
          exact (q_I_th_s hI _)
        · rw [if_neg h4]
          exact (q_I_th_s hI _)
end
section
/-! OWN: two worlds side by side (the landed code's and the reference's), as the law has them -/
theorem gz_ap1 {α : Type} {l1 l2 : List α} {k : Nat} {q : α} (h : l1[k]? = some q) : (l1 ++ l2)[k]? = some q := by
  rw [List.getElem?_append_left (List.getElem?_eq_some_iff.mp h).1]; exact h
theorem gz_ap2 {α : Type} {l1 l2 : List α} {k : Nat} {q : α} (h : l2[k]? = some q) : (l1 ++ l2)[l1.length + k]? = some q := by
  rw [List.getElem?_append_right (by omega), Nat.add_sub_cancel_left]; exact h
section GZ2
variable {p : Program} {l : Launch} {e : Env} {R : Room} {s : State} {m : MethodId} {args : Array Value} {below : List Frame} {meth : Method} {c : Code} {cells slots : Nat} {Q : State → Prop} {nL : Nat} {a : Nat → Nat} {pc : Nat} {H : Heap} {locs : List Loc}
variable {D : va_G} {cl : List vw_C} {t1 t2 : List (ClassId × FieldType)} {A : Nat → Prop} {w1 w2 : va_W}
theorem gz_left (G : gz_G D cl (t1 ++ t2) A s (w1 ++ w2) H locs) : gz_G D cl t1 A s w1 H locs :=
  ⟨⟨G.1.1, fun k q h => G.1.2 k q (gz_ap1 h)⟩, fun k q h => G.2.1 k q (gz_ap1 h), ⟨fun i j x y hi hj e => G.2.2.1.1 i j x y (gz_ap1 hi) (gz_ap1 hj) e, fun k q h => G.2.2.1.2 k q (gz_ap1 h)⟩, G.2.2.2⟩
theorem gz_right (G : gz_G D cl (t1 ++ t2) A s (w1 ++ w2) H locs) : gz_G D cl t2 A s w2 H locs := by
  refine ⟨⟨G.1.1, fun k q h => G.1.2 _ q (gz_ap2 h)⟩, fun k q h => G.2.1 _ q (gz_ap2 h), ⟨fun i j x y hi hj e => ?_, fun k q h => G.2.2.1.2 _ q (gz_ap2 h)⟩, G.2.2.2⟩
  have h := G.2.2.1.1 _ _ x y (gz_ap2 hi) (gz_ap2 hj) e
  omega
theorem gz_inA {w : va_W} (h : va_D A w) : ∀ x ∈ w.map (fun q => q.1), A x := by
  intro x hx
  obtain ⟨q, hq, rfl⟩ := List.mem_map.mp hx
  obtain ⟨k, hk⟩ := List.getElem?_of_mem hq
  exact h.2 k q hk
/-- the first world has changed, the second has not -/
theorem gz_new1 {w1' : va_W} {as : List Nat} {H1 : Heap} {locs1 : List Loc} (G : gz_G D cl (t1 ++ t2) A s (w1 ++ w2) H locs) (has : w1.map (fun q => q.1) = as) (has' : w1'.map (fun q => q.1) = as) (hP : va_P D cl w1' H1) (hk : ∀ q : Nat, q < H.size → ¬ gz_A as H.size q → H1[q]? = H[q]?) (hS : va_S A s.heap H1 locs1) : gz_G D cl (t1 ++ t2) A s (w1' ++ w2) H1 locs1 := by
  refine ⟨G.1, va_P.app hP (fun k q h => ?_), gz_D G.2.2.1 ?_ (gz_inA G.2.2.1), hS⟩
  · have hat := G.2.1 _ q (gz_ap2 h)
    have hlt := hat.lt
    refine hat.kept (hk q.1 hlt (fun hq => ?_))
    rcases hq with hm | hge
    · rw [← has] at hm
      obtain ⟨x, hx, ex⟩ := List.mem_map.mp hm
      obtain ⟨i, hi⟩ := List.getElem?_of_mem hx
      have h1 := G.2.2.1.1 i (w1.length + k) x q (gz_ap1 hi) (gz_ap2 h) ex
      have h2 := (List.getElem?_eq_some_iff.mp hi).1
      omega
    · omega
  · rw [List.map_append, List.map_append, has, has']
/-- the second world has changed, the first has not -/
theorem gz_new2 {w2' : va_W} {as : List Nat} {H1 : Heap} {locs1 : List Loc} (G : gz_G D cl (t1 ++ t2) A s (w1 ++ w2) H locs) (has : w2.map (fun q => q.1) = as) (has' : w2'.map (fun q => q.1) = as) (hP : va_P D cl w2' H1) (hk : ∀ q : Nat, q < H.size → ¬ gz_A as H.size q → H1[q]? = H[q]?) (hS : va_S A s.heap H1 locs1) : gz_G D cl (t1 ++ t2) A s (w1 ++ w2') H1 locs1 := by
  refine ⟨G.1, va_P.app (fun k q h => ?_) hP, gz_D G.2.2.1 ?_ (gz_inA G.2.2.1), hS⟩
  · have hat := G.2.1 _ q (gz_ap1 h)
    have hlt := hat.lt
    refine hat.kept (hk q.1 hlt (fun hq => ?_))
    rcases hq with hm | hge
    · rw [← has] at hm
      obtain ⟨x, hx, ex⟩ := List.mem_map.mp hm
      obtain ⟨i, hi⟩ := List.getElem?_of_mem hx
      have h1 := G.2.2.1.1 (w1.length + i) k x q (gz_ap2 hi) (gz_ap1 h) ex
      have h2 := (List.getElem?_eq_some_iff.mp h).1
      omega
    · omega
  · rw [List.map_append, List.map_append, has, has']
variable {S1 S2 : Type} {f1 : S1 → va_W} {f2 : S2 → va_W} {as : List Nat}
theorem gz_cb1 {av : List gz_V} {ar : Array Value} {u : S1 × S2} {r0 : Int32} {z0 : S1} (has : ∀ z : S1, (f1 z).map (fun q => q.1) = as) (hA : ∀ q, s.heap.size ≤ q → A q)
    (hr : ∀ (H : Heap) (locs : List Loc) (ls : Array Slot) (rest : List gz_V), gz_dep rest ≤ 8 → ls.size = nL → gz_G D cl t1 A s (f1 u.1) H locs → va_Run p l e R s m args below meth c H locs cells slots 0 0 (F0 m pc ls (gz_cs a (av ++ rest))) (gz_cs a rest) (va_Qi (fun r z => some r = some r0 ∧ z = z0) (gz_B D cl t1 f1 (gz_A as H.size)) (gz_A as H.size) ar) (gz_A as H.size)) :
    gz_cb p l e R s m args below meth c cells slots Q nL a (gz_GG D cl (t1 ++ t2) A s (fun u : S1 × S2 => f1 u.1 ++ f2 u.2)) (pc + 3) pc av u [gz_i r0] (z0, u.2) := by
  intro H locs ls rest hd hs hg kk
  have hg1 := gz_left hg
  refine va_calli (hr H locs ls rest hd hs hg1) hg.2.2.2 (fun q _ h => gz_own hg1 (has u.1) hA q h) (gz_own hg1 (has u.1) hA) (fun r z t H1 locs1 ht hvm hp hB hz hk hS => ?_)
  obtain ⟨e1, e2⟩ := hp
  cases e1
  subst e2
  exact kk H1 locs1 (gz_new1 hg (has u.1) (has z) (by rw [← ht]; exact hB.1) hk hS)
theorem gz_cb2 {av : List gz_V} {ar : Array Value} {u : S1 × S2} {r0 : Int32} {z0 : S2} (has : ∀ z : S2, (f2 z).map (fun q => q.1) = as) (hA : ∀ q, s.heap.size ≤ q → A q)
    (hr : ∀ (H : Heap) (locs : List Loc) (ls : Array Slot) (rest : List gz_V), gz_dep rest ≤ 8 → ls.size = nL → gz_G D cl t2 A s (f2 u.2) H locs → va_Run p l e R s m args below meth c H locs cells slots 0 0 (F0 m pc ls (gz_cs a (av ++ rest))) (gz_cs a rest) (va_Qi (fun r z => some r = some r0 ∧ z = z0) (gz_B D cl t2 f2 (gz_A as H.size)) (gz_A as H.size) ar) (gz_A as H.size)) :
    gz_cb p l e R s m args below meth c cells slots Q nL a (gz_GG D cl (t1 ++ t2) A s (fun u : S1 × S2 => f1 u.1 ++ f2 u.2)) (pc + 3) pc av u [gz_i r0] (u.1, z0) := by
  intro H locs ls rest hd hs hg kk
  have hg1 := gz_right hg
  refine va_calli (hr H locs ls rest hd hs hg1) hg.2.2.2 (fun q _ h => gz_own hg1 (has u.2) hA q h) (gz_own hg1 (has u.2) hA) (fun r z t H1 locs1 ht hvm hp hB hz hk hS => ?_)
  obtain ⟨e1, e2⟩ := hp
  cases e1
  subst e2
  exact kk H1 locs1 (gz_new2 hg (has u.2) (has z) (by rw [← ht]; exact hB.1) hk hS)
end GZ2
end
section
/-! WHAT IS MADE: the constructors -/
/-- the first k places hold v -/
def q_fl (v : Int32) (k : Nat) (f : Nat → Int32) : Nat → Int32 := fun i => if i < k then v else f i
theorem q_fl_0 (v : Int32) (f : Nat → Int32) : q_fl v 0 f = f := by
  funext i
  unfold q_fl
  rw [if_neg (by omega)]
theorem q_fl_s (v : Int32) (k : Nat) (f : Nat → Int32) (hk : k < 1000) : upd (q_fl v k f) (nI k).toNatClampNeg v = q_fl v (k + 1) f := by
  have e : (nI k).toNatClampNeg = k := nI_clamp (by omega)
  rw [e]
  funext i
  by_cases h : i = k
  · subst h
    rw [pk_us]
    unfold q_fl
    rw [if_pos (by omega)]
  · rw [pk_un h]
    unfold q_fl
    by_cases h2 : i < k
    · rw [if_pos h2, if_pos (by omega)]
    · rw [if_neg h2, if_neg (by omega)]
section GZW
variable {p : Program} {l : Launch} {e : Env} {R : Room} {s : State} {m : MethodId} {args : Array Value} {below : List Frame} {meth : Method} {c : Code} {cells slots : Nat} {Q : State → Prop}
/-- a loop whose place counts up to N -/
theorem gz_loop (P : Nat → Heap → List Loc → Array Slot → Prop) (N : Nat) (g : Array Slot → JFrame)
    (step : ∀ k : Nat, k < N → ∀ (H : Heap) (locs : List Loc) (ls : Array Slot), P k H locs ls → (∀ (H1 : Heap) (locs1 : List Loc) (ls1 : Array Slot), P (k + 1) H1 locs1 ls1 → W p l e R s m args below meth c H1 locs1 cells slots Q (g ls1)) → W p l e R s m args below meth c H locs cells slots Q (g ls))
    (done : ∀ (H : Heap) (locs : List Loc) (ls : Array Slot), P N H locs ls → W p l e R s m args below meth c H locs cells slots Q (g ls)) :
    ∀ n k : Nat, k + n = N → ∀ (H : Heap) (locs : List Loc) (ls : Array Slot), P k H locs ls → W p l e R s m args below meth c H locs cells slots Q (g ls) := by
  intro n
  induction n with
  | zero => intro k hk H locs ls h; rw [Nat.add_zero] at hk; subst hk; exact done H locs ls h
  | succ n ih => intro k hk H locs ls h; exact step k (by omega) H locs ls h (fun H1 locs1 ls1 h1 => ih (k + 1) (by omega) H1 locs1 ls1 h1)
end GZW
theorem va_S.drop {A : Nat → Prop} {H0 H : Heap} {locs : List Loc} (h : va_S A H0 H locs) : va_S A H0 H [] := ⟨h.1, h.2.1, fun _ q => by cases q⟩
def q_new : q_S := (0, 0, 0, 0, 7, 0, fun _ => 0, fun _ => 0, q_fl 3 40 (fun _ => 0), fun _ => 0, fun _ => 0, fun _ => 0, fun _ => 0, fun _ => 0, fun _ => 0, fun _ => 0, fun _ => 0, fun _ => 0, fun _ => 0, fun _ => 0, fun _ => 0)
end
section
/-! TIES of holds and copies: hs, hy: a hold's state and copy; cs, ch: a copy's state and hold; N holds, M copies -/
def q_tie (a b : Int32) : Prop := (a = 1 ∧ b = 2) ∨ (a = 2 ∧ b = 3) ∨ (a = 5 ∧ b = 2)
def q_Th (hs hy cs ch : Nat → Int32) (M h : Nat) : Prop := (hy h = 0 ∧ (hs h = 0 ∨ hs h = 3 ∨ hs h = 4 ∨ hs h = 5)) ∨ ∃ c : Nat, 1 ≤ c ∧ c ≤ M ∧ hy h = nI c ∧ ch c = nI h ∧ q_tie (hs h) (cs c)
def q_Tc (hs hy cs ch : Nat → Int32) (N c : Nat) : Prop := (ch c = 0 ∧ (cs c = 0 ∨ cs c = 1)) ∨ ∃ h : Nat, 1 ≤ h ∧ h ≤ N ∧ ch c = nI h ∧ hy h = nI c ∧ q_tie (hs h) (cs c)
def q_T (hs hy cs ch : Nat → Int32) (N M : Nat) : Prop := (N ≤ 120 ∧ M ≤ 60) ∧ ((∀ h, h = 0 ∨ N < h → hs h = 0 ∧ hy h = 0) ∧ (∀ c, c = 0 ∨ M < c → cs c = 0 ∧ ch c = 0)) ∧ (∀ h, q_Th hs hy cs ch M h) ∧ ∀ c, q_Tc hs hy cs ch N c
theorem q_upd_self (f : Nat → Int32) (k : Nat) : upd f k (f k) = f := by
  funext i
  by_cases h : i = k
  · subst h; rw [pk_us]
  · rw [pk_un h]
theorem q_upd_upd (f : Nat → Int32) (k : Nat) (x y : Int32) : upd (upd f k x) k y = upd f k y := by
  funext i
  by_cases h : i = k
  · subst h; rw [pk_us, pk_us]
  · rw [pk_un h, pk_un h, pk_un h]
theorem q_upd_comm (f : Nat → Int32) {k j : Nat} (x y : Int32) (e : k ≠ j) : upd (upd f k x) j y = upd (upd f j y) k x := by
  funext i
  by_cases h : i = j
  · subst h; rw [pk_us, pk_un (Ne.symm e), pk_us]
  · rw [pk_un h]
    by_cases h2 : i = k
    · subst h2; rw [pk_us, pk_us]
    · rw [pk_un h2, pk_un h2, pk_un h]
theorem q_nI_inj {a b : Nat} (ha : a ≤ 1000) (hb : b ≤ 1000) (h : nI a = nI b) : a = b := (nI_eq (by omega) (by omega)).mp h
theorem q_nI_z {a : Nat} (ha : a ≤ 1000) (h1 : 1 ≤ a) : ¬ nI a = 0 := nI_ne0 h1 (by omega)
section QT
variable {hs hy cs ch : Nat → Int32} {N M : Nat}
/-- a change at one hold and one copy, which are tied to one another or to nothing, before and behind it -/
theorem q_T_upd (T : q_T hs hy cs ch N M) {h0 c0 : Nat} {a y b z : Int32} (k1 : 1 ≤ h0) (k2 : h0 ≤ N) (k3 : 1 ≤ c0) (k4 : c0 ≤ M) (p1 : hy h0 = 0 ∨ hy h0 = nI c0) (p2 : ch c0 = 0 ∨ ch c0 = nI h0)
    (po : (y = nI c0 ∧ z = nI h0 ∧ q_tie a b) ∨ (y = 0 ∧ z = 0 ∧ (a = 0 ∨ a = 3 ∨ a = 4 ∨ a = 5) ∧ (b = 0 ∨ b = 1))) : q_T (upd hs h0 a) (upd hy h0 y) (upd cs c0 b) (upd ch c0 z) N M := by
  obtain ⟨⟨hN, hM⟩, ⟨T1, T2⟩, T3, T4⟩ := T
  refine ⟨⟨hN, hM⟩, ⟨fun h hh => ?_, fun c hc => ?_⟩, fun h => ?_, fun c => ?_⟩
  · have e : h ≠ h0 := by omega
    rw [pk_un e, pk_un e]
    exact T1 h hh
  · have e : c ≠ c0 := by omega
    rw [pk_un e, pk_un e]
    exact T2 c hc
  · by_cases e : h = h0
    · subst e
      rcases po with ⟨q1, q2, q3⟩ | ⟨q1, q2, q3, q4⟩
      · refine Or.inr ⟨c0, k3, k4, ?_, ?_, ?_⟩
        · rw [pk_us]; exact q1
        · rw [pk_us]; exact q2
        · rw [pk_us, pk_us]; exact q3
      · refine Or.inl ⟨?_, ?_⟩
        · rw [pk_us]; exact q1
        · rw [pk_us]; exact q3
    · rcases T3 h with q | ⟨c, q1, q2, q3, q4, q5⟩
      · refine Or.inl ?_
        rw [pk_un e, pk_un e]
        exact q
      · have e2 : c ≠ c0 := by
          intro e2
          subst e2
          have hh : ¬ (h = 0 ∨ N < h) := fun hh => q_nI_z (by omega) q1 (q3.symm.trans (T1 h hh).2)
          rcases p2 with r | r
          · exact q_nI_z (by omega) (by omega) (q4.symm.trans r)
          · exact e (q_nI_inj (by omega) (by omega) (q4.symm.trans r))
        refine Or.inr ⟨c, q1, q2, ?_, ?_, ?_⟩
        · rw [pk_un e]; exact q3
        · rw [pk_un e2]; exact q4
        · rw [pk_un e, pk_un e2]; exact q5
  · by_cases e : c = c0
    · subst e
      rcases po with ⟨q1, q2, q3⟩ | ⟨q1, q2, q3, q4⟩
      · refine Or.inr ⟨h0, k1, k2, ?_, ?_, ?_⟩
        · rw [pk_us]; exact q2
        · rw [pk_us]; exact q1
        · rw [pk_us, pk_us]; exact q3
      · refine Or.inl ⟨?_, ?_⟩
        · rw [pk_us]; exact q2
        · rw [pk_us]; exact q4
    · rcases T4 c with q | ⟨h, q1, q2, q3, q4, q5⟩
      · refine Or.inl ?_
        rw [pk_un e, pk_un e]
        exact q
      · have e2 : h ≠ h0 := by
          intro e2
          subst e2
          have hc : ¬ (c = 0 ∨ M < c) := fun hc => q_nI_z (by omega) q1 (q3.symm.trans (T2 c hc).2)
          rcases p1 with r | r
          · exact q_nI_z (by omega) (by omega) (q4.symm.trans r)
          · exact e (q_nI_inj (by omega) (by omega) (q4.symm.trans r))
        refine Or.inr ⟨h, q1, q2, ?_, ?_, ?_⟩
        · rw [pk_un e]; exact q3
        · rw [pk_un e2]; exact q4
        · rw [pk_un e2, pk_un e]; exact q5
/-- a hold that is tied to nothing changes its state -/
theorem q_T_h (T : q_T hs hy cs ch N M) {h0 : Nat} {a : Int32} (k1 : 1 ≤ h0) (k2 : h0 ≤ N) (p1 : hy h0 = 0) (po : a = 0 ∨ a = 3 ∨ a = 4 ∨ a = 5) : q_T (upd hs h0 a) hy cs ch N M := by
  obtain ⟨⟨hN, hM⟩, ⟨T1, T2⟩, T3, T4⟩ := T
  refine ⟨⟨hN, hM⟩, ⟨fun h hh => ?_, T2⟩, fun h => ?_, fun c => ?_⟩
  · have e : h ≠ h0 := by omega
    rw [pk_un e]
    exact T1 h hh
  · by_cases e : h = h0
    · subst e
      exact Or.inl ⟨p1, by rw [pk_us]; exact po⟩
    · have t := T3 h
      unfold q_Th at t ⊢
      rw [pk_un e]
      exact t
  · rcases T4 c with q | ⟨h, q1, q2, q3, q4, q5⟩
    · exact Or.inl q
    · have e2 : h ≠ h0 := by
        intro e2
        subst e2
        have hc : ¬ (c = 0 ∨ M < c) := fun hc => q_nI_z (by omega) q1 (q3.symm.trans (T2 c hc).2)
        exact q_nI_z (by omega) (by omega) (q4.symm.trans p1)
      exact Or.inr ⟨h, q1, q2, q3, q4, by rw [pk_un e2]; exact q5⟩
/-- a copy that is tied to nothing changes its state -/
theorem q_T_c (T : q_T hs hy cs ch N M) {c0 : Nat} {b : Int32} (k1 : 1 ≤ c0) (k2 : c0 ≤ M) (p1 : ch c0 = 0) (po : b = 0 ∨ b = 1) : q_T hs hy (upd cs c0 b) ch N M := by
  obtain ⟨⟨hN, hM⟩, ⟨T1, T2⟩, T3, T4⟩ := T
  refine ⟨⟨hN, hM⟩, ⟨T1, fun c hc => ?_⟩, fun h => ?_, fun c => ?_⟩
  · have e : c ≠ c0 := by omega
    rw [pk_un e]
    exact T2 c hc
  · rcases T3 h with q | ⟨c, q1, q2, q3, q4, q5⟩
    · exact Or.inl q
    · have e2 : c ≠ c0 := by
        intro e2
        subst e2
        have hh : ¬ (h = 0 ∨ N < h) := fun hh => q_nI_z (by omega) q1 (q3.symm.trans (T1 h hh).2)
        exact q_nI_z (by omega) (by omega) (q4.symm.trans p1)
      exact Or.inr ⟨c, q1, q2, q3, q4, by rw [pk_un e2]; exact q5⟩
  · by_cases e : c = c0
    · subst e
      exact Or.inl ⟨p1, by rw [pk_us]; exact po⟩
    · have t := T4 c
      unfold q_Tc at t ⊢
      rw [pk_un e]
      exact t
/-- one hold more -/
theorem q_T_nh (T : q_T hs hy cs ch N M) (k : N + 1 ≤ 120) : q_T (upd hs (N + 1) 0) hy cs ch (N + 1) M := by
  obtain ⟨⟨hN, hM⟩, ⟨T1, T2⟩, T3, T4⟩ := T
  have e0 : upd hs (N + 1) 0 = hs := by
    have h := q_upd_self hs (N + 1)
    rw [(T1 (N + 1) (Or.inr (by omega))).1] at h
    exact h
  rw [e0]
  refine ⟨⟨k, hM⟩, ⟨fun h hh => T1 h (by omega), T2⟩, T3, fun c => ?_⟩
  rcases T4 c with q | ⟨h, q1, q2, q3⟩
  · exact Or.inl q
  · exact Or.inr ⟨h, q1, by omega, q3⟩
/-- one copy more -/
theorem q_T_nc (T : q_T hs hy cs ch N M) (k : M + 1 ≤ 60) : q_T hs hy (upd cs (M + 1) 1) ch N (M + 1) := by
  obtain ⟨⟨hN, hM⟩, ⟨T1, T2⟩, T3, T4⟩ := T
  have T' : q_T hs hy cs ch N (M + 1) := by
    refine ⟨⟨hN, k⟩, ⟨T1, fun c hc => T2 c (by omega)⟩, fun h => ?_, T4⟩
    rcases T3 h with q | ⟨c, q1, q2, q3⟩
    · exact Or.inl q
    · exact Or.inr ⟨c, q1, by omega, q3⟩
  exact q_T_c T' (by omega) (by omega) (T2 (M + 1) (Or.inr (by omega))).2 (Or.inr rfl)
theorem q_T_new : q_T (fun _ => 0) (fun _ => 0) (fun _ => 0) (fun _ => 0) 0 0 :=
  ⟨⟨by omega, by omega⟩, ⟨fun _ _ => ⟨rfl, rfl⟩, fun _ _ => ⟨rfl, rfl⟩⟩, fun _ => Or.inl ⟨rfl, Or.inl rfl⟩, fun _ => Or.inl ⟨rfl, Or.inl rfl⟩⟩
end QT
end
section
theorem q_in0 {A B : Int32} (h : A.toInt = B.toInt + 1) (v : Int32) : (if v < 0 then (0 : Int32) else (if A ≤ v then 0 else 1)) = m_in v 0 B := by
  unfold m_in
  by_cases h1 : v < 0
  · rw [if_pos h1, if_pos h1]
  · rw [if_neg h1, if_neg h1]
    have e : A ≤ v ↔ B < v := by
      rw [Int32.le_iff_toInt_le, Int32.lt_iff_toInt_lt]
      omega
    by_cases h2 : B < v
    · rw [if_pos h2, if_pos (e.mpr h2)]
    · rw [if_neg h2, if_neg (fun h3 => h2 (e.mp h3))]
theorem q_kind (v : Int32) : x_isKind v = m_in v 0 3 := q_in0 (by decide +kernel) v
theorem q_place (v : Int32) : x_isPlace v = m_in v 0 5 := q_in0 (by decide +kernel) v
theorem q_person (v : Int32) : x_isPerson v = m_in v 0 39 := q_in0 (by decide +kernel) v
theorem m_in_0 {v a b : Int32} (h : v < a) : m_in v a b = 0 := by
  unfold m_in
  rw [if_pos h]
theorem m_in_2 {v a b : Int32} (h : ¬ v ≤ b) : m_in v a b = 0 := by
  unfold m_in
  by_cases h1 : v < a
  · rw [if_pos h1]
  · rw [if_neg h1, if_pos (by rw [Int32.lt_iff_toInt_lt]; rw [Int32.le_iff_toInt_le] at h; omega)]
theorem m_in_1 {v a b : Int32} (h1 : ¬ v < a) (h : v ≤ b) : ¬ m_in v a b = 0 := by
  unfold m_in
  rw [if_neg h1, if_neg (by rw [Int32.lt_iff_toInt_lt]; rw [Int32.le_iff_toInt_le] at h; omega)]
  decide
theorem q_nlt {n : Nat} {N : Nat} {x : Int32} (e : x = nI n) (hn : n ≤ N) (hN : N < 1000) : (x < nI N ↔ ¬ x = nI N) := by
  rw [e, nI_ltI (by omega) (by omega), nI_eq (by omega) (by omega)]
  omega
theorem q_I_new : q_I q_new := ⟨⟨⟨0, by omega, by decide +kernel⟩, ⟨0, by omega, by decide +kernel⟩, ⟨0, by omega, by decide +kernel⟩⟩, fun _ => q_0in 4 (by omega) (by omega), fun _ => Or.inl rfl, fun _ => q_0in 61 (by omega) (by omega), fun _ => q_0in 121 (by omega) (by omega)⟩
end
section
def q_mix (u : q_S) (th : Int32) (ch hy : Nat → Int32) (hu : Nat → Int64) : q_S := (th, q_nr u, q_nc u, q_nh u, q_sp u, q_td u, q_kd u, q_bd u, q_mo u, q_cr u, q_cp u, q_cs u, ch, q_hp u, q_hr u, q_hl u, q_hk u, q_hs u, hy, hu, q_he u)
theorem q_th_mix (u : q_S) (th : Int32) (ch hy : Nat → Int32) (hu : Nat → Int64) : q_th (q_mix u th ch hy hu) = th := rfl
theorem q_nr_mix (u : q_S) (th : Int32) (ch hy : Nat → Int32) (hu : Nat → Int64) : q_nr (q_mix u th ch hy hu) = q_nr u := rfl
theorem q_nc_mix (u : q_S) (th : Int32) (ch hy : Nat → Int32) (hu : Nat → Int64) : q_nc (q_mix u th ch hy hu) = q_nc u := rfl
theorem q_nh_mix (u : q_S) (th : Int32) (ch hy : Nat → Int32) (hu : Nat → Int64) : q_nh (q_mix u th ch hy hu) = q_nh u := rfl
theorem q_sp_mix (u : q_S) (th : Int32) (ch hy : Nat → Int32) (hu : Nat → Int64) : q_sp (q_mix u th ch hy hu) = q_sp u := rfl
theorem q_td_mix (u : q_S) (th : Int32) (ch hy : Nat → Int32) (hu : Nat → Int64) : q_td (q_mix u th ch hy hu) = q_td u := rfl
theorem q_kd_mix (u : q_S) (th : Int32) (ch hy : Nat → Int32) (hu : Nat → Int64) : q_kd (q_mix u th ch hy hu) = q_kd u := rfl
theorem q_bd_mix (u : q_S) (th : Int32) (ch hy : Nat → Int32) (hu : Nat → Int64) : q_bd (q_mix u th ch hy hu) = q_bd u := rfl
theorem q_mo_mix (u : q_S) (th : Int32) (ch hy : Nat → Int32) (hu : Nat → Int64) : q_mo (q_mix u th ch hy hu) = q_mo u := rfl
theorem q_cr_mix (u : q_S) (th : Int32) (ch hy : Nat → Int32) (hu : Nat → Int64) : q_cr (q_mix u th ch hy hu) = q_cr u := rfl
theorem q_cp_mix (u : q_S) (th : Int32) (ch hy : Nat → Int32) (hu : Nat → Int64) : q_cp (q_mix u th ch hy hu) = q_cp u := rfl
theorem q_cs_mix (u : q_S) (th : Int32) (ch hy : Nat → Int32) (hu : Nat → Int64) : q_cs (q_mix u th ch hy hu) = q_cs u := rfl
theorem q_ch_mix (u : q_S) (th : Int32) (ch hy : Nat → Int32) (hu : Nat → Int64) : q_ch (q_mix u th ch hy hu) = ch := rfl
theorem q_hp_mix (u : q_S) (th : Int32) (ch hy : Nat → Int32) (hu : Nat → Int64) : q_hp (q_mix u th ch hy hu) = q_hp u := rfl
theorem q_hr_mix (u : q_S) (th : Int32) (ch hy : Nat → Int32) (hu : Nat → Int64) : q_hr (q_mix u th ch hy hu) = q_hr u := rfl
theorem q_hl_mix (u : q_S) (th : Int32) (ch hy : Nat → Int32) (hu : Nat → Int64) : q_hl (q_mix u th ch hy hu) = q_hl u := rfl
theorem q_hk_mix (u : q_S) (th : Int32) (ch hy : Nat → Int32) (hu : Nat → Int64) : q_hk (q_mix u th ch hy hu) = q_hk u := rfl
theorem q_hs_mix (u : q_S) (th : Int32) (ch hy : Nat → Int32) (hu : Nat → Int64) : q_hs (q_mix u th ch hy hu) = q_hs u := rfl
theorem q_hy_mix (u : q_S) (th : Int32) (ch hy : Nat → Int32) (hu : Nat → Int64) : q_hy (q_mix u th ch hy hu) = hy := rfl
theorem q_hu_mix (u : q_S) (th : Int32) (ch hy : Nat → Int32) (hu : Nat → Int64) : q_hu (q_mix u th ch hy hu) = hu := rfl
theorem q_he_mix (u : q_S) (th : Int32) (ch hy : Nat → Int32) (hu : Nat → Int64) : q_he (q_mix u th ch hy hu) = q_he u := rfl
theorem q_ext {u w : q_S} (h0 : q_th u = q_th w) (h1 : q_nr u = q_nr w) (h2 : q_nc u = q_nc w) (h3 : q_nh u = q_nh w) (h4 : q_sp u = q_sp w) (h5 : q_td u = q_td w) (h6 : q_kd u = q_kd w) (h7 : q_bd u = q_bd w) (h8 : q_mo u = q_mo w) (h9 : q_cr u = q_cr w) (h10 : q_cp u = q_cp w) (h11 : q_cs u = q_cs w) (h12 : q_ch u = q_ch w) (h13 : q_hp u = q_hp w) (h14 : q_hr u = q_hr w) (h15 : q_hl u = q_hl w) (h16 : q_hk u = q_hk w) (h17 : q_hs u = q_hs w) (h18 : q_hy u = q_hy w) (h19 : q_hu u = q_hu w) (h20 : q_he u = q_he w) : u = w := by
  obtain ⟨a0, a1, a2, a3, a4, a5, a6, a7, a8, a9, a10, a11, a12, a13, a14, a15, a16, a17, a18, a19, a20⟩ := u
  obtain ⟨b0, b1, b2, b3, b4, b5, b6, b7, b8, b9, b10, b11, b12, b13, b14, b15, b16, b17, b18, b19, b20⟩ := w
  cases (show a0 = b0 from h0)
  cases (show a1 = b1 from h1)
  cases (show a2 = b2 from h2)
  cases (show a3 = b3 from h3)
  cases (show a4 = b4 from h4)
  cases (show a5 = b5 from h5)
  cases (show a6 = b6 from h6)
  cases (show a7 = b7 from h7)
  cases (show a8 = b8 from h8)
  cases (show a9 = b9 from h9)
  cases (show a10 = b10 from h10)
  cases (show a11 = b11 from h11)
  cases (show a12 = b12 from h12)
  cases (show a13 = b13 from h13)
  cases (show a14 = b14 from h14)
  cases (show a15 = b15 from h15)
  cases (show a16 = b16 from h16)
  cases (show a17 = b17 from h17)
  cases (show a18 = b18 from h18)
  cases (show a19 = b19 from h19)
  cases (show a20 = b20 from h20)
  rfl
theorem q_10 : ¬ (1 : Int32) = 0 := by decide
theorem q_00 : (0 : Int32) = 0 := rfl
section QL
variable (u : q_S) (th : Int32) (ch hy : Nat → Int32) (hu : Nat → Int64)
theorem f_ahead (a b : Int32) : m_isAhead (q_mix u th ch hy hu) a b = xh_comesBefore u a b := rfl
theorem f_place_l : ∀ (n : Nat) (v1 v2 v3 : Int32), m_placeOf_l4 n v1 v2 v3 (q_mix u th ch hy hu) = xh_placeInQueue_l4 n v1 v2 v3 u := by
  intro n
  induction n with
  | zero => intro v1 v2 v3; rfl
  | succ n ih =>
    intro v1 v2 v3
    show m_placeOf_l4_b (m_placeOf_l4 n) v1 v2 v3 (q_mix u th ch hy hu) = xh_placeInQueue_l4_b (xh_placeInQueue_l4 n) v1 v2 v3 u
    unfold m_placeOf_l4_b xh_placeInQueue_l4_b xh_isQueued
    simp only [q_th_mix, q_nr_mix, q_nc_mix, q_nh_mix, q_sp_mix, q_td_mix, q_kd_mix, q_bd_mix, q_mo_mix, q_cr_mix, q_cp_mix, q_cs_mix, q_ch_mix, q_hp_mix, q_hr_mix, q_hl_mix, q_hk_mix, q_hs_mix, q_hy_mix, q_hu_mix, q_he_mix, ih, f_ahead, Int32.add_zero]
    by_cases h1 : q_nh u < v3
    · simp only [if_pos h1]
    · simp only [if_neg h1]
      by_cases h2 : q_hs u (Int32.toNatClampNeg v3) = 0
      · simp only [if_pos h2]
        by_cases h3 : q_hr u (Int32.toNatClampNeg v3) = q_hr u (Int32.toNatClampNeg v1)
        · simp only [if_pos h3, if_neg q_10]
        · simp only [if_neg h3, ↓reduceIte]
      · simp only [if_neg h2]
        by_cases h3 : q_hr u (Int32.toNatClampNeg v3) = q_hr u (Int32.toNatClampNeg v1)
        · simp only [if_pos h3, ↓reduceIte]
        · simp only [if_neg h3, ↓reduceIte]
theorem f_place (v : Int32) : m_placeOf (q_mix u th ch hy hu) v = xh_placeInQueue u v := f_place_l u th ch hy hu 200 v 0 1
theorem f_fits_l (Hu : ∀ k, (0 < lg_cmp (hu k) (q_td u)) ↔ (0 < lg_cmp (q_hu u k) (q_td u))) : ∀ (n : Nat) (v1 v2 v3 : Int32), m_fits_l4 n v1 v2 v3 (q_mix u th ch hy hu) = xh_firstFitting_l6 n v1 (q_td u) v2 v3 u := by
  intro n
  induction n with
  | zero => intro v1 v2 v3; rfl
  | succ n ih =>
    intro v1 v2 v3
    show m_fits_l4_b (m_fits_l4 n) v1 v2 v3 (q_mix u th ch hy hu) = xh_firstFitting_l6_b (xh_firstFitting_l6 n) v1 (q_td u) v2 v3 u
    unfold m_fits_l4_b xh_firstFitting_l6_b xh_isQueued
    simp only [q_th_mix, q_nr_mix, q_nc_mix, q_nh_mix, q_sp_mix, q_td_mix, q_kd_mix, q_bd_mix, q_mo_mix, q_cr_mix, q_cp_mix, q_cs_mix, q_ch_mix, q_hp_mix, q_hr_mix, q_hl_mix, q_hk_mix, q_hs_mix, q_hy_mix, q_hu_mix, q_he_mix, ih, f_ahead]
    by_cases h1 : q_nh u < v3
    · simp only [if_pos h1]
    · simp only [if_neg h1]
      by_cases h2 : q_hs u (Int32.toNatClampNeg v3) = 0
      · simp only [if_pos h2]
        by_cases h3 : q_hr u (Int32.toNatClampNeg v3) = v1
        · simp only [if_pos h3, if_neg q_10]
          by_cases h4 : 0 < lg_cmp (q_hu u (Int32.toNatClampNeg v3)) (q_td u)
          · simp only [if_pos h4, if_pos ((Hu _).mpr h4)]
          · simp only [if_neg h4, if_neg (fun q => h4 ((Hu _).mp q))]
        · simp only [if_neg h3, ↓reduceIte]
      · simp only [if_neg h2]
        by_cases h3 : q_hr u (Int32.toNatClampNeg v3) = v1
        · simp only [if_pos h3, ↓reduceIte]
        · simp only [if_neg h3, ↓reduceIte]
theorem f_fits (Hu : ∀ k, (0 < lg_cmp (hu k) (q_td u)) ↔ (0 < lg_cmp (q_hu u k) (q_td u))) (v : Int32) : m_fits (q_mix u th ch hy hu) v = xh_firstFitting u v (q_td u) := f_fits_l u th ch hy hu Hu 200 v 0 1
end QL
/-- what the queue's search finds: nothing, or a hold that waits -/
theorem f_first_l (u : q_S) (r : Int32) (d : Int64) {N : Nat} (hN : N ≤ 120) (e : q_nh u = nI N) : ∀ (n k : Nat) (v : Int32), 1 ≤ k → k ≤ 121 → (v = 0 ∨ ∃ j : Nat, 1 ≤ j ∧ j ≤ N ∧ v = nI j ∧ q_hs u j = 0 ∧ q_hr u j = r) → (xh_firstFitting_l6 n r d v (nI k) u = 0 ∨ ∃ j : Nat, 1 ≤ j ∧ j ≤ N ∧ xh_firstFitting_l6 n r d v (nI k) u = nI j ∧ q_hs u j = 0 ∧ q_hr u j = r) := by
  intro n
  induction n with
  | zero => intro k v _ _ _; exact Or.inl rfl
  | succ n ih =>
    intro k v k1 k2 hv
    have e1 : nI k + 1 = nI (k + 1) := nI_1 k
    show (xh_firstFitting_l6_b (xh_firstFitting_l6 n) r d v (nI k) u = 0 ∨ ∃ j : Nat, 1 ≤ j ∧ j ≤ N ∧ xh_firstFitting_l6_b (xh_firstFitting_l6 n) r d v (nI k) u = nI j ∧ q_hs u j = 0 ∧ q_hr u j = r)
    unfold xh_firstFitting_l6_b xh_isQueued
    rw [e1, nI_clamp (n := k) (by omega)]
    by_cases h1 : q_nh u < nI k
    · simp only [if_pos h1]; exact hv
    · simp only [if_neg h1]
      have hk : k ≤ N := by
        rw [e, nI_ltI (by omega) (by omega)] at h1
        omega
      have go := ih (k + 1) v (by omega) (by omega) hv
      by_cases h2 : q_hr u k = r
      · by_cases h3 : q_hs u k = 0
        · simp only [if_pos h2, if_pos h3, if_neg q_10]
          have go2 := ih (k + 1) (nI k) (by omega) (by omega) (Or.inr ⟨k, k1, hk, rfl, h3, h2⟩)
          by_cases h4 : 0 < lg_cmp (q_hu u k) d
          · simp only [if_pos h4]; exact go
          · simp only [if_neg h4]
            by_cases h5 : v = 0
            · simp only [if_pos h5]; exact go2
            · simp only [if_neg h5]
              by_cases h6 : xh_comesBefore u (nI k) v = 0
              · simp only [if_pos h6]; exact go
              · simp only [if_neg h6]; exact go2
        · simp only [if_pos h2, if_neg h3, ↓reduceIte]; exact go
      · simp only [if_neg h2, ↓reduceIte]; exact go
theorem f_first (u : q_S) (r : Int32) (d : Int64) {N : Nat} (hN : N ≤ 120) (e : q_nh u = nI N) : xh_firstFitting u r d = 0 ∨ ∃ j : Nat, 1 ≤ j ∧ j ≤ N ∧ xh_firstFitting u r d = nI j ∧ q_hs u j = 0 ∧ q_hr u j = r :=
  f_first_l u r d hN e 200 1 0 (by omega) (by omega) (Or.inl rfl)
end
section
/-! THE FULL RELATION: the reference's state is the landed code's but for th, ch, hy, hu -/
def q_p5 (a b : Int32) : Int32 := if a = 5 then 0 else b
def q_p25 (a b z : Int32) : Int32 := if a = 2 ∧ b = 5 then 0 else z
theorem q_p5_y {a b : Int32} (h : a = 5) : q_p5 a b = 0 := if_pos h
theorem q_p5_n {a b : Int32} (h : ¬ a = 5) : q_p5 a b = b := if_neg h
theorem q_p5_0 (a : Int32) : q_p5 a 0 = 0 := by
  unfold q_p5
  split <;> rfl
theorem q_p25_y {a b z : Int32} (h : a = 2) (h2 : b = 5) : q_p25 a b z = 0 := if_pos ⟨h, h2⟩
theorem q_p25_1 {a b z : Int32} (h : ¬ a = 2) : q_p25 a b z = z := if_neg (fun q => h q.1)
theorem q_p25_2 {a b z : Int32} (h : ¬ b = 5) : q_p25 a b z = z := if_neg (fun q => h q.2)
theorem q_p25_0 (a b : Int32) : q_p25 a b 0 = 0 := by
  unfold q_p25
  split <;> rfl
def q_R1 (u : q_S) (hy : Nat → Int32) : Prop := ∀ h, hy h = q_p5 (q_hs u h) (q_hy u h)
def q_chv (u : q_S) (c : Nat) : Int32 := q_p25 (q_cs u c) (q_hs u (Int32.toNatClampNeg (q_ch u c))) (q_ch u c)
def q_R3 (u : q_S) (hu : Nat → Int64) : Prop := ∀ h, hu h = q_hu u h ∨ (q_hu u h = 0 ∧ hu h = (-9223372036854775807))
/-- what stays of the landed code's state by itself -/
def q_J (u : q_S) (N : Nat) : Prop := (∀ h, N < h → q_hu u h = 0) ∧ (∀ h, 1 ≤ h → h ≤ N → ¬ x_isRecord u (q_hr u h) = 0) ∧ 0 ≤ (q_td u).toInt
def q_K (u w : q_S) : Prop := ∃ (th : Int32) (ch hy : Nat → Int32) (hu : Nat → Int64) (N M : Nat), w = q_mix u th ch hy hu ∧ q_nh u = nI N ∧ q_nc u = nI M ∧ q_R1 u hy ∧ (∀ c, ch c = q_chv u c) ∧ q_R3 u hu ∧ q_T (q_hs u) (q_hy u) (q_cs u) (q_ch u) N M ∧ q_J u N
theorem q_Hu {u : q_S} {hu : Nat → Int64} (h : q_R3 u hu) (ht : 0 ≤ (q_td u).toInt) : ∀ k, (0 < lg_cmp (hu k) (q_td u)) ↔ (0 < lg_cmp (q_hu u k) (q_td u)) := by
  intro k
  rw [lg_cmp_gt, lg_cmp_gt]
  rcases h k with e | ⟨e1, e2⟩
  · rw [e]
  · rw [e1, e2, Int64.lt_iff_toInt_lt, Int64.lt_iff_toInt_lt]
    have e3 : (-9223372036854775807 : Int64).toInt = -9223372036854775807 := by decide +kernel
    have e4 : (0 : Int64).toInt = 0 := by decide +kernel
    rw [e3, e4]
    constructor <;> intro _ <;> omega
theorem q_J_of {u v : q_S} {N : Nat} (h1 : q_hu v = q_hu u) (h2 : q_hr v = q_hr u) (h3 : q_nr v = q_nr u) (h4 : q_td v = q_td u) (J : q_J u N) : q_J v N := by
  unfold q_J x_isRecord
  rw [h1, h2, h3, h4]
  exact J
theorem q_R3_of {u v : q_S} {hu : Nat → Int64} (h1 : q_hu v = q_hu u) (R : q_R3 u hu) : q_R3 v hu := by
  unfold q_R3
  rw [h1]
  exact R
theorem q_R1_of {u v : q_S} {hy : Nat → Int32} (h1 : q_hs v = q_hs u) (h2 : q_hy v = q_hy u) (R : q_R1 u hy) : q_R1 v hy := by
  unfold q_R1
  rw [h1, h2]
  exact R
/-- a free copy finds its hold: the same on both sides -/
theorem k_settle {u w : q_S} {th : Int32} {ch hy : Nat → Int32} {hu : Nat → Int64} {N M c0 : Nat} (hw : w = q_mix u th ch hy hu) (eN : q_nh u = nI N) (eM : q_nc u = nI M) (k1 : 1 ≤ c0) (k2 : c0 ≤ M)
    (R1 : q_R1 u hy) (R2 : ∀ c, c ≠ c0 → ch c = q_chv u c) (R3 : q_R3 u hu) (T : q_T (q_hs u) (q_hy u) (upd (q_cs u) c0 1) (q_ch u) N M) (J : q_J u N) :
    x_settle_r u (nI c0) = m_goes_r w (nI c0) ∧ q_K (x_settle_s u (nI c0)) (m_goes_s w (nI c0)) := by
  subst hw
  have hN : N ≤ 120 := T.1.1
  have hM : M ≤ 60 := T.1.2
  have ec : (nI c0).toNatClampNeg = c0 := nI_clamp (by omega)
  have Hu := q_Hu R3 J.2.2
  have ef : m_fits (q_mix u th ch hy hu) (q_cr (q_mix u th ch hy hu) c0) = xh_firstFitting u (q_cr u c0) (q_td u) := f_fits u th ch hy hu Hu (q_cr u c0)
  have ch0 : q_ch u c0 = 0 := by
    rcases T.2.2.2 c0 with q | ⟨h, q1, q2, q3, q4, q5⟩
    · exact q.1
    · rw [pk_us] at q5
      rcases q5 with q | q | q <;> exact absurd q.2 (by decide)
  unfold x_settle_r m_goes_r x_settle_s m_goes_s x_settle m_goes
  rw [ec, ef]
  rcases f_first u (q_cr u c0) (q_td u) hN eN with hf | ⟨j, j1, j2, hf, hsj, hrj⟩
  · rw [hf]
    simp only [↓reduceIte]
    refine ⟨by first | rfl | trivial, th, upd ch (nI c0).toNatClampNeg 0, hy, hu, N, M, rfl, eN, eM, R1, ?_, R3, ?_, J⟩
    · rw [ec]
      intro c
      by_cases e : c = c0
      · subst e
        rw [pk_us]
        unfold q_chv
        rw [show q_ch (q_cs_u u (nI c) 0) c = q_ch u c from rfl, ch0, q_p25_0]
      · rw [pk_un e, R2 c e]
        unfold q_chv
        rw [show q_cs (q_cs_u u (nI c0) 0) c = q_cs u c from by show upd (q_cs u) (nI c0).toNatClampNeg 0 c = _; rw [ec, pk_un e]]
        rfl
    · have t := q_T_c T k1 k2 ch0 (b := 0) (Or.inl rfl)
      rw [q_upd_upd] at t
      show q_T (q_hs u) (q_hy u) (upd (q_cs u) (nI c0).toNatClampNeg 0) (q_ch u) N M
      rw [ec]
      exact t
  · have ej : (nI j).toNatClampNeg = j := nI_clamp (by omega)
    have hyj : q_hy u j = 0 := by
      rcases T.2.2.1 j with q | ⟨c, q1, q2, q3, q4, q5⟩
      · exact q.1
      · rcases q5 with q | q | q <;> exact absurd (hsj.symm.trans q.1) (by decide)
    rw [hf, ej]
    simp only [if_neg (q_nI_z (show j ≤ 1000 by omega) j1)]
    have R1' : ∀ a : Int32, (a = 1 ∨ a = 2) → ∀ h, upd hy j (nI c0) h = q_p5 (upd (q_hs u) j a h) (upd (q_hy u) j (nI c0) h) := by
      intro a ha h
      by_cases e : h = j
      · subst e
        rw [pk_us, pk_us, pk_us, q_p5_n (by rcases ha with rfl | rfl <;> decide)]
      · rw [pk_un e, pk_un e, pk_un e]
        exact R1 h
    have R2' : ∀ a b : Int32, (a = 1 ∨ a = 2) → ∀ c, upd ch c0 (nI j) c = q_p25 (upd (q_cs u) c0 b c) (upd (q_hs u) j a (Int32.toNatClampNeg (upd (q_ch u) c0 (nI j) c))) (upd (q_ch u) c0 (nI j) c) := by
      intro a b ha c
      by_cases e : c = c0
      · subst e
        rw [pk_us, pk_us, pk_us, ej, pk_us, q_p25_2 (by rcases ha with rfl | rfl <;> decide)]
      · rw [pk_un e, pk_un e, pk_un e, R2 c e]
        unfold q_chv
        by_cases e2 : Int32.toNatClampNeg (q_ch u c) = j
        · rw [e2, pk_us, hsj, q_p25_2 (by decide), q_p25_2 (by rcases ha with rfl | rfl <;> decide)]
        · rw [pk_un e2]
    have Tb : ∀ a b : Int32, q_tie a b → q_T (upd (q_hs u) j a) (upd (q_hy u) j (nI c0)) (upd (q_cs u) c0 b) (upd (q_ch u) c0 (nI j)) N M := by
      intro a b hab
      have t := q_T_upd T (h0 := j) (c0 := c0) (a := a) (y := nI c0) (b := b) (z := nI j) j1 j2 k1 k2 (Or.inl hyj) (Or.inl ch0) (Or.inl ⟨rfl, rfl, hab⟩)
      rw [q_upd_upd] at t
      exact t
    by_cases hp : q_cp u c0 = q_hl u j
    · have hp2 : q_cp (q_mix u th ch hy hu) c0 = q_hl (q_mix u th ch hy hu) j := hp
      simp only [if_pos hp, if_pos hp2]
      refine ⟨by first | rfl | trivial, th, upd ch (nI c0).toNatClampNeg (nI j), upd hy (nI j).toNatClampNeg (nI c0), hu, N, M, ?_, ?_, ?_, ?_, ?_, q_R3_of ?_ R3, ?_, q_J_of ?_ ?_ ?_ ?_ J⟩
      · refine q_ext ?_ ?_ ?_ ?_ ?_ ?_ ?_ ?_ ?_ ?_ ?_ ?_ ?_ ?_ ?_ ?_ ?_ ?_ ?_ ?_ ?_ <;> dsimp only [x_layReady, x_send, m_lies, q_th, q_nr, q_nc, q_nh, q_sp, q_td, q_kd, q_bd, q_mo, q_cr, q_cp, q_cs, q_ch, q_hp, q_hr, q_hl, q_hk, q_hs, q_hy, q_hu, q_he, q_th_s, q_nr_s, q_nc_s, q_nh_s, q_sp_s, q_td_s, q_kd_s, q_bd_s, q_mo_s, q_cr_s, q_cp_s, q_cs_s, q_ch_s, q_hp_s, q_hr_s, q_hl_s, q_hk_s, q_hs_s, q_hy_s, q_hu_s, q_he_s, q_kd_u, q_bd_u, q_mo_u, q_cr_u, q_cp_u, q_cs_u, q_ch_u, q_hp_u, q_hr_u, q_hl_u, q_hk_u, q_hs_u, q_hy_u, q_hu_u, q_he_u, q_mix]
        exact q_upd_upd _ _ _ _
      · dsimp only [x_layReady, x_send, q_th, q_nr, q_nc, q_nh, q_sp, q_td, q_kd, q_bd, q_mo, q_cr, q_cp, q_cs, q_ch, q_hp, q_hr, q_hl, q_hk, q_hs, q_hy, q_hu, q_he, q_th_s, q_nr_s, q_nc_s, q_nh_s, q_sp_s, q_td_s, q_kd_s, q_bd_s, q_mo_s, q_cr_s, q_cp_s, q_cs_s, q_ch_s, q_hp_s, q_hr_s, q_hl_s, q_hk_s, q_hs_s, q_hy_s, q_hu_s, q_he_s, q_kd_u, q_bd_u, q_mo_u, q_cr_u, q_cp_u, q_cs_u, q_ch_u, q_hp_u, q_hr_u, q_hl_u, q_hk_u, q_hs_u, q_hy_u, q_hu_u, q_he_u, q_mix]
        exact eN
      · dsimp only [x_layReady, x_send, q_th, q_nr, q_nc, q_nh, q_sp, q_td, q_kd, q_bd, q_mo, q_cr, q_cp, q_cs, q_ch, q_hp, q_hr, q_hl, q_hk, q_hs, q_hy, q_hu, q_he, q_th_s, q_nr_s, q_nc_s, q_nh_s, q_sp_s, q_td_s, q_kd_s, q_bd_s, q_mo_s, q_cr_s, q_cp_s, q_cs_s, q_ch_s, q_hp_s, q_hr_s, q_hl_s, q_hk_s, q_hs_s, q_hy_s, q_hu_s, q_he_s, q_kd_u, q_bd_u, q_mo_u, q_cr_u, q_cp_u, q_cs_u, q_ch_u, q_hp_u, q_hr_u, q_hl_u, q_hk_u, q_hs_u, q_hy_u, q_hu_u, q_he_u, q_mix]
        exact eM
      · unfold q_R1
        dsimp only [x_layReady, x_send, q_th, q_nr, q_nc, q_nh, q_sp, q_td, q_kd, q_bd, q_mo, q_cr, q_cp, q_cs, q_ch, q_hp, q_hr, q_hl, q_hk, q_hs, q_hy, q_hu, q_he, q_th_s, q_nr_s, q_nc_s, q_nh_s, q_sp_s, q_td_s, q_kd_s, q_bd_s, q_mo_s, q_cr_s, q_cp_s, q_cs_s, q_ch_s, q_hp_s, q_hr_s, q_hl_s, q_hk_s, q_hs_s, q_hy_s, q_hu_s, q_he_s, q_kd_u, q_bd_u, q_mo_u, q_cr_u, q_cp_u, q_cs_u, q_ch_u, q_hp_u, q_hr_u, q_hl_u, q_hk_u, q_hs_u, q_hy_u, q_hu_u, q_he_u, q_mix]
        rw [ej]
        exact R1' 2 (Or.inr rfl)
      · unfold q_chv
        dsimp only [x_layReady, x_send, q_th, q_nr, q_nc, q_nh, q_sp, q_td, q_kd, q_bd, q_mo, q_cr, q_cp, q_cs, q_ch, q_hp, q_hr, q_hl, q_hk, q_hs, q_hy, q_hu, q_he, q_th_s, q_nr_s, q_nc_s, q_nh_s, q_sp_s, q_td_s, q_kd_s, q_bd_s, q_mo_s, q_cr_s, q_cp_s, q_cs_s, q_ch_s, q_hp_s, q_hr_s, q_hl_s, q_hk_s, q_hs_s, q_hy_s, q_hu_s, q_he_s, q_kd_u, q_bd_u, q_mo_u, q_cr_u, q_cp_u, q_cs_u, q_ch_u, q_hp_u, q_hr_u, q_hl_u, q_hk_u, q_hs_u, q_hy_u, q_hu_u, q_he_u, q_mix]
        rw [ej, ec]
        exact R2' 2 3 (Or.inr rfl)
      · dsimp only [x_layReady, x_send, q_th, q_nr, q_nc, q_nh, q_sp, q_td, q_kd, q_bd, q_mo, q_cr, q_cp, q_cs, q_ch, q_hp, q_hr, q_hl, q_hk, q_hs, q_hy, q_hu, q_he, q_th_s, q_nr_s, q_nc_s, q_nh_s, q_sp_s, q_td_s, q_kd_s, q_bd_s, q_mo_s, q_cr_s, q_cp_s, q_cs_s, q_ch_s, q_hp_s, q_hr_s, q_hl_s, q_hk_s, q_hs_s, q_hy_s, q_hu_s, q_he_s, q_kd_u, q_bd_u, q_mo_u, q_cr_u, q_cp_u, q_cs_u, q_ch_u, q_hp_u, q_hr_u, q_hl_u, q_hk_u, q_hs_u, q_hy_u, q_hu_u, q_he_u, q_mix]
      · dsimp only [x_layReady, x_send, q_th, q_nr, q_nc, q_nh, q_sp, q_td, q_kd, q_bd, q_mo, q_cr, q_cp, q_cs, q_ch, q_hp, q_hr, q_hl, q_hk, q_hs, q_hy, q_hu, q_he, q_th_s, q_nr_s, q_nc_s, q_nh_s, q_sp_s, q_td_s, q_kd_s, q_bd_s, q_mo_s, q_cr_s, q_cp_s, q_cs_s, q_ch_s, q_hp_s, q_hr_s, q_hl_s, q_hk_s, q_hs_s, q_hy_s, q_hu_s, q_he_s, q_kd_u, q_bd_u, q_mo_u, q_cr_u, q_cp_u, q_cs_u, q_ch_u, q_hp_u, q_hr_u, q_hl_u, q_hk_u, q_hs_u, q_hy_u, q_hu_u, q_he_u, q_mix]
        rw [ej, ec]
        exact Tb 2 3 (Or.inr (Or.inl ⟨rfl, rfl⟩))
      · dsimp only [x_layReady, x_send, q_th, q_nr, q_nc, q_nh, q_sp, q_td, q_kd, q_bd, q_mo, q_cr, q_cp, q_cs, q_ch, q_hp, q_hr, q_hl, q_hk, q_hs, q_hy, q_hu, q_he, q_th_s, q_nr_s, q_nc_s, q_nh_s, q_sp_s, q_td_s, q_kd_s, q_bd_s, q_mo_s, q_cr_s, q_cp_s, q_cs_s, q_ch_s, q_hp_s, q_hr_s, q_hl_s, q_hk_s, q_hs_s, q_hy_s, q_hu_s, q_he_s, q_kd_u, q_bd_u, q_mo_u, q_cr_u, q_cp_u, q_cs_u, q_ch_u, q_hp_u, q_hr_u, q_hl_u, q_hk_u, q_hs_u, q_hy_u, q_hu_u, q_he_u, q_mix]
      · dsimp only [x_layReady, x_send, q_th, q_nr, q_nc, q_nh, q_sp, q_td, q_kd, q_bd, q_mo, q_cr, q_cp, q_cs, q_ch, q_hp, q_hr, q_hl, q_hk, q_hs, q_hy, q_hu, q_he, q_th_s, q_nr_s, q_nc_s, q_nh_s, q_sp_s, q_td_s, q_kd_s, q_bd_s, q_mo_s, q_cr_s, q_cp_s, q_cs_s, q_ch_s, q_hp_s, q_hr_s, q_hl_s, q_hk_s, q_hs_s, q_hy_s, q_hu_s, q_he_s, q_kd_u, q_bd_u, q_mo_u, q_cr_u, q_cp_u, q_cs_u, q_ch_u, q_hp_u, q_hr_u, q_hl_u, q_hk_u, q_hs_u, q_hy_u, q_hu_u, q_he_u, q_mix]
      · dsimp only [x_layReady, x_send, q_th, q_nr, q_nc, q_nh, q_sp, q_td, q_kd, q_bd, q_mo, q_cr, q_cp, q_cs, q_ch, q_hp, q_hr, q_hl, q_hk, q_hs, q_hy, q_hu, q_he, q_th_s, q_nr_s, q_nc_s, q_nh_s, q_sp_s, q_td_s, q_kd_s, q_bd_s, q_mo_s, q_cr_s, q_cp_s, q_cs_s, q_ch_s, q_hp_s, q_hr_s, q_hl_s, q_hk_s, q_hs_s, q_hy_s, q_hu_s, q_he_s, q_kd_u, q_bd_u, q_mo_u, q_cr_u, q_cp_u, q_cs_u, q_ch_u, q_hp_u, q_hr_u, q_hl_u, q_hk_u, q_hs_u, q_hy_u, q_hu_u, q_he_u, q_mix]
      · dsimp only [x_layReady, x_send, q_th, q_nr, q_nc, q_nh, q_sp, q_td, q_kd, q_bd, q_mo, q_cr, q_cp, q_cs, q_ch, q_hp, q_hr, q_hl, q_hk, q_hs, q_hy, q_hu, q_he, q_th_s, q_nr_s, q_nc_s, q_nh_s, q_sp_s, q_td_s, q_kd_s, q_bd_s, q_mo_s, q_cr_s, q_cp_s, q_cs_s, q_ch_s, q_hp_s, q_hr_s, q_hl_s, q_hk_s, q_hs_s, q_hy_s, q_hu_s, q_he_s, q_kd_u, q_bd_u, q_mo_u, q_cr_u, q_cp_u, q_cs_u, q_ch_u, q_hp_u, q_hr_u, q_hl_u, q_hk_u, q_hs_u, q_hy_u, q_hu_u, q_he_u, q_mix]
    · have hp2 : ¬ q_cp (q_mix u th ch hy hu) c0 = q_hl (q_mix u th ch hy hu) j := hp
      simp only [if_neg hp, if_neg hp2]
      refine ⟨by first | rfl | trivial, th, upd ch (nI c0).toNatClampNeg (nI j), upd hy (nI j).toNatClampNeg (nI c0), hu, N, M, ?_, ?_, ?_, ?_, ?_, q_R3_of ?_ R3, ?_, q_J_of ?_ ?_ ?_ ?_ J⟩
      · refine q_ext ?_ ?_ ?_ ?_ ?_ ?_ ?_ ?_ ?_ ?_ ?_ ?_ ?_ ?_ ?_ ?_ ?_ ?_ ?_ ?_ ?_ <;> dsimp only [x_layReady, x_send, m_lies, q_th, q_nr, q_nc, q_nh, q_sp, q_td, q_kd, q_bd, q_mo, q_cr, q_cp, q_cs, q_ch, q_hp, q_hr, q_hl, q_hk, q_hs, q_hy, q_hu, q_he, q_th_s, q_nr_s, q_nc_s, q_nh_s, q_sp_s, q_td_s, q_kd_s, q_bd_s, q_mo_s, q_cr_s, q_cp_s, q_cs_s, q_ch_s, q_hp_s, q_hr_s, q_hl_s, q_hk_s, q_hs_s, q_hy_s, q_hu_s, q_he_s, q_kd_u, q_bd_u, q_mo_u, q_cr_u, q_cp_u, q_cs_u, q_ch_u, q_hp_u, q_hr_u, q_hl_u, q_hk_u, q_hs_u, q_hy_u, q_hu_u, q_he_u, q_mix]
        · rw [ej]
        · exact q_upd_upd _ _ _ _
      · dsimp only [x_layReady, x_send, q_th, q_nr, q_nc, q_nh, q_sp, q_td, q_kd, q_bd, q_mo, q_cr, q_cp, q_cs, q_ch, q_hp, q_hr, q_hl, q_hk, q_hs, q_hy, q_hu, q_he, q_th_s, q_nr_s, q_nc_s, q_nh_s, q_sp_s, q_td_s, q_kd_s, q_bd_s, q_mo_s, q_cr_s, q_cp_s, q_cs_s, q_ch_s, q_hp_s, q_hr_s, q_hl_s, q_hk_s, q_hs_s, q_hy_s, q_hu_s, q_he_s, q_kd_u, q_bd_u, q_mo_u, q_cr_u, q_cp_u, q_cs_u, q_ch_u, q_hp_u, q_hr_u, q_hl_u, q_hk_u, q_hs_u, q_hy_u, q_hu_u, q_he_u, q_mix]
        exact eN
      · dsimp only [x_layReady, x_send, q_th, q_nr, q_nc, q_nh, q_sp, q_td, q_kd, q_bd, q_mo, q_cr, q_cp, q_cs, q_ch, q_hp, q_hr, q_hl, q_hk, q_hs, q_hy, q_hu, q_he, q_th_s, q_nr_s, q_nc_s, q_nh_s, q_sp_s, q_td_s, q_kd_s, q_bd_s, q_mo_s, q_cr_s, q_cp_s, q_cs_s, q_ch_s, q_hp_s, q_hr_s, q_hl_s, q_hk_s, q_hs_s, q_hy_s, q_hu_s, q_he_s, q_kd_u, q_bd_u, q_mo_u, q_cr_u, q_cp_u, q_cs_u, q_ch_u, q_hp_u, q_hr_u, q_hl_u, q_hk_u, q_hs_u, q_hy_u, q_hu_u, q_he_u, q_mix]
        exact eM
      · unfold q_R1
        dsimp only [x_layReady, x_send, q_th, q_nr, q_nc, q_nh, q_sp, q_td, q_kd, q_bd, q_mo, q_cr, q_cp, q_cs, q_ch, q_hp, q_hr, q_hl, q_hk, q_hs, q_hy, q_hu, q_he, q_th_s, q_nr_s, q_nc_s, q_nh_s, q_sp_s, q_td_s, q_kd_s, q_bd_s, q_mo_s, q_cr_s, q_cp_s, q_cs_s, q_ch_s, q_hp_s, q_hr_s, q_hl_s, q_hk_s, q_hs_s, q_hy_s, q_hu_s, q_he_s, q_kd_u, q_bd_u, q_mo_u, q_cr_u, q_cp_u, q_cs_u, q_ch_u, q_hp_u, q_hr_u, q_hl_u, q_hk_u, q_hs_u, q_hy_u, q_hu_u, q_he_u, q_mix]
        rw [ej]
        exact R1' 1 (Or.inl rfl)
      · unfold q_chv
        dsimp only [x_layReady, x_send, q_th, q_nr, q_nc, q_nh, q_sp, q_td, q_kd, q_bd, q_mo, q_cr, q_cp, q_cs, q_ch, q_hp, q_hr, q_hl, q_hk, q_hs, q_hy, q_hu, q_he, q_th_s, q_nr_s, q_nc_s, q_nh_s, q_sp_s, q_td_s, q_kd_s, q_bd_s, q_mo_s, q_cr_s, q_cp_s, q_cs_s, q_ch_s, q_hp_s, q_hr_s, q_hl_s, q_hk_s, q_hs_s, q_hy_s, q_hu_s, q_he_s, q_kd_u, q_bd_u, q_mo_u, q_cr_u, q_cp_u, q_cs_u, q_ch_u, q_hp_u, q_hr_u, q_hl_u, q_hk_u, q_hs_u, q_hy_u, q_hu_u, q_he_u, q_mix]
        rw [ej, ec]
        exact R2' 1 2 (Or.inl rfl)
      · dsimp only [x_layReady, x_send, q_th, q_nr, q_nc, q_nh, q_sp, q_td, q_kd, q_bd, q_mo, q_cr, q_cp, q_cs, q_ch, q_hp, q_hr, q_hl, q_hk, q_hs, q_hy, q_hu, q_he, q_th_s, q_nr_s, q_nc_s, q_nh_s, q_sp_s, q_td_s, q_kd_s, q_bd_s, q_mo_s, q_cr_s, q_cp_s, q_cs_s, q_ch_s, q_hp_s, q_hr_s, q_hl_s, q_hk_s, q_hs_s, q_hy_s, q_hu_s, q_he_s, q_kd_u, q_bd_u, q_mo_u, q_cr_u, q_cp_u, q_cs_u, q_ch_u, q_hp_u, q_hr_u, q_hl_u, q_hk_u, q_hs_u, q_hy_u, q_hu_u, q_he_u, q_mix]
      · dsimp only [x_layReady, x_send, q_th, q_nr, q_nc, q_nh, q_sp, q_td, q_kd, q_bd, q_mo, q_cr, q_cp, q_cs, q_ch, q_hp, q_hr, q_hl, q_hk, q_hs, q_hy, q_hu, q_he, q_th_s, q_nr_s, q_nc_s, q_nh_s, q_sp_s, q_td_s, q_kd_s, q_bd_s, q_mo_s, q_cr_s, q_cp_s, q_cs_s, q_ch_s, q_hp_s, q_hr_s, q_hl_s, q_hk_s, q_hs_s, q_hy_s, q_hu_s, q_he_s, q_kd_u, q_bd_u, q_mo_u, q_cr_u, q_cp_u, q_cs_u, q_ch_u, q_hp_u, q_hr_u, q_hl_u, q_hk_u, q_hs_u, q_hy_u, q_hu_u, q_he_u, q_mix]
        rw [ej, ec]
        exact Tb 1 2 (Or.inl ⟨rfl, rfl⟩)
      · dsimp only [x_layReady, x_send, q_th, q_nr, q_nc, q_nh, q_sp, q_td, q_kd, q_bd, q_mo, q_cr, q_cp, q_cs, q_ch, q_hp, q_hr, q_hl, q_hk, q_hs, q_hy, q_hu, q_he, q_th_s, q_nr_s, q_nc_s, q_nh_s, q_sp_s, q_td_s, q_kd_s, q_bd_s, q_mo_s, q_cr_s, q_cp_s, q_cs_s, q_ch_s, q_hp_s, q_hr_s, q_hl_s, q_hk_s, q_hs_s, q_hy_s, q_hu_s, q_he_s, q_kd_u, q_bd_u, q_mo_u, q_cr_u, q_cp_u, q_cs_u, q_ch_u, q_hp_u, q_hr_u, q_hl_u, q_hk_u, q_hs_u, q_hy_u, q_hu_u, q_he_u, q_mix]
      · dsimp only [x_layReady, x_send, q_th, q_nr, q_nc, q_nh, q_sp, q_td, q_kd, q_bd, q_mo, q_cr, q_cp, q_cs, q_ch, q_hp, q_hr, q_hl, q_hk, q_hs, q_hy, q_hu, q_he, q_th_s, q_nr_s, q_nc_s, q_nh_s, q_sp_s, q_td_s, q_kd_s, q_bd_s, q_mo_s, q_cr_s, q_cp_s, q_cs_s, q_ch_s, q_hp_s, q_hr_s, q_hl_s, q_hk_s, q_hs_s, q_hy_s, q_hu_s, q_he_s, q_kd_u, q_bd_u, q_mo_u, q_cr_u, q_cp_u, q_cs_u, q_ch_u, q_hp_u, q_hr_u, q_hl_u, q_hk_u, q_hs_u, q_hy_u, q_hu_u, q_he_u, q_mix]
      · dsimp only [x_layReady, x_send, q_th, q_nr, q_nc, q_nh, q_sp, q_td, q_kd, q_bd, q_mo, q_cr, q_cp, q_cs, q_ch, q_hp, q_hr, q_hl, q_hk, q_hs, q_hy, q_hu, q_he, q_th_s, q_nr_s, q_nc_s, q_nh_s, q_sp_s, q_td_s, q_kd_s, q_bd_s, q_mo_s, q_cr_s, q_cp_s, q_cs_s, q_ch_s, q_hp_s, q_hr_s, q_hl_s, q_hk_s, q_hs_s, q_hy_s, q_hu_s, q_he_s, q_kd_u, q_bd_u, q_mo_u, q_cr_u, q_cp_u, q_cs_u, q_ch_u, q_hp_u, q_hr_u, q_hl_u, q_hk_u, q_hs_u, q_hy_u, q_hu_u, q_he_u, q_mix]
      · dsimp only [x_layReady, x_send, q_th, q_nr, q_nc, q_nh, q_sp, q_td, q_kd, q_bd, q_mo, q_cr, q_cp, q_cs, q_ch, q_hp, q_hr, q_hl, q_hk, q_hs, q_hy, q_hu, q_he, q_th_s, q_nr_s, q_nc_s, q_nh_s, q_sp_s, q_td_s, q_kd_s, q_bd_s, q_mo_s, q_cr_s, q_cp_s, q_cs_s, q_ch_s, q_hp_s, q_hr_s, q_hl_s, q_hk_s, q_hs_s, q_hy_s, q_hu_s, q_he_s, q_kd_u, q_bd_u, q_mo_u, q_cr_u, q_cp_u, q_cs_u, q_ch_u, q_hp_u, q_hr_u, q_hl_u, q_hk_u, q_hs_u, q_hy_u, q_hu_u, q_he_u, q_mix]
theorem k_th {u w : q_S} (h : q_K u w) : q_K u (q_th_s w 0) := by
  obtain ⟨th, ch, hy, hu, N, M, rfl, r⟩ := h
  exact ⟨0, ch, hy, hu, N, M, rfl, r⟩
theorem f_isIn {u : q_S} {v a : Int32} {N : Nat} (hN : N ≤ 120) (eN : q_nh u = nI N) (h : ¬ xh_isIn u v a = 0) : ∃ j : Nat, 1 ≤ j ∧ j ≤ N ∧ v = nI j ∧ q_hs u j = a := by
  unfold xh_isIn at h
  by_cases h1 : xh_has u v = 0
  · rw [if_pos h1] at h
    exact absurd rfl h
  · rw [if_neg h1] at h
    obtain ⟨j, j1, j2, rfl⟩ := q_has (u := 0) (show N < 1000 by omega) eN h1
    rw [nI_clamp (n := j) (by omega)] at h
    by_cases h2 : q_hs u j = a
    · exact ⟨j, j1, j2, rfl, h2⟩
    · rw [if_neg h2] at h
      exact absurd rfl h
theorem f_has {u : q_S} {N j : Nat} (hN : N ≤ 120) (eN : q_nh u = nI N) (j1 : 1 ≤ j) (j2 : j ≤ N) : xh_has u (nI j) = 1 := by
  unfold xh_has
  rw [if_neg (show ¬ nI j < 1 from nI_nlt (b := 1) j1 (by omega)), eN, if_neg (nI_nlt j2 (by omega))]
theorem f_isIn_y {u : q_S} {a : Int32} {N j : Nat} (hN : N ≤ 120) (eN : q_nh u = nI N) (j1 : 1 ≤ j) (j2 : j ≤ N) (h : q_hs u j = a) : xh_isIn u (nI j) a = 1 := by
  unfold xh_isIn
  rw [f_has hN eN j1 j2, if_neg q_10, nI_clamp (n := j) (by omega), if_pos h]
theorem f_isIn_n {u : q_S} {a : Int32} {N j : Nat} (hN : N ≤ 120) (eN : q_nh u = nI N) (j1 : 1 ≤ j) (j2 : j ≤ N) (h : ¬ q_hs u j = a) : xh_isIn u (nI j) a = 0 := by
  unfold xh_isIn
  rw [f_has hN eN j1 j2, if_neg q_10, nI_clamp (n := j) (by omega), if_neg h]
theorem f_isC {u : q_S} {v a : Int32} {M : Nat} (hM : M ≤ 60) (eM : q_nc u = nI M) (h : ¬ xc_isIn u v a = 0) : ∃ j : Nat, 1 ≤ j ∧ j ≤ M ∧ v = nI j ∧ q_cs u j = a := by
  unfold xc_isIn at h
  by_cases h1 : xc_has u v = 0
  · rw [if_pos h1] at h
    exact absurd rfl h
  · rw [if_neg h1] at h
    obtain ⟨j, j1, j2, rfl⟩ := q_has (u := 0) (show M < 1000 by omega) eM h1
    rw [nI_clamp (n := j) (by omega)] at h
    by_cases h2 : q_cs u j = a
    · exact ⟨j, j1, j2, rfl, h2⟩
    · rw [if_neg h2] at h
      exact absurd rfl h
theorem k_back {u w : q_S} (K : q_K u w) (a b : Int32) : x_back_r u a b = m_back_r w a b ∧ q_K (x_back_s u a b) (m_back_s w a b) := by
  have K0 := k_th K
  obtain ⟨th, ch, hy, hu, N, M, hw, eN, eM, R1, R2, R3, T, J⟩ := id K0
  unfold x_back_r m_back_r x_back_s m_back_s x_back m_back
  have e1 : m_isCopy (q_th_s w 0) a 1 = xc_isIn u a 1 := by rw [hw]; rfl
  rw [← q_place b, e1]
  by_cases h1 : xc_isIn u a 1 = 0
  · simp only [if_pos h1]
    exact ⟨by first | rfl | trivial, K0⟩
  · simp only [if_neg h1]
    by_cases h2 : x_isPlace b = 0
    · simp only [if_pos h2]
      exact ⟨by first | rfl | trivial, K0⟩
    · simp only [if_neg h2]
      obtain ⟨c0, k1, k2, rfl, hc⟩ := f_isC T.1.2 eM h1
      have es : upd (q_cs u) c0 1 = q_cs u := by
        have h := q_upd_self (q_cs u) c0
        rw [hc] at h
        exact h
      exact k_settle (u := q_cp_u u (nI c0) b) (w := q_cp_u (q_th_s w 0) (nI c0) b) (N := N) (M := M) (c0 := c0) (th := th) (ch := ch) (hy := hy) (hu := hu) (by rw [hw]; rfl) eN eM k1 k2 R1 (fun c _ => R2 c) R3 (by show q_T (q_hs u) (q_hy u) (upd (q_cs u) c0 1) (q_ch u) N M; rw [es]; exact T) J
theorem k_lend {u w : q_S} (K : q_K u w) (a : Int32) : x_lend_r u a = m_lend_r w a ∧ q_K (x_lend_s u a) (m_lend_s w a) := by
  have K0 := k_th K
  obtain ⟨th, ch, hy, hu, N, M, hw, eN, eM, R1, R2, R3, T, J⟩ := id K0
  unfold x_lend_r m_lend_r x_lend_s m_lend_s x_lend m_lend
  have e1 : m_isCopy (q_th_s w 0) a 0 = xc_isIn u a 0 := by rw [hw]; rfl
  rw [e1]
  by_cases h1 : xc_isIn u a 0 = 0
  · simp only [if_pos h1]
    exact ⟨by first | rfl | trivial, K0⟩
  · simp only [if_neg h1]
    obtain ⟨c0, k1, k2, rfl, hc⟩ := f_isC T.1.2 eM h1
    have hM := T.1.2
    have ec : (nI c0).toNatClampNeg = c0 := nI_clamp (by omega)
    have ch0 : q_ch u c0 = 0 := by
      rcases T.2.2.2 c0 with q | ⟨h, q1, q2, q3, q4, q5⟩
      · exact q.1
      · rcases q5 with q | q | q <;> exact absurd (hc.symm.trans q.2) (by decide)
    refine ⟨by first | rfl | trivial, th, ch, hy, hu, N, M, by rw [hw]; rfl, eN, eM, R1, fun c => ?_, R3, ?_, J⟩
    · rw [R2 c]
      show q_chv u c = q_p25 (upd (q_cs u) (nI c0).toNatClampNeg 1 c) (q_hs u (Int32.toNatClampNeg (q_ch u c))) (q_ch u c)
      rw [ec]
      unfold q_chv
      by_cases e : c = c0
      · subst e
        rw [pk_us, hc, q_p25_1 (by decide), q_p25_1 (by decide)]
      · rw [pk_un e]
    · show q_T (q_hs u) (q_hy u) (upd (q_cs u) (nI c0).toNatClampNeg 1) (q_ch u) N M
      rw [ec]
      exact q_T_c T k1 k2 ch0 (Or.inr rfl)
theorem k_rank {u w : q_S} (K : q_K u w) (a b : Int32) : x_rank_r u a b = m_rank_r w a b ∧ q_K (x_rank_s u a b) (m_rank_s w a b) := by
  have K0 := k_th K
  obtain ⟨th, ch, hy, hu, N, M, hw, r⟩ := id K0
  unfold x_rank_r m_rank_r x_rank_s m_rank_s x_rank m_rank
  have e1 : m_isWaiting (q_th_s w 0) a = xh_isIn u a 0 := by rw [hw]; rfl
  rw [e1]
  by_cases h1 : xh_isIn u a 0 = 0
  · simp only [if_pos h1]
    exact ⟨by first | rfl | trivial, K0⟩
  · simp only [if_neg h1]
    refine ⟨?_, th, ch, hy, hu, N, M, by rw [hw]; rfl, r⟩
    rw [hw]
    exact (f_place (q_hk_u u a b) th ch hy hu a).symm
end
section
theorem k_suspend {u w : q_S} (K : q_K u w) (a : Int32) (b : Int64) : x_suspend_r u a b = m_suspend_r w a b ∧ q_K (x_suspend_s u a b) (m_suspend_s w a b) := by
  have K0 := k_th K
  obtain ⟨th, ch, hy, hu, N, M, hw, eN, eM, R1, R2, R3, T, J⟩ := id K0
  unfold x_suspend_r m_suspend_r x_suspend_s m_suspend_s x_suspend m_suspend
  have e1 : m_isWaiting (q_th_s w 0) a = xh_isIn u a 0 := by rw [hw]; rfl
  rw [e1]
  by_cases h1 : xh_isIn u a 0 = 0
  · simp only [if_pos h1]
    exact ⟨by first | rfl | trivial, K0⟩
  · simp only [if_neg h1]
    obtain ⟨j, j1, j2, rfl, hj⟩ := f_isIn T.1.1 eN h1
    have hN := T.1.1
    have ej : (nI j).toNatClampNeg = j := nI_clamp (by omega)
    refine ⟨by first | rfl | trivial, th, ch, hy, vp_updL hu (nI j).toNatClampNeg b, N, M, by rw [hw]; rfl, eN, eM, R1, R2, ?_, T, ?_, J.2⟩
    · rw [ej]
      intro h
      show vp_updL hu j b h = vp_updL (q_hu u) (nI j).toNatClampNeg b h ∨ (vp_updL (q_hu u) (nI j).toNatClampNeg b h = 0 ∧ vp_updL hu j b h = (-9223372036854775807))
      rw [ej]
      unfold vp_updL
      by_cases e : h = j
      · rw [if_pos e, if_pos e]
        exact Or.inl rfl
      · rw [if_neg e, if_neg e]
        exact R3 h
    · intro h hh
      show vp_updL (q_hu u) (nI j).toNatClampNeg b h = 0
      rw [ej]
      unfold vp_updL
      rw [if_neg (by omega)]
      exact J.1 h hh
theorem k_arrive {u w : q_S} (K : q_K u w) (a : Int32) : x_arrive_r u a = m_arrive_r w a ∧ q_K (x_arrive_s u a) (m_arrive_s w a) := by
  have K0 := k_th K
  obtain ⟨th, ch, hy, hu, N, M, hw, eN, eM, R1, R2, R3, T, J⟩ := id K0
  unfold x_arrive_r m_arrive_r x_arrive_s m_arrive_s x_arrive m_arrive
  have e1 : m_isCopy (q_th_s w 0) a 2 = xc_isIn u a 2 := by rw [hw]; rfl
  rw [e1]
  by_cases h1 : xc_isIn u a 2 = 0
  · simp only [if_pos h1]
    exact ⟨by first | rfl | trivial, K0⟩
  · simp only [if_neg h1]
    obtain ⟨c0, k1, k2, rfl, hc⟩ := f_isC T.1.2 eM h1
    have hN := T.1.1
    have hM := T.1.2
    have ec : (nI c0).toNatClampNeg = c0 := nI_clamp (by omega)
    obtain ⟨j, j1, j2, hcj, hyj, htie⟩ : ∃ h : Nat, 1 ≤ h ∧ h ≤ N ∧ q_ch u c0 = nI h ∧ q_hy u h = nI c0 ∧ q_tie (q_hs u h) (q_cs u c0) := by
      rcases T.2.2.2 c0 with q | q
      · rcases q.2 with q | q <;> exact absurd (hc.symm.trans q) (by decide)
      · exact q
    have ej : (nI j).toNatClampNeg = j := nI_clamp (by omega)
    have ewc : q_ch w c0 = q_chv u c0 := by
      have h := R2 c0
      rw [← h]
      show q_ch (q_th_s w 0) c0 = ch c0
      rw [hw]
      rfl
    rw [ec, hcj, ewc]
    unfold q_chv
    rw [hc, hcj, ej]
    by_cases h5 : q_hs u j = 5
    · rw [f_isIn_n hN eN j1 j2 (by rw [h5]; decide)]
      rw [q_p25_y rfl h5]
      simp only [↓reduceIte, if_pos (show (0 : Int32) ≤ 0 by decide)]
      refine ⟨by first | rfl | trivial, ?_⟩
      refine (k_settle (u := x_untie u (nI c0) (nI j)) (w := q_th_s w 0) (N := N) (M := M) (c0 := c0) (th := th) (ch := ch) (hy := hy) (hu := hu) (by rw [hw]; rfl) eN eM k1 k2 ?_ ?_ R3 ?_ J).2
      · intro h
        show hy h = q_p5 (q_hs u h) (upd (q_hy u) (nI j).toNatClampNeg 0 h)
        rw [ej, R1 h]
        by_cases e : h = j
        · subst e
          rw [q_p5_y h5, q_p5_y h5]
        · rw [pk_un e]
      · intro c e
        rw [R2 c]
        show q_chv u c = q_p25 (q_cs u c) (q_hs u (Int32.toNatClampNeg (upd (q_ch u) (nI c0).toNatClampNeg 0 c))) (upd (q_ch u) (nI c0).toNatClampNeg 0 c)
        rw [ec, pk_un e]
        rfl
      · show q_T (q_hs u) (upd (q_hy u) (nI j).toNatClampNeg 0) (upd (q_cs u) c0 1) (upd (q_ch u) (nI c0).toNatClampNeg 0) N M
        rw [ej, ec]
        have t := q_T_upd T (h0 := j) (c0 := c0) (a := q_hs u j) (y := 0) (b := 1) (z := 0) j1 j2 k1 k2 (Or.inr hyj) (Or.inr hcj) (Or.inr ⟨rfl, rfl, Or.inr (Or.inr (Or.inr h5)), Or.inr rfl⟩)
        rw [q_upd_self] at t
        exact t
    · have hs1 : q_hs u j = 1 := by
        rcases htie with q | q | q
        · exact q.1
        · exact absurd (hc.symm.trans q.2) (by decide)
        · exact absurd q.1 h5
      rw [f_isIn_y hN eN j1 j2 hs1]
      rw [q_p25_2 h5]
      simp only [if_neg q_10, if_neg (nI_nle j1 (show j < 2 ^ 31 by omega))]
      refine ⟨by first | rfl | trivial, th, ch, hy, hu, N, M, by rw [hw]; rfl, eN, eM, ?_, ?_, R3, ?_, J⟩
      · intro h
        show hy h = q_p5 (upd (q_hs u) (nI j).toNatClampNeg 2 h) (q_hy u h)
        rw [ej, R1 h]
        by_cases e : h = j
        · subst e
          rw [pk_us, q_p5_n h5, q_p5_n (by decide)]
        · rw [pk_un e]
      · intro c
        rw [R2 c]
        show q_chv u c = q_p25 (upd (q_cs u) (nI c0).toNatClampNeg 3 c) (upd (q_hs u) (nI j).toNatClampNeg 2 (Int32.toNatClampNeg (q_ch u c))) (q_ch u c)
        rw [ej, ec]
        unfold q_chv
        by_cases e : c = c0
        · subst e
          rw [pk_us, hcj, ej, q_p25_2 h5, q_p25_1 (by decide)]
        · rw [pk_un e]
          by_cases e2 : Int32.toNatClampNeg (q_ch u c) = j
          · rw [e2, pk_us, q_p25_2 h5, q_p25_2 (by decide)]
          · rw [pk_un e2]
      · show q_T (upd (q_hs u) (nI j).toNatClampNeg 2) (q_hy u) (upd (q_cs u) (nI c0).toNatClampNeg 3) (q_ch u) N M
        rw [ej, ec]
        have t := q_T_upd T (h0 := j) (c0 := c0) (a := 2) (y := q_hy u j) (b := 3) (z := q_ch u c0) j1 j2 k1 k2 (Or.inr hyj) (Or.inr hcj) (Or.inl ⟨hyj, hcj, Or.inr (Or.inl ⟨rfl, rfl⟩)⟩)
        rw [q_upd_self, q_upd_self] at t
        exact t
theorem k_pick {u w : q_S} (K : q_K u w) (a : Int32) : x_pick_r u a = m_pick_r w a ∧ q_K (x_pick_s u a) (m_pick_s w a) := by
  have K0 := k_th K
  obtain ⟨th, ch, hy, hu, N, M, hw, eN, eM, R1, R2, R3, T, J⟩ := id K0
  unfold x_pick_r m_pick_r x_pick_s m_pick_s x_pick m_pick xh_isIn
  have e1 : m_isHold (q_th_s w 0) a = xh_has u a := by rw [hw]; rfl
  have e2 : q_hs w = q_hs u := by
    show q_hs (q_th_s w 0) = _
    rw [hw]
    rfl
  rw [e1, e2]
  by_cases h1 : xh_has u a = 0
  · simp only [if_pos h1, ↓reduceIte]
    exact ⟨by first | rfl | trivial, K0⟩
  · simp only [if_neg h1]
    by_cases h2 : q_hs u (Int32.toNatClampNeg a) = 2
    · simp only [if_pos h2, if_neg q_10]
      have hN := T.1.1
      have hM := T.1.2
      obtain ⟨j, j1, j2, rfl⟩ := q_has (u := 0) (show N < 1000 by omega) eN h1
      have ej : (nI j).toNatClampNeg = j := nI_clamp (by omega)
      rw [ej] at h2
      obtain ⟨c0, k1, k2, hyj, hcj, htie⟩ : ∃ c : Nat, 1 ≤ c ∧ c ≤ M ∧ q_hy u j = nI c ∧ q_ch u c = nI j ∧ q_tie (q_hs u j) (q_cs u c) := by
        rcases T.2.2.1 j with q | q
        · rcases q.2 with q | q | q | q <;> exact absurd (h2.symm.trans q) (by decide)
        · exact q
      have ec : (nI c0).toNatClampNeg = c0 := nI_clamp (by omega)
      have ewy : q_hy w j = nI c0 := by
        show q_hy (q_th_s w 0) j = _
        rw [hw]
        show hy j = _
        rw [R1 j, q_p5_n (by rw [h2]; decide)]
        exact hyj
      rw [ej, hyj, ewy]
      refine ⟨by first | rfl | trivial, th, upd ch (nI c0).toNatClampNeg 0, upd hy (nI j).toNatClampNeg 0, hu, N, M, ?_, ?_, ?_, ?_, ?_, q_R3_of ?_ R3, ?_, q_J_of ?_ ?_ ?_ ?_ J⟩
      · rw [hw]
        refine q_ext ?_ ?_ ?_ ?_ ?_ ?_ ?_ ?_ ?_ ?_ ?_ ?_ ?_ ?_ ?_ ?_ ?_ ?_ ?_ ?_ ?_ <;> dsimp only [x_untie, q_th, q_nr, q_nc, q_nh, q_sp, q_td, q_kd, q_bd, q_mo, q_cr, q_cp, q_cs, q_ch, q_hp, q_hr, q_hl, q_hk, q_hs, q_hy, q_hu, q_he, q_th_s, q_nr_s, q_nc_s, q_nh_s, q_sp_s, q_td_s, q_kd_s, q_bd_s, q_mo_s, q_cr_s, q_cp_s, q_cs_s, q_ch_s, q_hp_s, q_hr_s, q_hl_s, q_hk_s, q_hs_s, q_hy_s, q_hu_s, q_he_s, q_kd_u, q_bd_u, q_mo_u, q_cr_u, q_cp_u, q_cs_u, q_ch_u, q_hp_u, q_hr_u, q_hl_u, q_hk_u, q_hs_u, q_hy_u, q_hu_u, q_he_u, q_mix]
      · dsimp only [x_untie, q_th, q_nr, q_nc, q_nh, q_sp, q_td, q_kd, q_bd, q_mo, q_cr, q_cp, q_cs, q_ch, q_hp, q_hr, q_hl, q_hk, q_hs, q_hy, q_hu, q_he, q_th_s, q_nr_s, q_nc_s, q_nh_s, q_sp_s, q_td_s, q_kd_s, q_bd_s, q_mo_s, q_cr_s, q_cp_s, q_cs_s, q_ch_s, q_hp_s, q_hr_s, q_hl_s, q_hk_s, q_hs_s, q_hy_s, q_hu_s, q_he_s, q_kd_u, q_bd_u, q_mo_u, q_cr_u, q_cp_u, q_cs_u, q_ch_u, q_hp_u, q_hr_u, q_hl_u, q_hk_u, q_hs_u, q_hy_u, q_hu_u, q_he_u, q_mix]
        exact eN
      · dsimp only [x_untie, q_th, q_nr, q_nc, q_nh, q_sp, q_td, q_kd, q_bd, q_mo, q_cr, q_cp, q_cs, q_ch, q_hp, q_hr, q_hl, q_hk, q_hs, q_hy, q_hu, q_he, q_th_s, q_nr_s, q_nc_s, q_nh_s, q_sp_s, q_td_s, q_kd_s, q_bd_s, q_mo_s, q_cr_s, q_cp_s, q_cs_s, q_ch_s, q_hp_s, q_hr_s, q_hl_s, q_hk_s, q_hs_s, q_hy_s, q_hu_s, q_he_s, q_kd_u, q_bd_u, q_mo_u, q_cr_u, q_cp_u, q_cs_u, q_ch_u, q_hp_u, q_hr_u, q_hl_u, q_hk_u, q_hs_u, q_hy_u, q_hu_u, q_he_u, q_mix]
        exact eM
      · intro h
        dsimp only [x_untie, q_th, q_nr, q_nc, q_nh, q_sp, q_td, q_kd, q_bd, q_mo, q_cr, q_cp, q_cs, q_ch, q_hp, q_hr, q_hl, q_hk, q_hs, q_hy, q_hu, q_he, q_th_s, q_nr_s, q_nc_s, q_nh_s, q_sp_s, q_td_s, q_kd_s, q_bd_s, q_mo_s, q_cr_s, q_cp_s, q_cs_s, q_ch_s, q_hp_s, q_hr_s, q_hl_s, q_hk_s, q_hs_s, q_hy_s, q_hu_s, q_he_s, q_kd_u, q_bd_u, q_mo_u, q_cr_u, q_cp_u, q_cs_u, q_ch_u, q_hp_u, q_hr_u, q_hl_u, q_hk_u, q_hs_u, q_hy_u, q_hu_u, q_he_u, q_mix]
        show upd hy (nI j).toNatClampNeg 0 h = q_p5 (upd (q_hs u) (nI j).toNatClampNeg 3 h) (upd (q_hy u) (nI j).toNatClampNeg 0 h)
        rw [ej]
        by_cases e : h = j
        · subst e
          rw [pk_us, pk_us, pk_us, q_p5_0]
        · rw [pk_un e, pk_un e, pk_un e, R1 h]
      · intro c
        unfold q_chv
        dsimp only [x_untie, q_th, q_nr, q_nc, q_nh, q_sp, q_td, q_kd, q_bd, q_mo, q_cr, q_cp, q_cs, q_ch, q_hp, q_hr, q_hl, q_hk, q_hs, q_hy, q_hu, q_he, q_th_s, q_nr_s, q_nc_s, q_nh_s, q_sp_s, q_td_s, q_kd_s, q_bd_s, q_mo_s, q_cr_s, q_cp_s, q_cs_s, q_ch_s, q_hp_s, q_hr_s, q_hl_s, q_hk_s, q_hs_s, q_hy_s, q_hu_s, q_he_s, q_kd_u, q_bd_u, q_mo_u, q_cr_u, q_cp_u, q_cs_u, q_ch_u, q_hp_u, q_hr_u, q_hl_u, q_hk_u, q_hs_u, q_hy_u, q_hu_u, q_he_u, q_mix]
        show upd ch (nI c0).toNatClampNeg 0 c = q_p25 (upd (q_cs u) (nI c0).toNatClampNeg 1 c) (upd (q_hs u) (nI j).toNatClampNeg 3 (Int32.toNatClampNeg (upd (q_ch u) (nI c0).toNatClampNeg 0 c))) (upd (q_ch u) (nI c0).toNatClampNeg 0 c)
        rw [ej, ec]
        by_cases e : c = c0
        · subst e
          rw [pk_us, pk_us, pk_us, q_p25_0]
        · rw [pk_un e, pk_un e, pk_un e, R2 c]
          unfold q_chv
          by_cases e2 : Int32.toNatClampNeg (q_ch u c) = j
          · rw [e2, pk_us, q_p25_2 (by rw [h2]; decide), q_p25_2 (by decide)]
          · rw [pk_un e2]
      · dsimp only [x_untie, q_th, q_nr, q_nc, q_nh, q_sp, q_td, q_kd, q_bd, q_mo, q_cr, q_cp, q_cs, q_ch, q_hp, q_hr, q_hl, q_hk, q_hs, q_hy, q_hu, q_he, q_th_s, q_nr_s, q_nc_s, q_nh_s, q_sp_s, q_td_s, q_kd_s, q_bd_s, q_mo_s, q_cr_s, q_cp_s, q_cs_s, q_ch_s, q_hp_s, q_hr_s, q_hl_s, q_hk_s, q_hs_s, q_hy_s, q_hu_s, q_he_s, q_kd_u, q_bd_u, q_mo_u, q_cr_u, q_cp_u, q_cs_u, q_ch_u, q_hp_u, q_hr_u, q_hl_u, q_hk_u, q_hs_u, q_hy_u, q_hu_u, q_he_u, q_mix]
      · dsimp only [x_untie, q_th, q_nr, q_nc, q_nh, q_sp, q_td, q_kd, q_bd, q_mo, q_cr, q_cp, q_cs, q_ch, q_hp, q_hr, q_hl, q_hk, q_hs, q_hy, q_hu, q_he, q_th_s, q_nr_s, q_nc_s, q_nh_s, q_sp_s, q_td_s, q_kd_s, q_bd_s, q_mo_s, q_cr_s, q_cp_s, q_cs_s, q_ch_s, q_hp_s, q_hr_s, q_hl_s, q_hk_s, q_hs_s, q_hy_s, q_hu_s, q_he_s, q_kd_u, q_bd_u, q_mo_u, q_cr_u, q_cp_u, q_cs_u, q_ch_u, q_hp_u, q_hr_u, q_hl_u, q_hk_u, q_hs_u, q_hy_u, q_hu_u, q_he_u, q_mix]
        show q_T (upd (q_hs u) (nI j).toNatClampNeg 3) (upd (q_hy u) (nI j).toNatClampNeg 0) (upd (q_cs u) (nI c0).toNatClampNeg 1) (upd (q_ch u) (nI c0).toNatClampNeg 0) N M
        rw [ej, ec]
        exact q_T_upd T j1 j2 k1 k2 (Or.inr hyj) (Or.inr hcj) (Or.inr ⟨rfl, rfl, Or.inr (Or.inl rfl), Or.inr rfl⟩)
      · dsimp only [x_untie, q_th, q_nr, q_nc, q_nh, q_sp, q_td, q_kd, q_bd, q_mo, q_cr, q_cp, q_cs, q_ch, q_hp, q_hr, q_hl, q_hk, q_hs, q_hy, q_hu, q_he, q_th_s, q_nr_s, q_nc_s, q_nh_s, q_sp_s, q_td_s, q_kd_s, q_bd_s, q_mo_s, q_cr_s, q_cp_s, q_cs_s, q_ch_s, q_hp_s, q_hr_s, q_hl_s, q_hk_s, q_hs_s, q_hy_s, q_hu_s, q_he_s, q_kd_u, q_bd_u, q_mo_u, q_cr_u, q_cp_u, q_cs_u, q_ch_u, q_hp_u, q_hr_u, q_hl_u, q_hk_u, q_hs_u, q_hy_u, q_hu_u, q_he_u, q_mix]
      · dsimp only [x_untie, q_th, q_nr, q_nc, q_nh, q_sp, q_td, q_kd, q_bd, q_mo, q_cr, q_cp, q_cs, q_ch, q_hp, q_hr, q_hl, q_hk, q_hs, q_hy, q_hu, q_he, q_th_s, q_nr_s, q_nc_s, q_nh_s, q_sp_s, q_td_s, q_kd_s, q_bd_s, q_mo_s, q_cr_s, q_cp_s, q_cs_s, q_ch_s, q_hp_s, q_hr_s, q_hl_s, q_hk_s, q_hs_s, q_hy_s, q_hu_s, q_he_s, q_kd_u, q_bd_u, q_mo_u, q_cr_u, q_cp_u, q_cs_u, q_ch_u, q_hp_u, q_hr_u, q_hl_u, q_hk_u, q_hs_u, q_hy_u, q_hu_u, q_he_u, q_mix]
      · dsimp only [x_untie, q_th, q_nr, q_nc, q_nh, q_sp, q_td, q_kd, q_bd, q_mo, q_cr, q_cp, q_cs, q_ch, q_hp, q_hr, q_hl, q_hk, q_hs, q_hy, q_hu, q_he, q_th_s, q_nr_s, q_nc_s, q_nh_s, q_sp_s, q_td_s, q_kd_s, q_bd_s, q_mo_s, q_cr_s, q_cp_s, q_cs_s, q_ch_s, q_hp_s, q_hr_s, q_hl_s, q_hk_s, q_hs_s, q_hy_s, q_hu_s, q_he_s, q_kd_u, q_bd_u, q_mo_u, q_cr_u, q_cp_u, q_cs_u, q_ch_u, q_hp_u, q_hr_u, q_hl_u, q_hk_u, q_hs_u, q_hy_u, q_hu_u, q_he_u, q_mix]
      · dsimp only [x_untie, q_th, q_nr, q_nc, q_nh, q_sp, q_td, q_kd, q_bd, q_mo, q_cr, q_cp, q_cs, q_ch, q_hp, q_hr, q_hl, q_hk, q_hs, q_hy, q_hu, q_he, q_th_s, q_nr_s, q_nc_s, q_nh_s, q_sp_s, q_td_s, q_kd_s, q_bd_s, q_mo_s, q_cr_s, q_cp_s, q_cs_s, q_ch_s, q_hp_s, q_hr_s, q_hl_s, q_hk_s, q_hs_s, q_hy_s, q_hu_s, q_he_s, q_kd_u, q_bd_u, q_mo_u, q_cr_u, q_cp_u, q_cs_u, q_ch_u, q_hp_u, q_hr_u, q_hl_u, q_hk_u, q_hs_u, q_hy_u, q_hu_u, q_he_u, q_mix]
    · simp only [if_neg h2, ↓reduceIte]
      exact ⟨by first | rfl | trivial, K0⟩
/-- a hold that is ready ends (expired or cancelled): its copy goes on -/
theorem k_release {u w : q_S} (K : q_K u w) {j N : Nat} {a : Int32} (ha : a = 4 ∨ a = 5) (eN : q_nh u = nI N) (hN : N ≤ 120) (j1 : 1 ≤ j) (j2 : j ≤ N) (h2 : q_hs u j = 2) : q_K (x_letGo (q_hs_u u (nI j) a) (nI j)) (m_ends w (nI j) a) := by
  obtain ⟨th, ch, hy, hu, N', M, hw, eN', eM, R1, R2, R3, T, J⟩ := K
  have e0 : N' = N := q_nI_inj (by have := T.1.1; omega) (by omega) (eN'.symm.trans eN)
  subst e0
  have hM := T.1.2
  have ej : (nI j).toNatClampNeg = j := nI_clamp (by omega)
  obtain ⟨c0, k1, k2, hyj, hcj, htie⟩ : ∃ c : Nat, 1 ≤ c ∧ c ≤ M ∧ q_hy u j = nI c ∧ q_ch u c = nI j ∧ q_tie (q_hs u j) (q_cs u c) := by
    rcases T.2.2.1 j with q | q
    · rcases q.2 with q | q | q | q <;> exact absurd (h2.symm.trans q) (by decide)
    · exact q
  have hc3 : q_cs u c0 = 3 := by
    rcases htie with q | q | q
    · exact absurd (h2.symm.trans q.1) (by decide)
    · exact q.2
    · exact absurd (h2.symm.trans q.1) (by decide)
  have ec : (nI c0).toNatClampNeg = c0 := nI_clamp (by omega)
  have ewy : q_hy w j = nI c0 := by
    rw [hw]
    show hy j = _
    rw [R1 j, q_p5_n (by rw [h2]; decide)]
    exact hyj
  have ews : q_hs w j = 2 := by
    rw [hw]
    exact h2
  unfold x_letGo m_ends
  rw [show q_hy (q_hs_u u (nI j) a) = q_hy u from rfl, ej, hyj, ews, ewy]
  simp only [if_pos (rfl : (2 : Int32) = 2), if_neg (nI_nle k1 (show c0 < 2 ^ 31 by omega))]
  refine (k_settle (u := x_untie (q_hs_u u (nI j) a) (nI c0) (nI j)) (w := q_ch_u (q_hy_u (q_hs_u w (nI j) a) (nI j) 0) (nI c0) 0) (N := N') (M := M) (c0 := c0) (th := th) (ch := upd ch (nI c0).toNatClampNeg 0) (hy := upd hy (nI j).toNatClampNeg 0) (hu := hu) (by rw [hw]; rfl) eN eM k1 k2 ?_ ?_ R3 ?_ J).2
  · intro h
    show upd hy (nI j).toNatClampNeg 0 h = q_p5 (upd (q_hs u) (nI j).toNatClampNeg a h) (upd (q_hy u) (nI j).toNatClampNeg 0 h)
    rw [ej]
    by_cases e : h = j
    · subst e
      rw [pk_us, pk_us, pk_us, q_p5_0]
    · rw [pk_un e, pk_un e, pk_un e, R1 h]
  · intro c e
    show upd ch (nI c0).toNatClampNeg 0 c = q_p25 (q_cs u c) (upd (q_hs u) (nI j).toNatClampNeg a (Int32.toNatClampNeg (upd (q_ch u) (nI c0).toNatClampNeg 0 c))) (upd (q_ch u) (nI c0).toNatClampNeg 0 c)
    rw [ej, ec, pk_un e, pk_un e, R2 c]
    unfold q_chv
    by_cases e2 : q_cs u c = 2
    · obtain ⟨h, q1, q2, q3, q4, q5⟩ : ∃ h : Nat, 1 ≤ h ∧ h ≤ N' ∧ q_ch u c = nI h ∧ q_hy u h = nI c ∧ q_tie (q_hs u h) (q_cs u c) := by
        rcases T.2.2.2 c with q | q
        · rcases q.2 with q | q <;> exact absurd (e2.symm.trans q) (by decide)
        · exact q
      have e3 : h ≠ j := by
        intro e3
        subst e3
        rcases q5 with q | q | q
        · exact absurd (h2.symm.trans q.1) (by decide)
        · exact absurd (e2.symm.trans q.2) (by decide)
        · exact absurd (h2.symm.trans q.1) (by decide)
      rw [q3, nI_clamp (n := h) (by omega), pk_un e3]
    · rw [q_p25_1 e2, q_p25_1 e2]
  · show q_T (upd (q_hs u) (nI j).toNatClampNeg a) (upd (q_hy u) (nI j).toNatClampNeg 0) (upd (q_cs u) c0 1) (upd (q_ch u) (nI c0).toNatClampNeg 0) N' M
    rw [ej, ec]
    exact q_T_upd T j1 j2 k1 k2 (Or.inr hyj) (Or.inr hcj) (Or.inr ⟨rfl, rfl, Or.inr (Or.inr ha), Or.inr rfl⟩)
end
section
theorem f_hs6 {hs hy cs ch : Nat → Int32} {N M : Nat} (T : q_T hs hy cs ch N M) (h : Nat) : hs h = 0 ∨ hs h = 1 ∨ hs h = 2 ∨ hs h = 3 ∨ hs h = 4 ∨ hs h = 5 := by
  rcases T.2.2.1 h with ⟨-, q⟩ | ⟨c, -, -, -, -, q⟩
  · rcases q with q | q | q | q
    · exact Or.inl q
    · exact Or.inr (Or.inr (Or.inr (Or.inl q)))
    · exact Or.inr (Or.inr (Or.inr (Or.inr (Or.inl q))))
    · exact Or.inr (Or.inr (Or.inr (Or.inr (Or.inr q))))
  · rcases q with q | q | q
    · exact Or.inr (Or.inl q.1)
    · exact Or.inr (Or.inr (Or.inl q.1))
    · exact Or.inr (Or.inr (Or.inr (Or.inr (Or.inr q.1))))
theorem f_open {u : q_S} {N M j : Nat} {hy cs ch : Nat → Int32} (T : q_T (q_hs u) hy cs ch N M) (eN : q_nh u = nI N) (j1 : 1 ≤ j) (j2 : j ≤ N) : xh_isOpen u (nI j) = if 2 < q_hs u j then 0 else 1 := by
  have hN := T.1.1
  have key : ∀ a : Int32, xh_isIn u (nI j) a = if q_hs u j = a then 1 else 0 := by
    intro a
    unfold xh_isIn
    rw [f_has hN eN j1 j2, if_neg q_10, nI_clamp (n := j) (by omega)]
  unfold xh_isOpen
  rw [key 0, key 1, key 2]
  rcases f_hs6 T j with h | h | h | h | h | h <;> rw [h] <;> decide +kernel
theorem k_cancel {u w : q_S} (K : q_K u w) (a : Int32) : x_cancel_r u a = m_cancel_r w a ∧ q_K (x_cancel_s u a) (m_cancel_s w a) := by
  have K0 := k_th K
  obtain ⟨th, ch, hy, hu, N, M, hw, eN, eM, R1, R2, R3, T, J⟩ := id K0
  unfold x_cancel_r m_cancel_r x_cancel_s m_cancel_s x_cancel m_cancel
  have e1 : m_isHold (q_th_s w 0) a = xh_has u a := by rw [hw]; rfl
  rw [e1]
  by_cases h1 : xh_has u a = 0
  · have e2 : xh_isOpen u a = 0 := by
      unfold xh_isOpen xh_isIn
      simp only [if_pos h1, ↓reduceIte]
    simp only [if_pos h1, if_pos e2]
    exact ⟨by first | rfl | trivial, K0⟩
  · simp only [if_neg h1]
    have hN := T.1.1
    have hM := T.1.2
    obtain ⟨j, j1, j2, rfl⟩ := q_has (u := 0) (show N < 1000 by omega) eN h1
    have ej : (nI j).toNatClampNeg = j := nI_clamp (by omega)
    have e3 : m_isOpen (q_th_s w 0) (nI j) = xh_isOpen u (nI j) := by
      rw [f_open T eN j1 j2]
      unfold m_isOpen
      rw [ej, hw]
      rfl
    rw [e3]
    by_cases h2 : xh_isOpen u (nI j) = 0
    · simp only [if_pos h2]
      exact ⟨by first | rfl | trivial, K0⟩
    · simp only [if_neg h2]
      have h3 : q_hs u j = 0 ∨ q_hs u j = 1 ∨ q_hs u j = 2 := by
        rw [f_open T eN j1 j2] at h2
        rcases f_hs6 T j with h | h | h | h | h | h
        · exact Or.inl h
        · exact Or.inr (Or.inl h)
        · exact Or.inr (Or.inr h)
        · rw [h] at h2; exact absurd (by decide +kernel) h2
        · rw [h] at h2; exact absurd (by decide +kernel) h2
        · rw [h] at h2; exact absurd (by decide +kernel) h2
      have ews : q_hs (q_th_s w 0) j = q_hs u j := by rw [hw]; rfl
      have ewy : ¬ q_hs u j = 5 → q_hy (q_th_s w 0) j = q_hy u j := by
        intro h5
        rw [hw]
        show hy j = _
        rw [R1 j, q_p5_n h5]
      rcases h3 with h | h | h
      · rw [f_isIn_n hN eN j1 j2 (show ¬ q_hs u j = 2 by rw [h]; decide)]
        have hyj : q_hy u j = 0 := by
          rcases T.2.2.1 j with q | ⟨c, q1, q2, q3, q4, q5⟩
          · exact q.1
          · rcases q5 with q | q | q <;> exact absurd (h.symm.trans q.1) (by decide)
        unfold m_ends
        rw [ej, ews, ewy (by rw [h]; decide), h, hyj]
        simp only [↓reduceIte, if_neg (show ¬ (0 : Int32) = 2 by decide), if_pos (show (0 : Int32) ≤ 0 by decide)]
        refine ⟨by first | rfl | trivial, th, ch, upd hy (nI j).toNatClampNeg 0, hu, N, M, by rw [hw]; rfl, eN, eM, ?_, ?_, R3, ?_, J⟩
        · intro k
          show upd hy (nI j).toNatClampNeg 0 k = q_p5 (upd (q_hs u) (nI j).toNatClampNeg 5 k) (q_hy u k)
          rw [ej]
          by_cases e : k = j
          · subst e
            rw [pk_us, pk_us, q_p5_y rfl]
          · rw [pk_un e, pk_un e, R1 k]
        · intro c
          rw [R2 c]
          show q_chv u c = q_p25 (q_cs u c) (upd (q_hs u) (nI j).toNatClampNeg 5 (Int32.toNatClampNeg (q_ch u c))) (q_ch u c)
          rw [ej]
          unfold q_chv
          by_cases e2 : q_cs u c = 2
          · obtain ⟨k, q1, q2, q3, q4, q5⟩ : ∃ k : Nat, 1 ≤ k ∧ k ≤ N ∧ q_ch u c = nI k ∧ q_hy u k = nI c ∧ q_tie (q_hs u k) (q_cs u c) := by
              rcases T.2.2.2 c with q | q
              · rcases q.2 with q | q <;> exact absurd (e2.symm.trans q) (by decide)
              · exact q
            have e3 : k ≠ j := by
              intro e3
              subst e3
              rcases q5 with q | q | q <;> exact absurd (h.symm.trans q.1) (by decide)
            rw [q3, nI_clamp (n := k) (by omega), pk_un e3]
          · rw [q_p25_1 e2, q_p25_1 e2]
        · show q_T (upd (q_hs u) (nI j).toNatClampNeg 5) (q_hy u) (q_cs u) (q_ch u) N M
          rw [ej]
          exact q_T_h T j1 j2 hyj (Or.inr (Or.inr (Or.inr rfl)))
      · rw [f_isIn_n hN eN j1 j2 (show ¬ q_hs u j = 2 by rw [h]; decide)]
        obtain ⟨c0, k1, k2, hyj, hcj, htie⟩ : ∃ c : Nat, 1 ≤ c ∧ c ≤ M ∧ q_hy u j = nI c ∧ q_ch u c = nI j ∧ q_tie (q_hs u j) (q_cs u c) := by
          rcases T.2.2.1 j with q | q
          · rcases q.2 with q | q | q | q <;> exact absurd (h.symm.trans q) (by decide)
          · exact q
        have hc2 : q_cs u c0 = 2 := by
          rcases htie with q | q | q
          · exact q.2
          · exact absurd (h.symm.trans q.1) (by decide)
          · exact absurd (h.symm.trans q.1) (by decide)
        have ec : (nI c0).toNatClampNeg = c0 := nI_clamp (by omega)
        unfold m_ends
        rw [ej, ews, ewy (by rw [h]; decide), h, hyj]
        simp only [↓reduceIte, if_neg (show ¬ (1 : Int32) = 2 by decide), if_neg (nI_nle k1 (show c0 < 2 ^ 31 by omega))]
        refine ⟨by first | rfl | trivial, th, upd ch (nI c0).toNatClampNeg 0, upd hy (nI j).toNatClampNeg 0, hu, N, M, by rw [hw]; rfl, eN, eM, ?_, ?_, R3, ?_, J⟩
        · intro k
          show upd hy (nI j).toNatClampNeg 0 k = q_p5 (upd (q_hs u) (nI j).toNatClampNeg 5 k) (q_hy u k)
          rw [ej]
          by_cases e : k = j
          · subst e
            rw [pk_us, pk_us, q_p5_y rfl]
          · rw [pk_un e, pk_un e, R1 k]
        · intro c
          show upd ch (nI c0).toNatClampNeg 0 c = q_p25 (q_cs u c) (upd (q_hs u) (nI j).toNatClampNeg 5 (Int32.toNatClampNeg (q_ch u c))) (q_ch u c)
          rw [ej, ec]
          by_cases e : c = c0
          · subst e
            rw [pk_us, hcj, ej, pk_us, q_p25_y hc2 rfl]
          · rw [pk_un e, R2 c]
            unfold q_chv
            by_cases e2 : q_cs u c = 2
            · obtain ⟨k, q1, q2, q3, q4, q5⟩ : ∃ k : Nat, 1 ≤ k ∧ k ≤ N ∧ q_ch u c = nI k ∧ q_hy u k = nI c ∧ q_tie (q_hs u k) (q_cs u c) := by
                rcases T.2.2.2 c with q | q
                · rcases q.2 with q | q <;> exact absurd (e2.symm.trans q) (by decide)
                · exact q
              have hcM : ¬ (c = 0 ∨ M < c) := fun hc => absurd (e2.symm.trans (T.2.1.2 c hc).1) (by decide)
              have e3 : k ≠ j := by
                intro e3
                subst e3
                exact e (q_nI_inj (by omega) (by omega) (q4.symm.trans hyj))
              rw [q3, nI_clamp (n := k) (by omega), pk_un e3]
            · rw [q_p25_1 e2, q_p25_1 e2]
        · show q_T (upd (q_hs u) (nI j).toNatClampNeg 5) (q_hy u) (q_cs u) (q_ch u) N M
          rw [ej]
          have t := q_T_upd T (h0 := j) (c0 := c0) (a := 5) (y := q_hy u j) (b := q_cs u c0) (z := q_ch u c0) j1 j2 k1 k2 (Or.inr hyj) (Or.inr hcj) (Or.inl ⟨hyj, hcj, Or.inr (Or.inr ⟨rfl, hc2⟩)⟩)
          rw [q_upd_self, q_upd_self, q_upd_self] at t
          exact t
      · rw [f_isIn_y hN eN j1 j2 h]
        simp only [if_neg q_10]
        exact ⟨by first | rfl | trivial, k_release K0 (Or.inr rfl) eN hN j1 j2 h⟩
theorem k_tick_l (d : Int64) : ∀ (n k : Nat) (cnt : Int32) (u w : q_S), q_K u w → 1 ≤ k → k ≤ 121 → (x_tick_l29 n d cnt (nI k) u).1 = (m_tick_l34 n d cnt (nI k) w).1 ∧ q_K (x_tick_l29 n d cnt (nI k) u).2 (m_tick_l34 n d cnt (nI k) w).2 := by
  intro n
  induction n with
  | zero => intro k cnt u w K _ _; exact ⟨rfl, K⟩
  | succ n ih =>
    intro k cnt u w K k1 k2
    obtain ⟨th, ch, hy, hu, N, M, hw, eN, eM, R1, R2, R3, T, J⟩ := id K
    have hN := T.1.1
    show (x_tick_l29_b (x_tick_l29 n) d cnt (nI k) u).1 = (m_tick_l34_b (m_tick_l34 n) d cnt (nI k) w).1 ∧ q_K (x_tick_l29_b (x_tick_l29 n) d cnt (nI k) u).2 (m_tick_l34_b (m_tick_l34 n) d cnt (nI k) w).2
    unfold x_tick_l29_b m_tick_l34_b
    rw [nI_1 k, nI_clamp (n := k) (by omega), show q_nh w = q_nh u from by rw [hw]; rfl, show q_hs w = q_hs u from by rw [hw]; rfl, show q_he w = q_he u from by rw [hw]; rfl, show q_td w = q_td u from by rw [hw]; rfl]
    by_cases h1 : q_nh u < nI k
    · simp only [if_pos h1]
      exact ⟨by first | rfl | trivial, K⟩
    · simp only [if_neg h1]
      have hk : k ≤ N := by
        rw [eN, nI_ltI (by omega) (by omega)] at h1
        omega
      by_cases h2 : q_hs u k = 2
      · rw [f_isIn_y hN eN k1 hk h2]
        simp only [if_neg q_10, if_pos h2]
        by_cases h3 : 0 ≤ lg_cmp (q_he u k) (q_td u)
        · simp only [if_pos h3]
          exact ih (k + 1) cnt u w K (by omega) (by omega)
        · simp only [if_neg h3]
          exact ih (k + 1) (cnt + 1) _ _ (k_release K (Or.inl rfl) eN hN k1 hk h2) (by omega) (by omega)
      · rw [f_isIn_n hN eN k1 hk h2]
        simp only [↓reduceIte, if_neg h2]
        exact ih (k + 1) cnt u w K (by omega) (by omega)
theorem k_tick {u w : q_S} (K : q_K u w) (a : Int64) : x_tick_r u a = m_tick_r w a ∧ q_K (x_tick_s u a) (m_tick_s w a) := by
  have K0 := k_th K
  obtain ⟨th, ch, hy, hu, N, M, hw, eN, eM, R1, R2, R3, T, J⟩ := id K0
  unfold x_tick_r m_tick_r x_tick_s m_tick_s x_tick m_tick
  rw [show q_td w = q_td u from by show q_td (q_th_s w 0) = _; rw [hw]; rfl]
  by_cases h1 : lg_cmp a (q_td u) ≤ 0
  · simp only [if_pos h1]
    exact ⟨by first | rfl | trivial, K0⟩
  · simp only [if_neg h1]
    by_cases h2 : lg_cmp a 1000000000 ≤ 0
    · simp only [if_pos h2]
      refine k_tick_l a 200 1 0 _ _ ⟨th, ch, hy, hu, N, M, by rw [hw]; rfl, eN, eM, R1, R2, R3, T, J.1, J.2.1, ?_⟩ (by omega) (by omega)
      rw [lg_cmp_le, Int64.le_iff_toInt_le] at h1
      have h3 := J.2.2
      show 0 ≤ a.toInt
      omega
    · simp only [if_neg h2]
      exact ⟨by first | rfl | trivial, K0⟩
theorem f_order_l (u : q_S) (th : Int32) (ch hy : Nat → Int32) (hu : Nat → Int64) : ∀ (n : Nat) (v1 v2 v3 : Int32), m_order_l7 n v1 v2 v3 (q_mix u th ch hy hu) = (xh_atPlaceInQueue_l2 n v1 v2 v3 u, q_mix u th ch hy hu) := by
  intro n
  induction n with
  | zero => intro v1 v2 v3; rfl
  | succ n ih =>
    intro v1 v2 v3
    show m_order_l7_b (m_order_l7 n) v1 v2 v3 (q_mix u th ch hy hu) = (xh_atPlaceInQueue_l2_b (xh_atPlaceInQueue_l2 n) v1 v2 v3 u, q_mix u th ch hy hu)
    unfold m_order_l7_b xh_atPlaceInQueue_l2_b xh_isQueued
    simp only [q_nh_mix, q_hs_mix, q_hr_mix, ih, f_place]
    by_cases h1 : q_nh u < v3
    · simp only [if_pos h1]
    · simp only [if_neg h1]
      by_cases h2 : q_hs u (Int32.toNatClampNeg v3) = 0
      · simp only [if_pos h2]
        by_cases h3 : q_hr u (Int32.toNatClampNeg v3) = v1
        · simp only [if_pos h3, if_neg q_10]
          by_cases h4 : xh_placeInQueue u v3 = v2
          · simp only [if_pos h4]
          · simp only [if_neg h4]
        · simp only [if_neg h3, ↓reduceIte]
      · simp only [if_neg h2]
        by_cases h3 : q_hr u (Int32.toNatClampNeg v3) = v1
        · simp only [if_pos h3, ↓reduceIte]
        · simp only [if_neg h3, ↓reduceIte]
theorem f_at_no (u : q_S) (r i : Int32) {N : Nat} (hN : N ≤ 120) (eN : q_nh u = nI N) (hno : ∀ h, 1 ≤ h → h ≤ N → ¬ q_hr u h = r) : ∀ (n k : Nat), 1 ≤ k → k ≤ 121 → xh_atPlaceInQueue_l2 n r i (nI k) u = 0 := by
  intro n
  induction n with
  | zero => intro k _ _; rfl
  | succ n ih =>
    intro k k1 k2
    show xh_atPlaceInQueue_l2_b (xh_atPlaceInQueue_l2 n) r i (nI k) u = 0
    unfold xh_atPlaceInQueue_l2_b xh_isQueued
    rw [nI_1 k, nI_clamp (n := k) (by omega)]
    by_cases h1 : q_nh u < nI k
    · simp only [if_pos h1]
    · simp only [if_neg h1]
      have hk : k ≤ N := by
        rw [eN, nI_ltI (by omega) (by omega)] at h1
        omega
      simp only [if_neg (hno k k1 hk), ↓reduceIte]
      exact ih (k + 1) (by omega) (by omega)
theorem k_order {u w : q_S} (K : q_K u w) (a b : Int32) : x_order u a b = m_order_r w a b ∧ q_K u (m_order_s w a b) := by
  have K0 := k_th K
  obtain ⟨th, ch, hy, hu, N, M, hw, eN, eM, R1, R2, R3, T, J⟩ := id K0
  have hN := T.1.1
  have e : m_order w a b = (xh_atPlaceInQueue u a b, q_th_s w 0) := by
    unfold m_order
    rw [hw]
    exact f_order_l u th ch hy hu 200 a b 1
  unfold m_order_r m_order_s x_order
  rw [e]
  refine ⟨?_, K0⟩
  by_cases h : x_isRecord u a = 0
  · rw [if_pos h]
    exact (f_at_no u a b hN eN (fun k k1 k2 q => J.2.1 k k1 k2 (by rw [q]; exact h)) 200 1 (by omega) (by omega)).symm
  · rw [if_neg h]
end
section
/-- the least free copy of a record, as a search from above -/
def q_lf (cr cs : Nat → Int32) (r : Int32) : Nat → Int32 → Int32
  | 0, v => v
  | k + 1, v => q_lf cr cs r k (if cr (k + 1) = r ∧ cs (k + 1) = 0 then nI (k + 1) else v)
theorem q_lf_no (cr cs : Nat → Int32) (r : Int32) : ∀ (k : Nat) (v : Int32), (∀ i, 1 ≤ i → i ≤ k → ¬ (cr i = r ∧ cs i = 0)) → q_lf cr cs r k v = v := by
  intro k
  induction k with
  | zero => intro v _; rfl
  | succ k ih =>
    intro v h
    show q_lf cr cs r k (if cr (k + 1) = r ∧ cs (k + 1) = 0 then nI (k + 1) else v) = v
    rw [if_neg (h (k + 1) (by omega) (by omega))]
    exact ih v (fun i i1 i2 => h i i1 (by omega))
theorem q_lf_at (cr cs : Nat → Int32) (r : Int32) {j : Nat} (j1 : 1 ≤ j) (hj : cr j = r ∧ cs j = 0) (hno : ∀ i, 1 ≤ i → i < j → ¬ (cr i = r ∧ cs i = 0)) : ∀ (k : Nat) (v : Int32), j ≤ k → q_lf cr cs r k v = nI j := by
  intro k
  induction k with
  | zero => intro v h; omega
  | succ k ih =>
    intro v h
    show q_lf cr cs r k (if cr (k + 1) = r ∧ cs (k + 1) = 0 then nI (k + 1) else v) = nI j
    by_cases e : j = k + 1
    · subst e
      rw [if_pos hj]
      exact q_lf_no cr cs r k _ (fun i i1 i2 => hno i i1 (by omega))
    · exact ih _ (by omega)
theorem q_lf_or (cr cs : Nat → Int32) (r : Int32) {M : Nat} : ∀ (k : Nat) (v : Int32), k ≤ M → (v = 0 ∨ ∃ j : Nat, 1 ≤ j ∧ j ≤ M ∧ v = nI j ∧ cr j = r ∧ cs j = 0) → (q_lf cr cs r k v = 0 ∨ ∃ j : Nat, 1 ≤ j ∧ j ≤ M ∧ q_lf cr cs r k v = nI j ∧ cr j = r ∧ cs j = 0) := by
  intro k
  induction k with
  | zero => intro v _ h; exact h
  | succ k ih =>
    intro v hk h
    show (q_lf cr cs r k (if cr (k + 1) = r ∧ cs (k + 1) = 0 then nI (k + 1) else v) = 0 ∨ ∃ j : Nat, 1 ≤ j ∧ j ≤ M ∧ q_lf cr cs r k (if cr (k + 1) = r ∧ cs (k + 1) = 0 then nI (k + 1) else v) = nI j ∧ cr j = r ∧ cs j = 0)
    refine ih _ (by omega) ?_
    by_cases e : cr (k + 1) = r ∧ cs (k + 1) = 0
    · rw [if_pos e]
      exact Or.inr ⟨k + 1, by omega, hk, rfl, e⟩
    · rw [if_neg e]
      exact h
theorem f_least_l (u : q_S) (r : Int32) {M : Nat} (hM : M ≤ 60) (eM : q_nc u = nI M) : ∀ (n k : Nat), 1 ≤ k → k ≤ 61 → 61 < n + k → (∀ i, 1 ≤ i → i < k → ¬ (q_cr u i = r ∧ q_cs u i = 0)) → xc_leastFree_l2 n r (nI k) u = q_lf (q_cr u) (q_cs u) r M 0 := by
  intro n
  induction n with
  | zero => intro k _ _ _ _; omega
  | succ n ih =>
    intro k k1 k2 k3 hno
    show xc_leastFree_l2_b (xc_leastFree_l2 n) r (nI k) u = _
    unfold xc_leastFree_l2_b
    rw [nI_1 k, nI_clamp (n := k) (by omega)]
    by_cases h1 : q_nc u < nI k
    · simp only [if_pos h1]
      have hk : M < k := by
        rw [eM, nI_ltI (by omega) (by omega)] at h1
        exact h1
      exact (q_lf_no _ _ r M 0 (fun i i1 i2 => hno i i1 (by omega))).symm
    · simp only [if_neg h1]
      have hk : k ≤ M := by
        rw [eM, nI_ltI (by omega) (by omega)] at h1
        omega
      by_cases h2 : q_cr u k = r
      · by_cases h3 : q_cs u k = 0
        · simp only [if_pos h2, if_pos h3]
          exact (q_lf_at _ _ r k1 ⟨h2, h3⟩ hno M 0 hk).symm
        · simp only [if_pos h2, if_neg h3]
          exact ih (k + 1) (by omega) (by omega) (by omega) (fun i i1 i2 q => by
            rcases (show i < k ∨ i = k by omega) with e | e
            · exact hno i i1 e q
            · subst e; exact h3 q.2)
      · simp only [if_neg h2]
        exact ih (k + 1) (by omega) (by omega) (by omega) (fun i i1 i2 q => by
          rcases (show i < k ∨ i = k by omega) with e | e
          · exact hno i i1 e q
          · subst e; exact h2 q.1)
theorem f_least (u : q_S) (r : Int32) {M : Nat} (hM : M ≤ 60) (eM : q_nc u = nI M) : xc_leastFree u r = q_lf (q_cr u) (q_cs u) r M 0 :=
  f_least_l u r hM eM 200 1 (by omega) (by omega) (by omega) (fun i i1 i2 => by omega)
theorem f_hold_2 (w : q_S) (v1 r v3 v4 v5 v6 : Int32) : ∀ (n k : Nat) (v : Int32), k ≤ 60 → k < n → m_hold_l232 n v1 r v3 v4 v5 v6 v (nI k) w = (v6, if q_lf (q_cr w) (q_cs w) r k v ≤ 0 then w else m_goes_s w (q_lf (q_cr w) (q_cs w) r k v)) := by
  intro n
  induction n with
  | zero => intro k v _ h; omega
  | succ n ih =>
    intro k v k2 hk
    show m_hold_l232_b (m_hold_l232 n) v1 r v3 v4 v5 v6 v (nI k) w = _
    unfold m_hold_l232_b
    cases k with
    | zero =>
      simp only [if_pos (show nI 0 ≤ 0 by decide +kernel)]
      show (if v ≤ 0 then (v6, w) else (v6, m_goes_s w v)) = (v6, if v ≤ 0 then w else m_goes_s w v)
      by_cases h : v ≤ 0
      · rw [if_pos h, if_pos h]
      · rw [if_neg h, if_neg h]
    | succ k =>
      have e1 : nI (k + 1) + (-1) = nI k := by rw [← Int32.sub_eq_add_neg]; exact nI_pred k
      rw [e1, nI_clamp (n := k + 1) (by omega)]
      simp only [if_neg (nI_nle (n := k + 1) (by omega) (by omega))]
      show _ = (v6, if q_lf (q_cr w) (q_cs w) r k (if q_cr w (k + 1) = r ∧ q_cs w (k + 1) = 0 then nI (k + 1) else v) ≤ 0 then w else m_goes_s w (q_lf (q_cr w) (q_cs w) r k (if q_cr w (k + 1) = r ∧ q_cs w (k + 1) = 0 then nI (k + 1) else v)))
      by_cases h2 : q_cr w (k + 1) = r
      · by_cases h3 : q_cs w (k + 1) = 0
        · simp only [if_pos h2, if_pos h3, if_pos (And.intro h2 h3)]
          exact ih k (nI (k + 1)) (by omega) (by omega)
        · simp only [if_pos h2, if_neg h3, if_neg (fun q : q_cr w (k + 1) = r ∧ q_cs w (k + 1) = 0 => h3 q.2)]
          exact ih k v (by omega) (by omega)
      · simp only [if_neg h2, if_neg (fun q : q_cr w (k + 1) = r ∧ q_cs w (k + 1) = 0 => h2 q.1)]
        exact ih k v (by omega) (by omega)
/-- the reference's state with one hold more -/
def q_hw (w : q_S) (v1 v2 v3 v4 : Int32) : q_S := q_hu_u (q_hy_u (q_hs_u (q_hk_u (q_hl_u (q_hr_u (q_hp_u (q_nh_s w ((q_nh w) + 1)) ((q_nh w) + 1) v1) ((q_nh w) + 1) v2) ((q_nh w) + 1) v3) ((q_nh w) + 1) v4) ((q_nh w) + 1) 0) ((q_nh w) + 1) 0) ((q_nh w) + 1) (-9223372036854775807)
theorem f_hold_1 (u w : q_S) {N M : Nat} {hy cs ch : Nat → Int32} (T : q_T (q_hs u) hy cs ch N M) (eN : q_nh u = nI N) (w1 : q_nh w = q_nh u) (w2 : q_hp w = q_hp u) (w3 : q_hr w = q_hr u) (w4 : q_hs w = q_hs u) (p r v3 v4 : Int32) : ∀ (n k : Nat) (cnt : Int32), 1 ≤ k → k ≤ 121 → 121 < n + k → m_hold_l67 n p r v3 v4 cnt (nI k) w = if xh_hasOpen_l2 n p r (nI k) u = 0 then (if xh_countOpen_l4 n p cnt (nI k) u < q_mo w (Int32.toNatClampNeg p) then m_hold_l232 200 p r v3 v4 (xh_countOpen_l4 n p cnt (nI k) u) ((q_nh w) + 1) 0 (q_nc w) (q_hw w p r v3 v4) else ((-1), w)) else (0, w) := by
  have hN := T.1.1
  intro n
  induction n with
  | zero => intro k cnt _ _ _; omega
  | succ n ih =>
    intro k cnt k1 k2 k3
    show m_hold_l67_b (m_hold_l67 n) p r v3 v4 cnt (nI k) w = if xh_hasOpen_l2_b (xh_hasOpen_l2 n) p r (nI k) u = 0 then (if xh_countOpen_l4_b (xh_countOpen_l4 n) p cnt (nI k) u < q_mo w (Int32.toNatClampNeg p) then m_hold_l232 200 p r v3 v4 (xh_countOpen_l4_b (xh_countOpen_l4 n) p cnt (nI k) u) ((q_nh w) + 1) 0 (q_nc w) (q_hw w p r v3 v4) else ((-1), w)) else (0, w)
    unfold m_hold_l67_b xh_hasOpen_l2_b xh_countOpen_l4_b
    rw [nI_1 k, nI_clamp (n := k) (by omega), w2, w3]
    by_cases h1 : q_nh u < nI k
    · simp only [w1, if_pos h1, ↓reduceIte]
      unfold q_hw
      rw [w1]
    · have hk : k ≤ N := by
        rw [eN, nI_ltI (by omega) (by omega)] at h1
        omega
      have h1w : ¬ q_nh w < nI k := by rw [w1]; exact h1
      simp only [if_neg h1, if_neg h1w]
      by_cases h2 : q_hp u k = p
      · simp only [if_pos h2]
        have eo : m_isOpen w (nI k) = xh_isOpen u (nI k) := by
          rw [f_open T eN k1 hk]
          unfold m_isOpen
          rw [nI_clamp (n := k) (by omega), w4]
        rw [eo]
        by_cases h3 : xh_isOpen u (nI k) = 0
        · simp only [if_pos h3]
          have go := ih (k + 1) cnt (by omega) (by omega) (by omega)
          by_cases h4 : q_hr u k = r
          · simp only [if_pos h4]; exact go
          · simp only [if_neg h4]; exact go
        · simp only [if_neg h3]
          by_cases h4 : q_hr u k = r
          · simp only [if_pos h4, if_neg q_10]
          · simp only [if_neg h4]
            exact ih (k + 1) (cnt + 1) (by omega) (by omega) (by omega)
      · simp only [if_neg h2]
        exact ih (k + 1) cnt (by omega) (by omega) (by omega)
/-- one hold more: related again -/
theorem k_add {u w : q_S} {th : Int32} {ch hy : Nat → Int32} {hu : Nat → Int64} {N M : Nat} (hw : w = q_mix u th ch hy hu) (eN : q_nh u = nI N) (eM : q_nc u = nI M) (R1 : q_R1 u hy) (R2 : ∀ c, ch c = q_chv u c) (R3 : q_R3 u hu) (T : q_T (q_hs u) (q_hy u) (q_cs u) (q_ch u) N M) (J : q_J u N) (k : N + 1 ≤ 120) (p r v3 v4 : Int32) (hr : ¬ x_isRecord u r = 0) :
    ∃ U : q_S, xh_add_s u p r v3 v4 = U ∧ (q_cr U = q_cr u ∧ q_cs U = q_cs u ∧ q_ch U = q_ch u) ∧ q_hw w p r v3 v4 = q_mix U th ch (upd hy (N + 1) 0) (vp_updL hu (N + 1) (-9223372036854775807)) ∧ q_nh U = nI (N + 1) ∧ q_nc U = nI M ∧ q_R1 U (upd hy (N + 1) 0) ∧ (∀ c, ch c = q_chv U c) ∧ q_R3 U (vp_updL hu (N + 1) (-9223372036854775807)) ∧ q_T (q_hs U) (q_hy U) (q_cs U) (q_ch U) (N + 1) M ∧ q_J U (N + 1) := by
  have e1 : q_nh u + 1 = nI (N + 1) := by rw [eN]; exact nI_1 N
  have e2 : (q_nh u + 1).toNatClampNeg = N + 1 := by rw [e1]; exact nI_clamp (by omega)
  have e3 : upd (q_hs u) (N + 1) 0 = q_hs u := by
    have h := q_upd_self (q_hs u) (N + 1)
    rw [(T.2.1.1 (N + 1) (Or.inr (by omega))).1] at h
    exact h
  have e4 : q_hs (xh_add_s u p r v3 v4) = q_hs u := by
    have h : q_hs (xh_add_s u p r v3 v4) = upd (q_hs u) (q_nh u + 1).toNatClampNeg 0 := by dsimp only [xh_add_s, xh_add, q_th, q_nr, q_nc, q_nh, q_sp, q_td, q_kd, q_bd, q_mo, q_cr, q_cp, q_cs, q_ch, q_hp, q_hr, q_hl, q_hk, q_hs, q_hy, q_hu, q_he, q_th_s, q_nr_s, q_nc_s, q_nh_s, q_sp_s, q_td_s, q_kd_s, q_bd_s, q_mo_s, q_cr_s, q_cp_s, q_cs_s, q_ch_s, q_hp_s, q_hr_s, q_hl_s, q_hk_s, q_hs_s, q_hy_s, q_hu_s, q_he_s, q_kd_u, q_bd_u, q_mo_u, q_cr_u, q_cp_u, q_cs_u, q_ch_u, q_hp_u, q_hr_u, q_hl_u, q_hk_u, q_hs_u, q_hy_u, q_hu_u, q_he_u, q_mix]
    rw [h, e2, e3]
  have fnh : q_nh (xh_add_s u p r v3 v4) = q_nh u + 1 := by dsimp only [xh_add_s, xh_add, q_th, q_nr, q_nc, q_nh, q_sp, q_td, q_kd, q_bd, q_mo, q_cr, q_cp, q_cs, q_ch, q_hp, q_hr, q_hl, q_hk, q_hs, q_hy, q_hu, q_he, q_th_s, q_nr_s, q_nc_s, q_nh_s, q_sp_s, q_td_s, q_kd_s, q_bd_s, q_mo_s, q_cr_s, q_cp_s, q_cs_s, q_ch_s, q_hp_s, q_hr_s, q_hl_s, q_hk_s, q_hs_s, q_hy_s, q_hu_s, q_he_s, q_kd_u, q_bd_u, q_mo_u, q_cr_u, q_cp_u, q_cs_u, q_ch_u, q_hp_u, q_hr_u, q_hl_u, q_hk_u, q_hs_u, q_hy_u, q_hu_u, q_he_u, q_mix]
  have fnc : q_nc (xh_add_s u p r v3 v4) = q_nc u := by dsimp only [xh_add_s, xh_add, q_th, q_nr, q_nc, q_nh, q_sp, q_td, q_kd, q_bd, q_mo, q_cr, q_cp, q_cs, q_ch, q_hp, q_hr, q_hl, q_hk, q_hs, q_hy, q_hu, q_he, q_th_s, q_nr_s, q_nc_s, q_nh_s, q_sp_s, q_td_s, q_kd_s, q_bd_s, q_mo_s, q_cr_s, q_cp_s, q_cs_s, q_ch_s, q_hp_s, q_hr_s, q_hl_s, q_hk_s, q_hs_s, q_hy_s, q_hu_s, q_he_s, q_kd_u, q_bd_u, q_mo_u, q_cr_u, q_cp_u, q_cs_u, q_ch_u, q_hp_u, q_hr_u, q_hl_u, q_hk_u, q_hs_u, q_hy_u, q_hu_u, q_he_u, q_mix]
  have fnr : q_nr (xh_add_s u p r v3 v4) = q_nr u := by dsimp only [xh_add_s, xh_add, q_th, q_nr, q_nc, q_nh, q_sp, q_td, q_kd, q_bd, q_mo, q_cr, q_cp, q_cs, q_ch, q_hp, q_hr, q_hl, q_hk, q_hs, q_hy, q_hu, q_he, q_th_s, q_nr_s, q_nc_s, q_nh_s, q_sp_s, q_td_s, q_kd_s, q_bd_s, q_mo_s, q_cr_s, q_cp_s, q_cs_s, q_ch_s, q_hp_s, q_hr_s, q_hl_s, q_hk_s, q_hs_s, q_hy_s, q_hu_s, q_he_s, q_kd_u, q_bd_u, q_mo_u, q_cr_u, q_cp_u, q_cs_u, q_ch_u, q_hp_u, q_hr_u, q_hl_u, q_hk_u, q_hs_u, q_hy_u, q_hu_u, q_he_u, q_mix]
  have ftd : q_td (xh_add_s u p r v3 v4) = q_td u := by dsimp only [xh_add_s, xh_add, q_th, q_nr, q_nc, q_nh, q_sp, q_td, q_kd, q_bd, q_mo, q_cr, q_cp, q_cs, q_ch, q_hp, q_hr, q_hl, q_hk, q_hs, q_hy, q_hu, q_he, q_th_s, q_nr_s, q_nc_s, q_nh_s, q_sp_s, q_td_s, q_kd_s, q_bd_s, q_mo_s, q_cr_s, q_cp_s, q_cs_s, q_ch_s, q_hp_s, q_hr_s, q_hl_s, q_hk_s, q_hs_s, q_hy_s, q_hu_s, q_he_s, q_kd_u, q_bd_u, q_mo_u, q_cr_u, q_cp_u, q_cs_u, q_ch_u, q_hp_u, q_hr_u, q_hl_u, q_hk_u, q_hs_u, q_hy_u, q_hu_u, q_he_u, q_mix]
  have fcr : q_cr (xh_add_s u p r v3 v4) = q_cr u := by dsimp only [xh_add_s, xh_add, q_th, q_nr, q_nc, q_nh, q_sp, q_td, q_kd, q_bd, q_mo, q_cr, q_cp, q_cs, q_ch, q_hp, q_hr, q_hl, q_hk, q_hs, q_hy, q_hu, q_he, q_th_s, q_nr_s, q_nc_s, q_nh_s, q_sp_s, q_td_s, q_kd_s, q_bd_s, q_mo_s, q_cr_s, q_cp_s, q_cs_s, q_ch_s, q_hp_s, q_hr_s, q_hl_s, q_hk_s, q_hs_s, q_hy_s, q_hu_s, q_he_s, q_kd_u, q_bd_u, q_mo_u, q_cr_u, q_cp_u, q_cs_u, q_ch_u, q_hp_u, q_hr_u, q_hl_u, q_hk_u, q_hs_u, q_hy_u, q_hu_u, q_he_u, q_mix]
  have fcs : q_cs (xh_add_s u p r v3 v4) = q_cs u := by dsimp only [xh_add_s, xh_add, q_th, q_nr, q_nc, q_nh, q_sp, q_td, q_kd, q_bd, q_mo, q_cr, q_cp, q_cs, q_ch, q_hp, q_hr, q_hl, q_hk, q_hs, q_hy, q_hu, q_he, q_th_s, q_nr_s, q_nc_s, q_nh_s, q_sp_s, q_td_s, q_kd_s, q_bd_s, q_mo_s, q_cr_s, q_cp_s, q_cs_s, q_ch_s, q_hp_s, q_hr_s, q_hl_s, q_hk_s, q_hs_s, q_hy_s, q_hu_s, q_he_s, q_kd_u, q_bd_u, q_mo_u, q_cr_u, q_cp_u, q_cs_u, q_ch_u, q_hp_u, q_hr_u, q_hl_u, q_hk_u, q_hs_u, q_hy_u, q_hu_u, q_he_u, q_mix]
  have fch : q_ch (xh_add_s u p r v3 v4) = q_ch u := by dsimp only [xh_add_s, xh_add, q_th, q_nr, q_nc, q_nh, q_sp, q_td, q_kd, q_bd, q_mo, q_cr, q_cp, q_cs, q_ch, q_hp, q_hr, q_hl, q_hk, q_hs, q_hy, q_hu, q_he, q_th_s, q_nr_s, q_nc_s, q_nh_s, q_sp_s, q_td_s, q_kd_s, q_bd_s, q_mo_s, q_cr_s, q_cp_s, q_cs_s, q_ch_s, q_hp_s, q_hr_s, q_hl_s, q_hk_s, q_hs_s, q_hy_s, q_hu_s, q_he_s, q_kd_u, q_bd_u, q_mo_u, q_cr_u, q_cp_u, q_cs_u, q_ch_u, q_hp_u, q_hr_u, q_hl_u, q_hk_u, q_hs_u, q_hy_u, q_hu_u, q_he_u, q_mix]
  have fhy : q_hy (xh_add_s u p r v3 v4) = q_hy u := by dsimp only [xh_add_s, xh_add, q_th, q_nr, q_nc, q_nh, q_sp, q_td, q_kd, q_bd, q_mo, q_cr, q_cp, q_cs, q_ch, q_hp, q_hr, q_hl, q_hk, q_hs, q_hy, q_hu, q_he, q_th_s, q_nr_s, q_nc_s, q_nh_s, q_sp_s, q_td_s, q_kd_s, q_bd_s, q_mo_s, q_cr_s, q_cp_s, q_cs_s, q_ch_s, q_hp_s, q_hr_s, q_hl_s, q_hk_s, q_hs_s, q_hy_s, q_hu_s, q_he_s, q_kd_u, q_bd_u, q_mo_u, q_cr_u, q_cp_u, q_cs_u, q_ch_u, q_hp_u, q_hr_u, q_hl_u, q_hk_u, q_hs_u, q_hy_u, q_hu_u, q_he_u, q_mix]
  have fhu : q_hu (xh_add_s u p r v3 v4) = q_hu u := by dsimp only [xh_add_s, xh_add, q_th, q_nr, q_nc, q_nh, q_sp, q_td, q_kd, q_bd, q_mo, q_cr, q_cp, q_cs, q_ch, q_hp, q_hr, q_hl, q_hk, q_hs, q_hy, q_hu, q_he, q_th_s, q_nr_s, q_nc_s, q_nh_s, q_sp_s, q_td_s, q_kd_s, q_bd_s, q_mo_s, q_cr_s, q_cp_s, q_cs_s, q_ch_s, q_hp_s, q_hr_s, q_hl_s, q_hk_s, q_hs_s, q_hy_s, q_hu_s, q_he_s, q_kd_u, q_bd_u, q_mo_u, q_cr_u, q_cp_u, q_cs_u, q_ch_u, q_hp_u, q_hr_u, q_hl_u, q_hk_u, q_hs_u, q_hy_u, q_hu_u, q_he_u, q_mix]
  have fhr : q_hr (xh_add_s u p r v3 v4) = upd (q_hr u) (q_nh u + 1).toNatClampNeg r := by dsimp only [xh_add_s, xh_add, q_th, q_nr, q_nc, q_nh, q_sp, q_td, q_kd, q_bd, q_mo, q_cr, q_cp, q_cs, q_ch, q_hp, q_hr, q_hl, q_hk, q_hs, q_hy, q_hu, q_he, q_th_s, q_nr_s, q_nc_s, q_nh_s, q_sp_s, q_td_s, q_kd_s, q_bd_s, q_mo_s, q_cr_s, q_cp_s, q_cs_s, q_ch_s, q_hp_s, q_hr_s, q_hl_s, q_hk_s, q_hs_s, q_hy_s, q_hu_s, q_he_s, q_kd_u, q_bd_u, q_mo_u, q_cr_u, q_cp_u, q_cs_u, q_ch_u, q_hp_u, q_hr_u, q_hl_u, q_hk_u, q_hs_u, q_hy_u, q_hu_u, q_he_u, q_mix]
  have fw : q_hw w p r v3 v4 = q_mix (xh_add_s u p r v3 v4) th ch (upd hy (q_nh u + 1).toNatClampNeg 0) (vp_updL hu (q_nh u + 1).toNatClampNeg (-9223372036854775807)) := by
    rw [hw]
    refine q_ext ?_ ?_ ?_ ?_ ?_ ?_ ?_ ?_ ?_ ?_ ?_ ?_ ?_ ?_ ?_ ?_ ?_ ?_ ?_ ?_ ?_ <;> dsimp only [q_hw, xh_add_s, xh_add, q_th, q_nr, q_nc, q_nh, q_sp, q_td, q_kd, q_bd, q_mo, q_cr, q_cp, q_cs, q_ch, q_hp, q_hr, q_hl, q_hk, q_hs, q_hy, q_hu, q_he, q_th_s, q_nr_s, q_nc_s, q_nh_s, q_sp_s, q_td_s, q_kd_s, q_bd_s, q_mo_s, q_cr_s, q_cp_s, q_cs_s, q_ch_s, q_hp_s, q_hr_s, q_hl_s, q_hk_s, q_hs_s, q_hy_s, q_hu_s, q_he_s, q_kd_u, q_bd_u, q_mo_u, q_cr_u, q_cp_u, q_cs_u, q_ch_u, q_hp_u, q_hr_u, q_hl_u, q_hk_u, q_hs_u, q_hy_u, q_hu_u, q_he_u, q_mix]
  rw [e2] at fw fhr
  generalize xh_add_s u p r v3 v4 = U at *
  refine ⟨U, rfl, ⟨fcr, fcs, fch⟩, fw, fnh.trans e1, fnc.trans eM, ?_, ?_, ?_, ?_, ?_, ?_, ?_⟩
  · intro h
    rw [e4, fhy]
    by_cases e : h = N + 1
    · subst e
      rw [pk_us, (T.2.1.1 (N + 1) (Or.inr (by omega))).1, (T.2.1.1 (N + 1) (Or.inr (by omega))).2, q_p5_0]
    · rw [pk_un e]
      exact R1 h
  · intro c
    rw [R2 c]
    unfold q_chv
    rw [e4, fcs, fch]
  · intro h
    rw [fhu]
    unfold vp_updL
    by_cases e : h = N + 1
    · rw [if_pos e]
      exact Or.inr ⟨J.1 h (by omega), rfl⟩
    · rw [if_neg e]
      exact R3 h
  · rw [e4, fhy, fcs, fch]
    have t := q_T_nh T k
    rw [e3] at t
    exact t
  · intro h hh
    rw [fhu]
    exact J.1 h (by omega)
  · intro h h1 h2
    have g : ∀ v, x_isRecord U v = x_isRecord u v := by
      intro v
      unfold x_isRecord
      rw [fnr]
    rw [g, fhr]
    by_cases e : h = N + 1
    · subst e
      rw [pk_us]
      exact hr
    · rw [pk_un e]
      exact J.2.1 h h1 (by omega)
  · rw [ftd]
    exact J.2.2
theorem k_hold {u w : q_S} (K : q_K u w) (p r v3 v4 : Int32) : x_hold_r u p r v3 v4 = m_hold_r w p r v3 v4 ∧ q_K (x_hold_s u p r v3 v4) (m_hold_s w p r v3 v4) := by
  have K0 := k_th K
  obtain ⟨th, ch, hy, hu, N, M, hw, eN, eM, R1, R2, R3, T, J⟩ := id K0
  have hN := T.1.1
  have hM := T.1.2
  unfold x_hold_r m_hold_r x_hold_s m_hold_s x_hold m_hold
  have e1 : x_isRecord u r = m_in r 1 (q_nr w) := by
    show x_isRecord u r = m_in r 1 (q_nr (q_th_s w 0))
    rw [hw]
    rfl
  have e2 : q_bd w = q_bd u := by show q_bd (q_th_s w 0) = _; rw [hw]; rfl
  have e3 : q_kd w = q_kd u := by show q_kd (q_th_s w 0) = _; rw [hw]; rfl
  have e4 : q_nh w = q_nh u := by show q_nh (q_th_s w 0) = _; rw [hw]; rfl
  have e5 : q_nc (q_th_s w 0) = q_nc u := by rw [hw]; rfl
  have e6 : q_mo (q_th_s w 0) = q_mo u := by rw [hw]; rfl
  rw [← q_person p, ← q_place v3, ← e1, e2, e3, e4]
  have hc : (q_nh u < 120 ↔ ¬ q_nh u = 120) := q_nlt (N := 120) eN hN (by omega)
  by_cases h1 : x_isPerson p = 0
  · simp only [if_pos h1]; exact ⟨by first | rfl | trivial, K0⟩
  by_cases h2 : x_isRecord u r = 0
  · simp only [if_neg h1, if_pos h2]; exact ⟨by first | rfl | trivial, K0⟩
  by_cases h3 : x_isPlace v3 = 0
  · simp only [if_neg h1, if_neg h2, if_pos h3]; exact ⟨by first | rfl | trivial, K0⟩
  by_cases h4 : q_bd u (Int32.toNatClampNeg (q_kd u (Int32.toNatClampNeg r))) = 0
  case neg => simp only [if_neg h1, if_neg h2, if_neg h3, if_neg h4]; exact ⟨by first | rfl | trivial, K0⟩
  simp only [if_neg h1, if_neg h2, if_neg h3, if_pos h4]
  have L := f_hold_1 u (q_th_s w 0) T eN e4 (by rw [hw]; rfl) (by rw [hw]; rfl) (by rw [hw]; rfl) p r v3 v4 200 1 0 (by omega) (by omega) (by omega)
  have L' : m_hold_l67 200 p r v3 v4 0 1 (q_th_s w 0) = if xh_hasOpen u p r = 0 then (if xh_countOpen u p < q_mo u (Int32.toNatClampNeg p) then m_hold_l232 200 p r v3 v4 (xh_countOpen u p) ((q_nh u) + 1) 0 (q_nc u) (q_hw (q_th_s w 0) p r v3 v4) else ((-1), q_th_s w 0)) else (0, q_th_s w 0) := by
    rw [e5, e6, show q_nh (q_th_s w 0) = q_nh u from e4] at L
    exact L
  rw [L']
  unfold xh_areFull
  by_cases h6 : q_nh u = 120
  · have h7 : ¬ q_nh u < 120 := fun q => hc.mp q h6
    simp only [if_pos h6, if_neg h7, if_neg q_10]
    by_cases h5 : xh_hasOpen u p r = 0
    · simp only [if_pos h5]; exact ⟨by first | rfl | trivial, K0⟩
    · simp only [if_neg h5]; exact ⟨by first | rfl | trivial, K0⟩
  · have h7 : q_nh u < 120 := hc.mpr h6
    simp only [if_neg h6, if_pos h7, ↓reduceIte]
    by_cases h5 : xh_hasOpen u p r = 0
    case neg => simp only [if_neg h5]; exact ⟨by first | rfl | trivial, K0⟩
    simp only [if_pos h5]
    by_cases h8 : xh_countOpen u p < q_mo u (Int32.toNatClampNeg p)
    case neg => simp only [if_neg h8]; exact ⟨by first | rfl | trivial, K0⟩
    simp only [if_pos h8]
    have kN : N + 1 ≤ 120 := by
      rw [eN] at h7
      have h9 : nI N < nI 120 := h7
      rw [nI_ltI (by omega) (by omega)] at h9
      omega
    obtain ⟨U, eU, ⟨fcr, fcs, fch⟩, a1, a2, aM, a3, a4, a5, a6, a7⟩ := k_add hw eN eM R1 R2 R3 T J kN p r v3 v4 h2
    have er : xh_add_r u p r v3 v4 = q_nh u + 1 := rfl
    rw [eU, er]
    have K1 : q_K U (q_hw (q_th_s w 0) p r v3 v4) := ⟨th, ch, _, _, N + 1, M, a1, a2, aM, a3, a4, a5, a6, a7⟩
    have ecr : q_cr (q_hw (q_th_s w 0) p r v3 v4) = q_cr u := by rw [a1, q_cr_mix]; exact fcr
    have ecs : q_cs (q_hw (q_th_s w 0) p r v3 v4) = q_cs u := by rw [a1, q_cs_mix]; exact fcs
    have ef : xc_leastFree U r = q_lf (q_cr u) (q_cs u) r M 0 := by
      rw [f_least U r hM aM, fcr, fcs]
    rw [eM, f_hold_2 (q_hw (q_th_s w 0) p r v3 v4) p r v3 v4 (xh_countOpen u p) (q_nh u + 1) 200 M 0 hM (by omega), ecr, ecs, ef]
    rcases q_lf_or (q_cr u) (q_cs u) r (M := M) M 0 (Nat.le_refl M) (Or.inl rfl) with hf | ⟨c0, k1, k2, hf, hr0, hs0⟩
    · rw [hf]
      simp only [↓reduceIte, if_pos (show (0 : Int32) ≤ 0 by decide)]
      exact ⟨by first | rfl | trivial, K1⟩
    · rw [hf]
      simp only [if_neg (q_nI_z (show c0 ≤ 1000 by omega) k1), if_neg (nI_nle k1 (show c0 < 2 ^ 31 by omega))]
      refine ⟨by first | rfl | trivial, ?_⟩
      have ch0 : q_ch U c0 = 0 := by
        rw [fch]
        rcases T.2.2.2 c0 with q | ⟨h, q1, q2, q3, q4, q5⟩
        · exact q.1
        · rcases q5 with q | q | q <;> exact absurd (hs0.symm.trans q.2) (by decide)
      exact (k_settle (u := U) (N := N + 1) (M := M) (c0 := c0) a1 a2 aM k1 k2 a3 (fun c _ => a4 c) a5 (q_T_c a6 k1 k2 ch0 (Or.inr rfl)) a7).2
end
section
theorem q_rec_mono {u : q_S} {v : Int32} {R : Nat} (hR : R < 1000) (e : q_nr u = nI R) (h : ¬ x_isRecord u v = 0) : ¬ (if v < 1 then (0 : Int32) else (if (q_nr u) + 1 < v then 0 else 1)) = 0 := by
  unfold x_isRecord at h
  by_cases h1 : v < 1
  · rw [if_pos h1] at h
    exact absurd rfl h
  · rw [if_neg h1] at h
    by_cases h2 : q_nr u < v
    · rw [if_pos h2] at h
      exact absurd rfl h
    · have h3 : ¬ q_nr u + 1 < v := by
        rw [e, nI_1 R, Int32.lt_iff_toInt_lt, nI_toInt (by omega)]
        rw [e, Int32.lt_iff_toInt_lt, nI_toInt (by omega)] at h2
        omega
      rw [if_neg h1, if_neg h3]
      decide
theorem k_record {u w : q_S} (hI : q_I u) (K : q_K u w) (a : Int32) : x_record_r u a = m_record_r w a ∧ q_K (x_record_s u a) (m_record_s w a) := by
  have K0 := k_th K
  obtain ⟨th, ch, hy, hu, N, M, hw, eN, eM, R1, R2, R3, T, J⟩ := id K0
  obtain ⟨R, hR, e⟩ := q_I_nr hI
  have hc : (q_nr u < 30 ↔ ¬ q_nr u = 30) := q_nlt (N := 30) e hR (by omega)
  unfold x_record_r m_record_r x_record_s m_record_s x_record m_record
  rw [← q_kind a, show q_nr w = q_nr u from by show q_nr (q_th_s w 0) = _; rw [hw]; rfl]
  by_cases h : x_isKind a = 0
  · simp only [if_pos h]; exact ⟨by first | rfl | trivial, K0⟩
  · simp only [if_neg h]
    by_cases h2 : q_nr u = 30
    · simp only [if_neg (fun q => hc.mp q h2), if_pos h2]; exact ⟨by first | rfl | trivial, K0⟩
    · simp only [if_pos (hc.mpr h2), if_neg h2]
      exact ⟨by first | rfl | trivial, th, ch, hy, hu, N, M, by rw [hw]; rfl, eN, eM, R1, R2, R3, T, J.1, fun k k1 k2 => q_rec_mono (show R < 1000 by omega) e (J.2.1 k k1 k2), J.2.2⟩
theorem k_copy {u w : q_S} (K : q_K u w) (a b : Int32) : x_copy_r u a b = m_copy_r w a b ∧ q_K (x_copy_s u a b) (m_copy_s w a b) := by
  have K0 := k_th K
  obtain ⟨th, ch, hy, hu, N, M, hw, eN, eM, R1, R2, R3, T, J⟩ := id K0
  have hM := T.1.2
  have hc : (q_nc u < 60 ↔ ¬ q_nc u = 60) := q_nlt (N := 60) eM hM (by omega)
  have e1 : x_isRecord u a = m_in a 1 (q_nr w) := by
    show x_isRecord u a = m_in a 1 (q_nr (q_th_s w 0))
    rw [hw]
    rfl
  unfold x_copy_r m_copy_r x_copy_s m_copy_s x_copy m_copy xc_areFull
  rw [← q_place b, ← e1, show q_nc w = q_nc u from by show q_nc (q_th_s w 0) = _; rw [hw]; rfl]
  by_cases h : x_isRecord u a = 0
  · simp only [if_pos h]; exact ⟨by first | rfl | trivial, K0⟩
  · simp only [if_neg h]
    by_cases h1 : x_isPlace b = 0
    · simp only [if_pos h1]; exact ⟨by first | rfl | trivial, K0⟩
    · simp only [if_neg h1]
      by_cases h2 : q_nc u = 60
      · simp only [if_neg (fun q => hc.mp q h2), if_pos h2, if_neg q_10]; exact ⟨by first | rfl | trivial, K0⟩
      · have h3 := hc.mpr h2
        simp only [if_pos h3, if_neg h2, ↓reduceIte]
        have kM : M + 1 ≤ 60 := by
          rw [eM] at h3
          have h9 : nI M < nI 60 := h3
          rw [nI_ltI (by omega) (by omega)] at h9
          omega
        have e2 : q_nc u + 1 = nI (M + 1) := by rw [eM]; exact nI_1 M
        have e3 : (q_nc u + 1).toNatClampNeg = M + 1 := by rw [e2]; exact nI_clamp (by omega)
        have ch0 := (T.2.1.2 (M + 1) (Or.inr (by omega))).2
        refine ⟨by first | rfl | trivial, th, upd ch (q_nc u + 1).toNatClampNeg 0, hy, hu, N, M + 1, by rw [hw]; rfl, eN, e2, R1, ?_, R3, ?_, J⟩
        · intro c
          show upd ch (q_nc u + 1).toNatClampNeg 0 c = q_p25 (upd (q_cs u) (q_nc u + 1).toNatClampNeg 1 c) (q_hs u (Int32.toNatClampNeg (q_ch u c))) (q_ch u c)
          rw [e3]
          by_cases e : c = M + 1
          · subst e
            rw [pk_us, pk_us, ch0, q_p25_0]
          · rw [pk_un e, pk_un e, R2 c]
            rfl
        · show q_T (q_hs u) (q_hy u) (upd (q_cs u) (q_nc u + 1).toNatClampNeg 1) (q_ch u) N (M + 1)
          rw [e3]
          exact q_T_nc T kM
theorem k_bar {u w : q_S} (K : q_K u w) (a b : Int32) : x_bar_r u a b = m_bar_r w a b ∧ q_K (x_bar_s u a b) (m_bar_s w a b) := by
  have K0 := k_th K
  obtain ⟨th, ch, hy, hu, N, M, hw, r⟩ := id K0
  unfold x_bar_r m_bar_r x_bar_s m_bar_s x_bar m_bar
  rw [← q_kind a, show q_bd w = q_bd u from by show q_bd (q_th_s w 0) = _; rw [hw]; rfl]
  by_cases h : x_isKind a = 0
  · simp only [if_pos h]; exact ⟨by first | rfl | trivial, K0⟩
  · simp only [if_neg h]
    exact ⟨by first | rfl | trivial, th, ch, hy, hu, N, M, by rw [hw]; rfl, r⟩
theorem k_most {u w : q_S} (K : q_K u w) (a b : Int32) : x_most_r u a b = m_most_r w a b ∧ q_K (x_most_s u a b) (m_most_s w a b) := by
  have K0 := k_th K
  obtain ⟨th, ch, hy, hu, N, M, hw, r⟩ := id K0
  unfold x_most_r m_most_r x_most_s m_most_s x_most m_most
  rw [← q_person a, show q_mo w = q_mo u from by show q_mo (q_th_s w 0) = _; rw [hw]; rfl]
  by_cases h : x_isPerson a = 0
  · simp only [if_pos h]; exact ⟨by first | rfl | trivial, K0⟩
  · simp only [if_neg h]
    by_cases h1 : b < 0
    · simp only [if_pos h1, if_pos (m_in_0 (b := 20) h1)]; exact ⟨by first | rfl | trivial, K0⟩
    · simp only [if_neg h1]
      by_cases h2 : b ≤ 20
      · simp only [if_pos h2, if_neg (m_in_1 h1 h2)]
        exact ⟨by first | rfl | trivial, th, ch, hy, hu, N, M, by rw [hw]; rfl, r⟩
      · simp only [if_neg h2, if_pos (m_in_2 (a := 0) h2)]; exact ⟨by first | rfl | trivial, K0⟩
theorem k_span {u w : q_S} (K : q_K u w) (a : Int32) : x_span_r u a = m_span_r w a ∧ q_K (x_span_s u a) (m_span_s w a) := by
  have K0 := k_th K
  obtain ⟨th, ch, hy, hu, N, M, hw, r⟩ := id K0
  unfold x_span_r m_span_r x_span_s m_span_s x_span m_span
  rw [show q_sp w = q_sp u from by show q_sp (q_th_s w 0) = _; rw [hw]; rfl]
  by_cases h1 : a < 1
  · simp only [if_pos h1, if_pos (m_in_0 (b := 99) h1)]; exact ⟨by first | rfl | trivial, K0⟩
  · simp only [if_neg h1]
    by_cases h2 : a ≤ 99
    · simp only [if_pos h2, if_neg (m_in_1 h1 h2)]
      exact ⟨by first | rfl | trivial, th, ch, hy, hu, N, M, by rw [hw]; rfl, r⟩
    · simp only [if_neg h2, if_pos (m_in_2 (a := 1) h2)]; exact ⟨by first | rfl | trivial, K0⟩
theorem k_state {u w : q_S} (K : q_K u w) (a b : Int32) : q_K u (m_state_s w a b) := by
  have e : m_state_s w a b = q_th_s w 0 := by
    unfold m_state_s m_state
    repeat' split
    all_goals rfl
  rw [e]
  exact k_th K
theorem k_where {u w : q_S} (K : q_K u w) (a b : Int32) : q_K u (m_where_s w a b) := by
  have e : m_where_s w a b = q_th_s w 0 := by
    unfold m_where_s m_where
    repeat' split
    all_goals rfl
  rw [e]
  exact k_th K
theorem k_new : q_K q_new q_new := ⟨0, fun _ => 0, fun _ => 0, fun _ => 0, 0, 0, rfl, by decide +kernel, by decide +kernel, fun _ => rfl, fun _ => rfl, fun _ => Or.inl rfl, q_T_new, fun _ _ => rfl, fun h h1 h2 => by omega, by decide +kernel⟩
def q_Rel (u w : q_S) : Prop := q_I u ∧ q_I w ∧ q_K u w
theorem rel_new : q_Rel q_new q_new := ⟨q_I_new, q_I_new, k_new⟩
end
section
theorem rel_record {u w : q_S} (hR : q_Rel u w) (a : Int32) : x_record_p u a ∧ m_record_p w a ∧ x_record_r u a = m_record_r w a ∧ q_Rel (x_record_s u a) (m_record_s w a) := ⟨x_record_pp hR.1 a, m_record_pp hR.2.1 a, (k_record hR.1 hR.2.2 a).1, x_record_I hR.1 a, m_record_I hR.2.1 a, (k_record hR.1 hR.2.2 a).2⟩
theorem rel_copy {u w : q_S} (hR : q_Rel u w) (a : Int32) (b : Int32) : x_copy_p u a b ∧ m_copy_p w a b ∧ x_copy_r u a b = m_copy_r w a b ∧ q_Rel (x_copy_s u a b) (m_copy_s w a b) := ⟨x_copy_pp hR.1 a b, m_copy_pp hR.2.1 a b, (k_copy hR.2.2 a b).1, x_copy_I hR.1 a b, m_copy_I hR.2.1 a b, (k_copy hR.2.2 a b).2⟩
theorem rel_bar {u w : q_S} (hR : q_Rel u w) (a : Int32) (b : Int32) : x_bar_p u a b ∧ m_bar_p w a b ∧ x_bar_r u a b = m_bar_r w a b ∧ q_Rel (x_bar_s u a b) (m_bar_s w a b) := ⟨x_bar_pp hR.1 a b, m_bar_pp hR.2.1 a b, (k_bar hR.2.2 a b).1, x_bar_I hR.1 a b, m_bar_I hR.2.1 a b, (k_bar hR.2.2 a b).2⟩
theorem rel_hold {u w : q_S} (hR : q_Rel u w) (a : Int32) (b : Int32) (c : Int32) (d : Int32) : x_hold_p u a b c d ∧ m_hold_p w a b c d ∧ x_hold_r u a b c d = m_hold_r w a b c d ∧ q_Rel (x_hold_s u a b c d) (m_hold_s w a b c d) := ⟨x_hold_pp hR.1 a b c d, m_hold_pp hR.2.1 a b c d, (k_hold hR.2.2 a b c d).1, x_hold_I hR.1 a b c d, m_hold_I hR.2.1 a b c d, (k_hold hR.2.2 a b c d).2⟩
theorem rel_most {u w : q_S} (hR : q_Rel u w) (a : Int32) (b : Int32) : x_most_p u a b ∧ m_most_p w a b ∧ x_most_r u a b = m_most_r w a b ∧ q_Rel (x_most_s u a b) (m_most_s w a b) := ⟨x_most_pp hR.1 a b, m_most_pp hR.2.1 a b, (k_most hR.2.2 a b).1, x_most_I hR.1 a b, m_most_I hR.2.1 a b, (k_most hR.2.2 a b).2⟩
theorem rel_suspend {u w : q_S} (hR : q_Rel u w) (a : Int32) (b : Int64) : x_suspend_p u a b ∧ m_suspend_p w a b ∧ x_suspend_r u a b = m_suspend_r w a b ∧ q_Rel (x_suspend_s u a b) (m_suspend_s w a b) := ⟨x_suspend_pp hR.1 a b, m_suspend_pp hR.2.1 a b, (k_suspend hR.2.2 a b).1, x_suspend_I hR.1 a b, m_suspend_I hR.2.1 a b, (k_suspend hR.2.2 a b).2⟩
theorem rel_back {u w : q_S} (hR : q_Rel u w) (a : Int32) (b : Int32) : x_back_p u a b ∧ m_back_p w a b ∧ x_back_r u a b = m_back_r w a b ∧ q_Rel (x_back_s u a b) (m_back_s w a b) := ⟨x_back_pp hR.1 a b, m_back_pp hR.2.1 a b, (k_back hR.2.2 a b).1, x_back_I hR.1 a b, m_back_I hR.2.1 a b, (k_back hR.2.2 a b).2⟩
theorem rel_arrive {u w : q_S} (hR : q_Rel u w) (a : Int32) : x_arrive_p u a ∧ m_arrive_p w a ∧ x_arrive_r u a = m_arrive_r w a ∧ q_Rel (x_arrive_s u a) (m_arrive_s w a) := ⟨x_arrive_pp hR.1 a, m_arrive_pp hR.2.1 a, (k_arrive hR.2.2 a).1, x_arrive_I hR.1 a, m_arrive_I hR.2.1 a, (k_arrive hR.2.2 a).2⟩
theorem rel_pick {u w : q_S} (hR : q_Rel u w) (a : Int32) : x_pick_p u a ∧ m_pick_p w a ∧ x_pick_r u a = m_pick_r w a ∧ q_Rel (x_pick_s u a) (m_pick_s w a) := ⟨x_pick_pp hR.1 a, m_pick_pp hR.2.1 a, (k_pick hR.2.2 a).1, x_pick_I hR.1 a, m_pick_I hR.2.1 a, (k_pick hR.2.2 a).2⟩
theorem rel_lend {u w : q_S} (hR : q_Rel u w) (a : Int32) : x_lend_p u a ∧ m_lend_p w a ∧ x_lend_r u a = m_lend_r w a ∧ q_Rel (x_lend_s u a) (m_lend_s w a) := ⟨x_lend_pp hR.1 a, m_lend_pp hR.2.1 a, (k_lend hR.2.2 a).1, x_lend_I hR.1 a, m_lend_I hR.2.1 a, (k_lend hR.2.2 a).2⟩
theorem rel_cancel {u w : q_S} (hR : q_Rel u w) (a : Int32) : x_cancel_p u a ∧ m_cancel_p w a ∧ x_cancel_r u a = m_cancel_r w a ∧ q_Rel (x_cancel_s u a) (m_cancel_s w a) := ⟨x_cancel_pp hR.1 a, m_cancel_pp hR.2.1 a, (k_cancel hR.2.2 a).1, x_cancel_I hR.1 a, m_cancel_I hR.2.1 a, (k_cancel hR.2.2 a).2⟩
theorem rel_tick {u w : q_S} (hR : q_Rel u w) (a : Int64) : x_tick_p u a ∧ m_tick_p w a ∧ x_tick_r u a = m_tick_r w a ∧ q_Rel (x_tick_s u a) (m_tick_s w a) := ⟨x_tick_pp hR.1 a, m_tick_pp hR.2.1 a, (k_tick hR.2.2 a).1, x_tick_I hR.1 a, m_tick_I hR.2.1 a, (k_tick hR.2.2 a).2⟩
theorem rel_span {u w : q_S} (hR : q_Rel u w) (a : Int32) : x_span_p u a ∧ m_span_p w a ∧ x_span_r u a = m_span_r w a ∧ q_Rel (x_span_s u a) (m_span_s w a) := ⟨trivial, trivial, (k_span hR.2.2 a).1, x_span_I hR.1 a, m_span_I hR.2.1 a, (k_span hR.2.2 a).2⟩
theorem rel_rank {u w : q_S} (hR : q_Rel u w) (a : Int32) (b : Int32) : x_rank_p u a b ∧ m_rank_p w a b ∧ x_rank_r u a b = m_rank_r w a b ∧ q_Rel (x_rank_s u a b) (m_rank_s w a b) := ⟨x_rank_pp hR.1 a b, m_rank_pp hR.2.1 a b, (k_rank hR.2.2 a b).1, x_rank_I hR.1 a b, m_rank_I hR.2.1 a b, (k_rank hR.2.2 a b).2⟩
theorem rel_order {u w : q_S} (hR : q_Rel u w) (a : Int32) (b : Int32) : x_order_p u a b ∧ m_order_p w a b ∧ x_order u a b = m_order_r w a b ∧ q_Rel (u) (m_order_s w a b) := ⟨x_order_pp hR.1 a b, m_order_pp hR.2.1 a b, (k_order hR.2.2 a b).1, hR.1, m_order_I hR.2.1 a b, (k_order hR.2.2 a b).2⟩
theorem rel_state {u w : q_S} (hR : q_Rel u w) (a : Int32) (b : Int32) : x_state_p u a b ∧ m_state_p w a b ∧ True ∧ q_Rel (u) (m_state_s w a b) := ⟨x_state_pp hR.1 a b, m_state_pp hR.2.1 a b, trivial, hR.1, m_state_I hR.2.1 a b, k_state hR.2.2 a b⟩
theorem rel_where {u w : q_S} (hR : q_Rel u w) (a : Int32) (b : Int32) : x_where_p u a b ∧ m_where_p w a b ∧ True ∧ q_Rel (u) (m_where_s w a b) := ⟨x_where_pp hR.1 a b, m_where_pp hR.2.1 a b, trivial, hR.1, m_where_I hR.2.1 a b, k_where hR.2.2 a b⟩
end
section
/-- the law's own: its script at the cell 2, of length L -/
def l_ai (L : Nat) (xs : Nat → Int32) : gz_AI (q_S × q_S) := fun j k => match j with
  | 2 => k L (fun _ => xs) (fun u _ _ => u)
  | _ => False
theorem l_fit {L k : Nat} (hL : L ≤ 2560) (hk : k ≤ 2600) (h : ¬ Int32.ofNat L - 5 < nI k) : k + 5 ≤ L := by
  have e1 : (nI L - nI 5).toInt = (L : Int) - (5 : Nat) := pk_sub_toInt (by omega) (by omega)
  have e2 : (nI k).toInt = (k : Int) := nI_toInt (by omega)
  have h2 : ¬ nI L - nI 5 < nI k := h
  rw [Int32.lt_iff_toInt_lt, e1, e2] at h2
  omega
def l_t (L : Nat) (xs : Nat → Int32) : List (Nat × gz_T (q_S × q_S)) := [(18, gz_ldi 19 3), (19, gz_lda 20 0), (20, gz_alen 21 2 (Int32.ofNat L)), (21, gz_push 22 (gz_i 5)), (22, gz_iop 23 (fun x y => x - y)), (23, gz_if2 26 709 (fun x y => y < x) (fun x y => ¬ y < x)), (26, gz_lda 27 0), (27, gz_ldi 28 3), (28, gz_ild 29 (l_ai L xs)), (29, gz_push 31 (gz_i 31)), (31, gz_iop 32 (fun x y => x &&& y)), (32, gz_sw [(0, 116), (1, 139), (2, 172), (3, 221), (4, 274), (5, 307), (6, 370), (7, 403), (8, 426), (9, 449), (10, 472), (11, 495), (12, 548), (13, 571), (14, 604), (15, 637), (16, 670)] 703), (116, gz_lda 117 1), (117, gz_lda 118 0), (118, gz_ldi 119 3), (119, gz_push 120 (gz_i 1)), (120, gz_iop 121 (fun x y => x + y)), (121, gz_ild 122 (l_ai L xs)), (122, gz_c1I 125 0 (fun u x => x_record_p u.1 x) (fun u x => x_record_r u.1 x) (fun u x => (x_record_s u.1 x, u.2))), (125, gz_lda 126 2), (126, gz_lda 127 0), (127, gz_ldi 128 3), (128, gz_push 129 (gz_i 1)), (129, gz_iop 130 (fun x y => x + y)), (130, gz_ild 131 (l_ai L xs)), (131, gz_c1I 134 1 (fun u x => m_record_p u.2 x) (fun u x => m_record_r u.2 x) (fun u x => (u.1, m_record_s u.2 x))), (134, gz_if2 137 703 (fun x y => x = y) (fun x y => ¬ x = y)), (137, gz_push 138 (gz_i 0)), (138, gz_iret), (139, gz_lda 140 1), (140, gz_lda 141 0), (141, gz_ldi 142 3), (142, gz_push 143 (gz_i 1)), (143, gz_iop 144 (fun x y => x + y)), (144, gz_ild 145 (l_ai L xs)), (145, gz_lda 146 0), (146, gz_ldi 147 3), (147, gz_push 148 (gz_i 2)), (148, gz_iop 149 (fun x y => x + y)), (149, gz_ild 150 (l_ai L xs)), (150, gz_c2I 153 0 (fun u x y => x_copy_p u.1 x y) (fun u x y => x_copy_r u.1 x y) (fun u x y => (x_copy_s u.1 x y, u.2))), (153, gz_pop 154), (154, gz_lda 155 2), (155, gz_lda 156 0), (156, gz_ldi 157 3), (157, gz_push 158 (gz_i 1)), (158, gz_iop 159 (fun x y => x + y)), (159, gz_ild 160 (l_ai L xs)), (160, gz_lda 161 0), (161, gz_ldi 162 3), (162, gz_push 163 (gz_i 2)), (163, gz_iop 164 (fun x y => x + y)), (164, gz_ild 165 (l_ai L xs)), (165, gz_c2I 168 1 (fun u x y => m_copy_p u.2 x y) (fun u x y => m_copy_r u.2 x y) (fun u x y => (u.1, m_copy_s u.2 x y))), (168, gz_pop 169), (169, gz_goto 703), (172, gz_lda 173 1), (173, gz_lda 174 0), (174, gz_ldi 175 3), (175, gz_push 176 (gz_i 1)), (176, gz_iop 177 (fun x y => x + y)), (177, gz_ild 178 (l_ai L xs)), (178, gz_lda 179 0), (179, gz_ldi 180 3), (180, gz_push 181 (gz_i 2)), (181, gz_iop 182 (fun x y => x + y)), (182, gz_ild 183 (l_ai L xs)), (183, gz_if 186 190 (fun x => x = 0) (fun x => ¬ x = 0)), (186, gz_push 187 (gz_i 1)), (187, gz_goto 191), (190, gz_push 191 (gz_i 0)), (191, gz_c2I 194 0 (fun u x y => x_bar_p u.1 x y) (fun u x y => x_bar_r u.1 x y) (fun u x y => (x_bar_s u.1 x y, u.2))), (194, gz_pop 195), (195, gz_lda 196 2), (196, gz_lda 197 0), (197, gz_ldi 198 3), (198, gz_push 199 (gz_i 1)), (199, gz_iop 200 (fun x y => x + y)), (200, gz_ild 201 (l_ai L xs)), (201, gz_lda 202 0), (202, gz_ldi 203 3), (203, gz_push 204 (gz_i 2)), (204, gz_iop 205 (fun x y => x + y)), (205, gz_ild 206 (l_ai L xs)), (206, gz_if 209 213 (fun x => x = 0) (fun x => ¬ x = 0)), (209, gz_push 210 (gz_i 1)), (210, gz_goto 214), (213, gz_push 214 (gz_i 0)), (214, gz_c2I 217 1 (fun u x y => m_bar_p u.2 x y) (fun u x y => m_bar_r u.2 x y) (fun u x y => (u.1, m_bar_s u.2 x y))), (217, gz_pop 218), (218, gz_goto 703), (221, gz_lda 222 1), (222, gz_lda 223 0), (223, gz_ldi 224 3), (224, gz_push 225 (gz_i 1)), (225, gz_iop 226 (fun x y => x + y)), (226, gz_ild 227 (l_ai L xs)), (227, gz_lda 228 0), (228, gz_ldi 229 3), (229, gz_push 230 (gz_i 2)), (230, gz_iop 231 (fun x y => x + y)), (231, gz_ild 232 (l_ai L xs)), (232, gz_lda 233 0), (233, gz_ldi 234 3), (234, gz_push 235 (gz_i 3)), (235, gz_iop 236 (fun x y => x + y)), (236, gz_ild 237 (l_ai L xs)), (237, gz_lda 238 0), (238, gz_ldi 239 3), (239, gz_push 240 (gz_i 4)), (240, gz_iop 241 (fun x y => x + y)), (241, gz_ild 242 (l_ai L xs)), (242, gz_c4I 245 0 (fun u x y z w => x_hold_p u.1 x y z w) (fun u x y z w => x_hold_r u.1 x y z w) (fun u x y z w => (x_hold_s u.1 x y z w, u.2))), (245, gz_pop 246), (246, gz_lda 247 2), (247, gz_lda 248 0), (248, gz_ldi 249 3), (249, gz_push 250 (gz_i 1)), (250, gz_iop 251 (fun x y => x + y)), (251, gz_ild 252 (l_ai L xs)), (252, gz_lda 253 0), (253, gz_ldi 254 3), (254, gz_push 255 (gz_i 2)), (255, gz_iop 256 (fun x y => x + y)), (256, gz_ild 257 (l_ai L xs)), (257, gz_lda 258 0), (258, gz_ldi 259 3), (259, gz_push 260 (gz_i 3)), (260, gz_iop 261 (fun x y => x + y)), (261, gz_ild 262 (l_ai L xs)), (262, gz_lda 263 0), (263, gz_ldi 264 3), (264, gz_push 265 (gz_i 4)), (265, gz_iop 266 (fun x y => x + y)), (266, gz_ild 267 (l_ai L xs)), (267, gz_c4I 270 1 (fun u x y z w => m_hold_p u.2 x y z w) (fun u x y z w => m_hold_r u.2 x y z w) (fun u x y z w => (u.1, m_hold_s u.2 x y z w))), (270, gz_pop 271), (271, gz_goto 703), (274, gz_lda 275 1), (275, gz_lda 276 0), (276, gz_ldi 277 3), (277, gz_push 278 (gz_i 1)), (278, gz_iop 279 (fun x y => x + y)), (279, gz_ild 280 (l_ai L xs)), (280, gz_lda 281 0), (281, gz_ldi 282 3), (282, gz_push 283 (gz_i 2)), (283, gz_iop 284 (fun x y => x + y)), (284, gz_ild 285 (l_ai L xs)), (285, gz_c2I 288 0 (fun u x y => x_most_p u.1 x y) (fun u x y => x_most_r u.1 x y) (fun u x y => (x_most_s u.1 x y, u.2))), (288, gz_pop 289), (289, gz_lda 290 2), (290, gz_lda 291 0), (291, gz_ldi 292 3), (292, gz_push 293 (gz_i 1)), (293, gz_iop 294 (fun x y => x + y)), (294, gz_ild 295 (l_ai L xs)), (295, gz_lda 296 0), (296, gz_ldi 297 3), (297, gz_push 298 (gz_i 2)), (298, gz_iop 299 (fun x y => x + y)), (299, gz_ild 300 (l_ai L xs)), (300, gz_c2I 303 1 (fun u x y => m_most_p u.2 x y) (fun u x y => m_most_r u.2 x y) (fun u x y => (u.1, m_most_s u.2 x y))), (303, gz_pop 304), (304, gz_goto 703), (307, gz_lda 308 1), (308, gz_lda 309 0), (309, gz_ldi 310 3), (310, gz_push 311 (gz_i 1)), (311, gz_iop 312 (fun x y => x + y)), (312, gz_ild 313 (l_ai L xs)), (313, gz_lda 314 0), (314, gz_ldi 315 3), (315, gz_push 316 (gz_i 2)), (316, gz_iop 317 (fun x y => x + y)), (317, gz_ild 318 (l_ai L xs)), (318, gz_itol 319), (319, gz_push 321 (gz_i 32)), (321, gz_lsh 322 (fun x y => x <<< (y.toInt64 &&& 63))), (322, gz_lda 323 0), (323, gz_ldi 324 3), (324, gz_push 325 (gz_i 3)), (325, gz_iop 326 (fun x y => x + y)), (326, gz_ild 327 (l_ai L xs)), (327, gz_itol 328), (328, gz_push 331 (gz_l 4294967295)), (331, gz_lop 332 (fun x y => x &&& y)), (332, gz_lop 333 (fun x y => x ||| y)), (333, gz_c1lI 336 0 (fun u x y => x_suspend_p u.1 x y) (fun u x y => x_suspend_r u.1 x y) (fun u x y => (x_suspend_s u.1 x y, u.2))), (336, gz_pop 337), (337, gz_lda 338 2), (338, gz_lda 339 0), (339, gz_ldi 340 3), (340, gz_push 341 (gz_i 1)), (341, gz_iop 342 (fun x y => x + y)), (342, gz_ild 343 (l_ai L xs)), (343, gz_lda 344 0), (344, gz_ldi 345 3), (345, gz_push 346 (gz_i 2)), (346, gz_iop 347 (fun x y => x + y)), (347, gz_ild 348 (l_ai L xs)), (348, gz_itol 349), (349, gz_push 351 (gz_i 32)), (351, gz_lsh 352 (fun x y => x <<< (y.toInt64 &&& 63))), (352, gz_lda 353 0), (353, gz_ldi 354 3), (354, gz_push 355 (gz_i 3)), (355, gz_iop 356 (fun x y => x + y)), (356, gz_ild 357 (l_ai L xs)), (357, gz_itol 358), (358, gz_push 361 (gz_l 4294967295)), (361, gz_lop 362 (fun x y => x &&& y)), (362, gz_lop 363 (fun x y => x ||| y)), (363, gz_c1lI 366 1 (fun u x y => m_suspend_p u.2 x y) (fun u x y => m_suspend_r u.2 x y) (fun u x y => (u.1, m_suspend_s u.2 x y))), (366, gz_pop 367), (367, gz_goto 703), (370, gz_lda 371 1), (371, gz_lda 372 0), (372, gz_ldi 373 3), (373, gz_push 374 (gz_i 1)), (374, gz_iop 375 (fun x y => x + y)), (375, gz_ild 376 (l_ai L xs)), (376, gz_lda 377 0), (377, gz_ldi 378 3), (378, gz_push 379 (gz_i 2)), (379, gz_iop 380 (fun x y => x + y)), (380, gz_ild 381 (l_ai L xs)), (381, gz_c2I 384 0 (fun u x y => x_back_p u.1 x y) (fun u x y => x_back_r u.1 x y) (fun u x y => (x_back_s u.1 x y, u.2))), (384, gz_pop 385), (385, gz_lda 386 2), (386, gz_lda 387 0), (387, gz_ldi 388 3), (388, gz_push 389 (gz_i 1)), (389, gz_iop 390 (fun x y => x + y)), (390, gz_ild 391 (l_ai L xs)), (391, gz_lda 392 0), (392, gz_ldi 393 3), (393, gz_push 394 (gz_i 2)), (394, gz_iop 395 (fun x y => x + y)), (395, gz_ild 396 (l_ai L xs)), (396, gz_c2I 399 1 (fun u x y => m_back_p u.2 x y) (fun u x y => m_back_r u.2 x y) (fun u x y => (u.1, m_back_s u.2 x y))), (399, gz_pop 400), (400, gz_goto 703), (403, gz_lda 404 1), (404, gz_lda 405 0), (405, gz_ldi 406 3), (406, gz_push 407 (gz_i 1)), (407, gz_iop 408 (fun x y => x + y)), (408, gz_ild 409 (l_ai L xs)), (409, gz_c1I 412 0 (fun u x => x_arrive_p u.1 x) (fun u x => x_arrive_r u.1 x) (fun u x => (x_arrive_s u.1 x, u.2))), (412, gz_pop 413), (413, gz_lda 414 2), (414, gz_lda 415 0), (415, gz_ldi 416 3), (416, gz_push 417 (gz_i 1)), (417, gz_iop 418 (fun x y => x + y)), (418, gz_ild 419 (l_ai L xs)), (419, gz_c1I 422 1 (fun u x => m_arrive_p u.2 x) (fun u x => m_arrive_r u.2 x) (fun u x => (u.1, m_arrive_s u.2 x))), (422, gz_pop 423), (423, gz_goto 703), (426, gz_lda 427 1), (427, gz_lda 428 0), (428, gz_ldi 429 3), (429, gz_push 430 (gz_i 1)), (430, gz_iop 431 (fun x y => x + y)), (431, gz_ild 432 (l_ai L xs)), (432, gz_c1I 435 0 (fun u x => x_pick_p u.1 x) (fun u x => x_pick_r u.1 x) (fun u x => (x_pick_s u.1 x, u.2))), (435, gz_pop 436), (436, gz_lda 437 2), (437, gz_lda 438 0), (438, gz_ldi 439 3), (439, gz_push 440 (gz_i 1)), (440, gz_iop 441 (fun x y => x + y)), (441, gz_ild 442 (l_ai L xs)), (442, gz_c1I 445 1 (fun u x => m_pick_p u.2 x) (fun u x => m_pick_r u.2 x) (fun u x => (u.1, m_pick_s u.2 x))), (445, gz_pop 446), (446, gz_goto 703), (449, gz_lda 450 1), (450, gz_lda 451 0), (451, gz_ldi 452 3), (452, gz_push 453 (gz_i 1)), (453, gz_iop 454 (fun x y => x + y)), (454, gz_ild 455 (l_ai L xs)), (455, gz_c1I 458 0 (fun u x => x_lend_p u.1 x) (fun u x => x_lend_r u.1 x) (fun u x => (x_lend_s u.1 x, u.2))), (458, gz_pop 459), (459, gz_lda 460 2), (460, gz_lda 461 0), (461, gz_ldi 462 3), (462, gz_push 463 (gz_i 1)), (463, gz_iop 464 (fun x y => x + y)), (464, gz_ild 465 (l_ai L xs)), (465, gz_c1I 468 1 (fun u x => m_lend_p u.2 x) (fun u x => m_lend_r u.2 x) (fun u x => (u.1, m_lend_s u.2 x))), (468, gz_pop 469), (469, gz_goto 703), (472, gz_lda 473 1), (473, gz_lda 474 0), (474, gz_ldi 475 3), (475, gz_push 476 (gz_i 1)), (476, gz_iop 477 (fun x y => x + y)), (477, gz_ild 478 (l_ai L xs)), (478, gz_c1I 481 0 (fun u x => x_cancel_p u.1 x) (fun u x => x_cancel_r u.1 x) (fun u x => (x_cancel_s u.1 x, u.2))), (481, gz_pop 482), (482, gz_lda 483 2), (483, gz_lda 484 0), (484, gz_ldi 485 3), (485, gz_push 486 (gz_i 1)), (486, gz_iop 487 (fun x y => x + y)), (487, gz_ild 488 (l_ai L xs)), (488, gz_c1I 491 1 (fun u x => m_cancel_p u.2 x) (fun u x => m_cancel_r u.2 x) (fun u x => (u.1, m_cancel_s u.2 x))), (491, gz_pop 492), (492, gz_goto 703), (495, gz_lda 496 1), (496, gz_lda 497 0), (497, gz_ldi 498 3), (498, gz_push 499 (gz_i 1)), (499, gz_iop 500 (fun x y => x + y)), (500, gz_ild 501 (l_ai L xs)), (501, gz_itol 502), (502, gz_push 504 (gz_i 32)), (504, gz_lsh 505 (fun x y => x <<< (y.toInt64 &&& 63))), (505, gz_lda 506 0), (506, gz_ldi 507 3), (507, gz_push 508 (gz_i 2)), (508, gz_iop 509 (fun x y => x + y)), (509, gz_ild 510 (l_ai L xs)), (510, gz_itol 511), (511, gz_push 514 (gz_l 4294967295)), (514, gz_lop 515 (fun x y => x &&& y)), (515, gz_lop 516 (fun x y => x ||| y)), (516, gz_clI 519 0 (fun u x => x_tick_p u.1 x) (fun u x => x_tick_r u.1 x) (fun u x => (x_tick_s u.1 x, u.2))), (519, gz_pop 520), (520, gz_lda 521 2), (521, gz_lda 522 0), (522, gz_ldi 523 3), (523, gz_push 524 (gz_i 1)), (524, gz_iop 525 (fun x y => x + y)), (525, gz_ild 526 (l_ai L xs)), (526, gz_itol 527), (527, gz_push 529 (gz_i 32)), (529, gz_lsh 530 (fun x y => x <<< (y.toInt64 &&& 63))), (530, gz_lda 531 0), (531, gz_ldi 532 3), (532, gz_push 533 (gz_i 2)), (533, gz_iop 534 (fun x y => x + y)), (534, gz_ild 535 (l_ai L xs)), (535, gz_itol 536), (536, gz_push 539 (gz_l 4294967295)), (539, gz_lop 540 (fun x y => x &&& y)), (540, gz_lop 541 (fun x y => x ||| y)), (541, gz_clI 544 1 (fun u x => m_tick_p u.2 x) (fun u x => m_tick_r u.2 x) (fun u x => (u.1, m_tick_s u.2 x))), (544, gz_pop 545), (545, gz_goto 703), (548, gz_lda 549 1), (549, gz_lda 550 0), (550, gz_ldi 551 3), (551, gz_push 552 (gz_i 1)), (552, gz_iop 553 (fun x y => x + y)), (553, gz_ild 554 (l_ai L xs)), (554, gz_c1I 557 0 (fun u x => x_span_p u.1 x) (fun u x => x_span_r u.1 x) (fun u x => (x_span_s u.1 x, u.2))), (557, gz_pop 558), (558, gz_lda 559 2), (559, gz_lda 560 0), (560, gz_ldi 561 3), (561, gz_push 562 (gz_i 1)), (562, gz_iop 563 (fun x y => x + y)), (563, gz_ild 564 (l_ai L xs)), (564, gz_c1I 567 1 (fun u x => m_span_p u.2 x) (fun u x => m_span_r u.2 x) (fun u x => (u.1, m_span_s u.2 x))), (567, gz_pop 568), (568, gz_goto 703), (571, gz_lda 572 1), (572, gz_lda 573 0), (573, gz_ldi 574 3), (574, gz_push 575 (gz_i 1)), (575, gz_iop 576 (fun x y => x + y)), (576, gz_ild 577 (l_ai L xs)), (577, gz_lda 578 0), (578, gz_ldi 579 3), (579, gz_push 580 (gz_i 2)), (580, gz_iop 581 (fun x y => x + y)), (581, gz_ild 582 (l_ai L xs)), (582, gz_c2I 585 0 (fun u x y => x_rank_p u.1 x y) (fun u x y => x_rank_r u.1 x y) (fun u x y => (x_rank_s u.1 x y, u.2))), (585, gz_pop 586), (586, gz_lda 587 2), (587, gz_lda 588 0), (588, gz_ldi 589 3), (589, gz_push 590 (gz_i 1)), (590, gz_iop 591 (fun x y => x + y)), (591, gz_ild 592 (l_ai L xs)), (592, gz_lda 593 0), (593, gz_ldi 594 3), (594, gz_push 595 (gz_i 2)), (595, gz_iop 596 (fun x y => x + y)), (596, gz_ild 597 (l_ai L xs)), (597, gz_c2I 600 1 (fun u x y => m_rank_p u.2 x y) (fun u x y => m_rank_r u.2 x y) (fun u x y => (u.1, m_rank_s u.2 x y))), (600, gz_pop 601), (601, gz_goto 703), (604, gz_lda 605 1), (605, gz_lda 606 0), (606, gz_ldi 607 3), (607, gz_push 608 (gz_i 1)), (608, gz_iop 609 (fun x y => x + y)), (609, gz_ild 610 (l_ai L xs)), (610, gz_lda 611 0), (611, gz_ldi 612 3), (612, gz_push 613 (gz_i 2)), (613, gz_iop 614 (fun x y => x + y)), (614, gz_ild 615 (l_ai L xs)), (615, gz_c2I 618 0 (fun u x y => x_order_p u.1 x y) (fun u x y => x_order u.1 x y) (fun u x y => u)), (618, gz_pop 619), (619, gz_lda 620 2), (620, gz_lda 621 0), (621, gz_ldi 622 3), (622, gz_push 623 (gz_i 1)), (623, gz_iop 624 (fun x y => x + y)), (624, gz_ild 625 (l_ai L xs)), (625, gz_lda 626 0), (626, gz_ldi 627 3), (627, gz_push 628 (gz_i 2)), (628, gz_iop 629 (fun x y => x + y)), (629, gz_ild 630 (l_ai L xs)), (630, gz_c2I 633 1 (fun u x y => m_order_p u.2 x y) (fun u x y => m_order_r u.2 x y) (fun u x y => (u.1, m_order_s u.2 x y))), (633, gz_pop 634), (634, gz_goto 703), (637, gz_lda 638 1), (638, gz_lda 639 0), (639, gz_ldi 640 3), (640, gz_push 641 (gz_i 1)), (641, gz_iop 642 (fun x y => x + y)), (642, gz_ild 643 (l_ai L xs)), (643, gz_lda 644 0), (644, gz_ldi 645 3), (645, gz_push 646 (gz_i 2)), (646, gz_iop 647 (fun x y => x + y)), (647, gz_ild 648 (l_ai L xs)), (648, gz_c2I 651 0 (fun u x y => x_state_p u.1 x y) (fun u x y => x_state u.1 x y) (fun u x y => u)), (651, gz_pop 652), (652, gz_lda 653 2), (653, gz_lda 654 0), (654, gz_ldi 655 3), (655, gz_push 656 (gz_i 1)), (656, gz_iop 657 (fun x y => x + y)), (657, gz_ild 658 (l_ai L xs)), (658, gz_lda 659 0), (659, gz_ldi 660 3), (660, gz_push 661 (gz_i 2)), (661, gz_iop 662 (fun x y => x + y)), (662, gz_ild 663 (l_ai L xs)), (663, gz_c2I 666 1 (fun u x y => m_state_p u.2 x y) (fun u x y => m_state_r u.2 x y) (fun u x y => (u.1, m_state_s u.2 x y))), (666, gz_pop 667), (667, gz_goto 703), (670, gz_lda 671 1), (671, gz_lda 672 0), (672, gz_ldi 673 3), (673, gz_push 674 (gz_i 1)), (674, gz_iop 675 (fun x y => x + y)), (675, gz_ild 676 (l_ai L xs)), (676, gz_lda 677 0), (677, gz_ldi 678 3), (678, gz_push 679 (gz_i 2)), (679, gz_iop 680 (fun x y => x + y)), (680, gz_ild 681 (l_ai L xs)), (681, gz_c2I 684 0 (fun u x y => x_where_p u.1 x y) (fun u x y => x_where u.1 x y) (fun u x y => u)), (684, gz_pop 685), (685, gz_lda 686 2), (686, gz_lda 687 0), (687, gz_ldi 688 3), (688, gz_push 689 (gz_i 1)), (689, gz_iop 690 (fun x y => x + y)), (690, gz_ild 691 (l_ai L xs)), (691, gz_lda 692 0), (692, gz_ldi 693 3), (693, gz_push 694 (gz_i 2)), (694, gz_iop 695 (fun x y => x + y)), (695, gz_ild 696 (l_ai L xs)), (696, gz_c2I 699 1 (fun u x y => m_where_p u.2 x y) (fun u x y => m_where_r u.2 x y) (fun u x y => (u.1, m_where_s u.2 x y))), (699, gz_pop 700), (700, gz_goto 703), (703, gz_iinc 706 3 5), (706, gz_goto 18), (709, gz_push 710 (gz_i 1)), (710, gz_iret)]
set_option maxRecDepth 100000 in
set_option maxHeartbeats 16000000 in
theorem l_d {L : Nat} {xs : Nat → Int32} {Kr : Option Int32 → q_S × q_S → Prop} {Z : gz_K (q_S × q_S)} (hZ : gz_shut (l_t L xs) Kr Z) (hL : L ≤ 2560) (h1 : ∀ u, Kr (some 1) u) : ∀ (n k : Nat) (u : q_S × q_S), q_Rel u.1 u.2 → k ≤ L + 4 → L + 4 < k + n → Z 18 [(0, gz_r 2), (1, gz_r 0), (2, gz_r 1), (3, gz_i (nI k))] [] u := by
  intro n
  induction n with
  | zero => intro k u _ a b; omega
  | succ n ih =>
  intro k u hR hk hn
  refine hZ.1 [18] 500 18 _ _ _ ?_
  refine And.intro (fun (_ : Int32.ofNat L - 5 < nI k) => h1 u) (fun (hlt : ¬ Int32.ofNat L - 5 < nI k) => ?_)
  have h5 : k + 5 ≤ L := l_fit (by omega) (by omega) hlt
  have e5 : nI k + 5 = nI (k + 5) := nI_add k 5
  have hv0 : vp_in (nI k) L := vp_in_nI (by omega) (by omega)
  have hv1 : vp_in (nI k + 1) L := by rw [show nI k + 1 = nI (k + 1) from nI_add k 1]; exact vp_in_nI (by omega) (by omega)
  have hv2 : vp_in (nI k + 2) L := by rw [show nI k + 2 = nI (k + 2) from nI_add k 2]; exact vp_in_nI (by omega) (by omega)
  have hv3 : vp_in (nI k + 3) L := by rw [show nI k + 3 = nI (k + 3) from nI_add k 3]; exact vp_in_nI (by omega) (by omega)
  have hv4 : vp_in (nI k + 4) L := by rw [show nI k + 4 = nI (k + 4) from nI_add k 4]; exact vp_in_nI (by omega) (by omega)
  have back : ∀ z : q_S × q_S, q_Rel z.1 z.2 → Z 18 [(0, gz_r 2), (1, gz_r 0), (2, gz_r 1), (3, gz_i (nI k + 5))] [] z := fun z hz => by rw [e5]; exact ih (k + 5) z hz (by omega) (by omega)
  refine And.intro hv0 ?_
  refine And.intro (fun _ => ?_) (fun _ => ?_)
  · refine And.intro hv1 ?_
    refine And.intro (rel_record hR (xs (Int32.toNatClampNeg ((nI k) + 1)))).1 ?_
    refine And.intro hv1 ?_
    refine And.intro (rel_record hR (xs (Int32.toNatClampNeg ((nI k) + 1)))).2.1 ?_
    refine And.intro (fun _ => ?_) (fun h => absurd (rel_record hR (xs (Int32.toNatClampNeg ((nI k) + 1)))).2.2.1 h)
    exact back _ (rel_record hR (xs (Int32.toNatClampNeg ((nI k) + 1)))).2.2.2
  refine And.intro (fun _ => ?_) (fun _ => ?_)
  · refine And.intro hv1 ?_
    refine And.intro hv2 ?_
    refine And.intro (rel_copy hR (xs (Int32.toNatClampNeg ((nI k) + 1))) (xs (Int32.toNatClampNeg ((nI k) + 2)))).1 ?_
    refine And.intro hv1 ?_
    refine And.intro hv2 ?_
    refine And.intro (rel_copy hR (xs (Int32.toNatClampNeg ((nI k) + 1))) (xs (Int32.toNatClampNeg ((nI k) + 2)))).2.1 ?_
    exact back _ (rel_copy hR (xs (Int32.toNatClampNeg ((nI k) + 1))) (xs (Int32.toNatClampNeg ((nI k) + 2)))).2.2.2
  refine And.intro (fun _ => ?_) (fun _ => ?_)
  · refine And.intro hv1 ?_
    refine And.intro hv2 ?_
    refine And.intro (fun (hz183 : (xs (Int32.toNatClampNeg ((nI k) + 2))) = 0) => ?_) (fun (hz183 : ¬ (xs (Int32.toNatClampNeg ((nI k) + 2))) = 0) => ?_)
    · refine And.intro (rel_bar hR (xs (Int32.toNatClampNeg ((nI k) + 1))) 0).1 ?_
      refine And.intro hv1 ?_
      refine And.intro hv2 ?_
      refine And.intro (fun _ => ?_) (fun (h : ¬ (xs (Int32.toNatClampNeg ((nI k) + 2))) = 0) => absurd hz183 h)
      refine And.intro (rel_bar hR (xs (Int32.toNatClampNeg ((nI k) + 1))) 0).2.1 ?_
      exact back _ (rel_bar hR (xs (Int32.toNatClampNeg ((nI k) + 1))) 0).2.2.2
    · refine And.intro (rel_bar hR (xs (Int32.toNatClampNeg ((nI k) + 1))) 1).1 ?_
      refine And.intro hv1 ?_
      refine And.intro hv2 ?_
      refine And.intro (fun (h : (xs (Int32.toNatClampNeg ((nI k) + 2))) = 0) => absurd h hz183) (fun _ => ?_)
      refine And.intro (rel_bar hR (xs (Int32.toNatClampNeg ((nI k) + 1))) 1).2.1 ?_
      exact back _ (rel_bar hR (xs (Int32.toNatClampNeg ((nI k) + 1))) 1).2.2.2
  refine And.intro (fun _ => ?_) (fun _ => ?_)
  · refine And.intro hv1 ?_
    refine And.intro hv2 ?_
    refine And.intro hv3 ?_
    refine And.intro hv4 ?_
    refine And.intro (rel_hold hR (xs (Int32.toNatClampNeg ((nI k) + 1))) (xs (Int32.toNatClampNeg ((nI k) + 2))) (xs (Int32.toNatClampNeg ((nI k) + 3))) (xs (Int32.toNatClampNeg ((nI k) + 4)))).1 ?_
    refine And.intro hv1 ?_
    refine And.intro hv2 ?_
    refine And.intro hv3 ?_
    refine And.intro hv4 ?_
    refine And.intro (rel_hold hR (xs (Int32.toNatClampNeg ((nI k) + 1))) (xs (Int32.toNatClampNeg ((nI k) + 2))) (xs (Int32.toNatClampNeg ((nI k) + 3))) (xs (Int32.toNatClampNeg ((nI k) + 4)))).2.1 ?_
    exact back _ (rel_hold hR (xs (Int32.toNatClampNeg ((nI k) + 1))) (xs (Int32.toNatClampNeg ((nI k) + 2))) (xs (Int32.toNatClampNeg ((nI k) + 3))) (xs (Int32.toNatClampNeg ((nI k) + 4)))).2.2.2
  refine And.intro (fun _ => ?_) (fun _ => ?_)
  · refine And.intro hv1 ?_
    refine And.intro hv2 ?_
    refine And.intro (rel_most hR (xs (Int32.toNatClampNeg ((nI k) + 1))) (xs (Int32.toNatClampNeg ((nI k) + 2)))).1 ?_
    refine And.intro hv1 ?_
    refine And.intro hv2 ?_
    refine And.intro (rel_most hR (xs (Int32.toNatClampNeg ((nI k) + 1))) (xs (Int32.toNatClampNeg ((nI k) + 2)))).2.1 ?_
    exact back _ (rel_most hR (xs (Int32.toNatClampNeg ((nI k) + 1))) (xs (Int32.toNatClampNeg ((nI k) + 2)))).2.2.2
  refine And.intro (fun _ => ?_) (fun _ => ?_)
  · refine And.intro hv1 ?_
    refine And.intro hv2 ?_
    refine And.intro hv3 ?_
    refine And.intro (rel_suspend hR (xs (Int32.toNatClampNeg ((nI k) + 1))) (((Int32.toInt64 (xs (Int32.toNatClampNeg ((nI k) + 2)))) <<< (Int32.toInt64 32 &&& 63)) ||| ((Int32.toInt64 (xs (Int32.toNatClampNeg ((nI k) + 3)))) &&& 4294967295))).1 ?_
    refine And.intro hv1 ?_
    refine And.intro hv2 ?_
    refine And.intro hv3 ?_
    refine And.intro (rel_suspend hR (xs (Int32.toNatClampNeg ((nI k) + 1))) (((Int32.toInt64 (xs (Int32.toNatClampNeg ((nI k) + 2)))) <<< (Int32.toInt64 32 &&& 63)) ||| ((Int32.toInt64 (xs (Int32.toNatClampNeg ((nI k) + 3)))) &&& 4294967295))).2.1 ?_
    exact back _ (rel_suspend hR (xs (Int32.toNatClampNeg ((nI k) + 1))) (((Int32.toInt64 (xs (Int32.toNatClampNeg ((nI k) + 2)))) <<< (Int32.toInt64 32 &&& 63)) ||| ((Int32.toInt64 (xs (Int32.toNatClampNeg ((nI k) + 3)))) &&& 4294967295))).2.2.2
  refine And.intro (fun _ => ?_) (fun _ => ?_)
  · refine And.intro hv1 ?_
    refine And.intro hv2 ?_
    refine And.intro (rel_back hR (xs (Int32.toNatClampNeg ((nI k) + 1))) (xs (Int32.toNatClampNeg ((nI k) + 2)))).1 ?_
    refine And.intro hv1 ?_
    refine And.intro hv2 ?_
    refine And.intro (rel_back hR (xs (Int32.toNatClampNeg ((nI k) + 1))) (xs (Int32.toNatClampNeg ((nI k) + 2)))).2.1 ?_
    exact back _ (rel_back hR (xs (Int32.toNatClampNeg ((nI k) + 1))) (xs (Int32.toNatClampNeg ((nI k) + 2)))).2.2.2
  refine And.intro (fun _ => ?_) (fun _ => ?_)
  · refine And.intro hv1 ?_
    refine And.intro (rel_arrive hR (xs (Int32.toNatClampNeg ((nI k) + 1)))).1 ?_
    refine And.intro hv1 ?_
    refine And.intro (rel_arrive hR (xs (Int32.toNatClampNeg ((nI k) + 1)))).2.1 ?_
    exact back _ (rel_arrive hR (xs (Int32.toNatClampNeg ((nI k) + 1)))).2.2.2
  refine And.intro (fun _ => ?_) (fun _ => ?_)
  · refine And.intro hv1 ?_
    refine And.intro (rel_pick hR (xs (Int32.toNatClampNeg ((nI k) + 1)))).1 ?_
    refine And.intro hv1 ?_
    refine And.intro (rel_pick hR (xs (Int32.toNatClampNeg ((nI k) + 1)))).2.1 ?_
    exact back _ (rel_pick hR (xs (Int32.toNatClampNeg ((nI k) + 1)))).2.2.2
  refine And.intro (fun _ => ?_) (fun _ => ?_)
  · refine And.intro hv1 ?_
    refine And.intro (rel_lend hR (xs (Int32.toNatClampNeg ((nI k) + 1)))).1 ?_
    refine And.intro hv1 ?_
    refine And.intro (rel_lend hR (xs (Int32.toNatClampNeg ((nI k) + 1)))).2.1 ?_
    exact back _ (rel_lend hR (xs (Int32.toNatClampNeg ((nI k) + 1)))).2.2.2
  refine And.intro (fun _ => ?_) (fun _ => ?_)
  · refine And.intro hv1 ?_
    refine And.intro (rel_cancel hR (xs (Int32.toNatClampNeg ((nI k) + 1)))).1 ?_
    refine And.intro hv1 ?_
    refine And.intro (rel_cancel hR (xs (Int32.toNatClampNeg ((nI k) + 1)))).2.1 ?_
    exact back _ (rel_cancel hR (xs (Int32.toNatClampNeg ((nI k) + 1)))).2.2.2
  refine And.intro (fun _ => ?_) (fun _ => ?_)
  · refine And.intro hv1 ?_
    refine And.intro hv2 ?_
    refine And.intro (rel_tick hR (((Int32.toInt64 (xs (Int32.toNatClampNeg ((nI k) + 1)))) <<< (Int32.toInt64 32 &&& 63)) ||| ((Int32.toInt64 (xs (Int32.toNatClampNeg ((nI k) + 2)))) &&& 4294967295))).1 ?_
    refine And.intro hv1 ?_
    refine And.intro hv2 ?_
    refine And.intro (rel_tick hR (((Int32.toInt64 (xs (Int32.toNatClampNeg ((nI k) + 1)))) <<< (Int32.toInt64 32 &&& 63)) ||| ((Int32.toInt64 (xs (Int32.toNatClampNeg ((nI k) + 2)))) &&& 4294967295))).2.1 ?_
    exact back _ (rel_tick hR (((Int32.toInt64 (xs (Int32.toNatClampNeg ((nI k) + 1)))) <<< (Int32.toInt64 32 &&& 63)) ||| ((Int32.toInt64 (xs (Int32.toNatClampNeg ((nI k) + 2)))) &&& 4294967295))).2.2.2
  refine And.intro (fun _ => ?_) (fun _ => ?_)
  · refine And.intro hv1 ?_
    refine And.intro (rel_span hR (xs (Int32.toNatClampNeg ((nI k) + 1)))).1 ?_
    refine And.intro hv1 ?_
    refine And.intro (rel_span hR (xs (Int32.toNatClampNeg ((nI k) + 1)))).2.1 ?_
    exact back _ (rel_span hR (xs (Int32.toNatClampNeg ((nI k) + 1)))).2.2.2
  refine And.intro (fun _ => ?_) (fun _ => ?_)
  · refine And.intro hv1 ?_
    refine And.intro hv2 ?_
    refine And.intro (rel_rank hR (xs (Int32.toNatClampNeg ((nI k) + 1))) (xs (Int32.toNatClampNeg ((nI k) + 2)))).1 ?_
    refine And.intro hv1 ?_
    refine And.intro hv2 ?_
    refine And.intro (rel_rank hR (xs (Int32.toNatClampNeg ((nI k) + 1))) (xs (Int32.toNatClampNeg ((nI k) + 2)))).2.1 ?_
    exact back _ (rel_rank hR (xs (Int32.toNatClampNeg ((nI k) + 1))) (xs (Int32.toNatClampNeg ((nI k) + 2)))).2.2.2
  refine And.intro (fun _ => ?_) (fun _ => ?_)
  · refine And.intro hv1 ?_
    refine And.intro hv2 ?_
    refine And.intro (rel_order hR (xs (Int32.toNatClampNeg ((nI k) + 1))) (xs (Int32.toNatClampNeg ((nI k) + 2)))).1 ?_
    refine And.intro hv1 ?_
    refine And.intro hv2 ?_
    refine And.intro (rel_order hR (xs (Int32.toNatClampNeg ((nI k) + 1))) (xs (Int32.toNatClampNeg ((nI k) + 2)))).2.1 ?_
    exact back _ (rel_order hR (xs (Int32.toNatClampNeg ((nI k) + 1))) (xs (Int32.toNatClampNeg ((nI k) + 2)))).2.2.2
  refine And.intro (fun _ => ?_) (fun _ => ?_)
  · refine And.intro hv1 ?_
    refine And.intro hv2 ?_
    refine And.intro (rel_state hR (xs (Int32.toNatClampNeg ((nI k) + 1))) (xs (Int32.toNatClampNeg ((nI k) + 2)))).1 ?_
    refine And.intro hv1 ?_
    refine And.intro hv2 ?_
    refine And.intro (rel_state hR (xs (Int32.toNatClampNeg ((nI k) + 1))) (xs (Int32.toNatClampNeg ((nI k) + 2)))).2.1 ?_
    exact back _ (rel_state hR (xs (Int32.toNatClampNeg ((nI k) + 1))) (xs (Int32.toNatClampNeg ((nI k) + 2)))).2.2.2
  refine And.intro (fun _ => ?_) (fun _ => ?_)
  · refine And.intro hv1 ?_
    refine And.intro hv2 ?_
    refine And.intro (rel_where hR (xs (Int32.toNatClampNeg ((nI k) + 1))) (xs (Int32.toNatClampNeg ((nI k) + 2)))).1 ?_
    refine And.intro hv1 ?_
    refine And.intro hv2 ?_
    refine And.intro (rel_where hR (xs (Int32.toNatClampNeg ((nI k) + 1))) (xs (Int32.toNatClampNeg ((nI k) + 2)))).2.1 ?_
    exact back _ (rel_where hR (xs (Int32.toNatClampNeg ((nI k) + 1))) (xs (Int32.toNatClampNeg ((nI k) + 2)))).2.2.2
  exact back u hR
end
section
def R_HoldQueue : String := "HoldQueue"
def T_HoldQueue : u_T := fun k => match k with
  | 0 => ("HoldQueue", "kindOfRecord", "[I", true)
  | 1 => ("HoldQueue", "recordCount", "I", false)
  | 2 => ("HoldQueue", "barredKind", "[Z", true)
  | 3 => ("HoldQueue", "mostOfPerson", "[I", true)
  | 4 => ("HoldQueue", "copies", "LHoldQueue$Copies;", true)
  | 5 => ("HoldQueue", "holds", "LHoldQueue$Holds;", true)
  | 6 => ("HoldQueue", "today", "J", false)
  | _ => ("HoldQueue", "spanDays", "I", false)
def ty_HoldQueue : Nat → FieldType := fun k => match k with
  | 0 => .array .int
  | 1 => .int
  | 2 => .array .boolean
  | 3 => .array .int
  | 4 => .object "HoldQueue$Copies"
  | 5 => .object "HoldQueue$Holds"
  | 6 => .long
  | _ => .int
theorem nm_HoldQueue : ∀ a, a < 8 → ∀ b, b < 8 → a ≠ b → (T_HoldQueue a).2.1 ≠ (T_HoldQueue b).2.1 := by decide +kernel
theorem ty_HoldQueue_ok : ∀ k, k < 8 → parseFieldDescriptor (T_HoldQueue k).2.2.1 = some (ty_HoldQueue k) := by decide +kernel
def R_HoldQueue_Copies : String := "HoldQueue$Copies"
def T_HoldQueue_Copies : u_T := fun k => match k with
  | 0 => ("HoldQueue$Copies", "count", "I", false)
  | 1 => ("HoldQueue$Copies", "recordOf", "[I", true)
  | 2 => ("HoldQueue$Copies", "placeOf", "[I", true)
  | 3 => ("HoldQueue$Copies", "stateOf", "[I", true)
  | _ => ("HoldQueue$Copies", "holdOf", "[I", true)
def ty_HoldQueue_Copies : Nat → FieldType := fun k => match k with
  | 0 => .int
  | 1 => .array .int
  | 2 => .array .int
  | 3 => .array .int
  | _ => .array .int
theorem nm_HoldQueue_Copies : ∀ a, a < 5 → ∀ b, b < 5 → a ≠ b → (T_HoldQueue_Copies a).2.1 ≠ (T_HoldQueue_Copies b).2.1 := by decide +kernel
theorem ty_HoldQueue_Copies_ok : ∀ k, k < 5 → parseFieldDescriptor (T_HoldQueue_Copies k).2.2.1 = some (ty_HoldQueue_Copies k) := by decide +kernel
def R_HoldQueue_Holds : String := "HoldQueue$Holds"
def T_HoldQueue_Holds : u_T := fun k => match k with
  | 0 => ("HoldQueue$Holds", "count", "I", false)
  | 1 => ("HoldQueue$Holds", "personOf", "[I", true)
  | 2 => ("HoldQueue$Holds", "recordOf", "[I", true)
  | 3 => ("HoldQueue$Holds", "placeOf", "[I", true)
  | 4 => ("HoldQueue$Holds", "rankOf", "[I", true)
  | 5 => ("HoldQueue$Holds", "stateOf", "[I", true)
  | 6 => ("HoldQueue$Holds", "copyOf", "[I", true)
  | 7 => ("HoldQueue$Holds", "suspendedUntil", "[J", true)
  | _ => ("HoldQueue$Holds", "endOf", "[J", true)
def ty_HoldQueue_Holds : Nat → FieldType := fun k => match k with
  | 0 => .int
  | 1 => .array .int
  | 2 => .array .int
  | 3 => .array .int
  | 4 => .array .int
  | 5 => .array .int
  | 6 => .array .int
  | 7 => .array .long
  | _ => .array .long
theorem nm_HoldQueue_Holds : ∀ a, a < 9 → ∀ b, b < 9 → a ≠ b → (T_HoldQueue_Holds a).2.1 ≠ (T_HoldQueue_Holds b).2.1 := by decide +kernel
theorem ty_HoldQueue_Holds_ok : ∀ k, k < 9 → parseFieldDescriptor (T_HoldQueue_Holds k).2.2.1 = some (ty_HoldQueue_Holds k) := by decide +kernel
def R_HoldQueueModel : String := "HoldQueueModel"
def T_HoldQueueModel : u_T := fun k => match k with
  | 0 => ("HoldQueueModel", "thrown", "I", false)
  | 1 => ("HoldQueueModel", "records", "I", false)
  | 2 => ("HoldQueueModel", "copies", "I", false)
  | 3 => ("HoldQueueModel", "holds", "I", false)
  | 4 => ("HoldQueueModel", "kindOf", "[I", true)
  | 5 => ("HoldQueueModel", "barred", "[Z", true)
  | 6 => ("HoldQueueModel", "most", "[I", true)
  | 7 => ("HoldQueueModel", "today", "J", false)
  | 8 => ("HoldQueueModel", "span", "I", false)
  | 9 => ("HoldQueueModel", "recordOf", "[I", true)
  | 10 => ("HoldQueueModel", "copyState", "[I", true)
  | 11 => ("HoldQueueModel", "copyPlace", "[I", true)
  | 12 => ("HoldQueueModel", "copyHold", "[I", true)
  | 13 => ("HoldQueueModel", "person", "[I", true)
  | 14 => ("HoldQueueModel", "record", "[I", true)
  | 15 => ("HoldQueueModel", "place", "[I", true)
  | 16 => ("HoldQueueModel", "rank", "[I", true)
  | 17 => ("HoldQueueModel", "status", "[I", true)
  | 18 => ("HoldQueueModel", "copy", "[I", true)
  | 19 => ("HoldQueueModel", "until", "[J", true)
  | _ => ("HoldQueueModel", "end", "[J", true)
def ty_HoldQueueModel : Nat → FieldType := fun k => match k with
  | 0 => .int
  | 1 => .int
  | 2 => .int
  | 3 => .int
  | 4 => .array .int
  | 5 => .array .boolean
  | 6 => .array .int
  | 7 => .long
  | 8 => .int
  | 9 => .array .int
  | 10 => .array .int
  | 11 => .array .int
  | 12 => .array .int
  | 13 => .array .int
  | 14 => .array .int
  | 15 => .array .int
  | 16 => .array .int
  | 17 => .array .int
  | 18 => .array .int
  | 19 => .array .long
  | _ => .array .long
theorem nm_HoldQueueModel : ∀ a, a < 21 → ∀ b, b < 21 → a ≠ b → (T_HoldQueueModel a).2.1 ≠ (T_HoldQueueModel b).2.1 := by decide +kernel
theorem ty_HoldQueueModel_ok : ∀ k, k < 21 → parseFieldDescriptor (T_HoldQueueModel k).2.2.1 = some (ty_HoldQueueModel k) := by decide +kernel
def R_java_util_Arrays : String := "java/util/Arrays"
def R_HoldQueueLaw : String := "HoldQueueLaw"
abbrev c_HoldQueue_init : ByteArray := prog_1_method_1_code
def y_HoldQueue_init : MethodName := ⟨R_HoldQueue, "<init>", "()V"⟩
abbrev c_HoldQueue_record : ByteArray := prog_1_method_2_code
def y_HoldQueue_record : MethodName := ⟨R_HoldQueue, "record", "(I)I"⟩
abbrev c_HoldQueue_copy : ByteArray := prog_1_method_3_code
def y_HoldQueue_copy : MethodName := ⟨R_HoldQueue, "copy", "(II)I"⟩
abbrev c_HoldQueue_bar : ByteArray := prog_1_method_4_code
def y_HoldQueue_bar : MethodName := ⟨R_HoldQueue, "bar", "(IZ)Z"⟩
abbrev c_HoldQueue_hold : ByteArray := prog_1_method_5_code
def y_HoldQueue_hold : MethodName := ⟨R_HoldQueue, "hold", "(IIII)I"⟩
abbrev c_HoldQueue_most : ByteArray := prog_1_method_6_code
def y_HoldQueue_most : MethodName := ⟨R_HoldQueue, "most", "(II)I"⟩
abbrev c_HoldQueue_suspend : ByteArray := prog_1_method_7_code
def y_HoldQueue_suspend : MethodName := ⟨R_HoldQueue, "suspend", "(IJ)I"⟩
abbrev c_HoldQueue_back : ByteArray := prog_1_method_8_code
def y_HoldQueue_back : MethodName := ⟨R_HoldQueue, "back", "(II)I"⟩
abbrev c_HoldQueue_arrive : ByteArray := prog_1_method_9_code
def y_HoldQueue_arrive : MethodName := ⟨R_HoldQueue, "arrive", "(I)I"⟩
abbrev c_HoldQueue_pick : ByteArray := prog_1_method_10_code
def y_HoldQueue_pick : MethodName := ⟨R_HoldQueue, "pick", "(I)I"⟩
abbrev c_HoldQueue_lend : ByteArray := prog_1_method_11_code
def y_HoldQueue_lend : MethodName := ⟨R_HoldQueue, "lend", "(I)I"⟩
abbrev c_HoldQueue_cancel : ByteArray := prog_1_method_12_code
def y_HoldQueue_cancel : MethodName := ⟨R_HoldQueue, "cancel", "(I)I"⟩
abbrev c_HoldQueue_tick : ByteArray := prog_1_method_13_code
def y_HoldQueue_tick : MethodName := ⟨R_HoldQueue, "tick", "(J)I"⟩
abbrev c_HoldQueue_span : ByteArray := prog_1_method_14_code
def y_HoldQueue_span : MethodName := ⟨R_HoldQueue, "span", "(I)I"⟩
abbrev c_HoldQueue_rank : ByteArray := prog_1_method_15_code
def y_HoldQueue_rank : MethodName := ⟨R_HoldQueue, "rank", "(II)I"⟩
abbrev c_HoldQueue_order : ByteArray := prog_1_method_16_code
def y_HoldQueue_order : MethodName := ⟨R_HoldQueue, "order", "(II)I"⟩
abbrev c_HoldQueue_state : ByteArray := prog_1_method_17_code
def y_HoldQueue_state : MethodName := ⟨R_HoldQueue, "state", "(II)I"⟩
abbrev c_HoldQueue_where : ByteArray := prog_1_method_18_code
def y_HoldQueue_where : MethodName := ⟨R_HoldQueue, "where", "(II)I"⟩
abbrev c_HoldQueue_isKind : ByteArray := prog_1_method_19_code
def y_HoldQueue_isKind : MethodName := ⟨R_HoldQueue, "isKind", "(I)Z"⟩
abbrev c_HoldQueue_isPerson : ByteArray := prog_1_method_20_code
def y_HoldQueue_isPerson : MethodName := ⟨R_HoldQueue, "isPerson", "(I)Z"⟩
abbrev c_HoldQueue_isPlace : ByteArray := prog_1_method_21_code
def y_HoldQueue_isPlace : MethodName := ⟨R_HoldQueue, "isPlace", "(I)Z"⟩
abbrev c_HoldQueue_isRecord : ByteArray := prog_1_method_22_code
def y_HoldQueue_isRecord : MethodName := ⟨R_HoldQueue, "isRecord", "(I)Z"⟩
abbrev c_HoldQueue_settle : ByteArray := prog_1_method_23_code
def y_HoldQueue_settle : MethodName := ⟨R_HoldQueue, "settle", "(I)I"⟩
abbrev c_HoldQueue_layReady : ByteArray := prog_1_method_24_code
def y_HoldQueue_layReady : MethodName := ⟨R_HoldQueue, "layReady", "(II)V"⟩
abbrev c_HoldQueue_send : ByteArray := prog_1_method_25_code
def y_HoldQueue_send : MethodName := ⟨R_HoldQueue, "send", "(II)V"⟩
abbrev c_HoldQueue_untie : ByteArray := prog_1_method_26_code
def y_HoldQueue_untie : MethodName := ⟨R_HoldQueue, "untie", "(II)V"⟩
abbrev c_HoldQueue_letGo : ByteArray := prog_1_method_27_code
def y_HoldQueue_letGo : MethodName := ⟨R_HoldQueue, "letGo", "(I)V"⟩
abbrev c_HoldQueue_Copies_init : ByteArray := prog_2_method_1_code
def y_HoldQueue_Copies_init : MethodName := ⟨R_HoldQueue_Copies, "<init>", "()V"⟩
abbrev c_HoldQueue_Copies_has : ByteArray := prog_2_method_2_code
def y_HoldQueue_Copies_has : MethodName := ⟨R_HoldQueue_Copies, "has", "(I)Z"⟩
abbrev c_HoldQueue_Copies_isIn : ByteArray := prog_2_method_3_code
def y_HoldQueue_Copies_isIn : MethodName := ⟨R_HoldQueue_Copies, "isIn", "(II)Z"⟩
abbrev c_HoldQueue_Copies_areFull : ByteArray := prog_2_method_4_code
def y_HoldQueue_Copies_areFull : MethodName := ⟨R_HoldQueue_Copies, "areFull", "()Z"⟩
abbrev c_HoldQueue_Copies_add : ByteArray := prog_2_method_5_code
def y_HoldQueue_Copies_add : MethodName := ⟨R_HoldQueue_Copies, "add", "(II)I"⟩
abbrev c_HoldQueue_Copies_leastFree : ByteArray := prog_2_method_6_code
def y_HoldQueue_Copies_leastFree : MethodName := ⟨R_HoldQueue_Copies, "leastFree", "(I)I"⟩
abbrev c_HoldQueue_Holds_init : ByteArray := prog_3_method_1_code
def y_HoldQueue_Holds_init : MethodName := ⟨R_HoldQueue_Holds, "<init>", "()V"⟩
abbrev c_HoldQueue_Holds_has : ByteArray := prog_3_method_2_code
def y_HoldQueue_Holds_has : MethodName := ⟨R_HoldQueue_Holds, "has", "(I)Z"⟩
abbrev c_HoldQueue_Holds_isIn : ByteArray := prog_3_method_3_code
def y_HoldQueue_Holds_isIn : MethodName := ⟨R_HoldQueue_Holds, "isIn", "(II)Z"⟩
abbrev c_HoldQueue_Holds_isOpen : ByteArray := prog_3_method_4_code
def y_HoldQueue_Holds_isOpen : MethodName := ⟨R_HoldQueue_Holds, "isOpen", "(I)Z"⟩
abbrev c_HoldQueue_Holds_areFull : ByteArray := prog_3_method_5_code
def y_HoldQueue_Holds_areFull : MethodName := ⟨R_HoldQueue_Holds, "areFull", "()Z"⟩
abbrev c_HoldQueue_Holds_add : ByteArray := prog_3_method_6_code
def y_HoldQueue_Holds_add : MethodName := ⟨R_HoldQueue_Holds, "add", "(IIII)I"⟩
abbrev c_HoldQueue_Holds_countOpen : ByteArray := prog_3_method_7_code
def y_HoldQueue_Holds_countOpen : MethodName := ⟨R_HoldQueue_Holds, "countOpen", "(I)I"⟩
abbrev c_HoldQueue_Holds_hasOpen : ByteArray := prog_3_method_8_code
def y_HoldQueue_Holds_hasOpen : MethodName := ⟨R_HoldQueue_Holds, "hasOpen", "(II)Z"⟩
abbrev c_HoldQueue_Holds_isQueued : ByteArray := prog_3_method_9_code
def y_HoldQueue_Holds_isQueued : MethodName := ⟨R_HoldQueue_Holds, "isQueued", "(II)Z"⟩
abbrev c_HoldQueue_Holds_comesBefore : ByteArray := prog_3_method_10_code
def y_HoldQueue_Holds_comesBefore : MethodName := ⟨R_HoldQueue_Holds, "comesBefore", "(II)Z"⟩
abbrev c_HoldQueue_Holds_firstFitting : ByteArray := prog_3_method_11_code
def y_HoldQueue_Holds_firstFitting : MethodName := ⟨R_HoldQueue_Holds, "firstFitting", "(IJ)I"⟩
abbrev c_HoldQueue_Holds_placeInQueue : ByteArray := prog_3_method_12_code
def y_HoldQueue_Holds_placeInQueue : MethodName := ⟨R_HoldQueue_Holds, "placeInQueue", "(I)I"⟩
abbrev c_HoldQueue_Holds_atPlaceInQueue : ByteArray := prog_3_method_13_code
def y_HoldQueue_Holds_atPlaceInQueue : MethodName := ⟨R_HoldQueue_Holds, "atPlaceInQueue", "(II)I"⟩
abbrev c_HoldQueueModel_init : ByteArray := prog_5_method_1_code
def y_HoldQueueModel_init : MethodName := ⟨R_HoldQueueModel, "<init>", "()V"⟩
abbrev c_HoldQueueModel_in : ByteArray := prog_5_method_3_code
def y_HoldQueueModel_in : MethodName := ⟨R_HoldQueueModel, "in", "(III)Z"⟩
abbrev c_HoldQueueModel_record : ByteArray := prog_5_method_4_code
def y_HoldQueueModel_record : MethodName := ⟨R_HoldQueueModel, "record", "(I)I"⟩
abbrev c_HoldQueueModel_copy : ByteArray := prog_5_method_5_code
def y_HoldQueueModel_copy : MethodName := ⟨R_HoldQueueModel, "copy", "(II)I"⟩
abbrev c_HoldQueueModel_bar : ByteArray := prog_5_method_6_code
def y_HoldQueueModel_bar : MethodName := ⟨R_HoldQueueModel, "bar", "(IZ)Z"⟩
abbrev c_HoldQueueModel_isOpen : ByteArray := prog_5_method_7_code
def y_HoldQueueModel_isOpen : MethodName := ⟨R_HoldQueueModel, "isOpen", "(I)Z"⟩
abbrev c_HoldQueueModel_isAhead : ByteArray := prog_5_method_8_code
def y_HoldQueueModel_isAhead : MethodName := ⟨R_HoldQueueModel, "isAhead", "(II)Z"⟩
abbrev c_HoldQueueModel_placeOf : ByteArray := prog_5_method_9_code
def y_HoldQueueModel_placeOf : MethodName := ⟨R_HoldQueueModel, "placeOf", "(I)I"⟩
abbrev c_HoldQueueModel_fits : ByteArray := prog_5_method_10_code
def y_HoldQueueModel_fits : MethodName := ⟨R_HoldQueueModel, "fits", "(I)I"⟩
abbrev c_HoldQueueModel_lies : ByteArray := prog_5_method_11_code
def y_HoldQueueModel_lies : MethodName := ⟨R_HoldQueueModel, "lies", "(II)V"⟩
abbrev c_HoldQueueModel_goes : ByteArray := prog_5_method_12_code
def y_HoldQueueModel_goes : MethodName := ⟨R_HoldQueueModel, "goes", "(I)I"⟩
abbrev c_HoldQueueModel_hold : ByteArray := prog_5_method_13_code
def y_HoldQueueModel_hold : MethodName := ⟨R_HoldQueueModel, "hold", "(IIII)I"⟩
abbrev c_HoldQueueModel_most : ByteArray := prog_5_method_14_code
def y_HoldQueueModel_most : MethodName := ⟨R_HoldQueueModel, "most", "(II)I"⟩
abbrev c_HoldQueueModel_isHold : ByteArray := prog_5_method_15_code
def y_HoldQueueModel_isHold : MethodName := ⟨R_HoldQueueModel, "isHold", "(I)Z"⟩
abbrev c_HoldQueueModel_isWaiting : ByteArray := prog_5_method_16_code
def y_HoldQueueModel_isWaiting : MethodName := ⟨R_HoldQueueModel, "isWaiting", "(I)Z"⟩
abbrev c_HoldQueueModel_suspend : ByteArray := prog_5_method_17_code
def y_HoldQueueModel_suspend : MethodName := ⟨R_HoldQueueModel, "suspend", "(IJ)I"⟩
abbrev c_HoldQueueModel_isCopy : ByteArray := prog_5_method_18_code
def y_HoldQueueModel_isCopy : MethodName := ⟨R_HoldQueueModel, "isCopy", "(II)Z"⟩
abbrev c_HoldQueueModel_back : ByteArray := prog_5_method_19_code
def y_HoldQueueModel_back : MethodName := ⟨R_HoldQueueModel, "back", "(II)I"⟩
abbrev c_HoldQueueModel_arrive : ByteArray := prog_5_method_20_code
def y_HoldQueueModel_arrive : MethodName := ⟨R_HoldQueueModel, "arrive", "(I)I"⟩
abbrev c_HoldQueueModel_pick : ByteArray := prog_5_method_21_code
def y_HoldQueueModel_pick : MethodName := ⟨R_HoldQueueModel, "pick", "(I)I"⟩
abbrev c_HoldQueueModel_lend : ByteArray := prog_5_method_22_code
def y_HoldQueueModel_lend : MethodName := ⟨R_HoldQueueModel, "lend", "(I)I"⟩
abbrev c_HoldQueueModel_ends : ByteArray := prog_5_method_23_code
def y_HoldQueueModel_ends : MethodName := ⟨R_HoldQueueModel, "ends", "(II)V"⟩
abbrev c_HoldQueueModel_cancel : ByteArray := prog_5_method_24_code
def y_HoldQueueModel_cancel : MethodName := ⟨R_HoldQueueModel, "cancel", "(I)I"⟩
abbrev c_HoldQueueModel_tick : ByteArray := prog_5_method_25_code
def y_HoldQueueModel_tick : MethodName := ⟨R_HoldQueueModel, "tick", "(J)I"⟩
abbrev c_HoldQueueModel_span : ByteArray := prog_5_method_26_code
def y_HoldQueueModel_span : MethodName := ⟨R_HoldQueueModel, "span", "(I)I"⟩
abbrev c_HoldQueueModel_rank : ByteArray := prog_5_method_27_code
def y_HoldQueueModel_rank : MethodName := ⟨R_HoldQueueModel, "rank", "(II)I"⟩
abbrev c_HoldQueueModel_order : ByteArray := prog_5_method_28_code
def y_HoldQueueModel_order : MethodName := ⟨R_HoldQueueModel, "order", "(II)I"⟩
abbrev c_HoldQueueModel_state : ByteArray := prog_5_method_29_code
def y_HoldQueueModel_state : MethodName := ⟨R_HoldQueueModel, "state", "(II)I"⟩
abbrev c_HoldQueueModel_where : ByteArray := prog_5_method_30_code
def y_HoldQueueModel_where : MethodName := ⟨R_HoldQueueModel, "where", "(II)I"⟩
abbrev c_java_util_Arrays_fill : ByteArray := prog_6_method_103_code
def y_java_util_Arrays_fill : MethodName := ⟨R_java_util_Arrays, "fill", "([II)V"⟩
abbrev c_HoldQueueLaw_law : ByteArray := code
def y_HoldQueueLaw_law : MethodName := ⟨R_HoldQueueLaw, "law", "([I)Z"⟩
end
section
theorem d_HoldQueue_init_0 : decode c_HoldQueue_init 0 = .ok (.aload_n 0, 1) := by decide +kernel
theorem d_HoldQueue_init_1 : decode c_HoldQueue_init 1 = .ok (.invokespecial 1, 3) := by decide +kernel
theorem d_HoldQueue_init_4 : decode c_HoldQueue_init 4 = .ok (.aload_n 0, 1) := by decide +kernel
theorem d_HoldQueue_init_5 : decode c_HoldQueue_init 5 = .ok (.bipush 31, 2) := by decide +kernel
theorem d_HoldQueue_init_7 : decode c_HoldQueue_init 7 = .ok (.newarray .int, 2) := by decide +kernel
theorem d_HoldQueue_init_9 : decode c_HoldQueue_init 9 = .ok (.putfield 9, 3) := by decide +kernel
theorem d_HoldQueue_init_12 : decode c_HoldQueue_init 12 = .ok (.aload_n 0, 1) := by decide +kernel
theorem d_HoldQueue_init_13 : decode c_HoldQueue_init 13 = .ok (.iconst 0, 1) := by decide +kernel
theorem d_HoldQueue_init_14 : decode c_HoldQueue_init 14 = .ok (.putfield 13, 3) := by decide +kernel
theorem d_HoldQueue_init_17 : decode c_HoldQueue_init 17 = .ok (.aload_n 0, 1) := by decide +kernel
theorem d_HoldQueue_init_18 : decode c_HoldQueue_init 18 = .ok (.iconst 4, 1) := by decide +kernel
theorem d_HoldQueue_init_19 : decode c_HoldQueue_init 19 = .ok (.newarray .boolean, 2) := by decide +kernel
theorem d_HoldQueue_init_21 : decode c_HoldQueue_init 21 = .ok (.putfield 17, 3) := by decide +kernel
theorem d_HoldQueue_init_24 : decode c_HoldQueue_init 24 = .ok (.aload_n 0, 1) := by decide +kernel
theorem d_HoldQueue_init_25 : decode c_HoldQueue_init 25 = .ok (.bipush 40, 2) := by decide +kernel
theorem d_HoldQueue_init_27 : decode c_HoldQueue_init 27 = .ok (.newarray .int, 2) := by decide +kernel
theorem d_HoldQueue_init_29 : decode c_HoldQueue_init 29 = .ok (.putfield 21, 3) := by decide +kernel
theorem d_HoldQueue_init_32 : decode c_HoldQueue_init 32 = .ok (.aload_n 0, 1) := by decide +kernel
theorem d_HoldQueue_init_33 : decode c_HoldQueue_init 33 = .ok (.new 24, 3) := by decide +kernel
theorem d_HoldQueue_init_36 : decode c_HoldQueue_init 36 = .ok (.dup, 1) := by decide +kernel
theorem d_HoldQueue_init_37 : decode c_HoldQueue_init 37 = .ok (.invokespecial 26, 3) := by decide +kernel
theorem d_HoldQueue_init_40 : decode c_HoldQueue_init 40 = .ok (.putfield 27, 3) := by decide +kernel
theorem d_HoldQueue_init_43 : decode c_HoldQueue_init 43 = .ok (.aload_n 0, 1) := by decide +kernel
theorem d_HoldQueue_init_44 : decode c_HoldQueue_init 44 = .ok (.new 31, 3) := by decide +kernel
theorem d_HoldQueue_init_47 : decode c_HoldQueue_init 47 = .ok (.dup, 1) := by decide +kernel
theorem d_HoldQueue_init_48 : decode c_HoldQueue_init 48 = .ok (.invokespecial 33, 3) := by decide +kernel
theorem d_HoldQueue_init_51 : decode c_HoldQueue_init 51 = .ok (.putfield 34, 3) := by decide +kernel
theorem d_HoldQueue_init_54 : decode c_HoldQueue_init 54 = .ok (.aload_n 0, 1) := by decide +kernel
theorem d_HoldQueue_init_55 : decode c_HoldQueue_init 55 = .ok (.lconst 0, 1) := by decide +kernel
theorem d_HoldQueue_init_56 : decode c_HoldQueue_init 56 = .ok (.putfield 38, 3) := by decide +kernel
theorem d_HoldQueue_init_59 : decode c_HoldQueue_init 59 = .ok (.aload_n 0, 1) := by decide +kernel
theorem d_HoldQueue_init_60 : decode c_HoldQueue_init 60 = .ok (.bipush 7, 2) := by decide +kernel
theorem d_HoldQueue_init_62 : decode c_HoldQueue_init 62 = .ok (.putfield 42, 3) := by decide +kernel
theorem d_HoldQueue_init_65 : decode c_HoldQueue_init 65 = .ok (.aload_n 0, 1) := by decide +kernel
theorem d_HoldQueue_init_66 : decode c_HoldQueue_init 66 = .ok (.getfield 21, 3) := by decide +kernel
theorem d_HoldQueue_init_69 : decode c_HoldQueue_init 69 = .ok (.iconst 3, 1) := by decide +kernel
theorem d_HoldQueue_init_70 : decode c_HoldQueue_init 70 = .ok (.invokestatic 45, 3) := by decide +kernel
theorem d_HoldQueue_init_73 : decode c_HoldQueue_init 73 = .ok (.return_, 1) := by decide +kernel
theorem d_HoldQueue_record_0 : decode c_HoldQueue_record 0 = .ok (.iload_n 1, 1) := by decide +kernel
theorem d_HoldQueue_record_1 : decode c_HoldQueue_record 1 = .ok (.invokestatic 51, 3) := by decide +kernel
theorem d_HoldQueue_record_4 : decode c_HoldQueue_record 4 = .ok (.ifCond .eq 12, 3) := by decide +kernel
theorem d_HoldQueue_record_7 : decode c_HoldQueue_record 7 = .ok (.aload_n 0, 1) := by decide +kernel
theorem d_HoldQueue_record_8 : decode c_HoldQueue_record 8 = .ok (.getfield 13, 3) := by decide +kernel
theorem d_HoldQueue_record_11 : decode c_HoldQueue_record 11 = .ok (.bipush 30, 2) := by decide +kernel
theorem d_HoldQueue_record_13 : decode c_HoldQueue_record 13 = .ok (.if_icmp .lt 5, 3) := by decide +kernel
theorem d_HoldQueue_record_16 : decode c_HoldQueue_record 16 = .ok (.iconst 0, 1) := by decide +kernel
theorem d_HoldQueue_record_17 : decode c_HoldQueue_record 17 = .ok (.ireturn, 1) := by decide +kernel
theorem d_HoldQueue_record_18 : decode c_HoldQueue_record 18 = .ok (.aload_n 0, 1) := by decide +kernel
theorem d_HoldQueue_record_19 : decode c_HoldQueue_record 19 = .ok (.dup, 1) := by decide +kernel
theorem d_HoldQueue_record_20 : decode c_HoldQueue_record 20 = .ok (.getfield 13, 3) := by decide +kernel
theorem d_HoldQueue_record_23 : decode c_HoldQueue_record 23 = .ok (.iconst 1, 1) := by decide +kernel
theorem d_HoldQueue_record_24 : decode c_HoldQueue_record 24 = .ok (.iadd, 1) := by decide +kernel
theorem d_HoldQueue_record_25 : decode c_HoldQueue_record 25 = .ok (.putfield 13, 3) := by decide +kernel
theorem d_HoldQueue_record_28 : decode c_HoldQueue_record 28 = .ok (.aload_n 0, 1) := by decide +kernel
theorem d_HoldQueue_record_29 : decode c_HoldQueue_record 29 = .ok (.getfield 9, 3) := by decide +kernel
theorem d_HoldQueue_record_32 : decode c_HoldQueue_record 32 = .ok (.aload_n 0, 1) := by decide +kernel
theorem d_HoldQueue_record_33 : decode c_HoldQueue_record 33 = .ok (.getfield 13, 3) := by decide +kernel
theorem d_HoldQueue_record_36 : decode c_HoldQueue_record 36 = .ok (.iload_n 1, 1) := by decide +kernel
theorem d_HoldQueue_record_37 : decode c_HoldQueue_record 37 = .ok (.iastore, 1) := by decide +kernel
theorem d_HoldQueue_record_38 : decode c_HoldQueue_record 38 = .ok (.aload_n 0, 1) := by decide +kernel
theorem d_HoldQueue_record_39 : decode c_HoldQueue_record 39 = .ok (.getfield 13, 3) := by decide +kernel
theorem d_HoldQueue_record_42 : decode c_HoldQueue_record 42 = .ok (.ireturn, 1) := by decide +kernel
theorem d_HoldQueue_copy_0 : decode c_HoldQueue_copy 0 = .ok (.aload_n 0, 1) := by decide +kernel
theorem d_HoldQueue_copy_1 : decode c_HoldQueue_copy 1 = .ok (.iload_n 1, 1) := by decide +kernel
theorem d_HoldQueue_copy_2 : decode c_HoldQueue_copy 2 = .ok (.invokevirtual 55, 3) := by decide +kernel
theorem d_HoldQueue_copy_5 : decode c_HoldQueue_copy 5 = .ok (.ifCond .eq 20, 3) := by decide +kernel
theorem d_HoldQueue_copy_8 : decode c_HoldQueue_copy 8 = .ok (.iload_n 2, 1) := by decide +kernel
theorem d_HoldQueue_copy_9 : decode c_HoldQueue_copy 9 = .ok (.invokestatic 58, 3) := by decide +kernel
theorem d_HoldQueue_copy_12 : decode c_HoldQueue_copy 12 = .ok (.ifCond .eq 13, 3) := by decide +kernel
theorem d_HoldQueue_copy_15 : decode c_HoldQueue_copy 15 = .ok (.aload_n 0, 1) := by decide +kernel
theorem d_HoldQueue_copy_16 : decode c_HoldQueue_copy 16 = .ok (.getfield 27, 3) := by decide +kernel
theorem d_HoldQueue_copy_19 : decode c_HoldQueue_copy 19 = .ok (.invokevirtual 61, 3) := by decide +kernel
theorem d_HoldQueue_copy_22 : decode c_HoldQueue_copy 22 = .ok (.ifCond .eq 5, 3) := by decide +kernel
theorem d_HoldQueue_copy_25 : decode c_HoldQueue_copy 25 = .ok (.iconst 0, 1) := by decide +kernel
theorem d_HoldQueue_copy_26 : decode c_HoldQueue_copy 26 = .ok (.ireturn, 1) := by decide +kernel
theorem d_HoldQueue_copy_27 : decode c_HoldQueue_copy 27 = .ok (.aload_n 0, 1) := by decide +kernel
theorem d_HoldQueue_copy_28 : decode c_HoldQueue_copy 28 = .ok (.getfield 27, 3) := by decide +kernel
theorem d_HoldQueue_copy_31 : decode c_HoldQueue_copy 31 = .ok (.iload_n 1, 1) := by decide +kernel
theorem d_HoldQueue_copy_32 : decode c_HoldQueue_copy 32 = .ok (.iload_n 2, 1) := by decide +kernel
theorem d_HoldQueue_copy_33 : decode c_HoldQueue_copy 33 = .ok (.invokevirtual 65, 3) := by decide +kernel
theorem d_HoldQueue_copy_36 : decode c_HoldQueue_copy 36 = .ok (.ireturn, 1) := by decide +kernel
theorem d_HoldQueue_bar_0 : decode c_HoldQueue_bar 0 = .ok (.iload_n 1, 1) := by decide +kernel
theorem d_HoldQueue_bar_1 : decode c_HoldQueue_bar 1 = .ok (.invokestatic 51, 3) := by decide +kernel
theorem d_HoldQueue_bar_4 : decode c_HoldQueue_bar 4 = .ok (.ifCond .ne 5, 3) := by decide +kernel
theorem d_HoldQueue_bar_7 : decode c_HoldQueue_bar 7 = .ok (.iconst 0, 1) := by decide +kernel
theorem d_HoldQueue_bar_8 : decode c_HoldQueue_bar 8 = .ok (.ireturn, 1) := by decide +kernel
theorem d_HoldQueue_bar_9 : decode c_HoldQueue_bar 9 = .ok (.aload_n 0, 1) := by decide +kernel
theorem d_HoldQueue_bar_10 : decode c_HoldQueue_bar 10 = .ok (.getfield 17, 3) := by decide +kernel
theorem d_HoldQueue_bar_13 : decode c_HoldQueue_bar 13 = .ok (.iload_n 1, 1) := by decide +kernel
theorem d_HoldQueue_bar_14 : decode c_HoldQueue_bar 14 = .ok (.baload, 1) := by decide +kernel
theorem d_HoldQueue_bar_15 : decode c_HoldQueue_bar 15 = .ok (.istore_n 3, 1) := by decide +kernel
theorem d_HoldQueue_bar_16 : decode c_HoldQueue_bar 16 = .ok (.aload_n 0, 1) := by decide +kernel
theorem d_HoldQueue_bar_17 : decode c_HoldQueue_bar 17 = .ok (.getfield 17, 3) := by decide +kernel
theorem d_HoldQueue_bar_20 : decode c_HoldQueue_bar 20 = .ok (.iload_n 1, 1) := by decide +kernel
theorem d_HoldQueue_bar_21 : decode c_HoldQueue_bar 21 = .ok (.iload_n 2, 1) := by decide +kernel
theorem d_HoldQueue_bar_22 : decode c_HoldQueue_bar 22 = .ok (.bastore, 1) := by decide +kernel
theorem d_HoldQueue_bar_23 : decode c_HoldQueue_bar 23 = .ok (.iload_n 3, 1) := by decide +kernel
theorem d_HoldQueue_bar_24 : decode c_HoldQueue_bar 24 = .ok (.ireturn, 1) := by decide +kernel
theorem d_HoldQueue_hold_0 : decode c_HoldQueue_hold 0 = .ok (.iload_n 1, 1) := by decide +kernel
theorem d_HoldQueue_hold_1 : decode c_HoldQueue_hold 1 = .ok (.invokestatic 69, 3) := by decide +kernel
theorem d_HoldQueue_hold_4 : decode c_HoldQueue_hold 4 = .ok (.ifCond .eq 18, 3) := by decide +kernel
theorem d_HoldQueue_hold_7 : decode c_HoldQueue_hold 7 = .ok (.aload_n 0, 1) := by decide +kernel
theorem d_HoldQueue_hold_8 : decode c_HoldQueue_hold 8 = .ok (.iload_n 2, 1) := by decide +kernel
theorem d_HoldQueue_hold_9 : decode c_HoldQueue_hold 9 = .ok (.invokevirtual 55, 3) := by decide +kernel
theorem d_HoldQueue_hold_12 : decode c_HoldQueue_hold 12 = .ok (.ifCond .eq 10, 3) := by decide +kernel
theorem d_HoldQueue_hold_15 : decode c_HoldQueue_hold 15 = .ok (.iload_n 3, 1) := by decide +kernel
theorem d_HoldQueue_hold_16 : decode c_HoldQueue_hold 16 = .ok (.invokestatic 58, 3) := by decide +kernel
theorem d_HoldQueue_hold_19 : decode c_HoldQueue_hold 19 = .ok (.ifCond .ne 5, 3) := by decide +kernel
theorem d_HoldQueue_hold_22 : decode c_HoldQueue_hold 22 = .ok (.iconst 0, 1) := by decide +kernel
theorem d_HoldQueue_hold_23 : decode c_HoldQueue_hold 23 = .ok (.ireturn, 1) := by decide +kernel
theorem d_HoldQueue_hold_24 : decode c_HoldQueue_hold 24 = .ok (.aload_n 0, 1) := by decide +kernel
theorem d_HoldQueue_hold_25 : decode c_HoldQueue_hold 25 = .ok (.getfield 17, 3) := by decide +kernel
theorem d_HoldQueue_hold_28 : decode c_HoldQueue_hold 28 = .ok (.aload_n 0, 1) := by decide +kernel
theorem d_HoldQueue_hold_29 : decode c_HoldQueue_hold 29 = .ok (.getfield 9, 3) := by decide +kernel
theorem d_HoldQueue_hold_32 : decode c_HoldQueue_hold 32 = .ok (.iload_n 2, 1) := by decide +kernel
theorem d_HoldQueue_hold_33 : decode c_HoldQueue_hold 33 = .ok (.iaload, 1) := by decide +kernel
theorem d_HoldQueue_hold_34 : decode c_HoldQueue_hold 34 = .ok (.baload, 1) := by decide +kernel
theorem d_HoldQueue_hold_35 : decode c_HoldQueue_hold 35 = .ok (.ifCond .ne 25, 3) := by decide +kernel
theorem d_HoldQueue_hold_38 : decode c_HoldQueue_hold 38 = .ok (.aload_n 0, 1) := by decide +kernel
theorem d_HoldQueue_hold_39 : decode c_HoldQueue_hold 39 = .ok (.getfield 34, 3) := by decide +kernel
theorem d_HoldQueue_hold_42 : decode c_HoldQueue_hold 42 = .ok (.iload_n 1, 1) := by decide +kernel
theorem d_HoldQueue_hold_43 : decode c_HoldQueue_hold 43 = .ok (.iload_n 2, 1) := by decide +kernel
theorem d_HoldQueue_hold_44 : decode c_HoldQueue_hold 44 = .ok (.invokevirtual 72, 3) := by decide +kernel
theorem d_HoldQueue_hold_47 : decode c_HoldQueue_hold 47 = .ok (.ifCond .ne 13, 3) := by decide +kernel
theorem d_HoldQueue_hold_50 : decode c_HoldQueue_hold 50 = .ok (.aload_n 0, 1) := by decide +kernel
theorem d_HoldQueue_hold_51 : decode c_HoldQueue_hold 51 = .ok (.getfield 34, 3) := by decide +kernel
theorem d_HoldQueue_hold_54 : decode c_HoldQueue_hold 54 = .ok (.invokevirtual 76, 3) := by decide +kernel
theorem d_HoldQueue_hold_57 : decode c_HoldQueue_hold 57 = .ok (.ifCond .eq 5, 3) := by decide +kernel
theorem d_HoldQueue_hold_60 : decode c_HoldQueue_hold 60 = .ok (.iconst 0, 1) := by decide +kernel
theorem d_HoldQueue_hold_61 : decode c_HoldQueue_hold 61 = .ok (.ireturn, 1) := by decide +kernel
theorem d_HoldQueue_hold_62 : decode c_HoldQueue_hold 62 = .ok (.aload_n 0, 1) := by decide +kernel
theorem d_HoldQueue_hold_63 : decode c_HoldQueue_hold 63 = .ok (.getfield 34, 3) := by decide +kernel
theorem d_HoldQueue_hold_66 : decode c_HoldQueue_hold 66 = .ok (.iload_n 1, 1) := by decide +kernel
theorem d_HoldQueue_hold_67 : decode c_HoldQueue_hold 67 = .ok (.invokevirtual 77, 3) := by decide +kernel
theorem d_HoldQueue_hold_70 : decode c_HoldQueue_hold 70 = .ok (.aload_n 0, 1) := by decide +kernel
theorem d_HoldQueue_hold_71 : decode c_HoldQueue_hold 71 = .ok (.getfield 21, 3) := by decide +kernel
theorem d_HoldQueue_hold_74 : decode c_HoldQueue_hold 74 = .ok (.iload_n 1, 1) := by decide +kernel
theorem d_HoldQueue_hold_75 : decode c_HoldQueue_hold 75 = .ok (.iaload, 1) := by decide +kernel
theorem d_HoldQueue_hold_76 : decode c_HoldQueue_hold 76 = .ok (.if_icmp .lt 5, 3) := by decide +kernel
theorem d_HoldQueue_hold_79 : decode c_HoldQueue_hold 79 = .ok (.iconst (-1), 1) := by decide +kernel
theorem d_HoldQueue_hold_80 : decode c_HoldQueue_hold 80 = .ok (.ireturn, 1) := by decide +kernel
theorem d_HoldQueue_hold_81 : decode c_HoldQueue_hold 81 = .ok (.aload_n 0, 1) := by decide +kernel
theorem d_HoldQueue_hold_82 : decode c_HoldQueue_hold 82 = .ok (.getfield 34, 3) := by decide +kernel
theorem d_HoldQueue_hold_85 : decode c_HoldQueue_hold 85 = .ok (.iload_n 1, 1) := by decide +kernel
theorem d_HoldQueue_hold_86 : decode c_HoldQueue_hold 86 = .ok (.iload_n 2, 1) := by decide +kernel
theorem d_HoldQueue_hold_87 : decode c_HoldQueue_hold 87 = .ok (.iload_n 3, 1) := by decide +kernel
theorem d_HoldQueue_hold_88 : decode c_HoldQueue_hold 88 = .ok (.iload 4, 2) := by decide +kernel
theorem d_HoldQueue_hold_90 : decode c_HoldQueue_hold 90 = .ok (.invokevirtual 81, 3) := by decide +kernel
theorem d_HoldQueue_hold_93 : decode c_HoldQueue_hold 93 = .ok (.istore 5, 2) := by decide +kernel
theorem d_HoldQueue_hold_95 : decode c_HoldQueue_hold 95 = .ok (.aload_n 0, 1) := by decide +kernel
theorem d_HoldQueue_hold_96 : decode c_HoldQueue_hold 96 = .ok (.getfield 27, 3) := by decide +kernel
theorem d_HoldQueue_hold_99 : decode c_HoldQueue_hold 99 = .ok (.iload_n 2, 1) := by decide +kernel
theorem d_HoldQueue_hold_100 : decode c_HoldQueue_hold 100 = .ok (.invokevirtual 84, 3) := by decide +kernel
theorem d_HoldQueue_hold_103 : decode c_HoldQueue_hold 103 = .ok (.istore 6, 2) := by decide +kernel
theorem d_HoldQueue_hold_105 : decode c_HoldQueue_hold 105 = .ok (.iload 6, 2) := by decide +kernel
theorem d_HoldQueue_hold_107 : decode c_HoldQueue_hold 107 = .ok (.ifCond .eq 10, 3) := by decide +kernel
theorem d_HoldQueue_hold_110 : decode c_HoldQueue_hold 110 = .ok (.aload_n 0, 1) := by decide +kernel
theorem d_HoldQueue_hold_111 : decode c_HoldQueue_hold 111 = .ok (.iload 6, 2) := by decide +kernel
theorem d_HoldQueue_hold_113 : decode c_HoldQueue_hold 113 = .ok (.invokevirtual 87, 3) := by decide +kernel
theorem d_HoldQueue_hold_116 : decode c_HoldQueue_hold 116 = .ok (.pop, 1) := by decide +kernel
theorem d_HoldQueue_hold_117 : decode c_HoldQueue_hold 117 = .ok (.iload 5, 2) := by decide +kernel
theorem d_HoldQueue_hold_119 : decode c_HoldQueue_hold 119 = .ok (.ireturn, 1) := by decide +kernel
theorem d_HoldQueue_most_0 : decode c_HoldQueue_most 0 = .ok (.iload_n 1, 1) := by decide +kernel
theorem d_HoldQueue_most_1 : decode c_HoldQueue_most 1 = .ok (.invokestatic 69, 3) := by decide +kernel
theorem d_HoldQueue_most_4 : decode c_HoldQueue_most 4 = .ok (.ifCond .eq 13, 3) := by decide +kernel
theorem d_HoldQueue_most_7 : decode c_HoldQueue_most 7 = .ok (.iload_n 2, 1) := by decide +kernel
theorem d_HoldQueue_most_8 : decode c_HoldQueue_most 8 = .ok (.ifCond .lt 9, 3) := by decide +kernel
theorem d_HoldQueue_most_11 : decode c_HoldQueue_most 11 = .ok (.iload_n 2, 1) := by decide +kernel
theorem d_HoldQueue_most_12 : decode c_HoldQueue_most 12 = .ok (.bipush 20, 2) := by decide +kernel
theorem d_HoldQueue_most_14 : decode c_HoldQueue_most 14 = .ok (.if_icmp .le 5, 3) := by decide +kernel
theorem d_HoldQueue_most_17 : decode c_HoldQueue_most 17 = .ok (.iconst (-1), 1) := by decide +kernel
theorem d_HoldQueue_most_18 : decode c_HoldQueue_most 18 = .ok (.ireturn, 1) := by decide +kernel
theorem d_HoldQueue_most_19 : decode c_HoldQueue_most 19 = .ok (.aload_n 0, 1) := by decide +kernel
theorem d_HoldQueue_most_20 : decode c_HoldQueue_most 20 = .ok (.getfield 21, 3) := by decide +kernel
theorem d_HoldQueue_most_23 : decode c_HoldQueue_most 23 = .ok (.iload_n 1, 1) := by decide +kernel
theorem d_HoldQueue_most_24 : decode c_HoldQueue_most 24 = .ok (.iaload, 1) := by decide +kernel
theorem d_HoldQueue_most_25 : decode c_HoldQueue_most 25 = .ok (.istore_n 3, 1) := by decide +kernel
theorem d_HoldQueue_most_26 : decode c_HoldQueue_most 26 = .ok (.aload_n 0, 1) := by decide +kernel
theorem d_HoldQueue_most_27 : decode c_HoldQueue_most 27 = .ok (.getfield 21, 3) := by decide +kernel
theorem d_HoldQueue_most_30 : decode c_HoldQueue_most 30 = .ok (.iload_n 1, 1) := by decide +kernel
theorem d_HoldQueue_most_31 : decode c_HoldQueue_most 31 = .ok (.iload_n 2, 1) := by decide +kernel
theorem d_HoldQueue_most_32 : decode c_HoldQueue_most 32 = .ok (.iastore, 1) := by decide +kernel
theorem d_HoldQueue_most_33 : decode c_HoldQueue_most 33 = .ok (.iload_n 3, 1) := by decide +kernel
theorem d_HoldQueue_most_34 : decode c_HoldQueue_most 34 = .ok (.ireturn, 1) := by decide +kernel
theorem d_HoldQueue_suspend_0 : decode c_HoldQueue_suspend 0 = .ok (.aload_n 0, 1) := by decide +kernel
theorem d_HoldQueue_suspend_1 : decode c_HoldQueue_suspend 1 = .ok (.getfield 34, 3) := by decide +kernel
theorem d_HoldQueue_suspend_4 : decode c_HoldQueue_suspend 4 = .ok (.iload_n 1, 1) := by decide +kernel
theorem d_HoldQueue_suspend_5 : decode c_HoldQueue_suspend 5 = .ok (.iconst 0, 1) := by decide +kernel
theorem d_HoldQueue_suspend_6 : decode c_HoldQueue_suspend 6 = .ok (.invokevirtual 90, 3) := by decide +kernel
theorem d_HoldQueue_suspend_9 : decode c_HoldQueue_suspend 9 = .ok (.ifCond .ne 5, 3) := by decide +kernel
theorem d_HoldQueue_suspend_12 : decode c_HoldQueue_suspend 12 = .ok (.iconst 0, 1) := by decide +kernel
theorem d_HoldQueue_suspend_13 : decode c_HoldQueue_suspend 13 = .ok (.ireturn, 1) := by decide +kernel
theorem d_HoldQueue_suspend_14 : decode c_HoldQueue_suspend 14 = .ok (.aload_n 0, 1) := by decide +kernel
theorem d_HoldQueue_suspend_15 : decode c_HoldQueue_suspend 15 = .ok (.getfield 34, 3) := by decide +kernel
theorem d_HoldQueue_suspend_18 : decode c_HoldQueue_suspend 18 = .ok (.getfield 93, 3) := by decide +kernel
theorem d_HoldQueue_suspend_21 : decode c_HoldQueue_suspend 21 = .ok (.iload_n 1, 1) := by decide +kernel
theorem d_HoldQueue_suspend_22 : decode c_HoldQueue_suspend 22 = .ok (.lload_n 2, 1) := by decide +kernel
theorem d_HoldQueue_suspend_23 : decode c_HoldQueue_suspend 23 = .ok (.lastore, 1) := by decide +kernel
theorem d_HoldQueue_suspend_24 : decode c_HoldQueue_suspend 24 = .ok (.iconst 1, 1) := by decide +kernel
theorem d_HoldQueue_suspend_25 : decode c_HoldQueue_suspend 25 = .ok (.ireturn, 1) := by decide +kernel
theorem d_HoldQueue_back_0 : decode c_HoldQueue_back 0 = .ok (.aload_n 0, 1) := by decide +kernel
theorem d_HoldQueue_back_1 : decode c_HoldQueue_back 1 = .ok (.getfield 27, 3) := by decide +kernel
theorem d_HoldQueue_back_4 : decode c_HoldQueue_back 4 = .ok (.iload_n 1, 1) := by decide +kernel
theorem d_HoldQueue_back_5 : decode c_HoldQueue_back 5 = .ok (.iconst 1, 1) := by decide +kernel
theorem d_HoldQueue_back_6 : decode c_HoldQueue_back 6 = .ok (.invokevirtual 97, 3) := by decide +kernel
theorem d_HoldQueue_back_9 : decode c_HoldQueue_back 9 = .ok (.ifCond .eq 10, 3) := by decide +kernel
theorem d_HoldQueue_back_12 : decode c_HoldQueue_back 12 = .ok (.iload_n 2, 1) := by decide +kernel
theorem d_HoldQueue_back_13 : decode c_HoldQueue_back 13 = .ok (.invokestatic 58, 3) := by decide +kernel
theorem d_HoldQueue_back_16 : decode c_HoldQueue_back 16 = .ok (.ifCond .ne 5, 3) := by decide +kernel
theorem d_HoldQueue_back_19 : decode c_HoldQueue_back 19 = .ok (.iconst (-1), 1) := by decide +kernel
theorem d_HoldQueue_back_20 : decode c_HoldQueue_back 20 = .ok (.ireturn, 1) := by decide +kernel
theorem d_HoldQueue_back_21 : decode c_HoldQueue_back 21 = .ok (.aload_n 0, 1) := by decide +kernel
theorem d_HoldQueue_back_22 : decode c_HoldQueue_back 22 = .ok (.getfield 27, 3) := by decide +kernel
theorem d_HoldQueue_back_25 : decode c_HoldQueue_back 25 = .ok (.getfield 98, 3) := by decide +kernel
theorem d_HoldQueue_back_28 : decode c_HoldQueue_back 28 = .ok (.iload_n 1, 1) := by decide +kernel
theorem d_HoldQueue_back_29 : decode c_HoldQueue_back 29 = .ok (.iload_n 2, 1) := by decide +kernel
theorem d_HoldQueue_back_30 : decode c_HoldQueue_back 30 = .ok (.iastore, 1) := by decide +kernel
theorem d_HoldQueue_back_31 : decode c_HoldQueue_back 31 = .ok (.aload_n 0, 1) := by decide +kernel
theorem d_HoldQueue_back_32 : decode c_HoldQueue_back 32 = .ok (.iload_n 1, 1) := by decide +kernel
theorem d_HoldQueue_back_33 : decode c_HoldQueue_back 33 = .ok (.invokevirtual 87, 3) := by decide +kernel
theorem d_HoldQueue_back_36 : decode c_HoldQueue_back 36 = .ok (.ireturn, 1) := by decide +kernel
theorem d_HoldQueue_arrive_0 : decode c_HoldQueue_arrive 0 = .ok (.aload_n 0, 1) := by decide +kernel
theorem d_HoldQueue_arrive_1 : decode c_HoldQueue_arrive 1 = .ok (.getfield 27, 3) := by decide +kernel
theorem d_HoldQueue_arrive_4 : decode c_HoldQueue_arrive 4 = .ok (.iload_n 1, 1) := by decide +kernel
theorem d_HoldQueue_arrive_5 : decode c_HoldQueue_arrive 5 = .ok (.iconst 2, 1) := by decide +kernel
theorem d_HoldQueue_arrive_6 : decode c_HoldQueue_arrive 6 = .ok (.invokevirtual 97, 3) := by decide +kernel
theorem d_HoldQueue_arrive_9 : decode c_HoldQueue_arrive 9 = .ok (.ifCond .ne 5, 3) := by decide +kernel
theorem d_HoldQueue_arrive_12 : decode c_HoldQueue_arrive 12 = .ok (.iconst (-1), 1) := by decide +kernel
theorem d_HoldQueue_arrive_13 : decode c_HoldQueue_arrive 13 = .ok (.ireturn, 1) := by decide +kernel
theorem d_HoldQueue_arrive_14 : decode c_HoldQueue_arrive 14 = .ok (.aload_n 0, 1) := by decide +kernel
theorem d_HoldQueue_arrive_15 : decode c_HoldQueue_arrive 15 = .ok (.getfield 27, 3) := by decide +kernel
theorem d_HoldQueue_arrive_18 : decode c_HoldQueue_arrive 18 = .ok (.getfield 101, 3) := by decide +kernel
theorem d_HoldQueue_arrive_21 : decode c_HoldQueue_arrive 21 = .ok (.iload_n 1, 1) := by decide +kernel
theorem d_HoldQueue_arrive_22 : decode c_HoldQueue_arrive 22 = .ok (.iaload, 1) := by decide +kernel
theorem d_HoldQueue_arrive_23 : decode c_HoldQueue_arrive 23 = .ok (.istore_n 2, 1) := by decide +kernel
theorem d_HoldQueue_arrive_24 : decode c_HoldQueue_arrive 24 = .ok (.aload_n 0, 1) := by decide +kernel
theorem d_HoldQueue_arrive_25 : decode c_HoldQueue_arrive 25 = .ok (.getfield 34, 3) := by decide +kernel
theorem d_HoldQueue_arrive_28 : decode c_HoldQueue_arrive 28 = .ok (.iload_n 2, 1) := by decide +kernel
theorem d_HoldQueue_arrive_29 : decode c_HoldQueue_arrive 29 = .ok (.iconst 1, 1) := by decide +kernel
theorem d_HoldQueue_arrive_30 : decode c_HoldQueue_arrive 30 = .ok (.invokevirtual 90, 3) := by decide +kernel
theorem d_HoldQueue_arrive_33 : decode c_HoldQueue_arrive 33 = .ok (.ifCond .eq 11, 3) := by decide +kernel
theorem d_HoldQueue_arrive_36 : decode c_HoldQueue_arrive 36 = .ok (.aload_n 0, 1) := by decide +kernel
theorem d_HoldQueue_arrive_37 : decode c_HoldQueue_arrive 37 = .ok (.iload_n 1, 1) := by decide +kernel
theorem d_HoldQueue_arrive_38 : decode c_HoldQueue_arrive 38 = .ok (.iload_n 2, 1) := by decide +kernel
theorem d_HoldQueue_arrive_39 : decode c_HoldQueue_arrive 39 = .ok (.invokevirtual 104, 3) := by decide +kernel
theorem d_HoldQueue_arrive_42 : decode c_HoldQueue_arrive 42 = .ok (.iconst 1, 1) := by decide +kernel
theorem d_HoldQueue_arrive_43 : decode c_HoldQueue_arrive 43 = .ok (.ireturn, 1) := by decide +kernel
theorem d_HoldQueue_arrive_44 : decode c_HoldQueue_arrive 44 = .ok (.aload_n 0, 1) := by decide +kernel
theorem d_HoldQueue_arrive_45 : decode c_HoldQueue_arrive 45 = .ok (.iload_n 1, 1) := by decide +kernel
theorem d_HoldQueue_arrive_46 : decode c_HoldQueue_arrive 46 = .ok (.iload_n 2, 1) := by decide +kernel
theorem d_HoldQueue_arrive_47 : decode c_HoldQueue_arrive 47 = .ok (.invokevirtual 108, 3) := by decide +kernel
theorem d_HoldQueue_arrive_50 : decode c_HoldQueue_arrive 50 = .ok (.aload_n 0, 1) := by decide +kernel
theorem d_HoldQueue_arrive_51 : decode c_HoldQueue_arrive 51 = .ok (.iload_n 1, 1) := by decide +kernel
theorem d_HoldQueue_arrive_52 : decode c_HoldQueue_arrive 52 = .ok (.invokevirtual 87, 3) := by decide +kernel
theorem d_HoldQueue_arrive_55 : decode c_HoldQueue_arrive 55 = .ok (.pop, 1) := by decide +kernel
theorem d_HoldQueue_arrive_56 : decode c_HoldQueue_arrive 56 = .ok (.iconst 0, 1) := by decide +kernel
theorem d_HoldQueue_arrive_57 : decode c_HoldQueue_arrive 57 = .ok (.ireturn, 1) := by decide +kernel
theorem d_HoldQueue_pick_0 : decode c_HoldQueue_pick 0 = .ok (.aload_n 0, 1) := by decide +kernel
theorem d_HoldQueue_pick_1 : decode c_HoldQueue_pick 1 = .ok (.getfield 34, 3) := by decide +kernel
theorem d_HoldQueue_pick_4 : decode c_HoldQueue_pick 4 = .ok (.iload_n 1, 1) := by decide +kernel
theorem d_HoldQueue_pick_5 : decode c_HoldQueue_pick 5 = .ok (.iconst 2, 1) := by decide +kernel
theorem d_HoldQueue_pick_6 : decode c_HoldQueue_pick 6 = .ok (.invokevirtual 90, 3) := by decide +kernel
theorem d_HoldQueue_pick_9 : decode c_HoldQueue_pick 9 = .ok (.ifCond .ne 5, 3) := by decide +kernel
theorem d_HoldQueue_pick_12 : decode c_HoldQueue_pick 12 = .ok (.iconst 0, 1) := by decide +kernel
theorem d_HoldQueue_pick_13 : decode c_HoldQueue_pick 13 = .ok (.ireturn, 1) := by decide +kernel
theorem d_HoldQueue_pick_14 : decode c_HoldQueue_pick 14 = .ok (.aload_n 0, 1) := by decide +kernel
theorem d_HoldQueue_pick_15 : decode c_HoldQueue_pick 15 = .ok (.getfield 34, 3) := by decide +kernel
theorem d_HoldQueue_pick_18 : decode c_HoldQueue_pick 18 = .ok (.getfield 111, 3) := by decide +kernel
theorem d_HoldQueue_pick_21 : decode c_HoldQueue_pick 21 = .ok (.iload_n 1, 1) := by decide +kernel
theorem d_HoldQueue_pick_22 : decode c_HoldQueue_pick 22 = .ok (.iaload, 1) := by decide +kernel
theorem d_HoldQueue_pick_23 : decode c_HoldQueue_pick 23 = .ok (.istore_n 2, 1) := by decide +kernel
theorem d_HoldQueue_pick_24 : decode c_HoldQueue_pick 24 = .ok (.aload_n 0, 1) := by decide +kernel
theorem d_HoldQueue_pick_25 : decode c_HoldQueue_pick 25 = .ok (.getfield 34, 3) := by decide +kernel
theorem d_HoldQueue_pick_28 : decode c_HoldQueue_pick 28 = .ok (.getfield 114, 3) := by decide +kernel
theorem d_HoldQueue_pick_31 : decode c_HoldQueue_pick 31 = .ok (.iload_n 1, 1) := by decide +kernel
theorem d_HoldQueue_pick_32 : decode c_HoldQueue_pick 32 = .ok (.iconst 3, 1) := by decide +kernel
theorem d_HoldQueue_pick_33 : decode c_HoldQueue_pick 33 = .ok (.iastore, 1) := by decide +kernel
theorem d_HoldQueue_pick_34 : decode c_HoldQueue_pick 34 = .ok (.aload_n 0, 1) := by decide +kernel
theorem d_HoldQueue_pick_35 : decode c_HoldQueue_pick 35 = .ok (.iload_n 2, 1) := by decide +kernel
theorem d_HoldQueue_pick_36 : decode c_HoldQueue_pick 36 = .ok (.iload_n 1, 1) := by decide +kernel
theorem d_HoldQueue_pick_37 : decode c_HoldQueue_pick 37 = .ok (.invokevirtual 108, 3) := by decide +kernel
theorem d_HoldQueue_pick_40 : decode c_HoldQueue_pick 40 = .ok (.aload_n 0, 1) := by decide +kernel
theorem d_HoldQueue_pick_41 : decode c_HoldQueue_pick 41 = .ok (.getfield 27, 3) := by decide +kernel
theorem d_HoldQueue_pick_44 : decode c_HoldQueue_pick 44 = .ok (.getfield 117, 3) := by decide +kernel
theorem d_HoldQueue_pick_47 : decode c_HoldQueue_pick 47 = .ok (.iload_n 2, 1) := by decide +kernel
theorem d_HoldQueue_pick_48 : decode c_HoldQueue_pick 48 = .ok (.iconst 1, 1) := by decide +kernel
theorem d_HoldQueue_pick_49 : decode c_HoldQueue_pick 49 = .ok (.iastore, 1) := by decide +kernel
theorem d_HoldQueue_pick_50 : decode c_HoldQueue_pick 50 = .ok (.iload_n 2, 1) := by decide +kernel
theorem d_HoldQueue_pick_51 : decode c_HoldQueue_pick 51 = .ok (.ireturn, 1) := by decide +kernel
theorem d_HoldQueue_lend_0 : decode c_HoldQueue_lend 0 = .ok (.aload_n 0, 1) := by decide +kernel
theorem d_HoldQueue_lend_1 : decode c_HoldQueue_lend 1 = .ok (.getfield 27, 3) := by decide +kernel
theorem d_HoldQueue_lend_4 : decode c_HoldQueue_lend 4 = .ok (.iload_n 1, 1) := by decide +kernel
theorem d_HoldQueue_lend_5 : decode c_HoldQueue_lend 5 = .ok (.iconst 0, 1) := by decide +kernel
theorem d_HoldQueue_lend_6 : decode c_HoldQueue_lend 6 = .ok (.invokevirtual 97, 3) := by decide +kernel
theorem d_HoldQueue_lend_9 : decode c_HoldQueue_lend 9 = .ok (.ifCond .ne 5, 3) := by decide +kernel
theorem d_HoldQueue_lend_12 : decode c_HoldQueue_lend 12 = .ok (.iconst 0, 1) := by decide +kernel
theorem d_HoldQueue_lend_13 : decode c_HoldQueue_lend 13 = .ok (.ireturn, 1) := by decide +kernel
theorem d_HoldQueue_lend_14 : decode c_HoldQueue_lend 14 = .ok (.aload_n 0, 1) := by decide +kernel
theorem d_HoldQueue_lend_15 : decode c_HoldQueue_lend 15 = .ok (.getfield 27, 3) := by decide +kernel
theorem d_HoldQueue_lend_18 : decode c_HoldQueue_lend 18 = .ok (.getfield 117, 3) := by decide +kernel
theorem d_HoldQueue_lend_21 : decode c_HoldQueue_lend 21 = .ok (.iload_n 1, 1) := by decide +kernel
theorem d_HoldQueue_lend_22 : decode c_HoldQueue_lend 22 = .ok (.iconst 1, 1) := by decide +kernel
theorem d_HoldQueue_lend_23 : decode c_HoldQueue_lend 23 = .ok (.iastore, 1) := by decide +kernel
theorem d_HoldQueue_lend_24 : decode c_HoldQueue_lend 24 = .ok (.iconst 1, 1) := by decide +kernel
theorem d_HoldQueue_lend_25 : decode c_HoldQueue_lend 25 = .ok (.ireturn, 1) := by decide +kernel
theorem d_HoldQueue_cancel_0 : decode c_HoldQueue_cancel 0 = .ok (.aload_n 0, 1) := by decide +kernel
theorem d_HoldQueue_cancel_1 : decode c_HoldQueue_cancel 1 = .ok (.getfield 34, 3) := by decide +kernel
theorem d_HoldQueue_cancel_4 : decode c_HoldQueue_cancel 4 = .ok (.iload_n 1, 1) := by decide +kernel
theorem d_HoldQueue_cancel_5 : decode c_HoldQueue_cancel 5 = .ok (.invokevirtual 118, 3) := by decide +kernel
theorem d_HoldQueue_cancel_8 : decode c_HoldQueue_cancel 8 = .ok (.ifCond .ne 5, 3) := by decide +kernel
theorem d_HoldQueue_cancel_11 : decode c_HoldQueue_cancel 11 = .ok (.iconst 0, 1) := by decide +kernel
theorem d_HoldQueue_cancel_12 : decode c_HoldQueue_cancel 12 = .ok (.ireturn, 1) := by decide +kernel
theorem d_HoldQueue_cancel_13 : decode c_HoldQueue_cancel 13 = .ok (.aload_n 0, 1) := by decide +kernel
theorem d_HoldQueue_cancel_14 : decode c_HoldQueue_cancel 14 = .ok (.getfield 34, 3) := by decide +kernel
theorem d_HoldQueue_cancel_17 : decode c_HoldQueue_cancel 17 = .ok (.iload_n 1, 1) := by decide +kernel
theorem d_HoldQueue_cancel_18 : decode c_HoldQueue_cancel 18 = .ok (.iconst 2, 1) := by decide +kernel
theorem d_HoldQueue_cancel_19 : decode c_HoldQueue_cancel 19 = .ok (.invokevirtual 90, 3) := by decide +kernel
theorem d_HoldQueue_cancel_22 : decode c_HoldQueue_cancel 22 = .ok (.istore_n 2, 1) := by decide +kernel
theorem d_HoldQueue_cancel_23 : decode c_HoldQueue_cancel 23 = .ok (.aload_n 0, 1) := by decide +kernel
theorem d_HoldQueue_cancel_24 : decode c_HoldQueue_cancel 24 = .ok (.getfield 34, 3) := by decide +kernel
theorem d_HoldQueue_cancel_27 : decode c_HoldQueue_cancel 27 = .ok (.getfield 114, 3) := by decide +kernel
theorem d_HoldQueue_cancel_30 : decode c_HoldQueue_cancel 30 = .ok (.iload_n 1, 1) := by decide +kernel
theorem d_HoldQueue_cancel_31 : decode c_HoldQueue_cancel 31 = .ok (.iconst 5, 1) := by decide +kernel
theorem d_HoldQueue_cancel_32 : decode c_HoldQueue_cancel 32 = .ok (.iastore, 1) := by decide +kernel
theorem d_HoldQueue_cancel_33 : decode c_HoldQueue_cancel 33 = .ok (.iload_n 2, 1) := by decide +kernel
theorem d_HoldQueue_cancel_34 : decode c_HoldQueue_cancel 34 = .ok (.ifCond .eq 8, 3) := by decide +kernel
theorem d_HoldQueue_cancel_37 : decode c_HoldQueue_cancel 37 = .ok (.aload_n 0, 1) := by decide +kernel
theorem d_HoldQueue_cancel_38 : decode c_HoldQueue_cancel 38 = .ok (.iload_n 1, 1) := by decide +kernel
theorem d_HoldQueue_cancel_39 : decode c_HoldQueue_cancel 39 = .ok (.invokevirtual 121, 3) := by decide +kernel
theorem d_HoldQueue_cancel_42 : decode c_HoldQueue_cancel 42 = .ok (.iconst 1, 1) := by decide +kernel
theorem d_HoldQueue_cancel_43 : decode c_HoldQueue_cancel 43 = .ok (.ireturn, 1) := by decide +kernel
theorem d_HoldQueue_tick_0 : decode c_HoldQueue_tick 0 = .ok (.lload_n 1, 1) := by decide +kernel
theorem d_HoldQueue_tick_1 : decode c_HoldQueue_tick 1 = .ok (.aload_n 0, 1) := by decide +kernel
theorem d_HoldQueue_tick_2 : decode c_HoldQueue_tick 2 = .ok (.getfield 38, 3) := by decide +kernel
theorem d_HoldQueue_tick_5 : decode c_HoldQueue_tick 5 = .ok (.lcmp, 1) := by decide +kernel
theorem d_HoldQueue_tick_6 : decode c_HoldQueue_tick 6 = .ok (.ifCond .le 11, 3) := by decide +kernel
theorem d_HoldQueue_tick_9 : decode c_HoldQueue_tick 9 = .ok (.lload_n 1, 1) := by decide +kernel
theorem d_HoldQueue_tick_10 : decode c_HoldQueue_tick 10 = .ok (.ldc2_w 125, 3) := by decide +kernel
theorem d_HoldQueue_tick_13 : decode c_HoldQueue_tick 13 = .ok (.lcmp, 1) := by decide +kernel
theorem d_HoldQueue_tick_14 : decode c_HoldQueue_tick 14 = .ok (.ifCond .le 5, 3) := by decide +kernel
theorem d_HoldQueue_tick_17 : decode c_HoldQueue_tick 17 = .ok (.iconst (-1), 1) := by decide +kernel
theorem d_HoldQueue_tick_18 : decode c_HoldQueue_tick 18 = .ok (.ireturn, 1) := by decide +kernel
theorem d_HoldQueue_tick_19 : decode c_HoldQueue_tick 19 = .ok (.aload_n 0, 1) := by decide +kernel
theorem d_HoldQueue_tick_20 : decode c_HoldQueue_tick 20 = .ok (.lload_n 1, 1) := by decide +kernel
theorem d_HoldQueue_tick_21 : decode c_HoldQueue_tick 21 = .ok (.putfield 38, 3) := by decide +kernel
theorem d_HoldQueue_tick_24 : decode c_HoldQueue_tick 24 = .ok (.iconst 0, 1) := by decide +kernel
theorem d_HoldQueue_tick_25 : decode c_HoldQueue_tick 25 = .ok (.istore_n 3, 1) := by decide +kernel
theorem d_HoldQueue_tick_26 : decode c_HoldQueue_tick 26 = .ok (.iconst 1, 1) := by decide +kernel
theorem d_HoldQueue_tick_27 : decode c_HoldQueue_tick 27 = .ok (.istore 4, 2) := by decide +kernel
theorem d_HoldQueue_tick_29 : decode c_HoldQueue_tick 29 = .ok (.iload 4, 2) := by decide +kernel
theorem d_HoldQueue_tick_31 : decode c_HoldQueue_tick 31 = .ok (.aload_n 0, 1) := by decide +kernel
theorem d_HoldQueue_tick_32 : decode c_HoldQueue_tick 32 = .ok (.getfield 34, 3) := by decide +kernel
theorem d_HoldQueue_tick_35 : decode c_HoldQueue_tick 35 = .ok (.getfield 127, 3) := by decide +kernel
theorem d_HoldQueue_tick_38 : decode c_HoldQueue_tick 38 = .ok (.if_icmp .gt 60, 3) := by decide +kernel
theorem d_HoldQueue_tick_41 : decode c_HoldQueue_tick 41 = .ok (.aload_n 0, 1) := by decide +kernel
theorem d_HoldQueue_tick_42 : decode c_HoldQueue_tick 42 = .ok (.getfield 34, 3) := by decide +kernel
theorem d_HoldQueue_tick_45 : decode c_HoldQueue_tick 45 = .ok (.iload 4, 2) := by decide +kernel
theorem d_HoldQueue_tick_47 : decode c_HoldQueue_tick 47 = .ok (.iconst 2, 1) := by decide +kernel
theorem d_HoldQueue_tick_48 : decode c_HoldQueue_tick 48 = .ok (.invokevirtual 90, 3) := by decide +kernel
theorem d_HoldQueue_tick_51 : decode c_HoldQueue_tick 51 = .ok (.ifCond .eq 41, 3) := by decide +kernel
theorem d_HoldQueue_tick_54 : decode c_HoldQueue_tick 54 = .ok (.aload_n 0, 1) := by decide +kernel
theorem d_HoldQueue_tick_55 : decode c_HoldQueue_tick 55 = .ok (.getfield 34, 3) := by decide +kernel
theorem d_HoldQueue_tick_58 : decode c_HoldQueue_tick 58 = .ok (.getfield 130, 3) := by decide +kernel
theorem d_HoldQueue_tick_61 : decode c_HoldQueue_tick 61 = .ok (.iload 4, 2) := by decide +kernel
theorem d_HoldQueue_tick_63 : decode c_HoldQueue_tick 63 = .ok (.laload, 1) := by decide +kernel
theorem d_HoldQueue_tick_64 : decode c_HoldQueue_tick 64 = .ok (.aload_n 0, 1) := by decide +kernel
theorem d_HoldQueue_tick_65 : decode c_HoldQueue_tick 65 = .ok (.getfield 38, 3) := by decide +kernel
theorem d_HoldQueue_tick_68 : decode c_HoldQueue_tick 68 = .ok (.lcmp, 1) := by decide +kernel
theorem d_HoldQueue_tick_69 : decode c_HoldQueue_tick 69 = .ok (.ifCond .ge 23, 3) := by decide +kernel
theorem d_HoldQueue_tick_72 : decode c_HoldQueue_tick 72 = .ok (.aload_n 0, 1) := by decide +kernel
theorem d_HoldQueue_tick_73 : decode c_HoldQueue_tick 73 = .ok (.getfield 34, 3) := by decide +kernel
theorem d_HoldQueue_tick_76 : decode c_HoldQueue_tick 76 = .ok (.getfield 114, 3) := by decide +kernel
theorem d_HoldQueue_tick_79 : decode c_HoldQueue_tick 79 = .ok (.iload 4, 2) := by decide +kernel
theorem d_HoldQueue_tick_81 : decode c_HoldQueue_tick 81 = .ok (.iconst 4, 1) := by decide +kernel
theorem d_HoldQueue_tick_82 : decode c_HoldQueue_tick 82 = .ok (.iastore, 1) := by decide +kernel
theorem d_HoldQueue_tick_83 : decode c_HoldQueue_tick 83 = .ok (.aload_n 0, 1) := by decide +kernel
theorem d_HoldQueue_tick_84 : decode c_HoldQueue_tick 84 = .ok (.iload 4, 2) := by decide +kernel
theorem d_HoldQueue_tick_86 : decode c_HoldQueue_tick 86 = .ok (.invokevirtual 121, 3) := by decide +kernel
theorem d_HoldQueue_tick_89 : decode c_HoldQueue_tick 89 = .ok (.iinc 3 1, 3) := by decide +kernel
theorem d_HoldQueue_tick_92 : decode c_HoldQueue_tick 92 = .ok (.iinc 4 1, 3) := by decide +kernel
theorem d_HoldQueue_tick_95 : decode c_HoldQueue_tick 95 = .ok (.goto (-66), 3) := by decide +kernel
theorem d_HoldQueue_tick_98 : decode c_HoldQueue_tick 98 = .ok (.iload_n 3, 1) := by decide +kernel
theorem d_HoldQueue_tick_99 : decode c_HoldQueue_tick 99 = .ok (.ireturn, 1) := by decide +kernel
theorem d_HoldQueue_span_0 : decode c_HoldQueue_span 0 = .ok (.iload_n 1, 1) := by decide +kernel
theorem d_HoldQueue_span_1 : decode c_HoldQueue_span 1 = .ok (.iconst 1, 1) := by decide +kernel
theorem d_HoldQueue_span_2 : decode c_HoldQueue_span 2 = .ok (.if_icmp .lt 9, 3) := by decide +kernel
theorem d_HoldQueue_span_5 : decode c_HoldQueue_span 5 = .ok (.iload_n 1, 1) := by decide +kernel
theorem d_HoldQueue_span_6 : decode c_HoldQueue_span 6 = .ok (.bipush 99, 2) := by decide +kernel
theorem d_HoldQueue_span_8 : decode c_HoldQueue_span 8 = .ok (.if_icmp .le 5, 3) := by decide +kernel
theorem d_HoldQueue_span_11 : decode c_HoldQueue_span 11 = .ok (.iconst (-1), 1) := by decide +kernel
theorem d_HoldQueue_span_12 : decode c_HoldQueue_span 12 = .ok (.ireturn, 1) := by decide +kernel
theorem d_HoldQueue_span_13 : decode c_HoldQueue_span 13 = .ok (.aload_n 0, 1) := by decide +kernel
theorem d_HoldQueue_span_14 : decode c_HoldQueue_span 14 = .ok (.getfield 42, 3) := by decide +kernel
theorem d_HoldQueue_span_17 : decode c_HoldQueue_span 17 = .ok (.istore_n 2, 1) := by decide +kernel
theorem d_HoldQueue_span_18 : decode c_HoldQueue_span 18 = .ok (.aload_n 0, 1) := by decide +kernel
theorem d_HoldQueue_span_19 : decode c_HoldQueue_span 19 = .ok (.iload_n 1, 1) := by decide +kernel
theorem d_HoldQueue_span_20 : decode c_HoldQueue_span 20 = .ok (.putfield 42, 3) := by decide +kernel
theorem d_HoldQueue_span_23 : decode c_HoldQueue_span 23 = .ok (.iload_n 2, 1) := by decide +kernel
theorem d_HoldQueue_span_24 : decode c_HoldQueue_span 24 = .ok (.ireturn, 1) := by decide +kernel
theorem d_HoldQueue_rank_0 : decode c_HoldQueue_rank 0 = .ok (.aload_n 0, 1) := by decide +kernel
theorem d_HoldQueue_rank_1 : decode c_HoldQueue_rank 1 = .ok (.getfield 34, 3) := by decide +kernel
theorem d_HoldQueue_rank_4 : decode c_HoldQueue_rank 4 = .ok (.iload_n 1, 1) := by decide +kernel
theorem d_HoldQueue_rank_5 : decode c_HoldQueue_rank 5 = .ok (.iconst 0, 1) := by decide +kernel
theorem d_HoldQueue_rank_6 : decode c_HoldQueue_rank 6 = .ok (.invokevirtual 90, 3) := by decide +kernel
theorem d_HoldQueue_rank_9 : decode c_HoldQueue_rank 9 = .ok (.ifCond .ne 5, 3) := by decide +kernel
theorem d_HoldQueue_rank_12 : decode c_HoldQueue_rank 12 = .ok (.iconst (-1), 1) := by decide +kernel
theorem d_HoldQueue_rank_13 : decode c_HoldQueue_rank 13 = .ok (.ireturn, 1) := by decide +kernel
theorem d_HoldQueue_rank_14 : decode c_HoldQueue_rank 14 = .ok (.aload_n 0, 1) := by decide +kernel
theorem d_HoldQueue_rank_15 : decode c_HoldQueue_rank 15 = .ok (.getfield 34, 3) := by decide +kernel
theorem d_HoldQueue_rank_18 : decode c_HoldQueue_rank 18 = .ok (.getfield 133, 3) := by decide +kernel
theorem d_HoldQueue_rank_21 : decode c_HoldQueue_rank 21 = .ok (.iload_n 1, 1) := by decide +kernel
theorem d_HoldQueue_rank_22 : decode c_HoldQueue_rank 22 = .ok (.iload_n 2, 1) := by decide +kernel
theorem d_HoldQueue_rank_23 : decode c_HoldQueue_rank 23 = .ok (.iastore, 1) := by decide +kernel
theorem d_HoldQueue_rank_24 : decode c_HoldQueue_rank 24 = .ok (.aload_n 0, 1) := by decide +kernel
theorem d_HoldQueue_rank_25 : decode c_HoldQueue_rank 25 = .ok (.getfield 34, 3) := by decide +kernel
theorem d_HoldQueue_rank_28 : decode c_HoldQueue_rank 28 = .ok (.iload_n 1, 1) := by decide +kernel
theorem d_HoldQueue_rank_29 : decode c_HoldQueue_rank 29 = .ok (.invokevirtual 136, 3) := by decide +kernel
theorem d_HoldQueue_rank_32 : decode c_HoldQueue_rank 32 = .ok (.ireturn, 1) := by decide +kernel
theorem d_HoldQueue_order_0 : decode c_HoldQueue_order 0 = .ok (.aload_n 0, 1) := by decide +kernel
theorem d_HoldQueue_order_1 : decode c_HoldQueue_order 1 = .ok (.iload_n 1, 1) := by decide +kernel
theorem d_HoldQueue_order_2 : decode c_HoldQueue_order 2 = .ok (.invokevirtual 55, 3) := by decide +kernel
theorem d_HoldQueue_order_5 : decode c_HoldQueue_order 5 = .ok (.ifCond .eq 15, 3) := by decide +kernel
theorem d_HoldQueue_order_8 : decode c_HoldQueue_order 8 = .ok (.aload_n 0, 1) := by decide +kernel
theorem d_HoldQueue_order_9 : decode c_HoldQueue_order 9 = .ok (.getfield 34, 3) := by decide +kernel
theorem d_HoldQueue_order_12 : decode c_HoldQueue_order 12 = .ok (.iload_n 1, 1) := by decide +kernel
end
section
theorem d_HoldQueue_order_13 : decode c_HoldQueue_order 13 = .ok (.iload_n 2, 1) := by decide +kernel
theorem d_HoldQueue_order_14 : decode c_HoldQueue_order 14 = .ok (.invokevirtual 139, 3) := by decide +kernel
theorem d_HoldQueue_order_17 : decode c_HoldQueue_order 17 = .ok (.goto 4, 3) := by decide +kernel
theorem d_HoldQueue_order_20 : decode c_HoldQueue_order 20 = .ok (.iconst 0, 1) := by decide +kernel
theorem d_HoldQueue_order_21 : decode c_HoldQueue_order 21 = .ok (.ireturn, 1) := by decide +kernel
theorem d_HoldQueue_state_0 : decode c_HoldQueue_state 0 = .ok (.aload_n 0, 1) := by decide +kernel
theorem d_HoldQueue_state_1 : decode c_HoldQueue_state 1 = .ok (.getfield 34, 3) := by decide +kernel
theorem d_HoldQueue_state_4 : decode c_HoldQueue_state 4 = .ok (.iload_n 1, 1) := by decide +kernel
theorem d_HoldQueue_state_5 : decode c_HoldQueue_state 5 = .ok (.invokevirtual 142, 3) := by decide +kernel
theorem d_HoldQueue_state_8 : decode c_HoldQueue_state 8 = .ok (.ifCond .ne 5, 3) := by decide +kernel
theorem d_HoldQueue_state_11 : decode c_HoldQueue_state 11 = .ok (.iconst (-1), 1) := by decide +kernel
theorem d_HoldQueue_state_12 : decode c_HoldQueue_state 12 = .ok (.ireturn, 1) := by decide +kernel
theorem d_HoldQueue_state_13 : decode c_HoldQueue_state 13 = .ok (.iload_n 2, 1) := by decide +kernel
theorem d_HoldQueue_state_14 : decode c_HoldQueue_state 14 = .ok (.tableswitch 71 0 2 #[26, 36, 46], 26) := by decide +kernel
theorem d_HoldQueue_state_40 : decode c_HoldQueue_state 40 = .ok (.aload_n 0, 1) := by decide +kernel
theorem d_HoldQueue_state_41 : decode c_HoldQueue_state 41 = .ok (.getfield 34, 3) := by decide +kernel
theorem d_HoldQueue_state_44 : decode c_HoldQueue_state 44 = .ok (.getfield 114, 3) := by decide +kernel
theorem d_HoldQueue_state_47 : decode c_HoldQueue_state 47 = .ok (.iload_n 1, 1) := by decide +kernel
theorem d_HoldQueue_state_48 : decode c_HoldQueue_state 48 = .ok (.iaload, 1) := by decide +kernel
theorem d_HoldQueue_state_49 : decode c_HoldQueue_state 49 = .ok (.ireturn, 1) := by decide +kernel
theorem d_HoldQueue_state_50 : decode c_HoldQueue_state 50 = .ok (.aload_n 0, 1) := by decide +kernel
theorem d_HoldQueue_state_51 : decode c_HoldQueue_state 51 = .ok (.getfield 34, 3) := by decide +kernel
theorem d_HoldQueue_state_54 : decode c_HoldQueue_state 54 = .ok (.getfield 111, 3) := by decide +kernel
theorem d_HoldQueue_state_57 : decode c_HoldQueue_state 57 = .ok (.iload_n 1, 1) := by decide +kernel
theorem d_HoldQueue_state_58 : decode c_HoldQueue_state 58 = .ok (.iaload, 1) := by decide +kernel
theorem d_HoldQueue_state_59 : decode c_HoldQueue_state 59 = .ok (.ireturn, 1) := by decide +kernel
theorem d_HoldQueue_state_60 : decode c_HoldQueue_state 60 = .ok (.aload_n 0, 1) := by decide +kernel
theorem d_HoldQueue_state_61 : decode c_HoldQueue_state 61 = .ok (.getfield 34, 3) := by decide +kernel
theorem d_HoldQueue_state_64 : decode c_HoldQueue_state 64 = .ok (.iload_n 1, 1) := by decide +kernel
theorem d_HoldQueue_state_65 : decode c_HoldQueue_state 65 = .ok (.iconst 0, 1) := by decide +kernel
theorem d_HoldQueue_state_66 : decode c_HoldQueue_state 66 = .ok (.invokevirtual 90, 3) := by decide +kernel
theorem d_HoldQueue_state_69 : decode c_HoldQueue_state 69 = .ok (.ifCond .eq 14, 3) := by decide +kernel
theorem d_HoldQueue_state_72 : decode c_HoldQueue_state 72 = .ok (.aload_n 0, 1) := by decide +kernel
theorem d_HoldQueue_state_73 : decode c_HoldQueue_state 73 = .ok (.getfield 34, 3) := by decide +kernel
theorem d_HoldQueue_state_76 : decode c_HoldQueue_state 76 = .ok (.iload_n 1, 1) := by decide +kernel
theorem d_HoldQueue_state_77 : decode c_HoldQueue_state 77 = .ok (.invokevirtual 136, 3) := by decide +kernel
theorem d_HoldQueue_state_80 : decode c_HoldQueue_state 80 = .ok (.goto 4, 3) := by decide +kernel
theorem d_HoldQueue_state_83 : decode c_HoldQueue_state 83 = .ok (.iconst (-1), 1) := by decide +kernel
theorem d_HoldQueue_state_84 : decode c_HoldQueue_state 84 = .ok (.ireturn, 1) := by decide +kernel
theorem d_HoldQueue_state_85 : decode c_HoldQueue_state 85 = .ok (.iconst (-1), 1) := by decide +kernel
theorem d_HoldQueue_state_86 : decode c_HoldQueue_state 86 = .ok (.ireturn, 1) := by decide +kernel
theorem d_HoldQueue_where_0 : decode c_HoldQueue_where 0 = .ok (.aload_n 0, 1) := by decide +kernel
theorem d_HoldQueue_where_1 : decode c_HoldQueue_where 1 = .ok (.getfield 27, 3) := by decide +kernel
theorem d_HoldQueue_where_4 : decode c_HoldQueue_where 4 = .ok (.iload_n 1, 1) := by decide +kernel
theorem d_HoldQueue_where_5 : decode c_HoldQueue_where 5 = .ok (.invokevirtual 145, 3) := by decide +kernel
theorem d_HoldQueue_where_8 : decode c_HoldQueue_where 8 = .ok (.ifCond .ne 5, 3) := by decide +kernel
theorem d_HoldQueue_where_11 : decode c_HoldQueue_where 11 = .ok (.iconst (-1), 1) := by decide +kernel
theorem d_HoldQueue_where_12 : decode c_HoldQueue_where 12 = .ok (.ireturn, 1) := by decide +kernel
theorem d_HoldQueue_where_13 : decode c_HoldQueue_where 13 = .ok (.iload_n 2, 1) := by decide +kernel
theorem d_HoldQueue_where_14 : decode c_HoldQueue_where 14 = .ok (.tableswitch 56 0 2 #[26, 36, 46], 26) := by decide +kernel
theorem d_HoldQueue_where_40 : decode c_HoldQueue_where 40 = .ok (.aload_n 0, 1) := by decide +kernel
theorem d_HoldQueue_where_41 : decode c_HoldQueue_where 41 = .ok (.getfield 27, 3) := by decide +kernel
theorem d_HoldQueue_where_44 : decode c_HoldQueue_where 44 = .ok (.getfield 117, 3) := by decide +kernel
theorem d_HoldQueue_where_47 : decode c_HoldQueue_where 47 = .ok (.iload_n 1, 1) := by decide +kernel
theorem d_HoldQueue_where_48 : decode c_HoldQueue_where 48 = .ok (.iaload, 1) := by decide +kernel
theorem d_HoldQueue_where_49 : decode c_HoldQueue_where 49 = .ok (.ireturn, 1) := by decide +kernel
theorem d_HoldQueue_where_50 : decode c_HoldQueue_where 50 = .ok (.aload_n 0, 1) := by decide +kernel
theorem d_HoldQueue_where_51 : decode c_HoldQueue_where 51 = .ok (.getfield 27, 3) := by decide +kernel
theorem d_HoldQueue_where_54 : decode c_HoldQueue_where 54 = .ok (.getfield 98, 3) := by decide +kernel
theorem d_HoldQueue_where_57 : decode c_HoldQueue_where 57 = .ok (.iload_n 1, 1) := by decide +kernel
theorem d_HoldQueue_where_58 : decode c_HoldQueue_where 58 = .ok (.iaload, 1) := by decide +kernel
theorem d_HoldQueue_where_59 : decode c_HoldQueue_where 59 = .ok (.ireturn, 1) := by decide +kernel
theorem d_HoldQueue_where_60 : decode c_HoldQueue_where 60 = .ok (.aload_n 0, 1) := by decide +kernel
theorem d_HoldQueue_where_61 : decode c_HoldQueue_where 61 = .ok (.getfield 27, 3) := by decide +kernel
theorem d_HoldQueue_where_64 : decode c_HoldQueue_where 64 = .ok (.getfield 101, 3) := by decide +kernel
theorem d_HoldQueue_where_67 : decode c_HoldQueue_where 67 = .ok (.iload_n 1, 1) := by decide +kernel
theorem d_HoldQueue_where_68 : decode c_HoldQueue_where 68 = .ok (.iaload, 1) := by decide +kernel
theorem d_HoldQueue_where_69 : decode c_HoldQueue_where 69 = .ok (.ireturn, 1) := by decide +kernel
theorem d_HoldQueue_where_70 : decode c_HoldQueue_where 70 = .ok (.iconst (-1), 1) := by decide +kernel
theorem d_HoldQueue_where_71 : decode c_HoldQueue_where 71 = .ok (.ireturn, 1) := by decide +kernel
theorem d_HoldQueue_isKind_0 : decode c_HoldQueue_isKind 0 = .ok (.iload_n 0, 1) := by decide +kernel
theorem d_HoldQueue_isKind_1 : decode c_HoldQueue_isKind 1 = .ok (.ifCond .lt 12, 3) := by decide +kernel
theorem d_HoldQueue_isKind_4 : decode c_HoldQueue_isKind 4 = .ok (.iload_n 0, 1) := by decide +kernel
theorem d_HoldQueue_isKind_5 : decode c_HoldQueue_isKind 5 = .ok (.iconst 4, 1) := by decide +kernel
theorem d_HoldQueue_isKind_6 : decode c_HoldQueue_isKind 6 = .ok (.if_icmp .ge 7, 3) := by decide +kernel
theorem d_HoldQueue_isKind_9 : decode c_HoldQueue_isKind 9 = .ok (.iconst 1, 1) := by decide +kernel
theorem d_HoldQueue_isKind_10 : decode c_HoldQueue_isKind 10 = .ok (.goto 4, 3) := by decide +kernel
theorem d_HoldQueue_isKind_13 : decode c_HoldQueue_isKind 13 = .ok (.iconst 0, 1) := by decide +kernel
theorem d_HoldQueue_isKind_14 : decode c_HoldQueue_isKind 14 = .ok (.ireturn, 1) := by decide +kernel
theorem d_HoldQueue_isPerson_0 : decode c_HoldQueue_isPerson 0 = .ok (.iload_n 0, 1) := by decide +kernel
theorem d_HoldQueue_isPerson_1 : decode c_HoldQueue_isPerson 1 = .ok (.ifCond .lt 13, 3) := by decide +kernel
theorem d_HoldQueue_isPerson_4 : decode c_HoldQueue_isPerson 4 = .ok (.iload_n 0, 1) := by decide +kernel
theorem d_HoldQueue_isPerson_5 : decode c_HoldQueue_isPerson 5 = .ok (.bipush 40, 2) := by decide +kernel
theorem d_HoldQueue_isPerson_7 : decode c_HoldQueue_isPerson 7 = .ok (.if_icmp .ge 7, 3) := by decide +kernel
theorem d_HoldQueue_isPerson_10 : decode c_HoldQueue_isPerson 10 = .ok (.iconst 1, 1) := by decide +kernel
theorem d_HoldQueue_isPerson_11 : decode c_HoldQueue_isPerson 11 = .ok (.goto 4, 3) := by decide +kernel
theorem d_HoldQueue_isPerson_14 : decode c_HoldQueue_isPerson 14 = .ok (.iconst 0, 1) := by decide +kernel
theorem d_HoldQueue_isPerson_15 : decode c_HoldQueue_isPerson 15 = .ok (.ireturn, 1) := by decide +kernel
theorem d_HoldQueue_isPlace_0 : decode c_HoldQueue_isPlace 0 = .ok (.iload_n 0, 1) := by decide +kernel
theorem d_HoldQueue_isPlace_1 : decode c_HoldQueue_isPlace 1 = .ok (.ifCond .lt 13, 3) := by decide +kernel
theorem d_HoldQueue_isPlace_4 : decode c_HoldQueue_isPlace 4 = .ok (.iload_n 0, 1) := by decide +kernel
theorem d_HoldQueue_isPlace_5 : decode c_HoldQueue_isPlace 5 = .ok (.bipush 6, 2) := by decide +kernel
theorem d_HoldQueue_isPlace_7 : decode c_HoldQueue_isPlace 7 = .ok (.if_icmp .ge 7, 3) := by decide +kernel
theorem d_HoldQueue_isPlace_10 : decode c_HoldQueue_isPlace 10 = .ok (.iconst 1, 1) := by decide +kernel
theorem d_HoldQueue_isPlace_11 : decode c_HoldQueue_isPlace 11 = .ok (.goto 4, 3) := by decide +kernel
theorem d_HoldQueue_isPlace_14 : decode c_HoldQueue_isPlace 14 = .ok (.iconst 0, 1) := by decide +kernel
theorem d_HoldQueue_isPlace_15 : decode c_HoldQueue_isPlace 15 = .ok (.ireturn, 1) := by decide +kernel
theorem d_HoldQueue_isRecord_0 : decode c_HoldQueue_isRecord 0 = .ok (.iload_n 1, 1) := by decide +kernel
theorem d_HoldQueue_isRecord_1 : decode c_HoldQueue_isRecord 1 = .ok (.iconst 1, 1) := by decide +kernel
theorem d_HoldQueue_isRecord_2 : decode c_HoldQueue_isRecord 2 = .ok (.if_icmp .lt 15, 3) := by decide +kernel
theorem d_HoldQueue_isRecord_5 : decode c_HoldQueue_isRecord 5 = .ok (.iload_n 1, 1) := by decide +kernel
theorem d_HoldQueue_isRecord_6 : decode c_HoldQueue_isRecord 6 = .ok (.aload_n 0, 1) := by decide +kernel
theorem d_HoldQueue_isRecord_7 : decode c_HoldQueue_isRecord 7 = .ok (.getfield 13, 3) := by decide +kernel
theorem d_HoldQueue_isRecord_10 : decode c_HoldQueue_isRecord 10 = .ok (.if_icmp .gt 7, 3) := by decide +kernel
theorem d_HoldQueue_isRecord_13 : decode c_HoldQueue_isRecord 13 = .ok (.iconst 1, 1) := by decide +kernel
theorem d_HoldQueue_isRecord_14 : decode c_HoldQueue_isRecord 14 = .ok (.goto 4, 3) := by decide +kernel
theorem d_HoldQueue_isRecord_17 : decode c_HoldQueue_isRecord 17 = .ok (.iconst 0, 1) := by decide +kernel
theorem d_HoldQueue_isRecord_18 : decode c_HoldQueue_isRecord 18 = .ok (.ireturn, 1) := by decide +kernel
theorem d_HoldQueue_settle_0 : decode c_HoldQueue_settle 0 = .ok (.aload_n 0, 1) := by decide +kernel
theorem d_HoldQueue_settle_1 : decode c_HoldQueue_settle 1 = .ok (.getfield 34, 3) := by decide +kernel
theorem d_HoldQueue_settle_4 : decode c_HoldQueue_settle 4 = .ok (.aload_n 0, 1) := by decide +kernel
theorem d_HoldQueue_settle_5 : decode c_HoldQueue_settle 5 = .ok (.getfield 27, 3) := by decide +kernel
theorem d_HoldQueue_settle_8 : decode c_HoldQueue_settle 8 = .ok (.getfield 146, 3) := by decide +kernel
theorem d_HoldQueue_settle_11 : decode c_HoldQueue_settle 11 = .ok (.iload_n 1, 1) := by decide +kernel
theorem d_HoldQueue_settle_12 : decode c_HoldQueue_settle 12 = .ok (.iaload, 1) := by decide +kernel
theorem d_HoldQueue_settle_13 : decode c_HoldQueue_settle 13 = .ok (.aload_n 0, 1) := by decide +kernel
theorem d_HoldQueue_settle_14 : decode c_HoldQueue_settle 14 = .ok (.getfield 38, 3) := by decide +kernel
theorem d_HoldQueue_settle_17 : decode c_HoldQueue_settle 17 = .ok (.invokevirtual 149, 3) := by decide +kernel
theorem d_HoldQueue_settle_20 : decode c_HoldQueue_settle 20 = .ok (.istore_n 2, 1) := by decide +kernel
theorem d_HoldQueue_settle_21 : decode c_HoldQueue_settle 21 = .ok (.iload_n 2, 1) := by decide +kernel
theorem d_HoldQueue_settle_22 : decode c_HoldQueue_settle 22 = .ok (.ifCond .ne 15, 3) := by decide +kernel
theorem d_HoldQueue_settle_25 : decode c_HoldQueue_settle 25 = .ok (.aload_n 0, 1) := by decide +kernel
theorem d_HoldQueue_settle_26 : decode c_HoldQueue_settle 26 = .ok (.getfield 27, 3) := by decide +kernel
theorem d_HoldQueue_settle_29 : decode c_HoldQueue_settle 29 = .ok (.getfield 117, 3) := by decide +kernel
theorem d_HoldQueue_settle_32 : decode c_HoldQueue_settle 32 = .ok (.iload_n 1, 1) := by decide +kernel
theorem d_HoldQueue_settle_33 : decode c_HoldQueue_settle 33 = .ok (.iconst 0, 1) := by decide +kernel
theorem d_HoldQueue_settle_34 : decode c_HoldQueue_settle 34 = .ok (.iastore, 1) := by decide +kernel
theorem d_HoldQueue_settle_35 : decode c_HoldQueue_settle 35 = .ok (.iconst 0, 1) := by decide +kernel
theorem d_HoldQueue_settle_36 : decode c_HoldQueue_settle 36 = .ok (.ireturn, 1) := by decide +kernel
theorem d_HoldQueue_settle_37 : decode c_HoldQueue_settle 37 = .ok (.aload_n 0, 1) := by decide +kernel
theorem d_HoldQueue_settle_38 : decode c_HoldQueue_settle 38 = .ok (.getfield 27, 3) := by decide +kernel
theorem d_HoldQueue_settle_41 : decode c_HoldQueue_settle 41 = .ok (.getfield 101, 3) := by decide +kernel
theorem d_HoldQueue_settle_44 : decode c_HoldQueue_settle 44 = .ok (.iload_n 1, 1) := by decide +kernel
theorem d_HoldQueue_settle_45 : decode c_HoldQueue_settle 45 = .ok (.iload_n 2, 1) := by decide +kernel
theorem d_HoldQueue_settle_46 : decode c_HoldQueue_settle 46 = .ok (.iastore, 1) := by decide +kernel
theorem d_HoldQueue_settle_47 : decode c_HoldQueue_settle 47 = .ok (.aload_n 0, 1) := by decide +kernel
theorem d_HoldQueue_settle_48 : decode c_HoldQueue_settle 48 = .ok (.getfield 34, 3) := by decide +kernel
theorem d_HoldQueue_settle_51 : decode c_HoldQueue_settle 51 = .ok (.getfield 111, 3) := by decide +kernel
theorem d_HoldQueue_settle_54 : decode c_HoldQueue_settle 54 = .ok (.iload_n 2, 1) := by decide +kernel
theorem d_HoldQueue_settle_55 : decode c_HoldQueue_settle 55 = .ok (.iload_n 1, 1) := by decide +kernel
theorem d_HoldQueue_settle_56 : decode c_HoldQueue_settle 56 = .ok (.iastore, 1) := by decide +kernel
theorem d_HoldQueue_settle_57 : decode c_HoldQueue_settle 57 = .ok (.aload_n 0, 1) := by decide +kernel
theorem d_HoldQueue_settle_58 : decode c_HoldQueue_settle 58 = .ok (.getfield 27, 3) := by decide +kernel
theorem d_HoldQueue_settle_61 : decode c_HoldQueue_settle 61 = .ok (.getfield 98, 3) := by decide +kernel
theorem d_HoldQueue_settle_64 : decode c_HoldQueue_settle 64 = .ok (.iload_n 1, 1) := by decide +kernel
theorem d_HoldQueue_settle_65 : decode c_HoldQueue_settle 65 = .ok (.iaload, 1) := by decide +kernel
theorem d_HoldQueue_settle_66 : decode c_HoldQueue_settle 66 = .ok (.aload_n 0, 1) := by decide +kernel
theorem d_HoldQueue_settle_67 : decode c_HoldQueue_settle 67 = .ok (.getfield 34, 3) := by decide +kernel
theorem d_HoldQueue_settle_70 : decode c_HoldQueue_settle 70 = .ok (.getfield 153, 3) := by decide +kernel
theorem d_HoldQueue_settle_73 : decode c_HoldQueue_settle 73 = .ok (.iload_n 2, 1) := by decide +kernel
theorem d_HoldQueue_settle_74 : decode c_HoldQueue_settle 74 = .ok (.iaload, 1) := by decide +kernel
theorem d_HoldQueue_settle_75 : decode c_HoldQueue_settle 75 = .ok (.if_icmp .ne 12, 3) := by decide +kernel
theorem d_HoldQueue_settle_78 : decode c_HoldQueue_settle 78 = .ok (.aload_n 0, 1) := by decide +kernel
theorem d_HoldQueue_settle_79 : decode c_HoldQueue_settle 79 = .ok (.iload_n 1, 1) := by decide +kernel
theorem d_HoldQueue_settle_80 : decode c_HoldQueue_settle 80 = .ok (.iload_n 2, 1) := by decide +kernel
theorem d_HoldQueue_settle_81 : decode c_HoldQueue_settle 81 = .ok (.invokevirtual 104, 3) := by decide +kernel
theorem d_HoldQueue_settle_84 : decode c_HoldQueue_settle 84 = .ok (.goto 9, 3) := by decide +kernel
theorem d_HoldQueue_settle_87 : decode c_HoldQueue_settle 87 = .ok (.aload_n 0, 1) := by decide +kernel
theorem d_HoldQueue_settle_88 : decode c_HoldQueue_settle 88 = .ok (.iload_n 1, 1) := by decide +kernel
theorem d_HoldQueue_settle_89 : decode c_HoldQueue_settle 89 = .ok (.iload_n 2, 1) := by decide +kernel
theorem d_HoldQueue_settle_90 : decode c_HoldQueue_settle 90 = .ok (.invokevirtual 154, 3) := by decide +kernel
theorem d_HoldQueue_settle_93 : decode c_HoldQueue_settle 93 = .ok (.iload_n 2, 1) := by decide +kernel
theorem d_HoldQueue_settle_94 : decode c_HoldQueue_settle 94 = .ok (.ireturn, 1) := by decide +kernel
theorem d_HoldQueue_layReady_0 : decode c_HoldQueue_layReady 0 = .ok (.aload_n 0, 1) := by decide +kernel
theorem d_HoldQueue_layReady_1 : decode c_HoldQueue_layReady 1 = .ok (.getfield 27, 3) := by decide +kernel
theorem d_HoldQueue_layReady_4 : decode c_HoldQueue_layReady 4 = .ok (.getfield 117, 3) := by decide +kernel
theorem d_HoldQueue_layReady_7 : decode c_HoldQueue_layReady 7 = .ok (.iload_n 1, 1) := by decide +kernel
theorem d_HoldQueue_layReady_8 : decode c_HoldQueue_layReady 8 = .ok (.iconst 3, 1) := by decide +kernel
theorem d_HoldQueue_layReady_9 : decode c_HoldQueue_layReady 9 = .ok (.iastore, 1) := by decide +kernel
theorem d_HoldQueue_layReady_10 : decode c_HoldQueue_layReady 10 = .ok (.aload_n 0, 1) := by decide +kernel
theorem d_HoldQueue_layReady_11 : decode c_HoldQueue_layReady 11 = .ok (.getfield 34, 3) := by decide +kernel
theorem d_HoldQueue_layReady_14 : decode c_HoldQueue_layReady 14 = .ok (.getfield 114, 3) := by decide +kernel
theorem d_HoldQueue_layReady_17 : decode c_HoldQueue_layReady 17 = .ok (.iload_n 2, 1) := by decide +kernel
theorem d_HoldQueue_layReady_18 : decode c_HoldQueue_layReady 18 = .ok (.iconst 2, 1) := by decide +kernel
theorem d_HoldQueue_layReady_19 : decode c_HoldQueue_layReady 19 = .ok (.iastore, 1) := by decide +kernel
theorem d_HoldQueue_layReady_20 : decode c_HoldQueue_layReady 20 = .ok (.aload_n 0, 1) := by decide +kernel
theorem d_HoldQueue_layReady_21 : decode c_HoldQueue_layReady 21 = .ok (.getfield 34, 3) := by decide +kernel
theorem d_HoldQueue_layReady_24 : decode c_HoldQueue_layReady 24 = .ok (.getfield 130, 3) := by decide +kernel
theorem d_HoldQueue_layReady_27 : decode c_HoldQueue_layReady 27 = .ok (.iload_n 2, 1) := by decide +kernel
theorem d_HoldQueue_layReady_28 : decode c_HoldQueue_layReady 28 = .ok (.aload_n 0, 1) := by decide +kernel
theorem d_HoldQueue_layReady_29 : decode c_HoldQueue_layReady 29 = .ok (.getfield 38, 3) := by decide +kernel
theorem d_HoldQueue_layReady_32 : decode c_HoldQueue_layReady 32 = .ok (.aload_n 0, 1) := by decide +kernel
theorem d_HoldQueue_layReady_33 : decode c_HoldQueue_layReady 33 = .ok (.getfield 42, 3) := by decide +kernel
theorem d_HoldQueue_layReady_36 : decode c_HoldQueue_layReady 36 = .ok (.i2l, 1) := by decide +kernel
theorem d_HoldQueue_layReady_37 : decode c_HoldQueue_layReady 37 = .ok (.ladd, 1) := by decide +kernel
theorem d_HoldQueue_layReady_38 : decode c_HoldQueue_layReady 38 = .ok (.lastore, 1) := by decide +kernel
theorem d_HoldQueue_layReady_39 : decode c_HoldQueue_layReady 39 = .ok (.return_, 1) := by decide +kernel
theorem d_HoldQueue_send_0 : decode c_HoldQueue_send 0 = .ok (.aload_n 0, 1) := by decide +kernel
theorem d_HoldQueue_send_1 : decode c_HoldQueue_send 1 = .ok (.getfield 27, 3) := by decide +kernel
theorem d_HoldQueue_send_4 : decode c_HoldQueue_send 4 = .ok (.getfield 117, 3) := by decide +kernel
theorem d_HoldQueue_send_7 : decode c_HoldQueue_send 7 = .ok (.iload_n 1, 1) := by decide +kernel
theorem d_HoldQueue_send_8 : decode c_HoldQueue_send 8 = .ok (.iconst 2, 1) := by decide +kernel
theorem d_HoldQueue_send_9 : decode c_HoldQueue_send 9 = .ok (.iastore, 1) := by decide +kernel
theorem d_HoldQueue_send_10 : decode c_HoldQueue_send 10 = .ok (.aload_n 0, 1) := by decide +kernel
theorem d_HoldQueue_send_11 : decode c_HoldQueue_send 11 = .ok (.getfield 27, 3) := by decide +kernel
theorem d_HoldQueue_send_14 : decode c_HoldQueue_send 14 = .ok (.getfield 98, 3) := by decide +kernel
theorem d_HoldQueue_send_17 : decode c_HoldQueue_send 17 = .ok (.iload_n 1, 1) := by decide +kernel
theorem d_HoldQueue_send_18 : decode c_HoldQueue_send 18 = .ok (.aload_n 0, 1) := by decide +kernel
theorem d_HoldQueue_send_19 : decode c_HoldQueue_send 19 = .ok (.getfield 34, 3) := by decide +kernel
theorem d_HoldQueue_send_22 : decode c_HoldQueue_send 22 = .ok (.getfield 153, 3) := by decide +kernel
theorem d_HoldQueue_send_25 : decode c_HoldQueue_send 25 = .ok (.iload_n 2, 1) := by decide +kernel
theorem d_HoldQueue_send_26 : decode c_HoldQueue_send 26 = .ok (.iaload, 1) := by decide +kernel
theorem d_HoldQueue_send_27 : decode c_HoldQueue_send 27 = .ok (.iastore, 1) := by decide +kernel
theorem d_HoldQueue_send_28 : decode c_HoldQueue_send 28 = .ok (.aload_n 0, 1) := by decide +kernel
theorem d_HoldQueue_send_29 : decode c_HoldQueue_send 29 = .ok (.getfield 34, 3) := by decide +kernel
theorem d_HoldQueue_send_32 : decode c_HoldQueue_send 32 = .ok (.getfield 114, 3) := by decide +kernel
theorem d_HoldQueue_send_35 : decode c_HoldQueue_send 35 = .ok (.iload_n 2, 1) := by decide +kernel
theorem d_HoldQueue_send_36 : decode c_HoldQueue_send 36 = .ok (.iconst 1, 1) := by decide +kernel
theorem d_HoldQueue_send_37 : decode c_HoldQueue_send 37 = .ok (.iastore, 1) := by decide +kernel
theorem d_HoldQueue_send_38 : decode c_HoldQueue_send 38 = .ok (.return_, 1) := by decide +kernel
theorem d_HoldQueue_untie_0 : decode c_HoldQueue_untie 0 = .ok (.aload_n 0, 1) := by decide +kernel
theorem d_HoldQueue_untie_1 : decode c_HoldQueue_untie 1 = .ok (.getfield 27, 3) := by decide +kernel
theorem d_HoldQueue_untie_4 : decode c_HoldQueue_untie 4 = .ok (.getfield 101, 3) := by decide +kernel
theorem d_HoldQueue_untie_7 : decode c_HoldQueue_untie 7 = .ok (.iload_n 1, 1) := by decide +kernel
theorem d_HoldQueue_untie_8 : decode c_HoldQueue_untie 8 = .ok (.iconst 0, 1) := by decide +kernel
theorem d_HoldQueue_untie_9 : decode c_HoldQueue_untie 9 = .ok (.iastore, 1) := by decide +kernel
theorem d_HoldQueue_untie_10 : decode c_HoldQueue_untie 10 = .ok (.aload_n 0, 1) := by decide +kernel
theorem d_HoldQueue_untie_11 : decode c_HoldQueue_untie 11 = .ok (.getfield 34, 3) := by decide +kernel
theorem d_HoldQueue_untie_14 : decode c_HoldQueue_untie 14 = .ok (.getfield 111, 3) := by decide +kernel
theorem d_HoldQueue_untie_17 : decode c_HoldQueue_untie 17 = .ok (.iload_n 2, 1) := by decide +kernel
theorem d_HoldQueue_untie_18 : decode c_HoldQueue_untie 18 = .ok (.iconst 0, 1) := by decide +kernel
theorem d_HoldQueue_untie_19 : decode c_HoldQueue_untie 19 = .ok (.iastore, 1) := by decide +kernel
theorem d_HoldQueue_untie_20 : decode c_HoldQueue_untie 20 = .ok (.return_, 1) := by decide +kernel
theorem d_HoldQueue_letGo_0 : decode c_HoldQueue_letGo 0 = .ok (.aload_n 0, 1) := by decide +kernel
theorem d_HoldQueue_letGo_1 : decode c_HoldQueue_letGo 1 = .ok (.getfield 34, 3) := by decide +kernel
theorem d_HoldQueue_letGo_4 : decode c_HoldQueue_letGo 4 = .ok (.getfield 111, 3) := by decide +kernel
theorem d_HoldQueue_letGo_7 : decode c_HoldQueue_letGo 7 = .ok (.iload_n 1, 1) := by decide +kernel
theorem d_HoldQueue_letGo_8 : decode c_HoldQueue_letGo 8 = .ok (.iaload, 1) := by decide +kernel
theorem d_HoldQueue_letGo_9 : decode c_HoldQueue_letGo 9 = .ok (.istore_n 2, 1) := by decide +kernel
theorem d_HoldQueue_letGo_10 : decode c_HoldQueue_letGo 10 = .ok (.aload_n 0, 1) := by decide +kernel
theorem d_HoldQueue_letGo_11 : decode c_HoldQueue_letGo 11 = .ok (.iload_n 2, 1) := by decide +kernel
theorem d_HoldQueue_letGo_12 : decode c_HoldQueue_letGo 12 = .ok (.iload_n 1, 1) := by decide +kernel
theorem d_HoldQueue_letGo_13 : decode c_HoldQueue_letGo 13 = .ok (.invokevirtual 108, 3) := by decide +kernel
theorem d_HoldQueue_letGo_16 : decode c_HoldQueue_letGo 16 = .ok (.aload_n 0, 1) := by decide +kernel
theorem d_HoldQueue_letGo_17 : decode c_HoldQueue_letGo 17 = .ok (.iload_n 2, 1) := by decide +kernel
theorem d_HoldQueue_letGo_18 : decode c_HoldQueue_letGo 18 = .ok (.invokevirtual 87, 3) := by decide +kernel
theorem d_HoldQueue_letGo_21 : decode c_HoldQueue_letGo 21 = .ok (.pop, 1) := by decide +kernel
theorem d_HoldQueue_letGo_22 : decode c_HoldQueue_letGo 22 = .ok (.return_, 1) := by decide +kernel
theorem d_HoldQueue_Copies_init_0 : decode c_HoldQueue_Copies_init 0 = .ok (.aload_n 0, 1) := by decide +kernel
theorem d_HoldQueue_Copies_init_1 : decode c_HoldQueue_Copies_init 1 = .ok (.invokespecial 3, 3) := by decide +kernel
theorem d_HoldQueue_Copies_init_4 : decode c_HoldQueue_Copies_init 4 = .ok (.aload_n 0, 1) := by decide +kernel
theorem d_HoldQueue_Copies_init_5 : decode c_HoldQueue_Copies_init 5 = .ok (.iconst 0, 1) := by decide +kernel
theorem d_HoldQueue_Copies_init_6 : decode c_HoldQueue_Copies_init 6 = .ok (.putfield 9, 3) := by decide +kernel
theorem d_HoldQueue_Copies_init_9 : decode c_HoldQueue_Copies_init 9 = .ok (.aload_n 0, 1) := by decide +kernel
theorem d_HoldQueue_Copies_init_10 : decode c_HoldQueue_Copies_init 10 = .ok (.bipush 61, 2) := by decide +kernel
theorem d_HoldQueue_Copies_init_12 : decode c_HoldQueue_Copies_init 12 = .ok (.newarray .int, 2) := by decide +kernel
theorem d_HoldQueue_Copies_init_14 : decode c_HoldQueue_Copies_init 14 = .ok (.putfield 15, 3) := by decide +kernel
theorem d_HoldQueue_Copies_init_17 : decode c_HoldQueue_Copies_init 17 = .ok (.aload_n 0, 1) := by decide +kernel
theorem d_HoldQueue_Copies_init_18 : decode c_HoldQueue_Copies_init 18 = .ok (.bipush 61, 2) := by decide +kernel
theorem d_HoldQueue_Copies_init_20 : decode c_HoldQueue_Copies_init 20 = .ok (.newarray .int, 2) := by decide +kernel
theorem d_HoldQueue_Copies_init_22 : decode c_HoldQueue_Copies_init 22 = .ok (.putfield 19, 3) := by decide +kernel
theorem d_HoldQueue_Copies_init_25 : decode c_HoldQueue_Copies_init 25 = .ok (.aload_n 0, 1) := by decide +kernel
theorem d_HoldQueue_Copies_init_26 : decode c_HoldQueue_Copies_init 26 = .ok (.bipush 61, 2) := by decide +kernel
theorem d_HoldQueue_Copies_init_28 : decode c_HoldQueue_Copies_init 28 = .ok (.newarray .int, 2) := by decide +kernel
theorem d_HoldQueue_Copies_init_30 : decode c_HoldQueue_Copies_init 30 = .ok (.putfield 22, 3) := by decide +kernel
theorem d_HoldQueue_Copies_init_33 : decode c_HoldQueue_Copies_init 33 = .ok (.aload_n 0, 1) := by decide +kernel
theorem d_HoldQueue_Copies_init_34 : decode c_HoldQueue_Copies_init 34 = .ok (.bipush 61, 2) := by decide +kernel
theorem d_HoldQueue_Copies_init_36 : decode c_HoldQueue_Copies_init 36 = .ok (.newarray .int, 2) := by decide +kernel
theorem d_HoldQueue_Copies_init_38 : decode c_HoldQueue_Copies_init 38 = .ok (.putfield 25, 3) := by decide +kernel
theorem d_HoldQueue_Copies_init_41 : decode c_HoldQueue_Copies_init 41 = .ok (.return_, 1) := by decide +kernel
theorem d_HoldQueue_Copies_has_0 : decode c_HoldQueue_Copies_has 0 = .ok (.iload_n 1, 1) := by decide +kernel
theorem d_HoldQueue_Copies_has_1 : decode c_HoldQueue_Copies_has 1 = .ok (.iconst 1, 1) := by decide +kernel
theorem d_HoldQueue_Copies_has_2 : decode c_HoldQueue_Copies_has 2 = .ok (.if_icmp .lt 15, 3) := by decide +kernel
theorem d_HoldQueue_Copies_has_5 : decode c_HoldQueue_Copies_has 5 = .ok (.iload_n 1, 1) := by decide +kernel
theorem d_HoldQueue_Copies_has_6 : decode c_HoldQueue_Copies_has 6 = .ok (.aload_n 0, 1) := by decide +kernel
theorem d_HoldQueue_Copies_has_7 : decode c_HoldQueue_Copies_has 7 = .ok (.getfield 9, 3) := by decide +kernel
theorem d_HoldQueue_Copies_has_10 : decode c_HoldQueue_Copies_has 10 = .ok (.if_icmp .gt 7, 3) := by decide +kernel
theorem d_HoldQueue_Copies_has_13 : decode c_HoldQueue_Copies_has 13 = .ok (.iconst 1, 1) := by decide +kernel
theorem d_HoldQueue_Copies_has_14 : decode c_HoldQueue_Copies_has 14 = .ok (.goto 4, 3) := by decide +kernel
theorem d_HoldQueue_Copies_has_17 : decode c_HoldQueue_Copies_has 17 = .ok (.iconst 0, 1) := by decide +kernel
theorem d_HoldQueue_Copies_has_18 : decode c_HoldQueue_Copies_has 18 = .ok (.ireturn, 1) := by decide +kernel
theorem d_HoldQueue_Copies_isIn_0 : decode c_HoldQueue_Copies_isIn 0 = .ok (.aload_n 0, 1) := by decide +kernel
theorem d_HoldQueue_Copies_isIn_1 : decode c_HoldQueue_Copies_isIn 1 = .ok (.iload_n 1, 1) := by decide +kernel
theorem d_HoldQueue_Copies_isIn_2 : decode c_HoldQueue_Copies_isIn 2 = .ok (.invokevirtual 28, 3) := by decide +kernel
theorem d_HoldQueue_Copies_isIn_5 : decode c_HoldQueue_Copies_isIn 5 = .ok (.ifCond .eq 17, 3) := by decide +kernel
theorem d_HoldQueue_Copies_isIn_8 : decode c_HoldQueue_Copies_isIn 8 = .ok (.aload_n 0, 1) := by decide +kernel
theorem d_HoldQueue_Copies_isIn_9 : decode c_HoldQueue_Copies_isIn 9 = .ok (.getfield 22, 3) := by decide +kernel
theorem d_HoldQueue_Copies_isIn_12 : decode c_HoldQueue_Copies_isIn 12 = .ok (.iload_n 1, 1) := by decide +kernel
theorem d_HoldQueue_Copies_isIn_13 : decode c_HoldQueue_Copies_isIn 13 = .ok (.iaload, 1) := by decide +kernel
theorem d_HoldQueue_Copies_isIn_14 : decode c_HoldQueue_Copies_isIn 14 = .ok (.iload_n 2, 1) := by decide +kernel
theorem d_HoldQueue_Copies_isIn_15 : decode c_HoldQueue_Copies_isIn 15 = .ok (.if_icmp .ne 7, 3) := by decide +kernel
theorem d_HoldQueue_Copies_isIn_18 : decode c_HoldQueue_Copies_isIn 18 = .ok (.iconst 1, 1) := by decide +kernel
theorem d_HoldQueue_Copies_isIn_19 : decode c_HoldQueue_Copies_isIn 19 = .ok (.goto 4, 3) := by decide +kernel
theorem d_HoldQueue_Copies_isIn_22 : decode c_HoldQueue_Copies_isIn 22 = .ok (.iconst 0, 1) := by decide +kernel
theorem d_HoldQueue_Copies_isIn_23 : decode c_HoldQueue_Copies_isIn 23 = .ok (.ireturn, 1) := by decide +kernel
theorem d_HoldQueue_Copies_areFull_0 : decode c_HoldQueue_Copies_areFull 0 = .ok (.aload_n 0, 1) := by decide +kernel
theorem d_HoldQueue_Copies_areFull_1 : decode c_HoldQueue_Copies_areFull 1 = .ok (.getfield 9, 3) := by decide +kernel
theorem d_HoldQueue_Copies_areFull_4 : decode c_HoldQueue_Copies_areFull 4 = .ok (.bipush 60, 2) := by decide +kernel
theorem d_HoldQueue_Copies_areFull_6 : decode c_HoldQueue_Copies_areFull 6 = .ok (.if_icmp .lt 7, 3) := by decide +kernel
theorem d_HoldQueue_Copies_areFull_9 : decode c_HoldQueue_Copies_areFull 9 = .ok (.iconst 1, 1) := by decide +kernel
theorem d_HoldQueue_Copies_areFull_10 : decode c_HoldQueue_Copies_areFull 10 = .ok (.goto 4, 3) := by decide +kernel
theorem d_HoldQueue_Copies_areFull_13 : decode c_HoldQueue_Copies_areFull 13 = .ok (.iconst 0, 1) := by decide +kernel
theorem d_HoldQueue_Copies_areFull_14 : decode c_HoldQueue_Copies_areFull 14 = .ok (.ireturn, 1) := by decide +kernel
theorem d_HoldQueue_Copies_add_0 : decode c_HoldQueue_Copies_add 0 = .ok (.aload_n 0, 1) := by decide +kernel
theorem d_HoldQueue_Copies_add_1 : decode c_HoldQueue_Copies_add 1 = .ok (.dup, 1) := by decide +kernel
theorem d_HoldQueue_Copies_add_2 : decode c_HoldQueue_Copies_add 2 = .ok (.getfield 9, 3) := by decide +kernel
theorem d_HoldQueue_Copies_add_5 : decode c_HoldQueue_Copies_add 5 = .ok (.iconst 1, 1) := by decide +kernel
theorem d_HoldQueue_Copies_add_6 : decode c_HoldQueue_Copies_add 6 = .ok (.iadd, 1) := by decide +kernel
theorem d_HoldQueue_Copies_add_7 : decode c_HoldQueue_Copies_add 7 = .ok (.putfield 9, 3) := by decide +kernel
theorem d_HoldQueue_Copies_add_10 : decode c_HoldQueue_Copies_add 10 = .ok (.aload_n 0, 1) := by decide +kernel
theorem d_HoldQueue_Copies_add_11 : decode c_HoldQueue_Copies_add 11 = .ok (.getfield 15, 3) := by decide +kernel
theorem d_HoldQueue_Copies_add_14 : decode c_HoldQueue_Copies_add 14 = .ok (.aload_n 0, 1) := by decide +kernel
theorem d_HoldQueue_Copies_add_15 : decode c_HoldQueue_Copies_add 15 = .ok (.getfield 9, 3) := by decide +kernel
theorem d_HoldQueue_Copies_add_18 : decode c_HoldQueue_Copies_add 18 = .ok (.iload_n 1, 1) := by decide +kernel
theorem d_HoldQueue_Copies_add_19 : decode c_HoldQueue_Copies_add 19 = .ok (.iastore, 1) := by decide +kernel
theorem d_HoldQueue_Copies_add_20 : decode c_HoldQueue_Copies_add 20 = .ok (.aload_n 0, 1) := by decide +kernel
theorem d_HoldQueue_Copies_add_21 : decode c_HoldQueue_Copies_add 21 = .ok (.getfield 19, 3) := by decide +kernel
theorem d_HoldQueue_Copies_add_24 : decode c_HoldQueue_Copies_add 24 = .ok (.aload_n 0, 1) := by decide +kernel
theorem d_HoldQueue_Copies_add_25 : decode c_HoldQueue_Copies_add 25 = .ok (.getfield 9, 3) := by decide +kernel
theorem d_HoldQueue_Copies_add_28 : decode c_HoldQueue_Copies_add 28 = .ok (.iload_n 2, 1) := by decide +kernel
theorem d_HoldQueue_Copies_add_29 : decode c_HoldQueue_Copies_add 29 = .ok (.iastore, 1) := by decide +kernel
theorem d_HoldQueue_Copies_add_30 : decode c_HoldQueue_Copies_add 30 = .ok (.aload_n 0, 1) := by decide +kernel
theorem d_HoldQueue_Copies_add_31 : decode c_HoldQueue_Copies_add 31 = .ok (.getfield 22, 3) := by decide +kernel
theorem d_HoldQueue_Copies_add_34 : decode c_HoldQueue_Copies_add 34 = .ok (.aload_n 0, 1) := by decide +kernel
theorem d_HoldQueue_Copies_add_35 : decode c_HoldQueue_Copies_add 35 = .ok (.getfield 9, 3) := by decide +kernel
theorem d_HoldQueue_Copies_add_38 : decode c_HoldQueue_Copies_add 38 = .ok (.iconst 1, 1) := by decide +kernel
theorem d_HoldQueue_Copies_add_39 : decode c_HoldQueue_Copies_add 39 = .ok (.iastore, 1) := by decide +kernel
theorem d_HoldQueue_Copies_add_40 : decode c_HoldQueue_Copies_add 40 = .ok (.aload_n 0, 1) := by decide +kernel
theorem d_HoldQueue_Copies_add_41 : decode c_HoldQueue_Copies_add 41 = .ok (.getfield 9, 3) := by decide +kernel
theorem d_HoldQueue_Copies_add_44 : decode c_HoldQueue_Copies_add 44 = .ok (.ireturn, 1) := by decide +kernel
theorem d_HoldQueue_Copies_leastFree_0 : decode c_HoldQueue_Copies_leastFree 0 = .ok (.iconst 1, 1) := by decide +kernel
theorem d_HoldQueue_Copies_leastFree_1 : decode c_HoldQueue_Copies_leastFree 1 = .ok (.istore_n 2, 1) := by decide +kernel
theorem d_HoldQueue_Copies_leastFree_2 : decode c_HoldQueue_Copies_leastFree 2 = .ok (.iload_n 2, 1) := by decide +kernel
theorem d_HoldQueue_Copies_leastFree_3 : decode c_HoldQueue_Copies_leastFree 3 = .ok (.aload_n 0, 1) := by decide +kernel
theorem d_HoldQueue_Copies_leastFree_4 : decode c_HoldQueue_Copies_leastFree 4 = .ok (.getfield 9, 3) := by decide +kernel
theorem d_HoldQueue_Copies_leastFree_7 : decode c_HoldQueue_Copies_leastFree 7 = .ok (.if_icmp .gt 30, 3) := by decide +kernel
theorem d_HoldQueue_Copies_leastFree_10 : decode c_HoldQueue_Copies_leastFree 10 = .ok (.aload_n 0, 1) := by decide +kernel
theorem d_HoldQueue_Copies_leastFree_11 : decode c_HoldQueue_Copies_leastFree 11 = .ok (.getfield 15, 3) := by decide +kernel
theorem d_HoldQueue_Copies_leastFree_14 : decode c_HoldQueue_Copies_leastFree 14 = .ok (.iload_n 2, 1) := by decide +kernel
theorem d_HoldQueue_Copies_leastFree_15 : decode c_HoldQueue_Copies_leastFree 15 = .ok (.iaload, 1) := by decide +kernel
theorem d_HoldQueue_Copies_leastFree_16 : decode c_HoldQueue_Copies_leastFree 16 = .ok (.iload_n 1, 1) := by decide +kernel
theorem d_HoldQueue_Copies_leastFree_17 : decode c_HoldQueue_Copies_leastFree 17 = .ok (.if_icmp .ne 14, 3) := by decide +kernel
theorem d_HoldQueue_Copies_leastFree_20 : decode c_HoldQueue_Copies_leastFree 20 = .ok (.aload_n 0, 1) := by decide +kernel
theorem d_HoldQueue_Copies_leastFree_21 : decode c_HoldQueue_Copies_leastFree 21 = .ok (.getfield 22, 3) := by decide +kernel
theorem d_HoldQueue_Copies_leastFree_24 : decode c_HoldQueue_Copies_leastFree 24 = .ok (.iload_n 2, 1) := by decide +kernel
theorem d_HoldQueue_Copies_leastFree_25 : decode c_HoldQueue_Copies_leastFree 25 = .ok (.iaload, 1) := by decide +kernel
theorem d_HoldQueue_Copies_leastFree_26 : decode c_HoldQueue_Copies_leastFree 26 = .ok (.ifCond .ne 5, 3) := by decide +kernel
theorem d_HoldQueue_Copies_leastFree_29 : decode c_HoldQueue_Copies_leastFree 29 = .ok (.iload_n 2, 1) := by decide +kernel
theorem d_HoldQueue_Copies_leastFree_30 : decode c_HoldQueue_Copies_leastFree 30 = .ok (.ireturn, 1) := by decide +kernel
theorem d_HoldQueue_Copies_leastFree_31 : decode c_HoldQueue_Copies_leastFree 31 = .ok (.iinc 2 1, 3) := by decide +kernel
theorem d_HoldQueue_Copies_leastFree_34 : decode c_HoldQueue_Copies_leastFree 34 = .ok (.goto (-32), 3) := by decide +kernel
theorem d_HoldQueue_Copies_leastFree_37 : decode c_HoldQueue_Copies_leastFree 37 = .ok (.iconst 0, 1) := by decide +kernel
theorem d_HoldQueue_Copies_leastFree_38 : decode c_HoldQueue_Copies_leastFree 38 = .ok (.ireturn, 1) := by decide +kernel
theorem d_HoldQueue_Holds_init_0 : decode c_HoldQueue_Holds_init 0 = .ok (.aload_n 0, 1) := by decide +kernel
theorem d_HoldQueue_Holds_init_1 : decode c_HoldQueue_Holds_init 1 = .ok (.invokespecial 3, 3) := by decide +kernel
theorem d_HoldQueue_Holds_init_4 : decode c_HoldQueue_Holds_init 4 = .ok (.aload_n 0, 1) := by decide +kernel
theorem d_HoldQueue_Holds_init_5 : decode c_HoldQueue_Holds_init 5 = .ok (.iconst 0, 1) := by decide +kernel
theorem d_HoldQueue_Holds_init_6 : decode c_HoldQueue_Holds_init 6 = .ok (.putfield 9, 3) := by decide +kernel
theorem d_HoldQueue_Holds_init_9 : decode c_HoldQueue_Holds_init 9 = .ok (.aload_n 0, 1) := by decide +kernel
theorem d_HoldQueue_Holds_init_10 : decode c_HoldQueue_Holds_init 10 = .ok (.bipush 121, 2) := by decide +kernel
theorem d_HoldQueue_Holds_init_12 : decode c_HoldQueue_Holds_init 12 = .ok (.newarray .int, 2) := by decide +kernel
theorem d_HoldQueue_Holds_init_14 : decode c_HoldQueue_Holds_init 14 = .ok (.putfield 15, 3) := by decide +kernel
theorem d_HoldQueue_Holds_init_17 : decode c_HoldQueue_Holds_init 17 = .ok (.aload_n 0, 1) := by decide +kernel
theorem d_HoldQueue_Holds_init_18 : decode c_HoldQueue_Holds_init 18 = .ok (.bipush 121, 2) := by decide +kernel
theorem d_HoldQueue_Holds_init_20 : decode c_HoldQueue_Holds_init 20 = .ok (.newarray .int, 2) := by decide +kernel
theorem d_HoldQueue_Holds_init_22 : decode c_HoldQueue_Holds_init 22 = .ok (.putfield 19, 3) := by decide +kernel
theorem d_HoldQueue_Holds_init_25 : decode c_HoldQueue_Holds_init 25 = .ok (.aload_n 0, 1) := by decide +kernel
theorem d_HoldQueue_Holds_init_26 : decode c_HoldQueue_Holds_init 26 = .ok (.bipush 121, 2) := by decide +kernel
theorem d_HoldQueue_Holds_init_28 : decode c_HoldQueue_Holds_init 28 = .ok (.newarray .int, 2) := by decide +kernel
theorem d_HoldQueue_Holds_init_30 : decode c_HoldQueue_Holds_init 30 = .ok (.putfield 22, 3) := by decide +kernel
theorem d_HoldQueue_Holds_init_33 : decode c_HoldQueue_Holds_init 33 = .ok (.aload_n 0, 1) := by decide +kernel
theorem d_HoldQueue_Holds_init_34 : decode c_HoldQueue_Holds_init 34 = .ok (.bipush 121, 2) := by decide +kernel
theorem d_HoldQueue_Holds_init_36 : decode c_HoldQueue_Holds_init 36 = .ok (.newarray .int, 2) := by decide +kernel
theorem d_HoldQueue_Holds_init_38 : decode c_HoldQueue_Holds_init 38 = .ok (.putfield 25, 3) := by decide +kernel
theorem d_HoldQueue_Holds_init_41 : decode c_HoldQueue_Holds_init 41 = .ok (.aload_n 0, 1) := by decide +kernel
theorem d_HoldQueue_Holds_init_42 : decode c_HoldQueue_Holds_init 42 = .ok (.bipush 121, 2) := by decide +kernel
theorem d_HoldQueue_Holds_init_44 : decode c_HoldQueue_Holds_init 44 = .ok (.newarray .int, 2) := by decide +kernel
theorem d_HoldQueue_Holds_init_46 : decode c_HoldQueue_Holds_init 46 = .ok (.putfield 28, 3) := by decide +kernel
theorem d_HoldQueue_Holds_init_49 : decode c_HoldQueue_Holds_init 49 = .ok (.aload_n 0, 1) := by decide +kernel
theorem d_HoldQueue_Holds_init_50 : decode c_HoldQueue_Holds_init 50 = .ok (.bipush 121, 2) := by decide +kernel
theorem d_HoldQueue_Holds_init_52 : decode c_HoldQueue_Holds_init 52 = .ok (.newarray .int, 2) := by decide +kernel
theorem d_HoldQueue_Holds_init_54 : decode c_HoldQueue_Holds_init 54 = .ok (.putfield 31, 3) := by decide +kernel
theorem d_HoldQueue_Holds_init_57 : decode c_HoldQueue_Holds_init 57 = .ok (.aload_n 0, 1) := by decide +kernel
theorem d_HoldQueue_Holds_init_58 : decode c_HoldQueue_Holds_init 58 = .ok (.bipush 121, 2) := by decide +kernel
theorem d_HoldQueue_Holds_init_60 : decode c_HoldQueue_Holds_init 60 = .ok (.newarray .long, 2) := by decide +kernel
theorem d_HoldQueue_Holds_init_62 : decode c_HoldQueue_Holds_init 62 = .ok (.putfield 34, 3) := by decide +kernel
theorem d_HoldQueue_Holds_init_65 : decode c_HoldQueue_Holds_init 65 = .ok (.aload_n 0, 1) := by decide +kernel
theorem d_HoldQueue_Holds_init_66 : decode c_HoldQueue_Holds_init 66 = .ok (.bipush 121, 2) := by decide +kernel
theorem d_HoldQueue_Holds_init_68 : decode c_HoldQueue_Holds_init 68 = .ok (.newarray .long, 2) := by decide +kernel
theorem d_HoldQueue_Holds_init_70 : decode c_HoldQueue_Holds_init 70 = .ok (.putfield 38, 3) := by decide +kernel
theorem d_HoldQueue_Holds_init_73 : decode c_HoldQueue_Holds_init 73 = .ok (.return_, 1) := by decide +kernel
theorem d_HoldQueue_Holds_has_0 : decode c_HoldQueue_Holds_has 0 = .ok (.iload_n 1, 1) := by decide +kernel
theorem d_HoldQueue_Holds_has_1 : decode c_HoldQueue_Holds_has 1 = .ok (.iconst 1, 1) := by decide +kernel
theorem d_HoldQueue_Holds_has_2 : decode c_HoldQueue_Holds_has 2 = .ok (.if_icmp .lt 15, 3) := by decide +kernel
theorem d_HoldQueue_Holds_has_5 : decode c_HoldQueue_Holds_has 5 = .ok (.iload_n 1, 1) := by decide +kernel
theorem d_HoldQueue_Holds_has_6 : decode c_HoldQueue_Holds_has 6 = .ok (.aload_n 0, 1) := by decide +kernel
theorem d_HoldQueue_Holds_has_7 : decode c_HoldQueue_Holds_has 7 = .ok (.getfield 9, 3) := by decide +kernel
theorem d_HoldQueue_Holds_has_10 : decode c_HoldQueue_Holds_has 10 = .ok (.if_icmp .gt 7, 3) := by decide +kernel
theorem d_HoldQueue_Holds_has_13 : decode c_HoldQueue_Holds_has 13 = .ok (.iconst 1, 1) := by decide +kernel
theorem d_HoldQueue_Holds_has_14 : decode c_HoldQueue_Holds_has 14 = .ok (.goto 4, 3) := by decide +kernel
theorem d_HoldQueue_Holds_has_17 : decode c_HoldQueue_Holds_has 17 = .ok (.iconst 0, 1) := by decide +kernel
theorem d_HoldQueue_Holds_has_18 : decode c_HoldQueue_Holds_has 18 = .ok (.ireturn, 1) := by decide +kernel
theorem d_HoldQueue_Holds_isIn_0 : decode c_HoldQueue_Holds_isIn 0 = .ok (.aload_n 0, 1) := by decide +kernel
theorem d_HoldQueue_Holds_isIn_1 : decode c_HoldQueue_Holds_isIn 1 = .ok (.iload_n 1, 1) := by decide +kernel
theorem d_HoldQueue_Holds_isIn_2 : decode c_HoldQueue_Holds_isIn 2 = .ok (.invokevirtual 41, 3) := by decide +kernel
theorem d_HoldQueue_Holds_isIn_5 : decode c_HoldQueue_Holds_isIn 5 = .ok (.ifCond .eq 17, 3) := by decide +kernel
theorem d_HoldQueue_Holds_isIn_8 : decode c_HoldQueue_Holds_isIn 8 = .ok (.aload_n 0, 1) := by decide +kernel
theorem d_HoldQueue_Holds_isIn_9 : decode c_HoldQueue_Holds_isIn 9 = .ok (.getfield 28, 3) := by decide +kernel
theorem d_HoldQueue_Holds_isIn_12 : decode c_HoldQueue_Holds_isIn 12 = .ok (.iload_n 1, 1) := by decide +kernel
theorem d_HoldQueue_Holds_isIn_13 : decode c_HoldQueue_Holds_isIn 13 = .ok (.iaload, 1) := by decide +kernel
theorem d_HoldQueue_Holds_isIn_14 : decode c_HoldQueue_Holds_isIn 14 = .ok (.iload_n 2, 1) := by decide +kernel
theorem d_HoldQueue_Holds_isIn_15 : decode c_HoldQueue_Holds_isIn 15 = .ok (.if_icmp .ne 7, 3) := by decide +kernel
theorem d_HoldQueue_Holds_isIn_18 : decode c_HoldQueue_Holds_isIn 18 = .ok (.iconst 1, 1) := by decide +kernel
theorem d_HoldQueue_Holds_isIn_19 : decode c_HoldQueue_Holds_isIn 19 = .ok (.goto 4, 3) := by decide +kernel
theorem d_HoldQueue_Holds_isIn_22 : decode c_HoldQueue_Holds_isIn 22 = .ok (.iconst 0, 1) := by decide +kernel
theorem d_HoldQueue_Holds_isIn_23 : decode c_HoldQueue_Holds_isIn 23 = .ok (.ireturn, 1) := by decide +kernel
theorem d_HoldQueue_Holds_isOpen_0 : decode c_HoldQueue_Holds_isOpen 0 = .ok (.aload_n 0, 1) := by decide +kernel
theorem d_HoldQueue_Holds_isOpen_1 : decode c_HoldQueue_Holds_isOpen 1 = .ok (.iload_n 1, 1) := by decide +kernel
theorem d_HoldQueue_Holds_isOpen_2 : decode c_HoldQueue_Holds_isOpen 2 = .ok (.iconst 0, 1) := by decide +kernel
theorem d_HoldQueue_Holds_isOpen_3 : decode c_HoldQueue_Holds_isOpen 3 = .ok (.invokevirtual 45, 3) := by decide +kernel
theorem d_HoldQueue_Holds_isOpen_6 : decode c_HoldQueue_Holds_isOpen 6 = .ok (.ifCond .ne 21, 3) := by decide +kernel
theorem d_HoldQueue_Holds_isOpen_9 : decode c_HoldQueue_Holds_isOpen 9 = .ok (.aload_n 0, 1) := by decide +kernel
theorem d_HoldQueue_Holds_isOpen_10 : decode c_HoldQueue_Holds_isOpen 10 = .ok (.iload_n 1, 1) := by decide +kernel
theorem d_HoldQueue_Holds_isOpen_11 : decode c_HoldQueue_Holds_isOpen 11 = .ok (.iconst 1, 1) := by decide +kernel
theorem d_HoldQueue_Holds_isOpen_12 : decode c_HoldQueue_Holds_isOpen 12 = .ok (.invokevirtual 45, 3) := by decide +kernel
theorem d_HoldQueue_Holds_isOpen_15 : decode c_HoldQueue_Holds_isOpen 15 = .ok (.ifCond .ne 12, 3) := by decide +kernel
theorem d_HoldQueue_Holds_isOpen_18 : decode c_HoldQueue_Holds_isOpen 18 = .ok (.aload_n 0, 1) := by decide +kernel
theorem d_HoldQueue_Holds_isOpen_19 : decode c_HoldQueue_Holds_isOpen 19 = .ok (.iload_n 1, 1) := by decide +kernel
theorem d_HoldQueue_Holds_isOpen_20 : decode c_HoldQueue_Holds_isOpen 20 = .ok (.iconst 2, 1) := by decide +kernel
theorem d_HoldQueue_Holds_isOpen_21 : decode c_HoldQueue_Holds_isOpen 21 = .ok (.invokevirtual 45, 3) := by decide +kernel
theorem d_HoldQueue_Holds_isOpen_24 : decode c_HoldQueue_Holds_isOpen 24 = .ok (.ifCond .eq 7, 3) := by decide +kernel
theorem d_HoldQueue_Holds_isOpen_27 : decode c_HoldQueue_Holds_isOpen 27 = .ok (.iconst 1, 1) := by decide +kernel
theorem d_HoldQueue_Holds_isOpen_28 : decode c_HoldQueue_Holds_isOpen 28 = .ok (.goto 4, 3) := by decide +kernel
theorem d_HoldQueue_Holds_isOpen_31 : decode c_HoldQueue_Holds_isOpen 31 = .ok (.iconst 0, 1) := by decide +kernel
theorem d_HoldQueue_Holds_isOpen_32 : decode c_HoldQueue_Holds_isOpen 32 = .ok (.ireturn, 1) := by decide +kernel
end
section
theorem d_HoldQueue_Holds_areFull_0 : decode c_HoldQueue_Holds_areFull 0 = .ok (.aload_n 0, 1) := by decide +kernel
theorem d_HoldQueue_Holds_areFull_1 : decode c_HoldQueue_Holds_areFull 1 = .ok (.getfield 9, 3) := by decide +kernel
theorem d_HoldQueue_Holds_areFull_4 : decode c_HoldQueue_Holds_areFull 4 = .ok (.bipush 120, 2) := by decide +kernel
theorem d_HoldQueue_Holds_areFull_6 : decode c_HoldQueue_Holds_areFull 6 = .ok (.if_icmp .lt 7, 3) := by decide +kernel
theorem d_HoldQueue_Holds_areFull_9 : decode c_HoldQueue_Holds_areFull 9 = .ok (.iconst 1, 1) := by decide +kernel
theorem d_HoldQueue_Holds_areFull_10 : decode c_HoldQueue_Holds_areFull 10 = .ok (.goto 4, 3) := by decide +kernel
theorem d_HoldQueue_Holds_areFull_13 : decode c_HoldQueue_Holds_areFull 13 = .ok (.iconst 0, 1) := by decide +kernel
theorem d_HoldQueue_Holds_areFull_14 : decode c_HoldQueue_Holds_areFull 14 = .ok (.ireturn, 1) := by decide +kernel
theorem d_HoldQueue_Holds_add_0 : decode c_HoldQueue_Holds_add 0 = .ok (.aload_n 0, 1) := by decide +kernel
theorem d_HoldQueue_Holds_add_1 : decode c_HoldQueue_Holds_add 1 = .ok (.dup, 1) := by decide +kernel
theorem d_HoldQueue_Holds_add_2 : decode c_HoldQueue_Holds_add 2 = .ok (.getfield 9, 3) := by decide +kernel
theorem d_HoldQueue_Holds_add_5 : decode c_HoldQueue_Holds_add 5 = .ok (.iconst 1, 1) := by decide +kernel
theorem d_HoldQueue_Holds_add_6 : decode c_HoldQueue_Holds_add 6 = .ok (.iadd, 1) := by decide +kernel
theorem d_HoldQueue_Holds_add_7 : decode c_HoldQueue_Holds_add 7 = .ok (.putfield 9, 3) := by decide +kernel
theorem d_HoldQueue_Holds_add_10 : decode c_HoldQueue_Holds_add 10 = .ok (.aload_n 0, 1) := by decide +kernel
theorem d_HoldQueue_Holds_add_11 : decode c_HoldQueue_Holds_add 11 = .ok (.getfield 15, 3) := by decide +kernel
theorem d_HoldQueue_Holds_add_14 : decode c_HoldQueue_Holds_add 14 = .ok (.aload_n 0, 1) := by decide +kernel
theorem d_HoldQueue_Holds_add_15 : decode c_HoldQueue_Holds_add 15 = .ok (.getfield 9, 3) := by decide +kernel
theorem d_HoldQueue_Holds_add_18 : decode c_HoldQueue_Holds_add 18 = .ok (.iload_n 1, 1) := by decide +kernel
theorem d_HoldQueue_Holds_add_19 : decode c_HoldQueue_Holds_add 19 = .ok (.iastore, 1) := by decide +kernel
theorem d_HoldQueue_Holds_add_20 : decode c_HoldQueue_Holds_add 20 = .ok (.aload_n 0, 1) := by decide +kernel
theorem d_HoldQueue_Holds_add_21 : decode c_HoldQueue_Holds_add 21 = .ok (.getfield 19, 3) := by decide +kernel
theorem d_HoldQueue_Holds_add_24 : decode c_HoldQueue_Holds_add 24 = .ok (.aload_n 0, 1) := by decide +kernel
theorem d_HoldQueue_Holds_add_25 : decode c_HoldQueue_Holds_add 25 = .ok (.getfield 9, 3) := by decide +kernel
theorem d_HoldQueue_Holds_add_28 : decode c_HoldQueue_Holds_add 28 = .ok (.iload_n 2, 1) := by decide +kernel
theorem d_HoldQueue_Holds_add_29 : decode c_HoldQueue_Holds_add 29 = .ok (.iastore, 1) := by decide +kernel
theorem d_HoldQueue_Holds_add_30 : decode c_HoldQueue_Holds_add 30 = .ok (.aload_n 0, 1) := by decide +kernel
theorem d_HoldQueue_Holds_add_31 : decode c_HoldQueue_Holds_add 31 = .ok (.getfield 22, 3) := by decide +kernel
theorem d_HoldQueue_Holds_add_34 : decode c_HoldQueue_Holds_add 34 = .ok (.aload_n 0, 1) := by decide +kernel
theorem d_HoldQueue_Holds_add_35 : decode c_HoldQueue_Holds_add 35 = .ok (.getfield 9, 3) := by decide +kernel
theorem d_HoldQueue_Holds_add_38 : decode c_HoldQueue_Holds_add 38 = .ok (.iload_n 3, 1) := by decide +kernel
theorem d_HoldQueue_Holds_add_39 : decode c_HoldQueue_Holds_add 39 = .ok (.iastore, 1) := by decide +kernel
theorem d_HoldQueue_Holds_add_40 : decode c_HoldQueue_Holds_add 40 = .ok (.aload_n 0, 1) := by decide +kernel
theorem d_HoldQueue_Holds_add_41 : decode c_HoldQueue_Holds_add 41 = .ok (.getfield 25, 3) := by decide +kernel
theorem d_HoldQueue_Holds_add_44 : decode c_HoldQueue_Holds_add 44 = .ok (.aload_n 0, 1) := by decide +kernel
theorem d_HoldQueue_Holds_add_45 : decode c_HoldQueue_Holds_add 45 = .ok (.getfield 9, 3) := by decide +kernel
theorem d_HoldQueue_Holds_add_48 : decode c_HoldQueue_Holds_add 48 = .ok (.iload 4, 2) := by decide +kernel
theorem d_HoldQueue_Holds_add_50 : decode c_HoldQueue_Holds_add 50 = .ok (.iastore, 1) := by decide +kernel
theorem d_HoldQueue_Holds_add_51 : decode c_HoldQueue_Holds_add 51 = .ok (.aload_n 0, 1) := by decide +kernel
theorem d_HoldQueue_Holds_add_52 : decode c_HoldQueue_Holds_add 52 = .ok (.getfield 28, 3) := by decide +kernel
theorem d_HoldQueue_Holds_add_55 : decode c_HoldQueue_Holds_add 55 = .ok (.aload_n 0, 1) := by decide +kernel
theorem d_HoldQueue_Holds_add_56 : decode c_HoldQueue_Holds_add 56 = .ok (.getfield 9, 3) := by decide +kernel
theorem d_HoldQueue_Holds_add_59 : decode c_HoldQueue_Holds_add 59 = .ok (.iconst 0, 1) := by decide +kernel
theorem d_HoldQueue_Holds_add_60 : decode c_HoldQueue_Holds_add 60 = .ok (.iastore, 1) := by decide +kernel
theorem d_HoldQueue_Holds_add_61 : decode c_HoldQueue_Holds_add 61 = .ok (.aload_n 0, 1) := by decide +kernel
theorem d_HoldQueue_Holds_add_62 : decode c_HoldQueue_Holds_add 62 = .ok (.getfield 9, 3) := by decide +kernel
theorem d_HoldQueue_Holds_add_65 : decode c_HoldQueue_Holds_add 65 = .ok (.ireturn, 1) := by decide +kernel
theorem d_HoldQueue_Holds_countOpen_0 : decode c_HoldQueue_Holds_countOpen 0 = .ok (.iconst 0, 1) := by decide +kernel
theorem d_HoldQueue_Holds_countOpen_1 : decode c_HoldQueue_Holds_countOpen 1 = .ok (.istore_n 2, 1) := by decide +kernel
theorem d_HoldQueue_Holds_countOpen_2 : decode c_HoldQueue_Holds_countOpen 2 = .ok (.iconst 1, 1) := by decide +kernel
theorem d_HoldQueue_Holds_countOpen_3 : decode c_HoldQueue_Holds_countOpen 3 = .ok (.istore_n 3, 1) := by decide +kernel
theorem d_HoldQueue_Holds_countOpen_4 : decode c_HoldQueue_Holds_countOpen 4 = .ok (.iload_n 3, 1) := by decide +kernel
theorem d_HoldQueue_Holds_countOpen_5 : decode c_HoldQueue_Holds_countOpen 5 = .ok (.aload_n 0, 1) := by decide +kernel
theorem d_HoldQueue_Holds_countOpen_6 : decode c_HoldQueue_Holds_countOpen 6 = .ok (.getfield 9, 3) := by decide +kernel
theorem d_HoldQueue_Holds_countOpen_9 : decode c_HoldQueue_Holds_countOpen 9 = .ok (.if_icmp .gt 30, 3) := by decide +kernel
theorem d_HoldQueue_Holds_countOpen_12 : decode c_HoldQueue_Holds_countOpen 12 = .ok (.aload_n 0, 1) := by decide +kernel
theorem d_HoldQueue_Holds_countOpen_13 : decode c_HoldQueue_Holds_countOpen 13 = .ok (.getfield 15, 3) := by decide +kernel
theorem d_HoldQueue_Holds_countOpen_16 : decode c_HoldQueue_Holds_countOpen 16 = .ok (.iload_n 3, 1) := by decide +kernel
theorem d_HoldQueue_Holds_countOpen_17 : decode c_HoldQueue_Holds_countOpen 17 = .ok (.iaload, 1) := by decide +kernel
theorem d_HoldQueue_Holds_countOpen_18 : decode c_HoldQueue_Holds_countOpen 18 = .ok (.iload_n 1, 1) := by decide +kernel
theorem d_HoldQueue_Holds_countOpen_19 : decode c_HoldQueue_Holds_countOpen 19 = .ok (.if_icmp .ne 14, 3) := by decide +kernel
theorem d_HoldQueue_Holds_countOpen_22 : decode c_HoldQueue_Holds_countOpen 22 = .ok (.aload_n 0, 1) := by decide +kernel
theorem d_HoldQueue_Holds_countOpen_23 : decode c_HoldQueue_Holds_countOpen 23 = .ok (.iload_n 3, 1) := by decide +kernel
theorem d_HoldQueue_Holds_countOpen_24 : decode c_HoldQueue_Holds_countOpen 24 = .ok (.invokevirtual 49, 3) := by decide +kernel
theorem d_HoldQueue_Holds_countOpen_27 : decode c_HoldQueue_Holds_countOpen 27 = .ok (.ifCond .eq 6, 3) := by decide +kernel
theorem d_HoldQueue_Holds_countOpen_30 : decode c_HoldQueue_Holds_countOpen 30 = .ok (.iinc 2 1, 3) := by decide +kernel
theorem d_HoldQueue_Holds_countOpen_33 : decode c_HoldQueue_Holds_countOpen 33 = .ok (.iinc 3 1, 3) := by decide +kernel
theorem d_HoldQueue_Holds_countOpen_36 : decode c_HoldQueue_Holds_countOpen 36 = .ok (.goto (-32), 3) := by decide +kernel
theorem d_HoldQueue_Holds_countOpen_39 : decode c_HoldQueue_Holds_countOpen 39 = .ok (.iload_n 2, 1) := by decide +kernel
theorem d_HoldQueue_Holds_countOpen_40 : decode c_HoldQueue_Holds_countOpen 40 = .ok (.ireturn, 1) := by decide +kernel
theorem d_HoldQueue_Holds_hasOpen_0 : decode c_HoldQueue_Holds_hasOpen 0 = .ok (.iconst 1, 1) := by decide +kernel
theorem d_HoldQueue_Holds_hasOpen_1 : decode c_HoldQueue_Holds_hasOpen 1 = .ok (.istore_n 3, 1) := by decide +kernel
theorem d_HoldQueue_Holds_hasOpen_2 : decode c_HoldQueue_Holds_hasOpen 2 = .ok (.iload_n 3, 1) := by decide +kernel
theorem d_HoldQueue_Holds_hasOpen_3 : decode c_HoldQueue_Holds_hasOpen 3 = .ok (.aload_n 0, 1) := by decide +kernel
theorem d_HoldQueue_Holds_hasOpen_4 : decode c_HoldQueue_Holds_hasOpen 4 = .ok (.getfield 9, 3) := by decide +kernel
theorem d_HoldQueue_Holds_hasOpen_7 : decode c_HoldQueue_Holds_hasOpen 7 = .ok (.if_icmp .gt 39, 3) := by decide +kernel
theorem d_HoldQueue_Holds_hasOpen_10 : decode c_HoldQueue_Holds_hasOpen 10 = .ok (.aload_n 0, 1) := by decide +kernel
theorem d_HoldQueue_Holds_hasOpen_11 : decode c_HoldQueue_Holds_hasOpen 11 = .ok (.getfield 15, 3) := by decide +kernel
theorem d_HoldQueue_Holds_hasOpen_14 : decode c_HoldQueue_Holds_hasOpen 14 = .ok (.iload_n 3, 1) := by decide +kernel
theorem d_HoldQueue_Holds_hasOpen_15 : decode c_HoldQueue_Holds_hasOpen 15 = .ok (.iaload, 1) := by decide +kernel
theorem d_HoldQueue_Holds_hasOpen_16 : decode c_HoldQueue_Holds_hasOpen 16 = .ok (.iload_n 1, 1) := by decide +kernel
theorem d_HoldQueue_Holds_hasOpen_17 : decode c_HoldQueue_Holds_hasOpen 17 = .ok (.if_icmp .ne 23, 3) := by decide +kernel
theorem d_HoldQueue_Holds_hasOpen_20 : decode c_HoldQueue_Holds_hasOpen 20 = .ok (.aload_n 0, 1) := by decide +kernel
theorem d_HoldQueue_Holds_hasOpen_21 : decode c_HoldQueue_Holds_hasOpen 21 = .ok (.getfield 19, 3) := by decide +kernel
theorem d_HoldQueue_Holds_hasOpen_24 : decode c_HoldQueue_Holds_hasOpen 24 = .ok (.iload_n 3, 1) := by decide +kernel
theorem d_HoldQueue_Holds_hasOpen_25 : decode c_HoldQueue_Holds_hasOpen 25 = .ok (.iaload, 1) := by decide +kernel
theorem d_HoldQueue_Holds_hasOpen_26 : decode c_HoldQueue_Holds_hasOpen 26 = .ok (.iload_n 2, 1) := by decide +kernel
theorem d_HoldQueue_Holds_hasOpen_27 : decode c_HoldQueue_Holds_hasOpen 27 = .ok (.if_icmp .ne 13, 3) := by decide +kernel
theorem d_HoldQueue_Holds_hasOpen_30 : decode c_HoldQueue_Holds_hasOpen 30 = .ok (.aload_n 0, 1) := by decide +kernel
theorem d_HoldQueue_Holds_hasOpen_31 : decode c_HoldQueue_Holds_hasOpen 31 = .ok (.iload_n 3, 1) := by decide +kernel
theorem d_HoldQueue_Holds_hasOpen_32 : decode c_HoldQueue_Holds_hasOpen 32 = .ok (.invokevirtual 49, 3) := by decide +kernel
theorem d_HoldQueue_Holds_hasOpen_35 : decode c_HoldQueue_Holds_hasOpen 35 = .ok (.ifCond .eq 5, 3) := by decide +kernel
theorem d_HoldQueue_Holds_hasOpen_38 : decode c_HoldQueue_Holds_hasOpen 38 = .ok (.iconst 1, 1) := by decide +kernel
theorem d_HoldQueue_Holds_hasOpen_39 : decode c_HoldQueue_Holds_hasOpen 39 = .ok (.ireturn, 1) := by decide +kernel
theorem d_HoldQueue_Holds_hasOpen_40 : decode c_HoldQueue_Holds_hasOpen 40 = .ok (.iinc 3 1, 3) := by decide +kernel
theorem d_HoldQueue_Holds_hasOpen_43 : decode c_HoldQueue_Holds_hasOpen 43 = .ok (.goto (-41), 3) := by decide +kernel
theorem d_HoldQueue_Holds_hasOpen_46 : decode c_HoldQueue_Holds_hasOpen 46 = .ok (.iconst 0, 1) := by decide +kernel
theorem d_HoldQueue_Holds_hasOpen_47 : decode c_HoldQueue_Holds_hasOpen 47 = .ok (.ireturn, 1) := by decide +kernel
theorem d_HoldQueue_Holds_isQueued_0 : decode c_HoldQueue_Holds_isQueued 0 = .ok (.aload_n 0, 1) := by decide +kernel
theorem d_HoldQueue_Holds_isQueued_1 : decode c_HoldQueue_Holds_isQueued 1 = .ok (.getfield 19, 3) := by decide +kernel
theorem d_HoldQueue_Holds_isQueued_4 : decode c_HoldQueue_Holds_isQueued 4 = .ok (.iload_n 1, 1) := by decide +kernel
theorem d_HoldQueue_Holds_isQueued_5 : decode c_HoldQueue_Holds_isQueued 5 = .ok (.iaload, 1) := by decide +kernel
theorem d_HoldQueue_Holds_isQueued_6 : decode c_HoldQueue_Holds_isQueued 6 = .ok (.iload_n 2, 1) := by decide +kernel
theorem d_HoldQueue_Holds_isQueued_7 : decode c_HoldQueue_Holds_isQueued 7 = .ok (.if_icmp .ne 16, 3) := by decide +kernel
theorem d_HoldQueue_Holds_isQueued_10 : decode c_HoldQueue_Holds_isQueued 10 = .ok (.aload_n 0, 1) := by decide +kernel
theorem d_HoldQueue_Holds_isQueued_11 : decode c_HoldQueue_Holds_isQueued 11 = .ok (.getfield 28, 3) := by decide +kernel
theorem d_HoldQueue_Holds_isQueued_14 : decode c_HoldQueue_Holds_isQueued 14 = .ok (.iload_n 1, 1) := by decide +kernel
theorem d_HoldQueue_Holds_isQueued_15 : decode c_HoldQueue_Holds_isQueued 15 = .ok (.iaload, 1) := by decide +kernel
theorem d_HoldQueue_Holds_isQueued_16 : decode c_HoldQueue_Holds_isQueued 16 = .ok (.ifCond .ne 7, 3) := by decide +kernel
theorem d_HoldQueue_Holds_isQueued_19 : decode c_HoldQueue_Holds_isQueued 19 = .ok (.iconst 1, 1) := by decide +kernel
theorem d_HoldQueue_Holds_isQueued_20 : decode c_HoldQueue_Holds_isQueued 20 = .ok (.goto 4, 3) := by decide +kernel
theorem d_HoldQueue_Holds_isQueued_23 : decode c_HoldQueue_Holds_isQueued 23 = .ok (.iconst 0, 1) := by decide +kernel
theorem d_HoldQueue_Holds_isQueued_24 : decode c_HoldQueue_Holds_isQueued 24 = .ok (.ireturn, 1) := by decide +kernel
theorem d_HoldQueue_Holds_comesBefore_0 : decode c_HoldQueue_Holds_comesBefore 0 = .ok (.aload_n 0, 1) := by decide +kernel
theorem d_HoldQueue_Holds_comesBefore_1 : decode c_HoldQueue_Holds_comesBefore 1 = .ok (.getfield 25, 3) := by decide +kernel
theorem d_HoldQueue_Holds_comesBefore_4 : decode c_HoldQueue_Holds_comesBefore 4 = .ok (.iload_n 1, 1) := by decide +kernel
theorem d_HoldQueue_Holds_comesBefore_5 : decode c_HoldQueue_Holds_comesBefore 5 = .ok (.iaload, 1) := by decide +kernel
theorem d_HoldQueue_Holds_comesBefore_6 : decode c_HoldQueue_Holds_comesBefore 6 = .ok (.aload_n 0, 1) := by decide +kernel
theorem d_HoldQueue_Holds_comesBefore_7 : decode c_HoldQueue_Holds_comesBefore 7 = .ok (.getfield 25, 3) := by decide +kernel
theorem d_HoldQueue_Holds_comesBefore_10 : decode c_HoldQueue_Holds_comesBefore 10 = .ok (.iload_n 2, 1) := by decide +kernel
theorem d_HoldQueue_Holds_comesBefore_11 : decode c_HoldQueue_Holds_comesBefore 11 = .ok (.iaload, 1) := by decide +kernel
theorem d_HoldQueue_Holds_comesBefore_12 : decode c_HoldQueue_Holds_comesBefore 12 = .ok (.if_icmp .lt 23, 3) := by decide +kernel
theorem d_HoldQueue_Holds_comesBefore_15 : decode c_HoldQueue_Holds_comesBefore 15 = .ok (.aload_n 0, 1) := by decide +kernel
theorem d_HoldQueue_Holds_comesBefore_16 : decode c_HoldQueue_Holds_comesBefore 16 = .ok (.getfield 25, 3) := by decide +kernel
theorem d_HoldQueue_Holds_comesBefore_19 : decode c_HoldQueue_Holds_comesBefore 19 = .ok (.iload_n 1, 1) := by decide +kernel
theorem d_HoldQueue_Holds_comesBefore_20 : decode c_HoldQueue_Holds_comesBefore 20 = .ok (.iaload, 1) := by decide +kernel
theorem d_HoldQueue_Holds_comesBefore_21 : decode c_HoldQueue_Holds_comesBefore 21 = .ok (.aload_n 0, 1) := by decide +kernel
theorem d_HoldQueue_Holds_comesBefore_22 : decode c_HoldQueue_Holds_comesBefore 22 = .ok (.getfield 25, 3) := by decide +kernel
theorem d_HoldQueue_Holds_comesBefore_25 : decode c_HoldQueue_Holds_comesBefore 25 = .ok (.iload_n 2, 1) := by decide +kernel
theorem d_HoldQueue_Holds_comesBefore_26 : decode c_HoldQueue_Holds_comesBefore 26 = .ok (.iaload, 1) := by decide +kernel
theorem d_HoldQueue_Holds_comesBefore_27 : decode c_HoldQueue_Holds_comesBefore 27 = .ok (.if_icmp .ne 12, 3) := by decide +kernel
theorem d_HoldQueue_Holds_comesBefore_30 : decode c_HoldQueue_Holds_comesBefore 30 = .ok (.iload_n 1, 1) := by decide +kernel
theorem d_HoldQueue_Holds_comesBefore_31 : decode c_HoldQueue_Holds_comesBefore 31 = .ok (.iload_n 2, 1) := by decide +kernel
theorem d_HoldQueue_Holds_comesBefore_32 : decode c_HoldQueue_Holds_comesBefore 32 = .ok (.if_icmp .ge 7, 3) := by decide +kernel
theorem d_HoldQueue_Holds_comesBefore_35 : decode c_HoldQueue_Holds_comesBefore 35 = .ok (.iconst 1, 1) := by decide +kernel
theorem d_HoldQueue_Holds_comesBefore_36 : decode c_HoldQueue_Holds_comesBefore 36 = .ok (.goto 4, 3) := by decide +kernel
theorem d_HoldQueue_Holds_comesBefore_39 : decode c_HoldQueue_Holds_comesBefore 39 = .ok (.iconst 0, 1) := by decide +kernel
theorem d_HoldQueue_Holds_comesBefore_40 : decode c_HoldQueue_Holds_comesBefore 40 = .ok (.ireturn, 1) := by decide +kernel
theorem d_HoldQueue_Holds_firstFitting_0 : decode c_HoldQueue_Holds_firstFitting 0 = .ok (.iconst 0, 1) := by decide +kernel
theorem d_HoldQueue_Holds_firstFitting_1 : decode c_HoldQueue_Holds_firstFitting 1 = .ok (.istore 4, 2) := by decide +kernel
theorem d_HoldQueue_Holds_firstFitting_3 : decode c_HoldQueue_Holds_firstFitting 3 = .ok (.iconst 1, 1) := by decide +kernel
theorem d_HoldQueue_Holds_firstFitting_4 : decode c_HoldQueue_Holds_firstFitting 4 = .ok (.istore 5, 2) := by decide +kernel
theorem d_HoldQueue_Holds_firstFitting_6 : decode c_HoldQueue_Holds_firstFitting 6 = .ok (.iload 5, 2) := by decide +kernel
theorem d_HoldQueue_Holds_firstFitting_8 : decode c_HoldQueue_Holds_firstFitting 8 = .ok (.aload_n 0, 1) := by decide +kernel
theorem d_HoldQueue_Holds_firstFitting_9 : decode c_HoldQueue_Holds_firstFitting 9 = .ok (.getfield 9, 3) := by decide +kernel
theorem d_HoldQueue_Holds_firstFitting_12 : decode c_HoldQueue_Holds_firstFitting 12 = .ok (.if_icmp .gt 51, 3) := by decide +kernel
theorem d_HoldQueue_Holds_firstFitting_15 : decode c_HoldQueue_Holds_firstFitting 15 = .ok (.aload_n 0, 1) := by decide +kernel
theorem d_HoldQueue_Holds_firstFitting_16 : decode c_HoldQueue_Holds_firstFitting 16 = .ok (.iload 5, 2) := by decide +kernel
theorem d_HoldQueue_Holds_firstFitting_18 : decode c_HoldQueue_Holds_firstFitting 18 = .ok (.iload_n 1, 1) := by decide +kernel
theorem d_HoldQueue_Holds_firstFitting_19 : decode c_HoldQueue_Holds_firstFitting 19 = .ok (.invokevirtual 52, 3) := by decide +kernel
theorem d_HoldQueue_Holds_firstFitting_22 : decode c_HoldQueue_Holds_firstFitting 22 = .ok (.ifCond .eq 35, 3) := by decide +kernel
theorem d_HoldQueue_Holds_firstFitting_25 : decode c_HoldQueue_Holds_firstFitting 25 = .ok (.aload_n 0, 1) := by decide +kernel
theorem d_HoldQueue_Holds_firstFitting_26 : decode c_HoldQueue_Holds_firstFitting 26 = .ok (.getfield 34, 3) := by decide +kernel
theorem d_HoldQueue_Holds_firstFitting_29 : decode c_HoldQueue_Holds_firstFitting 29 = .ok (.iload 5, 2) := by decide +kernel
theorem d_HoldQueue_Holds_firstFitting_31 : decode c_HoldQueue_Holds_firstFitting 31 = .ok (.laload, 1) := by decide +kernel
theorem d_HoldQueue_Holds_firstFitting_32 : decode c_HoldQueue_Holds_firstFitting 32 = .ok (.lload_n 2, 1) := by decide +kernel
theorem d_HoldQueue_Holds_firstFitting_33 : decode c_HoldQueue_Holds_firstFitting 33 = .ok (.lcmp, 1) := by decide +kernel
theorem d_HoldQueue_Holds_firstFitting_34 : decode c_HoldQueue_Holds_firstFitting 34 = .ok (.ifCond .gt 23, 3) := by decide +kernel
theorem d_HoldQueue_Holds_firstFitting_37 : decode c_HoldQueue_Holds_firstFitting 37 = .ok (.iload 4, 2) := by decide +kernel
theorem d_HoldQueue_Holds_firstFitting_39 : decode c_HoldQueue_Holds_firstFitting 39 = .ok (.ifCond .eq 14, 3) := by decide +kernel
theorem d_HoldQueue_Holds_firstFitting_42 : decode c_HoldQueue_Holds_firstFitting 42 = .ok (.aload_n 0, 1) := by decide +kernel
theorem d_HoldQueue_Holds_firstFitting_43 : decode c_HoldQueue_Holds_firstFitting 43 = .ok (.iload 5, 2) := by decide +kernel
theorem d_HoldQueue_Holds_firstFitting_45 : decode c_HoldQueue_Holds_firstFitting 45 = .ok (.iload 4, 2) := by decide +kernel
theorem d_HoldQueue_Holds_firstFitting_47 : decode c_HoldQueue_Holds_firstFitting 47 = .ok (.invokevirtual 55, 3) := by decide +kernel
theorem d_HoldQueue_Holds_firstFitting_50 : decode c_HoldQueue_Holds_firstFitting 50 = .ok (.ifCond .eq 7, 3) := by decide +kernel
theorem d_HoldQueue_Holds_firstFitting_53 : decode c_HoldQueue_Holds_firstFitting 53 = .ok (.iload 5, 2) := by decide +kernel
theorem d_HoldQueue_Holds_firstFitting_55 : decode c_HoldQueue_Holds_firstFitting 55 = .ok (.istore 4, 2) := by decide +kernel
theorem d_HoldQueue_Holds_firstFitting_57 : decode c_HoldQueue_Holds_firstFitting 57 = .ok (.iinc 5 1, 3) := by decide +kernel
theorem d_HoldQueue_Holds_firstFitting_60 : decode c_HoldQueue_Holds_firstFitting 60 = .ok (.goto (-54), 3) := by decide +kernel
theorem d_HoldQueue_Holds_firstFitting_63 : decode c_HoldQueue_Holds_firstFitting 63 = .ok (.iload 4, 2) := by decide +kernel
theorem d_HoldQueue_Holds_firstFitting_65 : decode c_HoldQueue_Holds_firstFitting 65 = .ok (.ireturn, 1) := by decide +kernel
theorem d_HoldQueue_Holds_placeInQueue_0 : decode c_HoldQueue_Holds_placeInQueue 0 = .ok (.iconst 0, 1) := by decide +kernel
theorem d_HoldQueue_Holds_placeInQueue_1 : decode c_HoldQueue_Holds_placeInQueue 1 = .ok (.istore_n 2, 1) := by decide +kernel
theorem d_HoldQueue_Holds_placeInQueue_2 : decode c_HoldQueue_Holds_placeInQueue 2 = .ok (.iconst 1, 1) := by decide +kernel
theorem d_HoldQueue_Holds_placeInQueue_3 : decode c_HoldQueue_Holds_placeInQueue 3 = .ok (.istore_n 3, 1) := by decide +kernel
theorem d_HoldQueue_Holds_placeInQueue_4 : decode c_HoldQueue_Holds_placeInQueue 4 = .ok (.iload_n 3, 1) := by decide +kernel
theorem d_HoldQueue_Holds_placeInQueue_5 : decode c_HoldQueue_Holds_placeInQueue 5 = .ok (.aload_n 0, 1) := by decide +kernel
theorem d_HoldQueue_Holds_placeInQueue_6 : decode c_HoldQueue_Holds_placeInQueue 6 = .ok (.getfield 9, 3) := by decide +kernel
theorem d_HoldQueue_Holds_placeInQueue_9 : decode c_HoldQueue_Holds_placeInQueue 9 = .ok (.if_icmp .gt 35, 3) := by decide +kernel
theorem d_HoldQueue_Holds_placeInQueue_12 : decode c_HoldQueue_Holds_placeInQueue 12 = .ok (.aload_n 0, 1) := by decide +kernel
theorem d_HoldQueue_Holds_placeInQueue_13 : decode c_HoldQueue_Holds_placeInQueue 13 = .ok (.iload_n 3, 1) := by decide +kernel
theorem d_HoldQueue_Holds_placeInQueue_14 : decode c_HoldQueue_Holds_placeInQueue 14 = .ok (.aload_n 0, 1) := by decide +kernel
theorem d_HoldQueue_Holds_placeInQueue_15 : decode c_HoldQueue_Holds_placeInQueue 15 = .ok (.getfield 19, 3) := by decide +kernel
theorem d_HoldQueue_Holds_placeInQueue_18 : decode c_HoldQueue_Holds_placeInQueue 18 = .ok (.iload_n 1, 1) := by decide +kernel
theorem d_HoldQueue_Holds_placeInQueue_19 : decode c_HoldQueue_Holds_placeInQueue 19 = .ok (.iaload, 1) := by decide +kernel
theorem d_HoldQueue_Holds_placeInQueue_20 : decode c_HoldQueue_Holds_placeInQueue 20 = .ok (.invokevirtual 52, 3) := by decide +kernel
theorem d_HoldQueue_Holds_placeInQueue_23 : decode c_HoldQueue_Holds_placeInQueue 23 = .ok (.ifCond .eq 15, 3) := by decide +kernel
theorem d_HoldQueue_Holds_placeInQueue_26 : decode c_HoldQueue_Holds_placeInQueue 26 = .ok (.aload_n 0, 1) := by decide +kernel
theorem d_HoldQueue_Holds_placeInQueue_27 : decode c_HoldQueue_Holds_placeInQueue 27 = .ok (.iload_n 3, 1) := by decide +kernel
theorem d_HoldQueue_Holds_placeInQueue_28 : decode c_HoldQueue_Holds_placeInQueue 28 = .ok (.iload_n 1, 1) := by decide +kernel
theorem d_HoldQueue_Holds_placeInQueue_29 : decode c_HoldQueue_Holds_placeInQueue 29 = .ok (.invokevirtual 55, 3) := by decide +kernel
theorem d_HoldQueue_Holds_placeInQueue_32 : decode c_HoldQueue_Holds_placeInQueue 32 = .ok (.ifCond .eq 6, 3) := by decide +kernel
theorem d_HoldQueue_Holds_placeInQueue_35 : decode c_HoldQueue_Holds_placeInQueue 35 = .ok (.iinc 2 1, 3) := by decide +kernel
theorem d_HoldQueue_Holds_placeInQueue_38 : decode c_HoldQueue_Holds_placeInQueue 38 = .ok (.iinc 3 1, 3) := by decide +kernel
theorem d_HoldQueue_Holds_placeInQueue_41 : decode c_HoldQueue_Holds_placeInQueue 41 = .ok (.goto (-37), 3) := by decide +kernel
theorem d_HoldQueue_Holds_placeInQueue_44 : decode c_HoldQueue_Holds_placeInQueue 44 = .ok (.iload_n 2, 1) := by decide +kernel
theorem d_HoldQueue_Holds_placeInQueue_45 : decode c_HoldQueue_Holds_placeInQueue 45 = .ok (.ireturn, 1) := by decide +kernel
theorem d_HoldQueue_Holds_atPlaceInQueue_0 : decode c_HoldQueue_Holds_atPlaceInQueue 0 = .ok (.iconst 1, 1) := by decide +kernel
theorem d_HoldQueue_Holds_atPlaceInQueue_1 : decode c_HoldQueue_Holds_atPlaceInQueue 1 = .ok (.istore_n 3, 1) := by decide +kernel
theorem d_HoldQueue_Holds_atPlaceInQueue_2 : decode c_HoldQueue_Holds_atPlaceInQueue 2 = .ok (.iload_n 3, 1) := by decide +kernel
theorem d_HoldQueue_Holds_atPlaceInQueue_3 : decode c_HoldQueue_Holds_atPlaceInQueue 3 = .ok (.aload_n 0, 1) := by decide +kernel
theorem d_HoldQueue_Holds_atPlaceInQueue_4 : decode c_HoldQueue_Holds_atPlaceInQueue 4 = .ok (.getfield 9, 3) := by decide +kernel
theorem d_HoldQueue_Holds_atPlaceInQueue_7 : decode c_HoldQueue_Holds_atPlaceInQueue 7 = .ok (.if_icmp .gt 29, 3) := by decide +kernel
theorem d_HoldQueue_Holds_atPlaceInQueue_10 : decode c_HoldQueue_Holds_atPlaceInQueue 10 = .ok (.aload_n 0, 1) := by decide +kernel
theorem d_HoldQueue_Holds_atPlaceInQueue_11 : decode c_HoldQueue_Holds_atPlaceInQueue 11 = .ok (.iload_n 3, 1) := by decide +kernel
theorem d_HoldQueue_Holds_atPlaceInQueue_12 : decode c_HoldQueue_Holds_atPlaceInQueue 12 = .ok (.iload_n 1, 1) := by decide +kernel
theorem d_HoldQueue_Holds_atPlaceInQueue_13 : decode c_HoldQueue_Holds_atPlaceInQueue 13 = .ok (.invokevirtual 52, 3) := by decide +kernel
theorem d_HoldQueue_Holds_atPlaceInQueue_16 : decode c_HoldQueue_Holds_atPlaceInQueue 16 = .ok (.ifCond .eq 14, 3) := by decide +kernel
theorem d_HoldQueue_Holds_atPlaceInQueue_19 : decode c_HoldQueue_Holds_atPlaceInQueue 19 = .ok (.aload_n 0, 1) := by decide +kernel
theorem d_HoldQueue_Holds_atPlaceInQueue_20 : decode c_HoldQueue_Holds_atPlaceInQueue 20 = .ok (.iload_n 3, 1) := by decide +kernel
theorem d_HoldQueue_Holds_atPlaceInQueue_21 : decode c_HoldQueue_Holds_atPlaceInQueue 21 = .ok (.invokevirtual 58, 3) := by decide +kernel
theorem d_HoldQueue_Holds_atPlaceInQueue_24 : decode c_HoldQueue_Holds_atPlaceInQueue 24 = .ok (.iload_n 2, 1) := by decide +kernel
theorem d_HoldQueue_Holds_atPlaceInQueue_25 : decode c_HoldQueue_Holds_atPlaceInQueue 25 = .ok (.if_icmp .ne 5, 3) := by decide +kernel
theorem d_HoldQueue_Holds_atPlaceInQueue_28 : decode c_HoldQueue_Holds_atPlaceInQueue 28 = .ok (.iload_n 3, 1) := by decide +kernel
theorem d_HoldQueue_Holds_atPlaceInQueue_29 : decode c_HoldQueue_Holds_atPlaceInQueue 29 = .ok (.ireturn, 1) := by decide +kernel
theorem d_HoldQueue_Holds_atPlaceInQueue_30 : decode c_HoldQueue_Holds_atPlaceInQueue 30 = .ok (.iinc 3 1, 3) := by decide +kernel
theorem d_HoldQueue_Holds_atPlaceInQueue_33 : decode c_HoldQueue_Holds_atPlaceInQueue 33 = .ok (.goto (-31), 3) := by decide +kernel
theorem d_HoldQueue_Holds_atPlaceInQueue_36 : decode c_HoldQueue_Holds_atPlaceInQueue 36 = .ok (.iconst 0, 1) := by decide +kernel
theorem d_HoldQueue_Holds_atPlaceInQueue_37 : decode c_HoldQueue_Holds_atPlaceInQueue 37 = .ok (.ireturn, 1) := by decide +kernel
theorem d_HoldQueueModel_init_0 : decode c_HoldQueueModel_init 0 = .ok (.aload_n 0, 1) := by decide +kernel
theorem d_HoldQueueModel_init_1 : decode c_HoldQueueModel_init 1 = .ok (.invokespecial 1, 3) := by decide +kernel
theorem d_HoldQueueModel_init_4 : decode c_HoldQueueModel_init 4 = .ok (.aload_n 0, 1) := by decide +kernel
theorem d_HoldQueueModel_init_5 : decode c_HoldQueueModel_init 5 = .ok (.bipush 31, 2) := by decide +kernel
theorem d_HoldQueueModel_init_7 : decode c_HoldQueueModel_init 7 = .ok (.newarray .int, 2) := by decide +kernel
theorem d_HoldQueueModel_init_9 : decode c_HoldQueueModel_init 9 = .ok (.putfield 7, 3) := by decide +kernel
theorem d_HoldQueueModel_init_12 : decode c_HoldQueueModel_init 12 = .ok (.aload_n 0, 1) := by decide +kernel
theorem d_HoldQueueModel_init_13 : decode c_HoldQueueModel_init 13 = .ok (.iconst 4, 1) := by decide +kernel
theorem d_HoldQueueModel_init_14 : decode c_HoldQueueModel_init 14 = .ok (.newarray .boolean, 2) := by decide +kernel
theorem d_HoldQueueModel_init_16 : decode c_HoldQueueModel_init 16 = .ok (.putfield 13, 3) := by decide +kernel
theorem d_HoldQueueModel_init_19 : decode c_HoldQueueModel_init 19 = .ok (.aload_n 0, 1) := by decide +kernel
theorem d_HoldQueueModel_init_20 : decode c_HoldQueueModel_init 20 = .ok (.bipush 40, 2) := by decide +kernel
theorem d_HoldQueueModel_init_22 : decode c_HoldQueueModel_init 22 = .ok (.newarray .int, 2) := by decide +kernel
theorem d_HoldQueueModel_init_24 : decode c_HoldQueueModel_init 24 = .ok (.putfield 17, 3) := by decide +kernel
theorem d_HoldQueueModel_init_27 : decode c_HoldQueueModel_init 27 = .ok (.aload_n 0, 1) := by decide +kernel
theorem d_HoldQueueModel_init_28 : decode c_HoldQueueModel_init 28 = .ok (.bipush 7, 2) := by decide +kernel
theorem d_HoldQueueModel_init_30 : decode c_HoldQueueModel_init 30 = .ok (.putfield 20, 3) := by decide +kernel
theorem d_HoldQueueModel_init_33 : decode c_HoldQueueModel_init 33 = .ok (.aload_n 0, 1) := by decide +kernel
theorem d_HoldQueueModel_init_34 : decode c_HoldQueueModel_init 34 = .ok (.bipush 61, 2) := by decide +kernel
theorem d_HoldQueueModel_init_36 : decode c_HoldQueueModel_init 36 = .ok (.newarray .int, 2) := by decide +kernel
theorem d_HoldQueueModel_init_38 : decode c_HoldQueueModel_init 38 = .ok (.putfield 24, 3) := by decide +kernel
theorem d_HoldQueueModel_init_41 : decode c_HoldQueueModel_init 41 = .ok (.aload_n 0, 1) := by decide +kernel
theorem d_HoldQueueModel_init_42 : decode c_HoldQueueModel_init 42 = .ok (.bipush 61, 2) := by decide +kernel
theorem d_HoldQueueModel_init_44 : decode c_HoldQueueModel_init 44 = .ok (.newarray .int, 2) := by decide +kernel
theorem d_HoldQueueModel_init_46 : decode c_HoldQueueModel_init 46 = .ok (.putfield 27, 3) := by decide +kernel
theorem d_HoldQueueModel_init_49 : decode c_HoldQueueModel_init 49 = .ok (.aload_n 0, 1) := by decide +kernel
theorem d_HoldQueueModel_init_50 : decode c_HoldQueueModel_init 50 = .ok (.bipush 61, 2) := by decide +kernel
theorem d_HoldQueueModel_init_52 : decode c_HoldQueueModel_init 52 = .ok (.newarray .int, 2) := by decide +kernel
theorem d_HoldQueueModel_init_54 : decode c_HoldQueueModel_init 54 = .ok (.putfield 30, 3) := by decide +kernel
theorem d_HoldQueueModel_init_57 : decode c_HoldQueueModel_init 57 = .ok (.aload_n 0, 1) := by decide +kernel
theorem d_HoldQueueModel_init_58 : decode c_HoldQueueModel_init 58 = .ok (.bipush 61, 2) := by decide +kernel
theorem d_HoldQueueModel_init_60 : decode c_HoldQueueModel_init 60 = .ok (.newarray .int, 2) := by decide +kernel
theorem d_HoldQueueModel_init_62 : decode c_HoldQueueModel_init 62 = .ok (.putfield 33, 3) := by decide +kernel
theorem d_HoldQueueModel_init_65 : decode c_HoldQueueModel_init 65 = .ok (.aload_n 0, 1) := by decide +kernel
theorem d_HoldQueueModel_init_66 : decode c_HoldQueueModel_init 66 = .ok (.bipush 121, 2) := by decide +kernel
theorem d_HoldQueueModel_init_68 : decode c_HoldQueueModel_init 68 = .ok (.newarray .int, 2) := by decide +kernel
theorem d_HoldQueueModel_init_70 : decode c_HoldQueueModel_init 70 = .ok (.putfield 36, 3) := by decide +kernel
theorem d_HoldQueueModel_init_73 : decode c_HoldQueueModel_init 73 = .ok (.aload_n 0, 1) := by decide +kernel
theorem d_HoldQueueModel_init_74 : decode c_HoldQueueModel_init 74 = .ok (.bipush 121, 2) := by decide +kernel
theorem d_HoldQueueModel_init_76 : decode c_HoldQueueModel_init 76 = .ok (.newarray .int, 2) := by decide +kernel
theorem d_HoldQueueModel_init_78 : decode c_HoldQueueModel_init 78 = .ok (.putfield 39, 3) := by decide +kernel
theorem d_HoldQueueModel_init_81 : decode c_HoldQueueModel_init 81 = .ok (.aload_n 0, 1) := by decide +kernel
theorem d_HoldQueueModel_init_82 : decode c_HoldQueueModel_init 82 = .ok (.bipush 121, 2) := by decide +kernel
theorem d_HoldQueueModel_init_84 : decode c_HoldQueueModel_init 84 = .ok (.newarray .int, 2) := by decide +kernel
theorem d_HoldQueueModel_init_86 : decode c_HoldQueueModel_init 86 = .ok (.putfield 42, 3) := by decide +kernel
theorem d_HoldQueueModel_init_89 : decode c_HoldQueueModel_init 89 = .ok (.aload_n 0, 1) := by decide +kernel
theorem d_HoldQueueModel_init_90 : decode c_HoldQueueModel_init 90 = .ok (.bipush 121, 2) := by decide +kernel
theorem d_HoldQueueModel_init_92 : decode c_HoldQueueModel_init 92 = .ok (.newarray .int, 2) := by decide +kernel
theorem d_HoldQueueModel_init_94 : decode c_HoldQueueModel_init 94 = .ok (.putfield 45, 3) := by decide +kernel
theorem d_HoldQueueModel_init_97 : decode c_HoldQueueModel_init 97 = .ok (.aload_n 0, 1) := by decide +kernel
theorem d_HoldQueueModel_init_98 : decode c_HoldQueueModel_init 98 = .ok (.bipush 121, 2) := by decide +kernel
theorem d_HoldQueueModel_init_100 : decode c_HoldQueueModel_init 100 = .ok (.newarray .int, 2) := by decide +kernel
theorem d_HoldQueueModel_init_102 : decode c_HoldQueueModel_init 102 = .ok (.putfield 48, 3) := by decide +kernel
theorem d_HoldQueueModel_init_105 : decode c_HoldQueueModel_init 105 = .ok (.aload_n 0, 1) := by decide +kernel
theorem d_HoldQueueModel_init_106 : decode c_HoldQueueModel_init 106 = .ok (.bipush 121, 2) := by decide +kernel
theorem d_HoldQueueModel_init_108 : decode c_HoldQueueModel_init 108 = .ok (.newarray .int, 2) := by decide +kernel
theorem d_HoldQueueModel_init_110 : decode c_HoldQueueModel_init 110 = .ok (.putfield 51, 3) := by decide +kernel
theorem d_HoldQueueModel_init_113 : decode c_HoldQueueModel_init 113 = .ok (.aload_n 0, 1) := by decide +kernel
theorem d_HoldQueueModel_init_114 : decode c_HoldQueueModel_init 114 = .ok (.bipush 121, 2) := by decide +kernel
theorem d_HoldQueueModel_init_116 : decode c_HoldQueueModel_init 116 = .ok (.newarray .long, 2) := by decide +kernel
theorem d_HoldQueueModel_init_118 : decode c_HoldQueueModel_init 118 = .ok (.putfield 54, 3) := by decide +kernel
theorem d_HoldQueueModel_init_121 : decode c_HoldQueueModel_init 121 = .ok (.aload_n 0, 1) := by decide +kernel
theorem d_HoldQueueModel_init_122 : decode c_HoldQueueModel_init 122 = .ok (.bipush 121, 2) := by decide +kernel
theorem d_HoldQueueModel_init_124 : decode c_HoldQueueModel_init 124 = .ok (.newarray .long, 2) := by decide +kernel
theorem d_HoldQueueModel_init_126 : decode c_HoldQueueModel_init 126 = .ok (.putfield 58, 3) := by decide +kernel
theorem d_HoldQueueModel_init_129 : decode c_HoldQueueModel_init 129 = .ok (.iconst 0, 1) := by decide +kernel
theorem d_HoldQueueModel_init_130 : decode c_HoldQueueModel_init 130 = .ok (.istore_n 1, 1) := by decide +kernel
theorem d_HoldQueueModel_init_131 : decode c_HoldQueueModel_init 131 = .ok (.iload_n 1, 1) := by decide +kernel
theorem d_HoldQueueModel_init_132 : decode c_HoldQueueModel_init 132 = .ok (.bipush 40, 2) := by decide +kernel
theorem d_HoldQueueModel_init_134 : decode c_HoldQueueModel_init 134 = .ok (.if_icmp .ge 16, 3) := by decide +kernel
theorem d_HoldQueueModel_init_137 : decode c_HoldQueueModel_init 137 = .ok (.aload_n 0, 1) := by decide +kernel
theorem d_HoldQueueModel_init_138 : decode c_HoldQueueModel_init 138 = .ok (.getfield 17, 3) := by decide +kernel
theorem d_HoldQueueModel_init_141 : decode c_HoldQueueModel_init 141 = .ok (.iload_n 1, 1) := by decide +kernel
theorem d_HoldQueueModel_init_142 : decode c_HoldQueueModel_init 142 = .ok (.iconst 3, 1) := by decide +kernel
theorem d_HoldQueueModel_init_143 : decode c_HoldQueueModel_init 143 = .ok (.iastore, 1) := by decide +kernel
theorem d_HoldQueueModel_init_144 : decode c_HoldQueueModel_init 144 = .ok (.iinc 1 1, 3) := by decide +kernel
theorem d_HoldQueueModel_init_147 : decode c_HoldQueueModel_init 147 = .ok (.goto (-16), 3) := by decide +kernel
theorem d_HoldQueueModel_init_150 : decode c_HoldQueueModel_init 150 = .ok (.return_, 1) := by decide +kernel
theorem d_HoldQueueModel_in_0 : decode c_HoldQueueModel_in 0 = .ok (.iload_n 0, 1) := by decide +kernel
theorem d_HoldQueueModel_in_1 : decode c_HoldQueueModel_in 1 = .ok (.iload_n 1, 1) := by decide +kernel
theorem d_HoldQueueModel_in_2 : decode c_HoldQueueModel_in 2 = .ok (.if_icmp .lt 12, 3) := by decide +kernel
theorem d_HoldQueueModel_in_5 : decode c_HoldQueueModel_in 5 = .ok (.iload_n 0, 1) := by decide +kernel
theorem d_HoldQueueModel_in_6 : decode c_HoldQueueModel_in 6 = .ok (.iload_n 2, 1) := by decide +kernel
theorem d_HoldQueueModel_in_7 : decode c_HoldQueueModel_in 7 = .ok (.if_icmp .gt 7, 3) := by decide +kernel
theorem d_HoldQueueModel_in_10 : decode c_HoldQueueModel_in 10 = .ok (.iconst 1, 1) := by decide +kernel
theorem d_HoldQueueModel_in_11 : decode c_HoldQueueModel_in 11 = .ok (.goto 4, 3) := by decide +kernel
theorem d_HoldQueueModel_in_14 : decode c_HoldQueueModel_in 14 = .ok (.iconst 0, 1) := by decide +kernel
theorem d_HoldQueueModel_in_15 : decode c_HoldQueueModel_in 15 = .ok (.ireturn, 1) := by decide +kernel
theorem d_HoldQueueModel_record_0 : decode c_HoldQueueModel_record 0 = .ok (.aload_n 0, 1) := by decide +kernel
theorem d_HoldQueueModel_record_1 : decode c_HoldQueueModel_record 1 = .ok (.iconst 0, 1) := by decide +kernel
theorem d_HoldQueueModel_record_2 : decode c_HoldQueueModel_record 2 = .ok (.putfield 61, 3) := by decide +kernel
theorem d_HoldQueueModel_record_5 : decode c_HoldQueueModel_record 5 = .ok (.iload_n 1, 1) := by decide +kernel
theorem d_HoldQueueModel_record_6 : decode c_HoldQueueModel_record 6 = .ok (.iconst 0, 1) := by decide +kernel
theorem d_HoldQueueModel_record_7 : decode c_HoldQueueModel_record 7 = .ok (.iconst 3, 1) := by decide +kernel
theorem d_HoldQueueModel_record_8 : decode c_HoldQueueModel_record 8 = .ok (.invokestatic 64, 3) := by decide +kernel
theorem d_HoldQueueModel_record_11 : decode c_HoldQueueModel_record 11 = .ok (.ifCond .eq 12, 3) := by decide +kernel
theorem d_HoldQueueModel_record_14 : decode c_HoldQueueModel_record 14 = .ok (.aload_n 0, 1) := by decide +kernel
theorem d_HoldQueueModel_record_15 : decode c_HoldQueueModel_record 15 = .ok (.getfield 68, 3) := by decide +kernel
theorem d_HoldQueueModel_record_18 : decode c_HoldQueueModel_record 18 = .ok (.bipush 30, 2) := by decide +kernel
theorem d_HoldQueueModel_record_20 : decode c_HoldQueueModel_record 20 = .ok (.if_icmp .ne 5, 3) := by decide +kernel
theorem d_HoldQueueModel_record_23 : decode c_HoldQueueModel_record 23 = .ok (.iconst 0, 1) := by decide +kernel
theorem d_HoldQueueModel_record_24 : decode c_HoldQueueModel_record 24 = .ok (.ireturn, 1) := by decide +kernel
theorem d_HoldQueueModel_record_25 : decode c_HoldQueueModel_record 25 = .ok (.aload_n 0, 1) := by decide +kernel
theorem d_HoldQueueModel_record_26 : decode c_HoldQueueModel_record 26 = .ok (.dup, 1) := by decide +kernel
theorem d_HoldQueueModel_record_27 : decode c_HoldQueueModel_record 27 = .ok (.getfield 68, 3) := by decide +kernel
theorem d_HoldQueueModel_record_30 : decode c_HoldQueueModel_record 30 = .ok (.iconst 1, 1) := by decide +kernel
theorem d_HoldQueueModel_record_31 : decode c_HoldQueueModel_record 31 = .ok (.iadd, 1) := by decide +kernel
theorem d_HoldQueueModel_record_32 : decode c_HoldQueueModel_record 32 = .ok (.putfield 68, 3) := by decide +kernel
theorem d_HoldQueueModel_record_35 : decode c_HoldQueueModel_record 35 = .ok (.aload_n 0, 1) := by decide +kernel
theorem d_HoldQueueModel_record_36 : decode c_HoldQueueModel_record 36 = .ok (.getfield 7, 3) := by decide +kernel
theorem d_HoldQueueModel_record_39 : decode c_HoldQueueModel_record 39 = .ok (.aload_n 0, 1) := by decide +kernel
theorem d_HoldQueueModel_record_40 : decode c_HoldQueueModel_record 40 = .ok (.getfield 68, 3) := by decide +kernel
theorem d_HoldQueueModel_record_43 : decode c_HoldQueueModel_record 43 = .ok (.iload_n 1, 1) := by decide +kernel
theorem d_HoldQueueModel_record_44 : decode c_HoldQueueModel_record 44 = .ok (.iastore, 1) := by decide +kernel
theorem d_HoldQueueModel_record_45 : decode c_HoldQueueModel_record 45 = .ok (.aload_n 0, 1) := by decide +kernel
theorem d_HoldQueueModel_record_46 : decode c_HoldQueueModel_record 46 = .ok (.getfield 68, 3) := by decide +kernel
theorem d_HoldQueueModel_record_49 : decode c_HoldQueueModel_record 49 = .ok (.ireturn, 1) := by decide +kernel
theorem d_HoldQueueModel_copy_0 : decode c_HoldQueueModel_copy 0 = .ok (.aload_n 0, 1) := by decide +kernel
theorem d_HoldQueueModel_copy_1 : decode c_HoldQueueModel_copy 1 = .ok (.iconst 0, 1) := by decide +kernel
theorem d_HoldQueueModel_copy_2 : decode c_HoldQueueModel_copy 2 = .ok (.putfield 61, 3) := by decide +kernel
theorem d_HoldQueueModel_copy_5 : decode c_HoldQueueModel_copy 5 = .ok (.iload_n 1, 1) := by decide +kernel
theorem d_HoldQueueModel_copy_6 : decode c_HoldQueueModel_copy 6 = .ok (.iconst 1, 1) := by decide +kernel
theorem d_HoldQueueModel_copy_7 : decode c_HoldQueueModel_copy 7 = .ok (.aload_n 0, 1) := by decide +kernel
theorem d_HoldQueueModel_copy_8 : decode c_HoldQueueModel_copy 8 = .ok (.getfield 68, 3) := by decide +kernel
theorem d_HoldQueueModel_copy_11 : decode c_HoldQueueModel_copy 11 = .ok (.invokestatic 64, 3) := by decide +kernel
theorem d_HoldQueueModel_copy_14 : decode c_HoldQueueModel_copy 14 = .ok (.ifCond .eq 21, 3) := by decide +kernel
theorem d_HoldQueueModel_copy_17 : decode c_HoldQueueModel_copy 17 = .ok (.iload_n 2, 1) := by decide +kernel
theorem d_HoldQueueModel_copy_18 : decode c_HoldQueueModel_copy 18 = .ok (.iconst 0, 1) := by decide +kernel
theorem d_HoldQueueModel_copy_19 : decode c_HoldQueueModel_copy 19 = .ok (.iconst 5, 1) := by decide +kernel
theorem d_HoldQueueModel_copy_20 : decode c_HoldQueueModel_copy 20 = .ok (.invokestatic 64, 3) := by decide +kernel
theorem d_HoldQueueModel_copy_23 : decode c_HoldQueueModel_copy 23 = .ok (.ifCond .eq 12, 3) := by decide +kernel
theorem d_HoldQueueModel_copy_26 : decode c_HoldQueueModel_copy 26 = .ok (.aload_n 0, 1) := by decide +kernel
theorem d_HoldQueueModel_copy_27 : decode c_HoldQueueModel_copy 27 = .ok (.getfield 71, 3) := by decide +kernel
theorem d_HoldQueueModel_copy_30 : decode c_HoldQueueModel_copy 30 = .ok (.bipush 60, 2) := by decide +kernel
theorem d_HoldQueueModel_copy_32 : decode c_HoldQueueModel_copy 32 = .ok (.if_icmp .ne 5, 3) := by decide +kernel
theorem d_HoldQueueModel_copy_35 : decode c_HoldQueueModel_copy 35 = .ok (.iconst 0, 1) := by decide +kernel
theorem d_HoldQueueModel_copy_36 : decode c_HoldQueueModel_copy 36 = .ok (.ireturn, 1) := by decide +kernel
theorem d_HoldQueueModel_copy_37 : decode c_HoldQueueModel_copy 37 = .ok (.aload_n 0, 1) := by decide +kernel
theorem d_HoldQueueModel_copy_38 : decode c_HoldQueueModel_copy 38 = .ok (.dup, 1) := by decide +kernel
theorem d_HoldQueueModel_copy_39 : decode c_HoldQueueModel_copy 39 = .ok (.getfield 71, 3) := by decide +kernel
theorem d_HoldQueueModel_copy_42 : decode c_HoldQueueModel_copy 42 = .ok (.iconst 1, 1) := by decide +kernel
theorem d_HoldQueueModel_copy_43 : decode c_HoldQueueModel_copy 43 = .ok (.iadd, 1) := by decide +kernel
theorem d_HoldQueueModel_copy_44 : decode c_HoldQueueModel_copy 44 = .ok (.putfield 71, 3) := by decide +kernel
theorem d_HoldQueueModel_copy_47 : decode c_HoldQueueModel_copy 47 = .ok (.aload_n 0, 1) := by decide +kernel
theorem d_HoldQueueModel_copy_48 : decode c_HoldQueueModel_copy 48 = .ok (.getfield 24, 3) := by decide +kernel
theorem d_HoldQueueModel_copy_51 : decode c_HoldQueueModel_copy 51 = .ok (.aload_n 0, 1) := by decide +kernel
theorem d_HoldQueueModel_copy_52 : decode c_HoldQueueModel_copy 52 = .ok (.getfield 71, 3) := by decide +kernel
theorem d_HoldQueueModel_copy_55 : decode c_HoldQueueModel_copy 55 = .ok (.iload_n 1, 1) := by decide +kernel
theorem d_HoldQueueModel_copy_56 : decode c_HoldQueueModel_copy 56 = .ok (.iastore, 1) := by decide +kernel
theorem d_HoldQueueModel_copy_57 : decode c_HoldQueueModel_copy 57 = .ok (.aload_n 0, 1) := by decide +kernel
theorem d_HoldQueueModel_copy_58 : decode c_HoldQueueModel_copy 58 = .ok (.getfield 27, 3) := by decide +kernel
theorem d_HoldQueueModel_copy_61 : decode c_HoldQueueModel_copy 61 = .ok (.aload_n 0, 1) := by decide +kernel
theorem d_HoldQueueModel_copy_62 : decode c_HoldQueueModel_copy 62 = .ok (.getfield 71, 3) := by decide +kernel
theorem d_HoldQueueModel_copy_65 : decode c_HoldQueueModel_copy 65 = .ok (.iconst 1, 1) := by decide +kernel
theorem d_HoldQueueModel_copy_66 : decode c_HoldQueueModel_copy 66 = .ok (.iastore, 1) := by decide +kernel
theorem d_HoldQueueModel_copy_67 : decode c_HoldQueueModel_copy 67 = .ok (.aload_n 0, 1) := by decide +kernel
theorem d_HoldQueueModel_copy_68 : decode c_HoldQueueModel_copy 68 = .ok (.getfield 30, 3) := by decide +kernel
theorem d_HoldQueueModel_copy_71 : decode c_HoldQueueModel_copy 71 = .ok (.aload_n 0, 1) := by decide +kernel
theorem d_HoldQueueModel_copy_72 : decode c_HoldQueueModel_copy 72 = .ok (.getfield 71, 3) := by decide +kernel
theorem d_HoldQueueModel_copy_75 : decode c_HoldQueueModel_copy 75 = .ok (.iload_n 2, 1) := by decide +kernel
theorem d_HoldQueueModel_copy_76 : decode c_HoldQueueModel_copy 76 = .ok (.iastore, 1) := by decide +kernel
theorem d_HoldQueueModel_copy_77 : decode c_HoldQueueModel_copy 77 = .ok (.aload_n 0, 1) := by decide +kernel
theorem d_HoldQueueModel_copy_78 : decode c_HoldQueueModel_copy 78 = .ok (.getfield 33, 3) := by decide +kernel
theorem d_HoldQueueModel_copy_81 : decode c_HoldQueueModel_copy 81 = .ok (.aload_n 0, 1) := by decide +kernel
theorem d_HoldQueueModel_copy_82 : decode c_HoldQueueModel_copy 82 = .ok (.getfield 71, 3) := by decide +kernel
theorem d_HoldQueueModel_copy_85 : decode c_HoldQueueModel_copy 85 = .ok (.iconst 0, 1) := by decide +kernel
theorem d_HoldQueueModel_copy_86 : decode c_HoldQueueModel_copy 86 = .ok (.iastore, 1) := by decide +kernel
theorem d_HoldQueueModel_copy_87 : decode c_HoldQueueModel_copy 87 = .ok (.aload_n 0, 1) := by decide +kernel
theorem d_HoldQueueModel_copy_88 : decode c_HoldQueueModel_copy 88 = .ok (.getfield 71, 3) := by decide +kernel
theorem d_HoldQueueModel_copy_91 : decode c_HoldQueueModel_copy 91 = .ok (.ireturn, 1) := by decide +kernel
theorem d_HoldQueueModel_bar_0 : decode c_HoldQueueModel_bar 0 = .ok (.aload_n 0, 1) := by decide +kernel
theorem d_HoldQueueModel_bar_1 : decode c_HoldQueueModel_bar 1 = .ok (.iconst 0, 1) := by decide +kernel
theorem d_HoldQueueModel_bar_2 : decode c_HoldQueueModel_bar 2 = .ok (.putfield 61, 3) := by decide +kernel
theorem d_HoldQueueModel_bar_5 : decode c_HoldQueueModel_bar 5 = .ok (.iload_n 1, 1) := by decide +kernel
theorem d_HoldQueueModel_bar_6 : decode c_HoldQueueModel_bar 6 = .ok (.iconst 0, 1) := by decide +kernel
theorem d_HoldQueueModel_bar_7 : decode c_HoldQueueModel_bar 7 = .ok (.iconst 3, 1) := by decide +kernel
theorem d_HoldQueueModel_bar_8 : decode c_HoldQueueModel_bar 8 = .ok (.invokestatic 64, 3) := by decide +kernel
theorem d_HoldQueueModel_bar_11 : decode c_HoldQueueModel_bar 11 = .ok (.ifCond .ne 5, 3) := by decide +kernel
theorem d_HoldQueueModel_bar_14 : decode c_HoldQueueModel_bar 14 = .ok (.iconst 0, 1) := by decide +kernel
theorem d_HoldQueueModel_bar_15 : decode c_HoldQueueModel_bar 15 = .ok (.ireturn, 1) := by decide +kernel
theorem d_HoldQueueModel_bar_16 : decode c_HoldQueueModel_bar 16 = .ok (.aload_n 0, 1) := by decide +kernel
theorem d_HoldQueueModel_bar_17 : decode c_HoldQueueModel_bar 17 = .ok (.getfield 13, 3) := by decide +kernel
theorem d_HoldQueueModel_bar_20 : decode c_HoldQueueModel_bar 20 = .ok (.iload_n 1, 1) := by decide +kernel
theorem d_HoldQueueModel_bar_21 : decode c_HoldQueueModel_bar 21 = .ok (.baload, 1) := by decide +kernel
theorem d_HoldQueueModel_bar_22 : decode c_HoldQueueModel_bar 22 = .ok (.istore_n 3, 1) := by decide +kernel
theorem d_HoldQueueModel_bar_23 : decode c_HoldQueueModel_bar 23 = .ok (.aload_n 0, 1) := by decide +kernel
theorem d_HoldQueueModel_bar_24 : decode c_HoldQueueModel_bar 24 = .ok (.getfield 13, 3) := by decide +kernel
theorem d_HoldQueueModel_bar_27 : decode c_HoldQueueModel_bar 27 = .ok (.iload_n 1, 1) := by decide +kernel
theorem d_HoldQueueModel_bar_28 : decode c_HoldQueueModel_bar 28 = .ok (.iload_n 2, 1) := by decide +kernel
theorem d_HoldQueueModel_bar_29 : decode c_HoldQueueModel_bar 29 = .ok (.bastore, 1) := by decide +kernel
theorem d_HoldQueueModel_bar_30 : decode c_HoldQueueModel_bar 30 = .ok (.iload_n 3, 1) := by decide +kernel
theorem d_HoldQueueModel_bar_31 : decode c_HoldQueueModel_bar 31 = .ok (.ireturn, 1) := by decide +kernel
theorem d_HoldQueueModel_isOpen_0 : decode c_HoldQueueModel_isOpen 0 = .ok (.aload_n 0, 1) := by decide +kernel
theorem d_HoldQueueModel_isOpen_1 : decode c_HoldQueueModel_isOpen 1 = .ok (.getfield 48, 3) := by decide +kernel
theorem d_HoldQueueModel_isOpen_4 : decode c_HoldQueueModel_isOpen 4 = .ok (.iload_n 1, 1) := by decide +kernel
theorem d_HoldQueueModel_isOpen_5 : decode c_HoldQueueModel_isOpen 5 = .ok (.iaload, 1) := by decide +kernel
theorem d_HoldQueueModel_isOpen_6 : decode c_HoldQueueModel_isOpen 6 = .ok (.iconst 2, 1) := by decide +kernel
theorem d_HoldQueueModel_isOpen_7 : decode c_HoldQueueModel_isOpen 7 = .ok (.if_icmp .gt 7, 3) := by decide +kernel
theorem d_HoldQueueModel_isOpen_10 : decode c_HoldQueueModel_isOpen 10 = .ok (.iconst 1, 1) := by decide +kernel
theorem d_HoldQueueModel_isOpen_11 : decode c_HoldQueueModel_isOpen 11 = .ok (.goto 4, 3) := by decide +kernel
theorem d_HoldQueueModel_isOpen_14 : decode c_HoldQueueModel_isOpen 14 = .ok (.iconst 0, 1) := by decide +kernel
theorem d_HoldQueueModel_isOpen_15 : decode c_HoldQueueModel_isOpen 15 = .ok (.ireturn, 1) := by decide +kernel
theorem d_HoldQueueModel_isAhead_0 : decode c_HoldQueueModel_isAhead 0 = .ok (.aload_n 0, 1) := by decide +kernel
theorem d_HoldQueueModel_isAhead_1 : decode c_HoldQueueModel_isAhead 1 = .ok (.getfield 45, 3) := by decide +kernel
theorem d_HoldQueueModel_isAhead_4 : decode c_HoldQueueModel_isAhead 4 = .ok (.iload_n 1, 1) := by decide +kernel
theorem d_HoldQueueModel_isAhead_5 : decode c_HoldQueueModel_isAhead 5 = .ok (.iaload, 1) := by decide +kernel
end
section
theorem d_HoldQueueModel_isAhead_6 : decode c_HoldQueueModel_isAhead 6 = .ok (.aload_n 0, 1) := by decide +kernel
theorem d_HoldQueueModel_isAhead_7 : decode c_HoldQueueModel_isAhead 7 = .ok (.getfield 45, 3) := by decide +kernel
theorem d_HoldQueueModel_isAhead_10 : decode c_HoldQueueModel_isAhead 10 = .ok (.iload_n 2, 1) := by decide +kernel
theorem d_HoldQueueModel_isAhead_11 : decode c_HoldQueueModel_isAhead 11 = .ok (.iaload, 1) := by decide +kernel
theorem d_HoldQueueModel_isAhead_12 : decode c_HoldQueueModel_isAhead 12 = .ok (.if_icmp .lt 23, 3) := by decide +kernel
theorem d_HoldQueueModel_isAhead_15 : decode c_HoldQueueModel_isAhead 15 = .ok (.aload_n 0, 1) := by decide +kernel
theorem d_HoldQueueModel_isAhead_16 : decode c_HoldQueueModel_isAhead 16 = .ok (.getfield 45, 3) := by decide +kernel
theorem d_HoldQueueModel_isAhead_19 : decode c_HoldQueueModel_isAhead 19 = .ok (.iload_n 1, 1) := by decide +kernel
theorem d_HoldQueueModel_isAhead_20 : decode c_HoldQueueModel_isAhead 20 = .ok (.iaload, 1) := by decide +kernel
theorem d_HoldQueueModel_isAhead_21 : decode c_HoldQueueModel_isAhead 21 = .ok (.aload_n 0, 1) := by decide +kernel
theorem d_HoldQueueModel_isAhead_22 : decode c_HoldQueueModel_isAhead 22 = .ok (.getfield 45, 3) := by decide +kernel
theorem d_HoldQueueModel_isAhead_25 : decode c_HoldQueueModel_isAhead 25 = .ok (.iload_n 2, 1) := by decide +kernel
theorem d_HoldQueueModel_isAhead_26 : decode c_HoldQueueModel_isAhead 26 = .ok (.iaload, 1) := by decide +kernel
theorem d_HoldQueueModel_isAhead_27 : decode c_HoldQueueModel_isAhead 27 = .ok (.if_icmp .ne 12, 3) := by decide +kernel
theorem d_HoldQueueModel_isAhead_30 : decode c_HoldQueueModel_isAhead 30 = .ok (.iload_n 1, 1) := by decide +kernel
theorem d_HoldQueueModel_isAhead_31 : decode c_HoldQueueModel_isAhead 31 = .ok (.iload_n 2, 1) := by decide +kernel
theorem d_HoldQueueModel_isAhead_32 : decode c_HoldQueueModel_isAhead 32 = .ok (.if_icmp .ge 7, 3) := by decide +kernel
theorem d_HoldQueueModel_isAhead_35 : decode c_HoldQueueModel_isAhead 35 = .ok (.iconst 1, 1) := by decide +kernel
theorem d_HoldQueueModel_isAhead_36 : decode c_HoldQueueModel_isAhead 36 = .ok (.goto 4, 3) := by decide +kernel
theorem d_HoldQueueModel_isAhead_39 : decode c_HoldQueueModel_isAhead 39 = .ok (.iconst 0, 1) := by decide +kernel
theorem d_HoldQueueModel_isAhead_40 : decode c_HoldQueueModel_isAhead 40 = .ok (.ireturn, 1) := by decide +kernel
theorem d_HoldQueueModel_placeOf_0 : decode c_HoldQueueModel_placeOf 0 = .ok (.iconst 0, 1) := by decide +kernel
theorem d_HoldQueueModel_placeOf_1 : decode c_HoldQueueModel_placeOf 1 = .ok (.istore_n 2, 1) := by decide +kernel
theorem d_HoldQueueModel_placeOf_2 : decode c_HoldQueueModel_placeOf 2 = .ok (.iconst 1, 1) := by decide +kernel
theorem d_HoldQueueModel_placeOf_3 : decode c_HoldQueueModel_placeOf 3 = .ok (.istore_n 3, 1) := by decide +kernel
theorem d_HoldQueueModel_placeOf_4 : decode c_HoldQueueModel_placeOf 4 = .ok (.iload_n 3, 1) := by decide +kernel
theorem d_HoldQueueModel_placeOf_5 : decode c_HoldQueueModel_placeOf 5 = .ok (.aload_n 0, 1) := by decide +kernel
theorem d_HoldQueueModel_placeOf_6 : decode c_HoldQueueModel_placeOf 6 = .ok (.getfield 74, 3) := by decide +kernel
theorem d_HoldQueueModel_placeOf_9 : decode c_HoldQueueModel_placeOf 9 = .ok (.if_icmp .gt 50, 3) := by decide +kernel
theorem d_HoldQueueModel_placeOf_12 : decode c_HoldQueueModel_placeOf 12 = .ok (.iload_n 2, 1) := by decide +kernel
theorem d_HoldQueueModel_placeOf_13 : decode c_HoldQueueModel_placeOf 13 = .ok (.aload_n 0, 1) := by decide +kernel
theorem d_HoldQueueModel_placeOf_14 : decode c_HoldQueueModel_placeOf 14 = .ok (.getfield 48, 3) := by decide +kernel
theorem d_HoldQueueModel_placeOf_17 : decode c_HoldQueueModel_placeOf 17 = .ok (.iload_n 3, 1) := by decide +kernel
theorem d_HoldQueueModel_placeOf_18 : decode c_HoldQueueModel_placeOf 18 = .ok (.iaload, 1) := by decide +kernel
theorem d_HoldQueueModel_placeOf_19 : decode c_HoldQueueModel_placeOf 19 = .ok (.ifCond .ne 31, 3) := by decide +kernel
theorem d_HoldQueueModel_placeOf_22 : decode c_HoldQueueModel_placeOf 22 = .ok (.aload_n 0, 1) := by decide +kernel
theorem d_HoldQueueModel_placeOf_23 : decode c_HoldQueueModel_placeOf 23 = .ok (.getfield 39, 3) := by decide +kernel
theorem d_HoldQueueModel_placeOf_26 : decode c_HoldQueueModel_placeOf 26 = .ok (.iload_n 3, 1) := by decide +kernel
theorem d_HoldQueueModel_placeOf_27 : decode c_HoldQueueModel_placeOf 27 = .ok (.iaload, 1) := by decide +kernel
theorem d_HoldQueueModel_placeOf_28 : decode c_HoldQueueModel_placeOf 28 = .ok (.aload_n 0, 1) := by decide +kernel
theorem d_HoldQueueModel_placeOf_29 : decode c_HoldQueueModel_placeOf 29 = .ok (.getfield 39, 3) := by decide +kernel
theorem d_HoldQueueModel_placeOf_32 : decode c_HoldQueueModel_placeOf 32 = .ok (.iload_n 1, 1) := by decide +kernel
theorem d_HoldQueueModel_placeOf_33 : decode c_HoldQueueModel_placeOf 33 = .ok (.iaload, 1) := by decide +kernel
theorem d_HoldQueueModel_placeOf_34 : decode c_HoldQueueModel_placeOf 34 = .ok (.if_icmp .ne 16, 3) := by decide +kernel
theorem d_HoldQueueModel_placeOf_37 : decode c_HoldQueueModel_placeOf 37 = .ok (.aload_n 0, 1) := by decide +kernel
theorem d_HoldQueueModel_placeOf_38 : decode c_HoldQueueModel_placeOf 38 = .ok (.iload_n 3, 1) := by decide +kernel
theorem d_HoldQueueModel_placeOf_39 : decode c_HoldQueueModel_placeOf 39 = .ok (.iload_n 1, 1) := by decide +kernel
theorem d_HoldQueueModel_placeOf_40 : decode c_HoldQueueModel_placeOf 40 = .ok (.invokevirtual 77, 3) := by decide +kernel
theorem d_HoldQueueModel_placeOf_43 : decode c_HoldQueueModel_placeOf 43 = .ok (.ifCond .eq 7, 3) := by decide +kernel
theorem d_HoldQueueModel_placeOf_46 : decode c_HoldQueueModel_placeOf 46 = .ok (.iconst 1, 1) := by decide +kernel
theorem d_HoldQueueModel_placeOf_47 : decode c_HoldQueueModel_placeOf 47 = .ok (.goto 4, 3) := by decide +kernel
theorem d_HoldQueueModel_placeOf_50 : decode c_HoldQueueModel_placeOf 50 = .ok (.iconst 0, 1) := by decide +kernel
theorem d_HoldQueueModel_placeOf_51 : decode c_HoldQueueModel_placeOf 51 = .ok (.iadd, 1) := by decide +kernel
theorem d_HoldQueueModel_placeOf_52 : decode c_HoldQueueModel_placeOf 52 = .ok (.istore_n 2, 1) := by decide +kernel
theorem d_HoldQueueModel_placeOf_53 : decode c_HoldQueueModel_placeOf 53 = .ok (.iinc 3 1, 3) := by decide +kernel
theorem d_HoldQueueModel_placeOf_56 : decode c_HoldQueueModel_placeOf 56 = .ok (.goto (-52), 3) := by decide +kernel
theorem d_HoldQueueModel_placeOf_59 : decode c_HoldQueueModel_placeOf 59 = .ok (.iload_n 2, 1) := by decide +kernel
theorem d_HoldQueueModel_placeOf_60 : decode c_HoldQueueModel_placeOf 60 = .ok (.ireturn, 1) := by decide +kernel
theorem d_HoldQueueModel_fits_0 : decode c_HoldQueueModel_fits 0 = .ok (.iconst 0, 1) := by decide +kernel
theorem d_HoldQueueModel_fits_1 : decode c_HoldQueueModel_fits 1 = .ok (.istore_n 2, 1) := by decide +kernel
theorem d_HoldQueueModel_fits_2 : decode c_HoldQueueModel_fits 2 = .ok (.iconst 1, 1) := by decide +kernel
theorem d_HoldQueueModel_fits_3 : decode c_HoldQueueModel_fits 3 = .ok (.istore_n 3, 1) := by decide +kernel
theorem d_HoldQueueModel_fits_4 : decode c_HoldQueueModel_fits 4 = .ok (.iload_n 3, 1) := by decide +kernel
theorem d_HoldQueueModel_fits_5 : decode c_HoldQueueModel_fits 5 = .ok (.aload_n 0, 1) := by decide +kernel
theorem d_HoldQueueModel_fits_6 : decode c_HoldQueueModel_fits 6 = .ok (.getfield 74, 3) := by decide +kernel
theorem d_HoldQueueModel_fits_9 : decode c_HoldQueueModel_fits 9 = .ok (.if_icmp .gt 73, 3) := by decide +kernel
theorem d_HoldQueueModel_fits_12 : decode c_HoldQueueModel_fits 12 = .ok (.aload_n 0, 1) := by decide +kernel
theorem d_HoldQueueModel_fits_13 : decode c_HoldQueueModel_fits 13 = .ok (.getfield 48, 3) := by decide +kernel
theorem d_HoldQueueModel_fits_16 : decode c_HoldQueueModel_fits 16 = .ok (.iload_n 3, 1) := by decide +kernel
theorem d_HoldQueueModel_fits_17 : decode c_HoldQueueModel_fits 17 = .ok (.iaload, 1) := by decide +kernel
theorem d_HoldQueueModel_fits_18 : decode c_HoldQueueModel_fits 18 = .ok (.ifCond .ne 31, 3) := by decide +kernel
theorem d_HoldQueueModel_fits_21 : decode c_HoldQueueModel_fits 21 = .ok (.aload_n 0, 1) := by decide +kernel
theorem d_HoldQueueModel_fits_22 : decode c_HoldQueueModel_fits 22 = .ok (.getfield 39, 3) := by decide +kernel
theorem d_HoldQueueModel_fits_25 : decode c_HoldQueueModel_fits 25 = .ok (.iload_n 3, 1) := by decide +kernel
theorem d_HoldQueueModel_fits_26 : decode c_HoldQueueModel_fits 26 = .ok (.iaload, 1) := by decide +kernel
theorem d_HoldQueueModel_fits_27 : decode c_HoldQueueModel_fits 27 = .ok (.iload_n 1, 1) := by decide +kernel
theorem d_HoldQueueModel_fits_28 : decode c_HoldQueueModel_fits 28 = .ok (.if_icmp .ne 21, 3) := by decide +kernel
theorem d_HoldQueueModel_fits_31 : decode c_HoldQueueModel_fits 31 = .ok (.aload_n 0, 1) := by decide +kernel
theorem d_HoldQueueModel_fits_32 : decode c_HoldQueueModel_fits 32 = .ok (.getfield 54, 3) := by decide +kernel
theorem d_HoldQueueModel_fits_35 : decode c_HoldQueueModel_fits 35 = .ok (.iload_n 3, 1) := by decide +kernel
theorem d_HoldQueueModel_fits_36 : decode c_HoldQueueModel_fits 36 = .ok (.laload, 1) := by decide +kernel
theorem d_HoldQueueModel_fits_37 : decode c_HoldQueueModel_fits 37 = .ok (.aload_n 0, 1) := by decide +kernel
theorem d_HoldQueueModel_fits_38 : decode c_HoldQueueModel_fits 38 = .ok (.getfield 81, 3) := by decide +kernel
theorem d_HoldQueueModel_fits_41 : decode c_HoldQueueModel_fits 41 = .ok (.lcmp, 1) := by decide +kernel
theorem d_HoldQueueModel_fits_42 : decode c_HoldQueueModel_fits 42 = .ok (.ifCond .gt 7, 3) := by decide +kernel
theorem d_HoldQueueModel_fits_45 : decode c_HoldQueueModel_fits 45 = .ok (.iconst 1, 1) := by decide +kernel
theorem d_HoldQueueModel_fits_46 : decode c_HoldQueueModel_fits 46 = .ok (.goto 4, 3) := by decide +kernel
theorem d_HoldQueueModel_fits_49 : decode c_HoldQueueModel_fits 49 = .ok (.iconst 0, 1) := by decide +kernel
theorem d_HoldQueueModel_fits_50 : decode c_HoldQueueModel_fits 50 = .ok (.istore 4, 2) := by decide +kernel
theorem d_HoldQueueModel_fits_52 : decode c_HoldQueueModel_fits 52 = .ok (.iload 4, 2) := by decide +kernel
theorem d_HoldQueueModel_fits_54 : decode c_HoldQueueModel_fits 54 = .ok (.ifCond .eq 20, 3) := by decide +kernel
theorem d_HoldQueueModel_fits_57 : decode c_HoldQueueModel_fits 57 = .ok (.iload_n 2, 1) := by decide +kernel
theorem d_HoldQueueModel_fits_58 : decode c_HoldQueueModel_fits 58 = .ok (.ifCond .eq 12, 3) := by decide +kernel
theorem d_HoldQueueModel_fits_61 : decode c_HoldQueueModel_fits 61 = .ok (.aload_n 0, 1) := by decide +kernel
theorem d_HoldQueueModel_fits_62 : decode c_HoldQueueModel_fits 62 = .ok (.iload_n 3, 1) := by decide +kernel
theorem d_HoldQueueModel_fits_63 : decode c_HoldQueueModel_fits 63 = .ok (.iload_n 2, 1) := by decide +kernel
theorem d_HoldQueueModel_fits_64 : decode c_HoldQueueModel_fits 64 = .ok (.invokevirtual 77, 3) := by decide +kernel
theorem d_HoldQueueModel_fits_67 : decode c_HoldQueueModel_fits 67 = .ok (.ifCond .eq 7, 3) := by decide +kernel
theorem d_HoldQueueModel_fits_70 : decode c_HoldQueueModel_fits 70 = .ok (.iload_n 3, 1) := by decide +kernel
theorem d_HoldQueueModel_fits_71 : decode c_HoldQueueModel_fits 71 = .ok (.goto 4, 3) := by decide +kernel
theorem d_HoldQueueModel_fits_74 : decode c_HoldQueueModel_fits 74 = .ok (.iload_n 2, 1) := by decide +kernel
theorem d_HoldQueueModel_fits_75 : decode c_HoldQueueModel_fits 75 = .ok (.istore_n 2, 1) := by decide +kernel
theorem d_HoldQueueModel_fits_76 : decode c_HoldQueueModel_fits 76 = .ok (.iinc 3 1, 3) := by decide +kernel
theorem d_HoldQueueModel_fits_79 : decode c_HoldQueueModel_fits 79 = .ok (.goto (-75), 3) := by decide +kernel
theorem d_HoldQueueModel_fits_82 : decode c_HoldQueueModel_fits 82 = .ok (.iload_n 2, 1) := by decide +kernel
theorem d_HoldQueueModel_fits_83 : decode c_HoldQueueModel_fits 83 = .ok (.ireturn, 1) := by decide +kernel
theorem d_HoldQueueModel_lies_0 : decode c_HoldQueueModel_lies 0 = .ok (.aload_n 0, 1) := by decide +kernel
theorem d_HoldQueueModel_lies_1 : decode c_HoldQueueModel_lies 1 = .ok (.getfield 48, 3) := by decide +kernel
theorem d_HoldQueueModel_lies_4 : decode c_HoldQueueModel_lies 4 = .ok (.iload_n 2, 1) := by decide +kernel
theorem d_HoldQueueModel_lies_5 : decode c_HoldQueueModel_lies 5 = .ok (.iconst 2, 1) := by decide +kernel
theorem d_HoldQueueModel_lies_6 : decode c_HoldQueueModel_lies 6 = .ok (.iastore, 1) := by decide +kernel
theorem d_HoldQueueModel_lies_7 : decode c_HoldQueueModel_lies 7 = .ok (.aload_n 0, 1) := by decide +kernel
theorem d_HoldQueueModel_lies_8 : decode c_HoldQueueModel_lies 8 = .ok (.getfield 58, 3) := by decide +kernel
theorem d_HoldQueueModel_lies_11 : decode c_HoldQueueModel_lies 11 = .ok (.iload_n 2, 1) := by decide +kernel
theorem d_HoldQueueModel_lies_12 : decode c_HoldQueueModel_lies 12 = .ok (.aload_n 0, 1) := by decide +kernel
theorem d_HoldQueueModel_lies_13 : decode c_HoldQueueModel_lies 13 = .ok (.getfield 81, 3) := by decide +kernel
theorem d_HoldQueueModel_lies_16 : decode c_HoldQueueModel_lies 16 = .ok (.aload_n 0, 1) := by decide +kernel
theorem d_HoldQueueModel_lies_17 : decode c_HoldQueueModel_lies 17 = .ok (.getfield 20, 3) := by decide +kernel
theorem d_HoldQueueModel_lies_20 : decode c_HoldQueueModel_lies 20 = .ok (.i2l, 1) := by decide +kernel
theorem d_HoldQueueModel_lies_21 : decode c_HoldQueueModel_lies 21 = .ok (.ladd, 1) := by decide +kernel
theorem d_HoldQueueModel_lies_22 : decode c_HoldQueueModel_lies 22 = .ok (.lastore, 1) := by decide +kernel
theorem d_HoldQueueModel_lies_23 : decode c_HoldQueueModel_lies 23 = .ok (.aload_n 0, 1) := by decide +kernel
theorem d_HoldQueueModel_lies_24 : decode c_HoldQueueModel_lies 24 = .ok (.getfield 27, 3) := by decide +kernel
theorem d_HoldQueueModel_lies_27 : decode c_HoldQueueModel_lies 27 = .ok (.iload_n 1, 1) := by decide +kernel
theorem d_HoldQueueModel_lies_28 : decode c_HoldQueueModel_lies 28 = .ok (.iconst 3, 1) := by decide +kernel
theorem d_HoldQueueModel_lies_29 : decode c_HoldQueueModel_lies 29 = .ok (.iastore, 1) := by decide +kernel
theorem d_HoldQueueModel_lies_30 : decode c_HoldQueueModel_lies 30 = .ok (.return_, 1) := by decide +kernel
theorem d_HoldQueueModel_goes_0 : decode c_HoldQueueModel_goes 0 = .ok (.aload_n 0, 1) := by decide +kernel
theorem d_HoldQueueModel_goes_1 : decode c_HoldQueueModel_goes 1 = .ok (.aload_n 0, 1) := by decide +kernel
theorem d_HoldQueueModel_goes_2 : decode c_HoldQueueModel_goes 2 = .ok (.getfield 24, 3) := by decide +kernel
theorem d_HoldQueueModel_goes_5 : decode c_HoldQueueModel_goes 5 = .ok (.iload_n 1, 1) := by decide +kernel
theorem d_HoldQueueModel_goes_6 : decode c_HoldQueueModel_goes 6 = .ok (.iaload, 1) := by decide +kernel
theorem d_HoldQueueModel_goes_7 : decode c_HoldQueueModel_goes 7 = .ok (.invokevirtual 85, 3) := by decide +kernel
theorem d_HoldQueueModel_goes_10 : decode c_HoldQueueModel_goes 10 = .ok (.istore_n 2, 1) := by decide +kernel
theorem d_HoldQueueModel_goes_11 : decode c_HoldQueueModel_goes 11 = .ok (.aload_n 0, 1) := by decide +kernel
theorem d_HoldQueueModel_goes_12 : decode c_HoldQueueModel_goes 12 = .ok (.getfield 33, 3) := by decide +kernel
theorem d_HoldQueueModel_goes_15 : decode c_HoldQueueModel_goes 15 = .ok (.iload_n 1, 1) := by decide +kernel
theorem d_HoldQueueModel_goes_16 : decode c_HoldQueueModel_goes 16 = .ok (.iload_n 2, 1) := by decide +kernel
theorem d_HoldQueueModel_goes_17 : decode c_HoldQueueModel_goes 17 = .ok (.iastore, 1) := by decide +kernel
theorem d_HoldQueueModel_goes_18 : decode c_HoldQueueModel_goes 18 = .ok (.aload_n 0, 1) := by decide +kernel
theorem d_HoldQueueModel_goes_19 : decode c_HoldQueueModel_goes 19 = .ok (.getfield 27, 3) := by decide +kernel
theorem d_HoldQueueModel_goes_22 : decode c_HoldQueueModel_goes 22 = .ok (.iload_n 1, 1) := by decide +kernel
theorem d_HoldQueueModel_goes_23 : decode c_HoldQueueModel_goes 23 = .ok (.iconst 0, 1) := by decide +kernel
theorem d_HoldQueueModel_goes_24 : decode c_HoldQueueModel_goes 24 = .ok (.iastore, 1) := by decide +kernel
theorem d_HoldQueueModel_goes_25 : decode c_HoldQueueModel_goes 25 = .ok (.iload_n 2, 1) := by decide +kernel
theorem d_HoldQueueModel_goes_26 : decode c_HoldQueueModel_goes 26 = .ok (.ifCond .ne 5, 3) := by decide +kernel
theorem d_HoldQueueModel_goes_29 : decode c_HoldQueueModel_goes 29 = .ok (.iconst 0, 1) := by decide +kernel
theorem d_HoldQueueModel_goes_30 : decode c_HoldQueueModel_goes 30 = .ok (.ireturn, 1) := by decide +kernel
theorem d_HoldQueueModel_goes_31 : decode c_HoldQueueModel_goes 31 = .ok (.aload_n 0, 1) := by decide +kernel
theorem d_HoldQueueModel_goes_32 : decode c_HoldQueueModel_goes 32 = .ok (.getfield 51, 3) := by decide +kernel
theorem d_HoldQueueModel_goes_35 : decode c_HoldQueueModel_goes 35 = .ok (.iload_n 2, 1) := by decide +kernel
theorem d_HoldQueueModel_goes_36 : decode c_HoldQueueModel_goes 36 = .ok (.iload_n 1, 1) := by decide +kernel
theorem d_HoldQueueModel_goes_37 : decode c_HoldQueueModel_goes 37 = .ok (.iastore, 1) := by decide +kernel
theorem d_HoldQueueModel_goes_38 : decode c_HoldQueueModel_goes 38 = .ok (.aload_n 0, 1) := by decide +kernel
theorem d_HoldQueueModel_goes_39 : decode c_HoldQueueModel_goes 39 = .ok (.getfield 30, 3) := by decide +kernel
theorem d_HoldQueueModel_goes_42 : decode c_HoldQueueModel_goes 42 = .ok (.iload_n 1, 1) := by decide +kernel
theorem d_HoldQueueModel_goes_43 : decode c_HoldQueueModel_goes 43 = .ok (.iaload, 1) := by decide +kernel
theorem d_HoldQueueModel_goes_44 : decode c_HoldQueueModel_goes 44 = .ok (.aload_n 0, 1) := by decide +kernel
theorem d_HoldQueueModel_goes_45 : decode c_HoldQueueModel_goes 45 = .ok (.getfield 42, 3) := by decide +kernel
theorem d_HoldQueueModel_goes_48 : decode c_HoldQueueModel_goes 48 = .ok (.iload_n 2, 1) := by decide +kernel
theorem d_HoldQueueModel_goes_49 : decode c_HoldQueueModel_goes 49 = .ok (.iaload, 1) := by decide +kernel
theorem d_HoldQueueModel_goes_50 : decode c_HoldQueueModel_goes 50 = .ok (.if_icmp .ne 12, 3) := by decide +kernel
theorem d_HoldQueueModel_goes_53 : decode c_HoldQueueModel_goes 53 = .ok (.aload_n 0, 1) := by decide +kernel
theorem d_HoldQueueModel_goes_54 : decode c_HoldQueueModel_goes 54 = .ok (.iload_n 1, 1) := by decide +kernel
theorem d_HoldQueueModel_goes_55 : decode c_HoldQueueModel_goes 55 = .ok (.iload_n 2, 1) := by decide +kernel
theorem d_HoldQueueModel_goes_56 : decode c_HoldQueueModel_goes 56 = .ok (.invokevirtual 89, 3) := by decide +kernel
theorem d_HoldQueueModel_goes_59 : decode c_HoldQueueModel_goes 59 = .ok (.goto 29, 3) := by decide +kernel
theorem d_HoldQueueModel_goes_62 : decode c_HoldQueueModel_goes 62 = .ok (.aload_n 0, 1) := by decide +kernel
theorem d_HoldQueueModel_goes_63 : decode c_HoldQueueModel_goes 63 = .ok (.getfield 48, 3) := by decide +kernel
theorem d_HoldQueueModel_goes_66 : decode c_HoldQueueModel_goes 66 = .ok (.iload_n 2, 1) := by decide +kernel
theorem d_HoldQueueModel_goes_67 : decode c_HoldQueueModel_goes 67 = .ok (.iconst 1, 1) := by decide +kernel
theorem d_HoldQueueModel_goes_68 : decode c_HoldQueueModel_goes 68 = .ok (.iastore, 1) := by decide +kernel
theorem d_HoldQueueModel_goes_69 : decode c_HoldQueueModel_goes 69 = .ok (.aload_n 0, 1) := by decide +kernel
theorem d_HoldQueueModel_goes_70 : decode c_HoldQueueModel_goes 70 = .ok (.getfield 27, 3) := by decide +kernel
theorem d_HoldQueueModel_goes_73 : decode c_HoldQueueModel_goes 73 = .ok (.iload_n 1, 1) := by decide +kernel
theorem d_HoldQueueModel_goes_74 : decode c_HoldQueueModel_goes 74 = .ok (.iconst 2, 1) := by decide +kernel
theorem d_HoldQueueModel_goes_75 : decode c_HoldQueueModel_goes 75 = .ok (.iastore, 1) := by decide +kernel
theorem d_HoldQueueModel_goes_76 : decode c_HoldQueueModel_goes 76 = .ok (.aload_n 0, 1) := by decide +kernel
theorem d_HoldQueueModel_goes_77 : decode c_HoldQueueModel_goes 77 = .ok (.getfield 30, 3) := by decide +kernel
theorem d_HoldQueueModel_goes_80 : decode c_HoldQueueModel_goes 80 = .ok (.iload_n 1, 1) := by decide +kernel
theorem d_HoldQueueModel_goes_81 : decode c_HoldQueueModel_goes 81 = .ok (.aload_n 0, 1) := by decide +kernel
theorem d_HoldQueueModel_goes_82 : decode c_HoldQueueModel_goes 82 = .ok (.getfield 42, 3) := by decide +kernel
theorem d_HoldQueueModel_goes_85 : decode c_HoldQueueModel_goes 85 = .ok (.iload_n 2, 1) := by decide +kernel
theorem d_HoldQueueModel_goes_86 : decode c_HoldQueueModel_goes 86 = .ok (.iaload, 1) := by decide +kernel
theorem d_HoldQueueModel_goes_87 : decode c_HoldQueueModel_goes 87 = .ok (.iastore, 1) := by decide +kernel
theorem d_HoldQueueModel_goes_88 : decode c_HoldQueueModel_goes 88 = .ok (.iload_n 2, 1) := by decide +kernel
theorem d_HoldQueueModel_goes_89 : decode c_HoldQueueModel_goes 89 = .ok (.ireturn, 1) := by decide +kernel
theorem d_HoldQueueModel_hold_0 : decode c_HoldQueueModel_hold 0 = .ok (.aload_n 0, 1) := by decide +kernel
theorem d_HoldQueueModel_hold_1 : decode c_HoldQueueModel_hold 1 = .ok (.iconst 0, 1) := by decide +kernel
theorem d_HoldQueueModel_hold_2 : decode c_HoldQueueModel_hold 2 = .ok (.putfield 61, 3) := by decide +kernel
theorem d_HoldQueueModel_hold_5 : decode c_HoldQueueModel_hold 5 = .ok (.iload_n 1, 1) := by decide +kernel
theorem d_HoldQueueModel_hold_6 : decode c_HoldQueueModel_hold 6 = .ok (.iconst 0, 1) := by decide +kernel
theorem d_HoldQueueModel_hold_7 : decode c_HoldQueueModel_hold 7 = .ok (.bipush 39, 2) := by decide +kernel
theorem d_HoldQueueModel_hold_9 : decode c_HoldQueueModel_hold 9 = .ok (.invokestatic 64, 3) := by decide +kernel
theorem d_HoldQueueModel_hold_12 : decode c_HoldQueueModel_hold 12 = .ok (.ifCond .eq 47, 3) := by decide +kernel
theorem d_HoldQueueModel_hold_15 : decode c_HoldQueueModel_hold 15 = .ok (.iload_n 2, 1) := by decide +kernel
theorem d_HoldQueueModel_hold_16 : decode c_HoldQueueModel_hold 16 = .ok (.iconst 1, 1) := by decide +kernel
theorem d_HoldQueueModel_hold_17 : decode c_HoldQueueModel_hold 17 = .ok (.aload_n 0, 1) := by decide +kernel
theorem d_HoldQueueModel_hold_18 : decode c_HoldQueueModel_hold 18 = .ok (.getfield 68, 3) := by decide +kernel
theorem d_HoldQueueModel_hold_21 : decode c_HoldQueueModel_hold 21 = .ok (.invokestatic 64, 3) := by decide +kernel
theorem d_HoldQueueModel_hold_24 : decode c_HoldQueueModel_hold 24 = .ok (.ifCond .eq 35, 3) := by decide +kernel
theorem d_HoldQueueModel_hold_27 : decode c_HoldQueueModel_hold 27 = .ok (.iload_n 3, 1) := by decide +kernel
theorem d_HoldQueueModel_hold_28 : decode c_HoldQueueModel_hold 28 = .ok (.iconst 0, 1) := by decide +kernel
theorem d_HoldQueueModel_hold_29 : decode c_HoldQueueModel_hold 29 = .ok (.iconst 5, 1) := by decide +kernel
theorem d_HoldQueueModel_hold_30 : decode c_HoldQueueModel_hold 30 = .ok (.invokestatic 64, 3) := by decide +kernel
theorem d_HoldQueueModel_hold_33 : decode c_HoldQueueModel_hold 33 = .ok (.ifCond .eq 26, 3) := by decide +kernel
theorem d_HoldQueueModel_hold_36 : decode c_HoldQueueModel_hold 36 = .ok (.aload_n 0, 1) := by decide +kernel
theorem d_HoldQueueModel_hold_37 : decode c_HoldQueueModel_hold 37 = .ok (.getfield 13, 3) := by decide +kernel
theorem d_HoldQueueModel_hold_40 : decode c_HoldQueueModel_hold 40 = .ok (.aload_n 0, 1) := by decide +kernel
theorem d_HoldQueueModel_hold_41 : decode c_HoldQueueModel_hold 41 = .ok (.getfield 7, 3) := by decide +kernel
theorem d_HoldQueueModel_hold_44 : decode c_HoldQueueModel_hold 44 = .ok (.iload_n 2, 1) := by decide +kernel
theorem d_HoldQueueModel_hold_45 : decode c_HoldQueueModel_hold 45 = .ok (.iaload, 1) := by decide +kernel
theorem d_HoldQueueModel_hold_46 : decode c_HoldQueueModel_hold 46 = .ok (.baload, 1) := by decide +kernel
theorem d_HoldQueueModel_hold_47 : decode c_HoldQueueModel_hold 47 = .ok (.ifCond .ne 12, 3) := by decide +kernel
theorem d_HoldQueueModel_hold_50 : decode c_HoldQueueModel_hold 50 = .ok (.aload_n 0, 1) := by decide +kernel
theorem d_HoldQueueModel_hold_51 : decode c_HoldQueueModel_hold 51 = .ok (.getfield 74, 3) := by decide +kernel
theorem d_HoldQueueModel_hold_54 : decode c_HoldQueueModel_hold 54 = .ok (.bipush 120, 2) := by decide +kernel
theorem d_HoldQueueModel_hold_56 : decode c_HoldQueueModel_hold 56 = .ok (.if_icmp .ne 5, 3) := by decide +kernel
theorem d_HoldQueueModel_hold_59 : decode c_HoldQueueModel_hold 59 = .ok (.iconst 0, 1) := by decide +kernel
theorem d_HoldQueueModel_hold_60 : decode c_HoldQueueModel_hold 60 = .ok (.ireturn, 1) := by decide +kernel
theorem d_HoldQueueModel_hold_61 : decode c_HoldQueueModel_hold 61 = .ok (.iconst 0, 1) := by decide +kernel
theorem d_HoldQueueModel_hold_62 : decode c_HoldQueueModel_hold 62 = .ok (.istore 5, 2) := by decide +kernel
theorem d_HoldQueueModel_hold_64 : decode c_HoldQueueModel_hold 64 = .ok (.iconst 1, 1) := by decide +kernel
theorem d_HoldQueueModel_hold_65 : decode c_HoldQueueModel_hold 65 = .ok (.istore 6, 2) := by decide +kernel
theorem d_HoldQueueModel_hold_67 : decode c_HoldQueueModel_hold 67 = .ok (.iload 6, 2) := by decide +kernel
theorem d_HoldQueueModel_hold_69 : decode c_HoldQueueModel_hold 69 = .ok (.aload_n 0, 1) := by decide +kernel
theorem d_HoldQueueModel_hold_70 : decode c_HoldQueueModel_hold 70 = .ok (.getfield 74, 3) := by decide +kernel
theorem d_HoldQueueModel_hold_73 : decode c_HoldQueueModel_hold 73 = .ok (.if_icmp .gt 48, 3) := by decide +kernel
theorem d_HoldQueueModel_hold_76 : decode c_HoldQueueModel_hold 76 = .ok (.aload_n 0, 1) := by decide +kernel
theorem d_HoldQueueModel_hold_77 : decode c_HoldQueueModel_hold 77 = .ok (.getfield 36, 3) := by decide +kernel
theorem d_HoldQueueModel_hold_80 : decode c_HoldQueueModel_hold 80 = .ok (.iload 6, 2) := by decide +kernel
theorem d_HoldQueueModel_hold_82 : decode c_HoldQueueModel_hold 82 = .ok (.iaload, 1) := by decide +kernel
theorem d_HoldQueueModel_hold_83 : decode c_HoldQueueModel_hold 83 = .ok (.iload_n 1, 1) := by decide +kernel
theorem d_HoldQueueModel_hold_84 : decode c_HoldQueueModel_hold 84 = .ok (.if_icmp .ne 31, 3) := by decide +kernel
theorem d_HoldQueueModel_hold_87 : decode c_HoldQueueModel_hold 87 = .ok (.aload_n 0, 1) := by decide +kernel
theorem d_HoldQueueModel_hold_88 : decode c_HoldQueueModel_hold 88 = .ok (.iload 6, 2) := by decide +kernel
theorem d_HoldQueueModel_hold_90 : decode c_HoldQueueModel_hold 90 = .ok (.invokevirtual 93, 3) := by decide +kernel
theorem d_HoldQueueModel_hold_93 : decode c_HoldQueueModel_hold 93 = .ok (.ifCond .ne 6, 3) := by decide +kernel
theorem d_HoldQueueModel_hold_96 : decode c_HoldQueueModel_hold 96 = .ok (.goto 19, 3) := by decide +kernel
theorem d_HoldQueueModel_hold_99 : decode c_HoldQueueModel_hold 99 = .ok (.aload_n 0, 1) := by decide +kernel
theorem d_HoldQueueModel_hold_100 : decode c_HoldQueueModel_hold 100 = .ok (.getfield 39, 3) := by decide +kernel
theorem d_HoldQueueModel_hold_103 : decode c_HoldQueueModel_hold 103 = .ok (.iload 6, 2) := by decide +kernel
theorem d_HoldQueueModel_hold_105 : decode c_HoldQueueModel_hold 105 = .ok (.iaload, 1) := by decide +kernel
theorem d_HoldQueueModel_hold_106 : decode c_HoldQueueModel_hold 106 = .ok (.iload_n 2, 1) := by decide +kernel
theorem d_HoldQueueModel_hold_107 : decode c_HoldQueueModel_hold 107 = .ok (.if_icmp .ne 5, 3) := by decide +kernel
theorem d_HoldQueueModel_hold_110 : decode c_HoldQueueModel_hold 110 = .ok (.iconst 0, 1) := by decide +kernel
theorem d_HoldQueueModel_hold_111 : decode c_HoldQueueModel_hold 111 = .ok (.ireturn, 1) := by decide +kernel
theorem d_HoldQueueModel_hold_112 : decode c_HoldQueueModel_hold 112 = .ok (.iinc 5 1, 3) := by decide +kernel
theorem d_HoldQueueModel_hold_115 : decode c_HoldQueueModel_hold 115 = .ok (.iinc 6 1, 3) := by decide +kernel
theorem d_HoldQueueModel_hold_118 : decode c_HoldQueueModel_hold 118 = .ok (.goto (-51), 3) := by decide +kernel
theorem d_HoldQueueModel_hold_121 : decode c_HoldQueueModel_hold 121 = .ok (.iload 5, 2) := by decide +kernel
theorem d_HoldQueueModel_hold_123 : decode c_HoldQueueModel_hold 123 = .ok (.aload_n 0, 1) := by decide +kernel
theorem d_HoldQueueModel_hold_124 : decode c_HoldQueueModel_hold 124 = .ok (.getfield 17, 3) := by decide +kernel
theorem d_HoldQueueModel_hold_127 : decode c_HoldQueueModel_hold 127 = .ok (.iload_n 1, 1) := by decide +kernel
theorem d_HoldQueueModel_hold_128 : decode c_HoldQueueModel_hold 128 = .ok (.iaload, 1) := by decide +kernel
theorem d_HoldQueueModel_hold_129 : decode c_HoldQueueModel_hold 129 = .ok (.if_icmp .lt 5, 3) := by decide +kernel
theorem d_HoldQueueModel_hold_132 : decode c_HoldQueueModel_hold 132 = .ok (.iconst (-1), 1) := by decide +kernel
theorem d_HoldQueueModel_hold_133 : decode c_HoldQueueModel_hold 133 = .ok (.ireturn, 1) := by decide +kernel
theorem d_HoldQueueModel_hold_134 : decode c_HoldQueueModel_hold 134 = .ok (.aload_n 0, 1) := by decide +kernel
theorem d_HoldQueueModel_hold_135 : decode c_HoldQueueModel_hold 135 = .ok (.dup, 1) := by decide +kernel
theorem d_HoldQueueModel_hold_136 : decode c_HoldQueueModel_hold 136 = .ok (.getfield 74, 3) := by decide +kernel
theorem d_HoldQueueModel_hold_139 : decode c_HoldQueueModel_hold 139 = .ok (.iconst 1, 1) := by decide +kernel
theorem d_HoldQueueModel_hold_140 : decode c_HoldQueueModel_hold 140 = .ok (.iadd, 1) := by decide +kernel
theorem d_HoldQueueModel_hold_141 : decode c_HoldQueueModel_hold 141 = .ok (.putfield 74, 3) := by decide +kernel
theorem d_HoldQueueModel_hold_144 : decode c_HoldQueueModel_hold 144 = .ok (.aload_n 0, 1) := by decide +kernel
theorem d_HoldQueueModel_hold_145 : decode c_HoldQueueModel_hold 145 = .ok (.getfield 36, 3) := by decide +kernel
theorem d_HoldQueueModel_hold_148 : decode c_HoldQueueModel_hold 148 = .ok (.aload_n 0, 1) := by decide +kernel
theorem d_HoldQueueModel_hold_149 : decode c_HoldQueueModel_hold 149 = .ok (.getfield 74, 3) := by decide +kernel
theorem d_HoldQueueModel_hold_152 : decode c_HoldQueueModel_hold 152 = .ok (.iload_n 1, 1) := by decide +kernel
theorem d_HoldQueueModel_hold_153 : decode c_HoldQueueModel_hold 153 = .ok (.iastore, 1) := by decide +kernel
theorem d_HoldQueueModel_hold_154 : decode c_HoldQueueModel_hold 154 = .ok (.aload_n 0, 1) := by decide +kernel
theorem d_HoldQueueModel_hold_155 : decode c_HoldQueueModel_hold 155 = .ok (.getfield 39, 3) := by decide +kernel
theorem d_HoldQueueModel_hold_158 : decode c_HoldQueueModel_hold 158 = .ok (.aload_n 0, 1) := by decide +kernel
theorem d_HoldQueueModel_hold_159 : decode c_HoldQueueModel_hold 159 = .ok (.getfield 74, 3) := by decide +kernel
theorem d_HoldQueueModel_hold_162 : decode c_HoldQueueModel_hold 162 = .ok (.iload_n 2, 1) := by decide +kernel
theorem d_HoldQueueModel_hold_163 : decode c_HoldQueueModel_hold 163 = .ok (.iastore, 1) := by decide +kernel
theorem d_HoldQueueModel_hold_164 : decode c_HoldQueueModel_hold 164 = .ok (.aload_n 0, 1) := by decide +kernel
theorem d_HoldQueueModel_hold_165 : decode c_HoldQueueModel_hold 165 = .ok (.getfield 42, 3) := by decide +kernel
theorem d_HoldQueueModel_hold_168 : decode c_HoldQueueModel_hold 168 = .ok (.aload_n 0, 1) := by decide +kernel
theorem d_HoldQueueModel_hold_169 : decode c_HoldQueueModel_hold 169 = .ok (.getfield 74, 3) := by decide +kernel
theorem d_HoldQueueModel_hold_172 : decode c_HoldQueueModel_hold 172 = .ok (.iload_n 3, 1) := by decide +kernel
theorem d_HoldQueueModel_hold_173 : decode c_HoldQueueModel_hold 173 = .ok (.iastore, 1) := by decide +kernel
theorem d_HoldQueueModel_hold_174 : decode c_HoldQueueModel_hold 174 = .ok (.aload_n 0, 1) := by decide +kernel
theorem d_HoldQueueModel_hold_175 : decode c_HoldQueueModel_hold 175 = .ok (.getfield 45, 3) := by decide +kernel
theorem d_HoldQueueModel_hold_178 : decode c_HoldQueueModel_hold 178 = .ok (.aload_n 0, 1) := by decide +kernel
theorem d_HoldQueueModel_hold_179 : decode c_HoldQueueModel_hold 179 = .ok (.getfield 74, 3) := by decide +kernel
theorem d_HoldQueueModel_hold_182 : decode c_HoldQueueModel_hold 182 = .ok (.iload 4, 2) := by decide +kernel
theorem d_HoldQueueModel_hold_184 : decode c_HoldQueueModel_hold 184 = .ok (.iastore, 1) := by decide +kernel
theorem d_HoldQueueModel_hold_185 : decode c_HoldQueueModel_hold 185 = .ok (.aload_n 0, 1) := by decide +kernel
theorem d_HoldQueueModel_hold_186 : decode c_HoldQueueModel_hold 186 = .ok (.getfield 48, 3) := by decide +kernel
theorem d_HoldQueueModel_hold_189 : decode c_HoldQueueModel_hold 189 = .ok (.aload_n 0, 1) := by decide +kernel
theorem d_HoldQueueModel_hold_190 : decode c_HoldQueueModel_hold 190 = .ok (.getfield 74, 3) := by decide +kernel
theorem d_HoldQueueModel_hold_193 : decode c_HoldQueueModel_hold 193 = .ok (.iconst 0, 1) := by decide +kernel
theorem d_HoldQueueModel_hold_194 : decode c_HoldQueueModel_hold 194 = .ok (.iastore, 1) := by decide +kernel
theorem d_HoldQueueModel_hold_195 : decode c_HoldQueueModel_hold 195 = .ok (.aload_n 0, 1) := by decide +kernel
theorem d_HoldQueueModel_hold_196 : decode c_HoldQueueModel_hold 196 = .ok (.getfield 51, 3) := by decide +kernel
theorem d_HoldQueueModel_hold_199 : decode c_HoldQueueModel_hold 199 = .ok (.aload_n 0, 1) := by decide +kernel
theorem d_HoldQueueModel_hold_200 : decode c_HoldQueueModel_hold 200 = .ok (.getfield 74, 3) := by decide +kernel
theorem d_HoldQueueModel_hold_203 : decode c_HoldQueueModel_hold 203 = .ok (.iconst 0, 1) := by decide +kernel
theorem d_HoldQueueModel_hold_204 : decode c_HoldQueueModel_hold 204 = .ok (.iastore, 1) := by decide +kernel
theorem d_HoldQueueModel_hold_205 : decode c_HoldQueueModel_hold 205 = .ok (.aload_n 0, 1) := by decide +kernel
theorem d_HoldQueueModel_hold_206 : decode c_HoldQueueModel_hold 206 = .ok (.getfield 54, 3) := by decide +kernel
theorem d_HoldQueueModel_hold_209 : decode c_HoldQueueModel_hold 209 = .ok (.aload_n 0, 1) := by decide +kernel
theorem d_HoldQueueModel_hold_210 : decode c_HoldQueueModel_hold 210 = .ok (.getfield 74, 3) := by decide +kernel
theorem d_HoldQueueModel_hold_213 : decode c_HoldQueueModel_hold 213 = .ok (.ldc2_w 97, 3) := by decide +kernel
theorem d_HoldQueueModel_hold_216 : decode c_HoldQueueModel_hold 216 = .ok (.lastore, 1) := by decide +kernel
theorem d_HoldQueueModel_hold_217 : decode c_HoldQueueModel_hold 217 = .ok (.aload_n 0, 1) := by decide +kernel
theorem d_HoldQueueModel_hold_218 : decode c_HoldQueueModel_hold 218 = .ok (.getfield 74, 3) := by decide +kernel
theorem d_HoldQueueModel_hold_221 : decode c_HoldQueueModel_hold 221 = .ok (.istore 6, 2) := by decide +kernel
theorem d_HoldQueueModel_hold_223 : decode c_HoldQueueModel_hold 223 = .ok (.iconst 0, 1) := by decide +kernel
theorem d_HoldQueueModel_hold_224 : decode c_HoldQueueModel_hold 224 = .ok (.istore 7, 2) := by decide +kernel
theorem d_HoldQueueModel_hold_226 : decode c_HoldQueueModel_hold 226 = .ok (.aload_n 0, 1) := by decide +kernel
theorem d_HoldQueueModel_hold_227 : decode c_HoldQueueModel_hold 227 = .ok (.getfield 71, 3) := by decide +kernel
theorem d_HoldQueueModel_hold_230 : decode c_HoldQueueModel_hold 230 = .ok (.istore 8, 2) := by decide +kernel
theorem d_HoldQueueModel_hold_232 : decode c_HoldQueueModel_hold 232 = .ok (.iload 8, 2) := by decide +kernel
theorem d_HoldQueueModel_hold_234 : decode c_HoldQueueModel_hold 234 = .ok (.ifCond .le 39, 3) := by decide +kernel
theorem d_HoldQueueModel_hold_237 : decode c_HoldQueueModel_hold 237 = .ok (.aload_n 0, 1) := by decide +kernel
theorem d_HoldQueueModel_hold_238 : decode c_HoldQueueModel_hold 238 = .ok (.getfield 24, 3) := by decide +kernel
theorem d_HoldQueueModel_hold_241 : decode c_HoldQueueModel_hold 241 = .ok (.iload 8, 2) := by decide +kernel
theorem d_HoldQueueModel_hold_243 : decode c_HoldQueueModel_hold 243 = .ok (.iaload, 1) := by decide +kernel
theorem d_HoldQueueModel_hold_244 : decode c_HoldQueueModel_hold 244 = .ok (.iload_n 2, 1) := by decide +kernel
theorem d_HoldQueueModel_hold_245 : decode c_HoldQueueModel_hold 245 = .ok (.if_icmp .ne 18, 3) := by decide +kernel
theorem d_HoldQueueModel_hold_248 : decode c_HoldQueueModel_hold 248 = .ok (.aload_n 0, 1) := by decide +kernel
theorem d_HoldQueueModel_hold_249 : decode c_HoldQueueModel_hold 249 = .ok (.getfield 27, 3) := by decide +kernel
theorem d_HoldQueueModel_hold_252 : decode c_HoldQueueModel_hold 252 = .ok (.iload 8, 2) := by decide +kernel
theorem d_HoldQueueModel_hold_254 : decode c_HoldQueueModel_hold 254 = .ok (.iaload, 1) := by decide +kernel
theorem d_HoldQueueModel_hold_255 : decode c_HoldQueueModel_hold 255 = .ok (.ifCond .ne 8, 3) := by decide +kernel
theorem d_HoldQueueModel_hold_258 : decode c_HoldQueueModel_hold 258 = .ok (.iload 8, 2) := by decide +kernel
theorem d_HoldQueueModel_hold_260 : decode c_HoldQueueModel_hold 260 = .ok (.goto 5, 3) := by decide +kernel
theorem d_HoldQueueModel_hold_263 : decode c_HoldQueueModel_hold 263 = .ok (.iload 7, 2) := by decide +kernel
theorem d_HoldQueueModel_hold_265 : decode c_HoldQueueModel_hold 265 = .ok (.istore 7, 2) := by decide +kernel
theorem d_HoldQueueModel_hold_267 : decode c_HoldQueueModel_hold 267 = .ok (.iinc 8 (-1), 3) := by decide +kernel
theorem d_HoldQueueModel_hold_270 : decode c_HoldQueueModel_hold 270 = .ok (.goto (-38), 3) := by decide +kernel
theorem d_HoldQueueModel_hold_273 : decode c_HoldQueueModel_hold 273 = .ok (.iload 7, 2) := by decide +kernel
theorem d_HoldQueueModel_hold_275 : decode c_HoldQueueModel_hold 275 = .ok (.ifCond .le 10, 3) := by decide +kernel
theorem d_HoldQueueModel_hold_278 : decode c_HoldQueueModel_hold 278 = .ok (.aload_n 0, 1) := by decide +kernel
theorem d_HoldQueueModel_hold_279 : decode c_HoldQueueModel_hold 279 = .ok (.iload 7, 2) := by decide +kernel
theorem d_HoldQueueModel_hold_281 : decode c_HoldQueueModel_hold 281 = .ok (.invokevirtual 99, 3) := by decide +kernel
theorem d_HoldQueueModel_hold_284 : decode c_HoldQueueModel_hold 284 = .ok (.pop, 1) := by decide +kernel
theorem d_HoldQueueModel_hold_285 : decode c_HoldQueueModel_hold 285 = .ok (.iload 6, 2) := by decide +kernel
theorem d_HoldQueueModel_hold_287 : decode c_HoldQueueModel_hold 287 = .ok (.ireturn, 1) := by decide +kernel
theorem d_HoldQueueModel_most_0 : decode c_HoldQueueModel_most 0 = .ok (.aload_n 0, 1) := by decide +kernel
theorem d_HoldQueueModel_most_1 : decode c_HoldQueueModel_most 1 = .ok (.iconst 0, 1) := by decide +kernel
theorem d_HoldQueueModel_most_2 : decode c_HoldQueueModel_most 2 = .ok (.putfield 61, 3) := by decide +kernel
theorem d_HoldQueueModel_most_5 : decode c_HoldQueueModel_most 5 = .ok (.iload_n 1, 1) := by decide +kernel
theorem d_HoldQueueModel_most_6 : decode c_HoldQueueModel_most 6 = .ok (.iconst 0, 1) := by decide +kernel
theorem d_HoldQueueModel_most_7 : decode c_HoldQueueModel_most 7 = .ok (.bipush 39, 2) := by decide +kernel
theorem d_HoldQueueModel_most_9 : decode c_HoldQueueModel_most 9 = .ok (.invokestatic 64, 3) := by decide +kernel
theorem d_HoldQueueModel_most_12 : decode c_HoldQueueModel_most 12 = .ok (.ifCond .eq 13, 3) := by decide +kernel
theorem d_HoldQueueModel_most_15 : decode c_HoldQueueModel_most 15 = .ok (.iload_n 2, 1) := by decide +kernel
theorem d_HoldQueueModel_most_16 : decode c_HoldQueueModel_most 16 = .ok (.iconst 0, 1) := by decide +kernel
theorem d_HoldQueueModel_most_17 : decode c_HoldQueueModel_most 17 = .ok (.bipush 20, 2) := by decide +kernel
theorem d_HoldQueueModel_most_19 : decode c_HoldQueueModel_most 19 = .ok (.invokestatic 64, 3) := by decide +kernel
theorem d_HoldQueueModel_most_22 : decode c_HoldQueueModel_most 22 = .ok (.ifCond .ne 5, 3) := by decide +kernel
theorem d_HoldQueueModel_most_25 : decode c_HoldQueueModel_most 25 = .ok (.iconst (-1), 1) := by decide +kernel
theorem d_HoldQueueModel_most_26 : decode c_HoldQueueModel_most 26 = .ok (.ireturn, 1) := by decide +kernel
theorem d_HoldQueueModel_most_27 : decode c_HoldQueueModel_most 27 = .ok (.aload_n 0, 1) := by decide +kernel
theorem d_HoldQueueModel_most_28 : decode c_HoldQueueModel_most 28 = .ok (.getfield 17, 3) := by decide +kernel
theorem d_HoldQueueModel_most_31 : decode c_HoldQueueModel_most 31 = .ok (.iload_n 1, 1) := by decide +kernel
theorem d_HoldQueueModel_most_32 : decode c_HoldQueueModel_most 32 = .ok (.iaload, 1) := by decide +kernel
theorem d_HoldQueueModel_most_33 : decode c_HoldQueueModel_most 33 = .ok (.istore_n 3, 1) := by decide +kernel
theorem d_HoldQueueModel_most_34 : decode c_HoldQueueModel_most 34 = .ok (.aload_n 0, 1) := by decide +kernel
theorem d_HoldQueueModel_most_35 : decode c_HoldQueueModel_most 35 = .ok (.getfield 17, 3) := by decide +kernel
theorem d_HoldQueueModel_most_38 : decode c_HoldQueueModel_most 38 = .ok (.iload_n 1, 1) := by decide +kernel
theorem d_HoldQueueModel_most_39 : decode c_HoldQueueModel_most 39 = .ok (.iload_n 2, 1) := by decide +kernel
theorem d_HoldQueueModel_most_40 : decode c_HoldQueueModel_most 40 = .ok (.iastore, 1) := by decide +kernel
theorem d_HoldQueueModel_most_41 : decode c_HoldQueueModel_most 41 = .ok (.iload_n 3, 1) := by decide +kernel
theorem d_HoldQueueModel_most_42 : decode c_HoldQueueModel_most 42 = .ok (.ireturn, 1) := by decide +kernel
theorem d_HoldQueueModel_isHold_0 : decode c_HoldQueueModel_isHold 0 = .ok (.iload_n 1, 1) := by decide +kernel
theorem d_HoldQueueModel_isHold_1 : decode c_HoldQueueModel_isHold 1 = .ok (.iconst 1, 1) := by decide +kernel
theorem d_HoldQueueModel_isHold_2 : decode c_HoldQueueModel_isHold 2 = .ok (.aload_n 0, 1) := by decide +kernel
theorem d_HoldQueueModel_isHold_3 : decode c_HoldQueueModel_isHold 3 = .ok (.getfield 74, 3) := by decide +kernel
theorem d_HoldQueueModel_isHold_6 : decode c_HoldQueueModel_isHold 6 = .ok (.invokestatic 64, 3) := by decide +kernel
theorem d_HoldQueueModel_isHold_9 : decode c_HoldQueueModel_isHold 9 = .ok (.ireturn, 1) := by decide +kernel
theorem d_HoldQueueModel_isWaiting_0 : decode c_HoldQueueModel_isWaiting 0 = .ok (.aload_n 0, 1) := by decide +kernel
theorem d_HoldQueueModel_isWaiting_1 : decode c_HoldQueueModel_isWaiting 1 = .ok (.iload_n 1, 1) := by decide +kernel
theorem d_HoldQueueModel_isWaiting_2 : decode c_HoldQueueModel_isWaiting 2 = .ok (.invokevirtual 102, 3) := by decide +kernel
theorem d_HoldQueueModel_isWaiting_5 : decode c_HoldQueueModel_isWaiting 5 = .ok (.ifCond .eq 16, 3) := by decide +kernel
theorem d_HoldQueueModel_isWaiting_8 : decode c_HoldQueueModel_isWaiting 8 = .ok (.aload_n 0, 1) := by decide +kernel
theorem d_HoldQueueModel_isWaiting_9 : decode c_HoldQueueModel_isWaiting 9 = .ok (.getfield 48, 3) := by decide +kernel
theorem d_HoldQueueModel_isWaiting_12 : decode c_HoldQueueModel_isWaiting 12 = .ok (.iload_n 1, 1) := by decide +kernel
theorem d_HoldQueueModel_isWaiting_13 : decode c_HoldQueueModel_isWaiting 13 = .ok (.iaload, 1) := by decide +kernel
theorem d_HoldQueueModel_isWaiting_14 : decode c_HoldQueueModel_isWaiting 14 = .ok (.ifCond .ne 7, 3) := by decide +kernel
theorem d_HoldQueueModel_isWaiting_17 : decode c_HoldQueueModel_isWaiting 17 = .ok (.iconst 1, 1) := by decide +kernel
theorem d_HoldQueueModel_isWaiting_18 : decode c_HoldQueueModel_isWaiting 18 = .ok (.goto 4, 3) := by decide +kernel
theorem d_HoldQueueModel_isWaiting_21 : decode c_HoldQueueModel_isWaiting 21 = .ok (.iconst 0, 1) := by decide +kernel
theorem d_HoldQueueModel_isWaiting_22 : decode c_HoldQueueModel_isWaiting 22 = .ok (.ireturn, 1) := by decide +kernel
theorem d_HoldQueueModel_suspend_0 : decode c_HoldQueueModel_suspend 0 = .ok (.aload_n 0, 1) := by decide +kernel
theorem d_HoldQueueModel_suspend_1 : decode c_HoldQueueModel_suspend 1 = .ok (.iconst 0, 1) := by decide +kernel
theorem d_HoldQueueModel_suspend_2 : decode c_HoldQueueModel_suspend 2 = .ok (.putfield 61, 3) := by decide +kernel
theorem d_HoldQueueModel_suspend_5 : decode c_HoldQueueModel_suspend 5 = .ok (.aload_n 0, 1) := by decide +kernel
theorem d_HoldQueueModel_suspend_6 : decode c_HoldQueueModel_suspend 6 = .ok (.iload_n 1, 1) := by decide +kernel
theorem d_HoldQueueModel_suspend_7 : decode c_HoldQueueModel_suspend 7 = .ok (.invokevirtual 105, 3) := by decide +kernel
theorem d_HoldQueueModel_suspend_10 : decode c_HoldQueueModel_suspend 10 = .ok (.ifCond .ne 5, 3) := by decide +kernel
theorem d_HoldQueueModel_suspend_13 : decode c_HoldQueueModel_suspend 13 = .ok (.iconst 0, 1) := by decide +kernel
theorem d_HoldQueueModel_suspend_14 : decode c_HoldQueueModel_suspend 14 = .ok (.ireturn, 1) := by decide +kernel
theorem d_HoldQueueModel_suspend_15 : decode c_HoldQueueModel_suspend 15 = .ok (.aload_n 0, 1) := by decide +kernel
theorem d_HoldQueueModel_suspend_16 : decode c_HoldQueueModel_suspend 16 = .ok (.getfield 54, 3) := by decide +kernel
theorem d_HoldQueueModel_suspend_19 : decode c_HoldQueueModel_suspend 19 = .ok (.iload_n 1, 1) := by decide +kernel
theorem d_HoldQueueModel_suspend_20 : decode c_HoldQueueModel_suspend 20 = .ok (.lload_n 2, 1) := by decide +kernel
theorem d_HoldQueueModel_suspend_21 : decode c_HoldQueueModel_suspend 21 = .ok (.lastore, 1) := by decide +kernel
theorem d_HoldQueueModel_suspend_22 : decode c_HoldQueueModel_suspend 22 = .ok (.iconst 1, 1) := by decide +kernel
theorem d_HoldQueueModel_suspend_23 : decode c_HoldQueueModel_suspend 23 = .ok (.ireturn, 1) := by decide +kernel
theorem d_HoldQueueModel_isCopy_0 : decode c_HoldQueueModel_isCopy 0 = .ok (.iload_n 1, 1) := by decide +kernel
theorem d_HoldQueueModel_isCopy_1 : decode c_HoldQueueModel_isCopy 1 = .ok (.iconst 1, 1) := by decide +kernel
theorem d_HoldQueueModel_isCopy_2 : decode c_HoldQueueModel_isCopy 2 = .ok (.aload_n 0, 1) := by decide +kernel
theorem d_HoldQueueModel_isCopy_3 : decode c_HoldQueueModel_isCopy 3 = .ok (.getfield 71, 3) := by decide +kernel
theorem d_HoldQueueModel_isCopy_6 : decode c_HoldQueueModel_isCopy 6 = .ok (.invokestatic 64, 3) := by decide +kernel
theorem d_HoldQueueModel_isCopy_9 : decode c_HoldQueueModel_isCopy 9 = .ok (.ifCond .eq 17, 3) := by decide +kernel
theorem d_HoldQueueModel_isCopy_12 : decode c_HoldQueueModel_isCopy 12 = .ok (.aload_n 0, 1) := by decide +kernel
theorem d_HoldQueueModel_isCopy_13 : decode c_HoldQueueModel_isCopy 13 = .ok (.getfield 27, 3) := by decide +kernel
theorem d_HoldQueueModel_isCopy_16 : decode c_HoldQueueModel_isCopy 16 = .ok (.iload_n 1, 1) := by decide +kernel
theorem d_HoldQueueModel_isCopy_17 : decode c_HoldQueueModel_isCopy 17 = .ok (.iaload, 1) := by decide +kernel
theorem d_HoldQueueModel_isCopy_18 : decode c_HoldQueueModel_isCopy 18 = .ok (.iload_n 2, 1) := by decide +kernel
theorem d_HoldQueueModel_isCopy_19 : decode c_HoldQueueModel_isCopy 19 = .ok (.if_icmp .ne 7, 3) := by decide +kernel
theorem d_HoldQueueModel_isCopy_22 : decode c_HoldQueueModel_isCopy 22 = .ok (.iconst 1, 1) := by decide +kernel
theorem d_HoldQueueModel_isCopy_23 : decode c_HoldQueueModel_isCopy 23 = .ok (.goto 4, 3) := by decide +kernel
theorem d_HoldQueueModel_isCopy_26 : decode c_HoldQueueModel_isCopy 26 = .ok (.iconst 0, 1) := by decide +kernel
theorem d_HoldQueueModel_isCopy_27 : decode c_HoldQueueModel_isCopy 27 = .ok (.ireturn, 1) := by decide +kernel
theorem d_HoldQueueModel_back_0 : decode c_HoldQueueModel_back 0 = .ok (.aload_n 0, 1) := by decide +kernel
theorem d_HoldQueueModel_back_1 : decode c_HoldQueueModel_back 1 = .ok (.iconst 0, 1) := by decide +kernel
theorem d_HoldQueueModel_back_2 : decode c_HoldQueueModel_back 2 = .ok (.putfield 61, 3) := by decide +kernel
theorem d_HoldQueueModel_back_5 : decode c_HoldQueueModel_back 5 = .ok (.aload_n 0, 1) := by decide +kernel
theorem d_HoldQueueModel_back_6 : decode c_HoldQueueModel_back 6 = .ok (.iload_n 1, 1) := by decide +kernel
theorem d_HoldQueueModel_back_7 : decode c_HoldQueueModel_back 7 = .ok (.iconst 1, 1) := by decide +kernel
end
section
theorem d_HoldQueueModel_back_8 : decode c_HoldQueueModel_back 8 = .ok (.invokevirtual 108, 3) := by decide +kernel
theorem d_HoldQueueModel_back_11 : decode c_HoldQueueModel_back 11 = .ok (.ifCond .eq 12, 3) := by decide +kernel
theorem d_HoldQueueModel_back_14 : decode c_HoldQueueModel_back 14 = .ok (.iload_n 2, 1) := by decide +kernel
theorem d_HoldQueueModel_back_15 : decode c_HoldQueueModel_back 15 = .ok (.iconst 0, 1) := by decide +kernel
theorem d_HoldQueueModel_back_16 : decode c_HoldQueueModel_back 16 = .ok (.iconst 5, 1) := by decide +kernel
theorem d_HoldQueueModel_back_17 : decode c_HoldQueueModel_back 17 = .ok (.invokestatic 64, 3) := by decide +kernel
theorem d_HoldQueueModel_back_20 : decode c_HoldQueueModel_back 20 = .ok (.ifCond .ne 5, 3) := by decide +kernel
theorem d_HoldQueueModel_back_23 : decode c_HoldQueueModel_back 23 = .ok (.iconst (-1), 1) := by decide +kernel
theorem d_HoldQueueModel_back_24 : decode c_HoldQueueModel_back 24 = .ok (.ireturn, 1) := by decide +kernel
theorem d_HoldQueueModel_back_25 : decode c_HoldQueueModel_back 25 = .ok (.aload_n 0, 1) := by decide +kernel
theorem d_HoldQueueModel_back_26 : decode c_HoldQueueModel_back 26 = .ok (.getfield 30, 3) := by decide +kernel
theorem d_HoldQueueModel_back_29 : decode c_HoldQueueModel_back 29 = .ok (.iload_n 1, 1) := by decide +kernel
theorem d_HoldQueueModel_back_30 : decode c_HoldQueueModel_back 30 = .ok (.iload_n 2, 1) := by decide +kernel
theorem d_HoldQueueModel_back_31 : decode c_HoldQueueModel_back 31 = .ok (.iastore, 1) := by decide +kernel
theorem d_HoldQueueModel_back_32 : decode c_HoldQueueModel_back 32 = .ok (.aload_n 0, 1) := by decide +kernel
theorem d_HoldQueueModel_back_33 : decode c_HoldQueueModel_back 33 = .ok (.iload_n 1, 1) := by decide +kernel
theorem d_HoldQueueModel_back_34 : decode c_HoldQueueModel_back 34 = .ok (.invokevirtual 99, 3) := by decide +kernel
theorem d_HoldQueueModel_back_37 : decode c_HoldQueueModel_back 37 = .ok (.ireturn, 1) := by decide +kernel
theorem d_HoldQueueModel_arrive_0 : decode c_HoldQueueModel_arrive 0 = .ok (.aload_n 0, 1) := by decide +kernel
theorem d_HoldQueueModel_arrive_1 : decode c_HoldQueueModel_arrive 1 = .ok (.iconst 0, 1) := by decide +kernel
theorem d_HoldQueueModel_arrive_2 : decode c_HoldQueueModel_arrive 2 = .ok (.putfield 61, 3) := by decide +kernel
theorem d_HoldQueueModel_arrive_5 : decode c_HoldQueueModel_arrive 5 = .ok (.aload_n 0, 1) := by decide +kernel
theorem d_HoldQueueModel_arrive_6 : decode c_HoldQueueModel_arrive 6 = .ok (.iload_n 1, 1) := by decide +kernel
theorem d_HoldQueueModel_arrive_7 : decode c_HoldQueueModel_arrive 7 = .ok (.iconst 2, 1) := by decide +kernel
theorem d_HoldQueueModel_arrive_8 : decode c_HoldQueueModel_arrive 8 = .ok (.invokevirtual 108, 3) := by decide +kernel
theorem d_HoldQueueModel_arrive_11 : decode c_HoldQueueModel_arrive 11 = .ok (.ifCond .ne 5, 3) := by decide +kernel
theorem d_HoldQueueModel_arrive_14 : decode c_HoldQueueModel_arrive 14 = .ok (.iconst (-1), 1) := by decide +kernel
theorem d_HoldQueueModel_arrive_15 : decode c_HoldQueueModel_arrive 15 = .ok (.ireturn, 1) := by decide +kernel
theorem d_HoldQueueModel_arrive_16 : decode c_HoldQueueModel_arrive 16 = .ok (.aload_n 0, 1) := by decide +kernel
theorem d_HoldQueueModel_arrive_17 : decode c_HoldQueueModel_arrive 17 = .ok (.getfield 33, 3) := by decide +kernel
theorem d_HoldQueueModel_arrive_20 : decode c_HoldQueueModel_arrive 20 = .ok (.iload_n 1, 1) := by decide +kernel
theorem d_HoldQueueModel_arrive_21 : decode c_HoldQueueModel_arrive 21 = .ok (.iaload, 1) := by decide +kernel
theorem d_HoldQueueModel_arrive_22 : decode c_HoldQueueModel_arrive 22 = .ok (.istore_n 2, 1) := by decide +kernel
theorem d_HoldQueueModel_arrive_23 : decode c_HoldQueueModel_arrive 23 = .ok (.iload_n 2, 1) := by decide +kernel
theorem d_HoldQueueModel_arrive_24 : decode c_HoldQueueModel_arrive 24 = .ok (.ifCond .le 11, 3) := by decide +kernel
theorem d_HoldQueueModel_arrive_27 : decode c_HoldQueueModel_arrive 27 = .ok (.aload_n 0, 1) := by decide +kernel
theorem d_HoldQueueModel_arrive_28 : decode c_HoldQueueModel_arrive 28 = .ok (.iload_n 1, 1) := by decide +kernel
theorem d_HoldQueueModel_arrive_29 : decode c_HoldQueueModel_arrive 29 = .ok (.iload_n 2, 1) := by decide +kernel
theorem d_HoldQueueModel_arrive_30 : decode c_HoldQueueModel_arrive 30 = .ok (.invokevirtual 89, 3) := by decide +kernel
theorem d_HoldQueueModel_arrive_33 : decode c_HoldQueueModel_arrive 33 = .ok (.iconst 1, 1) := by decide +kernel
theorem d_HoldQueueModel_arrive_34 : decode c_HoldQueueModel_arrive 34 = .ok (.ireturn, 1) := by decide +kernel
theorem d_HoldQueueModel_arrive_35 : decode c_HoldQueueModel_arrive 35 = .ok (.aload_n 0, 1) := by decide +kernel
theorem d_HoldQueueModel_arrive_36 : decode c_HoldQueueModel_arrive 36 = .ok (.iload_n 1, 1) := by decide +kernel
theorem d_HoldQueueModel_arrive_37 : decode c_HoldQueueModel_arrive 37 = .ok (.invokevirtual 99, 3) := by decide +kernel
theorem d_HoldQueueModel_arrive_40 : decode c_HoldQueueModel_arrive 40 = .ok (.pop, 1) := by decide +kernel
theorem d_HoldQueueModel_arrive_41 : decode c_HoldQueueModel_arrive 41 = .ok (.iconst 0, 1) := by decide +kernel
theorem d_HoldQueueModel_arrive_42 : decode c_HoldQueueModel_arrive 42 = .ok (.ireturn, 1) := by decide +kernel
theorem d_HoldQueueModel_pick_0 : decode c_HoldQueueModel_pick 0 = .ok (.aload_n 0, 1) := by decide +kernel
theorem d_HoldQueueModel_pick_1 : decode c_HoldQueueModel_pick 1 = .ok (.iconst 0, 1) := by decide +kernel
theorem d_HoldQueueModel_pick_2 : decode c_HoldQueueModel_pick 2 = .ok (.putfield 61, 3) := by decide +kernel
theorem d_HoldQueueModel_pick_5 : decode c_HoldQueueModel_pick 5 = .ok (.aload_n 0, 1) := by decide +kernel
theorem d_HoldQueueModel_pick_6 : decode c_HoldQueueModel_pick 6 = .ok (.iload_n 1, 1) := by decide +kernel
theorem d_HoldQueueModel_pick_7 : decode c_HoldQueueModel_pick 7 = .ok (.invokevirtual 102, 3) := by decide +kernel
theorem d_HoldQueueModel_pick_10 : decode c_HoldQueueModel_pick 10 = .ok (.ifCond .eq 13, 3) := by decide +kernel
theorem d_HoldQueueModel_pick_13 : decode c_HoldQueueModel_pick 13 = .ok (.aload_n 0, 1) := by decide +kernel
theorem d_HoldQueueModel_pick_14 : decode c_HoldQueueModel_pick 14 = .ok (.getfield 48, 3) := by decide +kernel
theorem d_HoldQueueModel_pick_17 : decode c_HoldQueueModel_pick 17 = .ok (.iload_n 1, 1) := by decide +kernel
theorem d_HoldQueueModel_pick_18 : decode c_HoldQueueModel_pick 18 = .ok (.iaload, 1) := by decide +kernel
theorem d_HoldQueueModel_pick_19 : decode c_HoldQueueModel_pick 19 = .ok (.iconst 2, 1) := by decide +kernel
theorem d_HoldQueueModel_pick_20 : decode c_HoldQueueModel_pick 20 = .ok (.if_icmp .eq 5, 3) := by decide +kernel
theorem d_HoldQueueModel_pick_23 : decode c_HoldQueueModel_pick 23 = .ok (.iconst 0, 1) := by decide +kernel
theorem d_HoldQueueModel_pick_24 : decode c_HoldQueueModel_pick 24 = .ok (.ireturn, 1) := by decide +kernel
theorem d_HoldQueueModel_pick_25 : decode c_HoldQueueModel_pick 25 = .ok (.aload_n 0, 1) := by decide +kernel
theorem d_HoldQueueModel_pick_26 : decode c_HoldQueueModel_pick 26 = .ok (.getfield 51, 3) := by decide +kernel
theorem d_HoldQueueModel_pick_29 : decode c_HoldQueueModel_pick 29 = .ok (.iload_n 1, 1) := by decide +kernel
theorem d_HoldQueueModel_pick_30 : decode c_HoldQueueModel_pick 30 = .ok (.iaload, 1) := by decide +kernel
theorem d_HoldQueueModel_pick_31 : decode c_HoldQueueModel_pick 31 = .ok (.istore_n 2, 1) := by decide +kernel
theorem d_HoldQueueModel_pick_32 : decode c_HoldQueueModel_pick 32 = .ok (.aload_n 0, 1) := by decide +kernel
theorem d_HoldQueueModel_pick_33 : decode c_HoldQueueModel_pick 33 = .ok (.getfield 48, 3) := by decide +kernel
theorem d_HoldQueueModel_pick_36 : decode c_HoldQueueModel_pick 36 = .ok (.iload_n 1, 1) := by decide +kernel
theorem d_HoldQueueModel_pick_37 : decode c_HoldQueueModel_pick 37 = .ok (.iconst 3, 1) := by decide +kernel
theorem d_HoldQueueModel_pick_38 : decode c_HoldQueueModel_pick 38 = .ok (.iastore, 1) := by decide +kernel
theorem d_HoldQueueModel_pick_39 : decode c_HoldQueueModel_pick 39 = .ok (.aload_n 0, 1) := by decide +kernel
theorem d_HoldQueueModel_pick_40 : decode c_HoldQueueModel_pick 40 = .ok (.getfield 51, 3) := by decide +kernel
theorem d_HoldQueueModel_pick_43 : decode c_HoldQueueModel_pick 43 = .ok (.iload_n 1, 1) := by decide +kernel
theorem d_HoldQueueModel_pick_44 : decode c_HoldQueueModel_pick 44 = .ok (.iconst 0, 1) := by decide +kernel
theorem d_HoldQueueModel_pick_45 : decode c_HoldQueueModel_pick 45 = .ok (.iastore, 1) := by decide +kernel
theorem d_HoldQueueModel_pick_46 : decode c_HoldQueueModel_pick 46 = .ok (.aload_n 0, 1) := by decide +kernel
theorem d_HoldQueueModel_pick_47 : decode c_HoldQueueModel_pick 47 = .ok (.getfield 27, 3) := by decide +kernel
theorem d_HoldQueueModel_pick_50 : decode c_HoldQueueModel_pick 50 = .ok (.iload_n 2, 1) := by decide +kernel
theorem d_HoldQueueModel_pick_51 : decode c_HoldQueueModel_pick 51 = .ok (.iconst 1, 1) := by decide +kernel
theorem d_HoldQueueModel_pick_52 : decode c_HoldQueueModel_pick 52 = .ok (.iastore, 1) := by decide +kernel
theorem d_HoldQueueModel_pick_53 : decode c_HoldQueueModel_pick 53 = .ok (.aload_n 0, 1) := by decide +kernel
theorem d_HoldQueueModel_pick_54 : decode c_HoldQueueModel_pick 54 = .ok (.getfield 33, 3) := by decide +kernel
theorem d_HoldQueueModel_pick_57 : decode c_HoldQueueModel_pick 57 = .ok (.iload_n 2, 1) := by decide +kernel
theorem d_HoldQueueModel_pick_58 : decode c_HoldQueueModel_pick 58 = .ok (.iconst 0, 1) := by decide +kernel
theorem d_HoldQueueModel_pick_59 : decode c_HoldQueueModel_pick 59 = .ok (.iastore, 1) := by decide +kernel
theorem d_HoldQueueModel_pick_60 : decode c_HoldQueueModel_pick 60 = .ok (.iload_n 2, 1) := by decide +kernel
theorem d_HoldQueueModel_pick_61 : decode c_HoldQueueModel_pick 61 = .ok (.ireturn, 1) := by decide +kernel
theorem d_HoldQueueModel_lend_0 : decode c_HoldQueueModel_lend 0 = .ok (.aload_n 0, 1) := by decide +kernel
theorem d_HoldQueueModel_lend_1 : decode c_HoldQueueModel_lend 1 = .ok (.iconst 0, 1) := by decide +kernel
theorem d_HoldQueueModel_lend_2 : decode c_HoldQueueModel_lend 2 = .ok (.putfield 61, 3) := by decide +kernel
theorem d_HoldQueueModel_lend_5 : decode c_HoldQueueModel_lend 5 = .ok (.aload_n 0, 1) := by decide +kernel
theorem d_HoldQueueModel_lend_6 : decode c_HoldQueueModel_lend 6 = .ok (.iload_n 1, 1) := by decide +kernel
theorem d_HoldQueueModel_lend_7 : decode c_HoldQueueModel_lend 7 = .ok (.iconst 0, 1) := by decide +kernel
theorem d_HoldQueueModel_lend_8 : decode c_HoldQueueModel_lend 8 = .ok (.invokevirtual 108, 3) := by decide +kernel
theorem d_HoldQueueModel_lend_11 : decode c_HoldQueueModel_lend 11 = .ok (.ifCond .ne 5, 3) := by decide +kernel
theorem d_HoldQueueModel_lend_14 : decode c_HoldQueueModel_lend 14 = .ok (.iconst 0, 1) := by decide +kernel
theorem d_HoldQueueModel_lend_15 : decode c_HoldQueueModel_lend 15 = .ok (.ireturn, 1) := by decide +kernel
theorem d_HoldQueueModel_lend_16 : decode c_HoldQueueModel_lend 16 = .ok (.aload_n 0, 1) := by decide +kernel
theorem d_HoldQueueModel_lend_17 : decode c_HoldQueueModel_lend 17 = .ok (.getfield 27, 3) := by decide +kernel
theorem d_HoldQueueModel_lend_20 : decode c_HoldQueueModel_lend 20 = .ok (.iload_n 1, 1) := by decide +kernel
theorem d_HoldQueueModel_lend_21 : decode c_HoldQueueModel_lend 21 = .ok (.iconst 1, 1) := by decide +kernel
theorem d_HoldQueueModel_lend_22 : decode c_HoldQueueModel_lend 22 = .ok (.iastore, 1) := by decide +kernel
theorem d_HoldQueueModel_lend_23 : decode c_HoldQueueModel_lend 23 = .ok (.iconst 1, 1) := by decide +kernel
theorem d_HoldQueueModel_lend_24 : decode c_HoldQueueModel_lend 24 = .ok (.ireturn, 1) := by decide +kernel
theorem d_HoldQueueModel_ends_0 : decode c_HoldQueueModel_ends 0 = .ok (.aload_n 0, 1) := by decide +kernel
theorem d_HoldQueueModel_ends_1 : decode c_HoldQueueModel_ends 1 = .ok (.getfield 51, 3) := by decide +kernel
theorem d_HoldQueueModel_ends_4 : decode c_HoldQueueModel_ends 4 = .ok (.iload_n 1, 1) := by decide +kernel
theorem d_HoldQueueModel_ends_5 : decode c_HoldQueueModel_ends 5 = .ok (.iaload, 1) := by decide +kernel
theorem d_HoldQueueModel_ends_6 : decode c_HoldQueueModel_ends 6 = .ok (.istore_n 3, 1) := by decide +kernel
theorem d_HoldQueueModel_ends_7 : decode c_HoldQueueModel_ends 7 = .ok (.aload_n 0, 1) := by decide +kernel
theorem d_HoldQueueModel_ends_8 : decode c_HoldQueueModel_ends 8 = .ok (.getfield 48, 3) := by decide +kernel
theorem d_HoldQueueModel_ends_11 : decode c_HoldQueueModel_ends 11 = .ok (.iload_n 1, 1) := by decide +kernel
theorem d_HoldQueueModel_ends_12 : decode c_HoldQueueModel_ends 12 = .ok (.iaload, 1) := by decide +kernel
theorem d_HoldQueueModel_ends_13 : decode c_HoldQueueModel_ends 13 = .ok (.iconst 2, 1) := by decide +kernel
theorem d_HoldQueueModel_ends_14 : decode c_HoldQueueModel_ends 14 = .ok (.if_icmp .ne 7, 3) := by decide +kernel
theorem d_HoldQueueModel_ends_17 : decode c_HoldQueueModel_ends 17 = .ok (.iconst 1, 1) := by decide +kernel
theorem d_HoldQueueModel_ends_18 : decode c_HoldQueueModel_ends 18 = .ok (.goto 4, 3) := by decide +kernel
theorem d_HoldQueueModel_ends_21 : decode c_HoldQueueModel_ends 21 = .ok (.iconst 0, 1) := by decide +kernel
theorem d_HoldQueueModel_ends_22 : decode c_HoldQueueModel_ends 22 = .ok (.istore 4, 2) := by decide +kernel
theorem d_HoldQueueModel_ends_24 : decode c_HoldQueueModel_ends 24 = .ok (.aload_n 0, 1) := by decide +kernel
theorem d_HoldQueueModel_ends_25 : decode c_HoldQueueModel_ends 25 = .ok (.getfield 48, 3) := by decide +kernel
theorem d_HoldQueueModel_ends_28 : decode c_HoldQueueModel_ends 28 = .ok (.iload_n 1, 1) := by decide +kernel
theorem d_HoldQueueModel_ends_29 : decode c_HoldQueueModel_ends 29 = .ok (.iload_n 2, 1) := by decide +kernel
theorem d_HoldQueueModel_ends_30 : decode c_HoldQueueModel_ends 30 = .ok (.iastore, 1) := by decide +kernel
theorem d_HoldQueueModel_ends_31 : decode c_HoldQueueModel_ends 31 = .ok (.aload_n 0, 1) := by decide +kernel
theorem d_HoldQueueModel_ends_32 : decode c_HoldQueueModel_ends 32 = .ok (.getfield 51, 3) := by decide +kernel
theorem d_HoldQueueModel_ends_35 : decode c_HoldQueueModel_ends 35 = .ok (.iload_n 1, 1) := by decide +kernel
theorem d_HoldQueueModel_ends_36 : decode c_HoldQueueModel_ends 36 = .ok (.iconst 0, 1) := by decide +kernel
theorem d_HoldQueueModel_ends_37 : decode c_HoldQueueModel_ends 37 = .ok (.iastore, 1) := by decide +kernel
theorem d_HoldQueueModel_ends_38 : decode c_HoldQueueModel_ends 38 = .ok (.iload_n 3, 1) := by decide +kernel
theorem d_HoldQueueModel_ends_39 : decode c_HoldQueueModel_ends 39 = .ok (.ifCond .le 10, 3) := by decide +kernel
theorem d_HoldQueueModel_ends_42 : decode c_HoldQueueModel_ends 42 = .ok (.aload_n 0, 1) := by decide +kernel
theorem d_HoldQueueModel_ends_43 : decode c_HoldQueueModel_ends 43 = .ok (.getfield 33, 3) := by decide +kernel
theorem d_HoldQueueModel_ends_46 : decode c_HoldQueueModel_ends 46 = .ok (.iload_n 3, 1) := by decide +kernel
theorem d_HoldQueueModel_ends_47 : decode c_HoldQueueModel_ends 47 = .ok (.iconst 0, 1) := by decide +kernel
theorem d_HoldQueueModel_ends_48 : decode c_HoldQueueModel_ends 48 = .ok (.iastore, 1) := by decide +kernel
theorem d_HoldQueueModel_ends_49 : decode c_HoldQueueModel_ends 49 = .ok (.iload 4, 2) := by decide +kernel
theorem d_HoldQueueModel_ends_51 : decode c_HoldQueueModel_ends 51 = .ok (.ifCond .eq 9, 3) := by decide +kernel
theorem d_HoldQueueModel_ends_54 : decode c_HoldQueueModel_ends 54 = .ok (.aload_n 0, 1) := by decide +kernel
theorem d_HoldQueueModel_ends_55 : decode c_HoldQueueModel_ends 55 = .ok (.iload_n 3, 1) := by decide +kernel
theorem d_HoldQueueModel_ends_56 : decode c_HoldQueueModel_ends 56 = .ok (.invokevirtual 99, 3) := by decide +kernel
theorem d_HoldQueueModel_ends_59 : decode c_HoldQueueModel_ends 59 = .ok (.pop, 1) := by decide +kernel
theorem d_HoldQueueModel_ends_60 : decode c_HoldQueueModel_ends 60 = .ok (.return_, 1) := by decide +kernel
theorem d_HoldQueueModel_cancel_0 : decode c_HoldQueueModel_cancel 0 = .ok (.aload_n 0, 1) := by decide +kernel
theorem d_HoldQueueModel_cancel_1 : decode c_HoldQueueModel_cancel 1 = .ok (.iconst 0, 1) := by decide +kernel
theorem d_HoldQueueModel_cancel_2 : decode c_HoldQueueModel_cancel 2 = .ok (.putfield 61, 3) := by decide +kernel
theorem d_HoldQueueModel_cancel_5 : decode c_HoldQueueModel_cancel 5 = .ok (.aload_n 0, 1) := by decide +kernel
theorem d_HoldQueueModel_cancel_6 : decode c_HoldQueueModel_cancel 6 = .ok (.iload_n 1, 1) := by decide +kernel
theorem d_HoldQueueModel_cancel_7 : decode c_HoldQueueModel_cancel 7 = .ok (.invokevirtual 102, 3) := by decide +kernel
theorem d_HoldQueueModel_cancel_10 : decode c_HoldQueueModel_cancel 10 = .ok (.ifCond .eq 11, 3) := by decide +kernel
theorem d_HoldQueueModel_cancel_13 : decode c_HoldQueueModel_cancel 13 = .ok (.aload_n 0, 1) := by decide +kernel
theorem d_HoldQueueModel_cancel_14 : decode c_HoldQueueModel_cancel 14 = .ok (.iload_n 1, 1) := by decide +kernel
theorem d_HoldQueueModel_cancel_15 : decode c_HoldQueueModel_cancel 15 = .ok (.invokevirtual 93, 3) := by decide +kernel
theorem d_HoldQueueModel_cancel_18 : decode c_HoldQueueModel_cancel 18 = .ok (.ifCond .ne 5, 3) := by decide +kernel
theorem d_HoldQueueModel_cancel_21 : decode c_HoldQueueModel_cancel 21 = .ok (.iconst 0, 1) := by decide +kernel
theorem d_HoldQueueModel_cancel_22 : decode c_HoldQueueModel_cancel 22 = .ok (.ireturn, 1) := by decide +kernel
theorem d_HoldQueueModel_cancel_23 : decode c_HoldQueueModel_cancel 23 = .ok (.aload_n 0, 1) := by decide +kernel
theorem d_HoldQueueModel_cancel_24 : decode c_HoldQueueModel_cancel 24 = .ok (.iload_n 1, 1) := by decide +kernel
theorem d_HoldQueueModel_cancel_25 : decode c_HoldQueueModel_cancel 25 = .ok (.iconst 5, 1) := by decide +kernel
theorem d_HoldQueueModel_cancel_26 : decode c_HoldQueueModel_cancel 26 = .ok (.invokevirtual 111, 3) := by decide +kernel
theorem d_HoldQueueModel_cancel_29 : decode c_HoldQueueModel_cancel 29 = .ok (.iconst 1, 1) := by decide +kernel
theorem d_HoldQueueModel_cancel_30 : decode c_HoldQueueModel_cancel 30 = .ok (.ireturn, 1) := by decide +kernel
theorem d_HoldQueueModel_tick_0 : decode c_HoldQueueModel_tick 0 = .ok (.aload_n 0, 1) := by decide +kernel
theorem d_HoldQueueModel_tick_1 : decode c_HoldQueueModel_tick 1 = .ok (.iconst 0, 1) := by decide +kernel
theorem d_HoldQueueModel_tick_2 : decode c_HoldQueueModel_tick 2 = .ok (.putfield 61, 3) := by decide +kernel
theorem d_HoldQueueModel_tick_5 : decode c_HoldQueueModel_tick 5 = .ok (.lload_n 1, 1) := by decide +kernel
theorem d_HoldQueueModel_tick_6 : decode c_HoldQueueModel_tick 6 = .ok (.aload_n 0, 1) := by decide +kernel
theorem d_HoldQueueModel_tick_7 : decode c_HoldQueueModel_tick 7 = .ok (.getfield 81, 3) := by decide +kernel
theorem d_HoldQueueModel_tick_10 : decode c_HoldQueueModel_tick 10 = .ok (.lcmp, 1) := by decide +kernel
theorem d_HoldQueueModel_tick_11 : decode c_HoldQueueModel_tick 11 = .ok (.ifCond .le 11, 3) := by decide +kernel
theorem d_HoldQueueModel_tick_14 : decode c_HoldQueueModel_tick 14 = .ok (.lload_n 1, 1) := by decide +kernel
theorem d_HoldQueueModel_tick_15 : decode c_HoldQueueModel_tick 15 = .ok (.ldc2_w 114, 3) := by decide +kernel
theorem d_HoldQueueModel_tick_18 : decode c_HoldQueueModel_tick 18 = .ok (.lcmp, 1) := by decide +kernel
theorem d_HoldQueueModel_tick_19 : decode c_HoldQueueModel_tick 19 = .ok (.ifCond .le 5, 3) := by decide +kernel
theorem d_HoldQueueModel_tick_22 : decode c_HoldQueueModel_tick 22 = .ok (.iconst (-1), 1) := by decide +kernel
theorem d_HoldQueueModel_tick_23 : decode c_HoldQueueModel_tick 23 = .ok (.ireturn, 1) := by decide +kernel
theorem d_HoldQueueModel_tick_24 : decode c_HoldQueueModel_tick 24 = .ok (.aload_n 0, 1) := by decide +kernel
theorem d_HoldQueueModel_tick_25 : decode c_HoldQueueModel_tick 25 = .ok (.lload_n 1, 1) := by decide +kernel
theorem d_HoldQueueModel_tick_26 : decode c_HoldQueueModel_tick 26 = .ok (.putfield 81, 3) := by decide +kernel
theorem d_HoldQueueModel_tick_29 : decode c_HoldQueueModel_tick 29 = .ok (.iconst 0, 1) := by decide +kernel
theorem d_HoldQueueModel_tick_30 : decode c_HoldQueueModel_tick 30 = .ok (.istore_n 3, 1) := by decide +kernel
theorem d_HoldQueueModel_tick_31 : decode c_HoldQueueModel_tick 31 = .ok (.iconst 1, 1) := by decide +kernel
theorem d_HoldQueueModel_tick_32 : decode c_HoldQueueModel_tick 32 = .ok (.istore 4, 2) := by decide +kernel
theorem d_HoldQueueModel_tick_34 : decode c_HoldQueueModel_tick 34 = .ok (.iload 4, 2) := by decide +kernel
theorem d_HoldQueueModel_tick_36 : decode c_HoldQueueModel_tick 36 = .ok (.aload_n 0, 1) := by decide +kernel
theorem d_HoldQueueModel_tick_37 : decode c_HoldQueueModel_tick 37 = .ok (.getfield 74, 3) := by decide +kernel
theorem d_HoldQueueModel_tick_40 : decode c_HoldQueueModel_tick 40 = .ok (.if_icmp .gt 45, 3) := by decide +kernel
theorem d_HoldQueueModel_tick_43 : decode c_HoldQueueModel_tick 43 = .ok (.aload_n 0, 1) := by decide +kernel
theorem d_HoldQueueModel_tick_44 : decode c_HoldQueueModel_tick 44 = .ok (.getfield 48, 3) := by decide +kernel
theorem d_HoldQueueModel_tick_47 : decode c_HoldQueueModel_tick 47 = .ok (.iload 4, 2) := by decide +kernel
theorem d_HoldQueueModel_tick_49 : decode c_HoldQueueModel_tick 49 = .ok (.iaload, 1) := by decide +kernel
theorem d_HoldQueueModel_tick_50 : decode c_HoldQueueModel_tick 50 = .ok (.iconst 2, 1) := by decide +kernel
theorem d_HoldQueueModel_tick_51 : decode c_HoldQueueModel_tick 51 = .ok (.if_icmp .ne 28, 3) := by decide +kernel
theorem d_HoldQueueModel_tick_54 : decode c_HoldQueueModel_tick 54 = .ok (.aload_n 0, 1) := by decide +kernel
theorem d_HoldQueueModel_tick_55 : decode c_HoldQueueModel_tick 55 = .ok (.getfield 58, 3) := by decide +kernel
theorem d_HoldQueueModel_tick_58 : decode c_HoldQueueModel_tick 58 = .ok (.iload 4, 2) := by decide +kernel
theorem d_HoldQueueModel_tick_60 : decode c_HoldQueueModel_tick 60 = .ok (.laload, 1) := by decide +kernel
theorem d_HoldQueueModel_tick_61 : decode c_HoldQueueModel_tick 61 = .ok (.aload_n 0, 1) := by decide +kernel
theorem d_HoldQueueModel_tick_62 : decode c_HoldQueueModel_tick 62 = .ok (.getfield 81, 3) := by decide +kernel
theorem d_HoldQueueModel_tick_65 : decode c_HoldQueueModel_tick 65 = .ok (.lcmp, 1) := by decide +kernel
theorem d_HoldQueueModel_tick_66 : decode c_HoldQueueModel_tick 66 = .ok (.ifCond .ge 13, 3) := by decide +kernel
theorem d_HoldQueueModel_tick_69 : decode c_HoldQueueModel_tick 69 = .ok (.aload_n 0, 1) := by decide +kernel
theorem d_HoldQueueModel_tick_70 : decode c_HoldQueueModel_tick 70 = .ok (.iload 4, 2) := by decide +kernel
theorem d_HoldQueueModel_tick_72 : decode c_HoldQueueModel_tick 72 = .ok (.iconst 4, 1) := by decide +kernel
theorem d_HoldQueueModel_tick_73 : decode c_HoldQueueModel_tick 73 = .ok (.invokevirtual 111, 3) := by decide +kernel
theorem d_HoldQueueModel_tick_76 : decode c_HoldQueueModel_tick 76 = .ok (.iinc 3 1, 3) := by decide +kernel
theorem d_HoldQueueModel_tick_79 : decode c_HoldQueueModel_tick 79 = .ok (.iinc 4 1, 3) := by decide +kernel
theorem d_HoldQueueModel_tick_82 : decode c_HoldQueueModel_tick 82 = .ok (.goto (-48), 3) := by decide +kernel
theorem d_HoldQueueModel_tick_85 : decode c_HoldQueueModel_tick 85 = .ok (.iload_n 3, 1) := by decide +kernel
theorem d_HoldQueueModel_tick_86 : decode c_HoldQueueModel_tick 86 = .ok (.ireturn, 1) := by decide +kernel
theorem d_HoldQueueModel_span_0 : decode c_HoldQueueModel_span 0 = .ok (.aload_n 0, 1) := by decide +kernel
theorem d_HoldQueueModel_span_1 : decode c_HoldQueueModel_span 1 = .ok (.iconst 0, 1) := by decide +kernel
theorem d_HoldQueueModel_span_2 : decode c_HoldQueueModel_span 2 = .ok (.putfield 61, 3) := by decide +kernel
theorem d_HoldQueueModel_span_5 : decode c_HoldQueueModel_span 5 = .ok (.iload_n 1, 1) := by decide +kernel
theorem d_HoldQueueModel_span_6 : decode c_HoldQueueModel_span 6 = .ok (.iconst 1, 1) := by decide +kernel
theorem d_HoldQueueModel_span_7 : decode c_HoldQueueModel_span 7 = .ok (.bipush 99, 2) := by decide +kernel
theorem d_HoldQueueModel_span_9 : decode c_HoldQueueModel_span 9 = .ok (.invokestatic 64, 3) := by decide +kernel
theorem d_HoldQueueModel_span_12 : decode c_HoldQueueModel_span 12 = .ok (.ifCond .ne 5, 3) := by decide +kernel
theorem d_HoldQueueModel_span_15 : decode c_HoldQueueModel_span 15 = .ok (.iconst (-1), 1) := by decide +kernel
theorem d_HoldQueueModel_span_16 : decode c_HoldQueueModel_span 16 = .ok (.ireturn, 1) := by decide +kernel
theorem d_HoldQueueModel_span_17 : decode c_HoldQueueModel_span 17 = .ok (.aload_n 0, 1) := by decide +kernel
theorem d_HoldQueueModel_span_18 : decode c_HoldQueueModel_span 18 = .ok (.getfield 20, 3) := by decide +kernel
theorem d_HoldQueueModel_span_21 : decode c_HoldQueueModel_span 21 = .ok (.istore_n 2, 1) := by decide +kernel
theorem d_HoldQueueModel_span_22 : decode c_HoldQueueModel_span 22 = .ok (.aload_n 0, 1) := by decide +kernel
theorem d_HoldQueueModel_span_23 : decode c_HoldQueueModel_span 23 = .ok (.iload_n 1, 1) := by decide +kernel
theorem d_HoldQueueModel_span_24 : decode c_HoldQueueModel_span 24 = .ok (.putfield 20, 3) := by decide +kernel
theorem d_HoldQueueModel_span_27 : decode c_HoldQueueModel_span 27 = .ok (.iload_n 2, 1) := by decide +kernel
theorem d_HoldQueueModel_span_28 : decode c_HoldQueueModel_span 28 = .ok (.ireturn, 1) := by decide +kernel
theorem d_HoldQueueModel_rank_0 : decode c_HoldQueueModel_rank 0 = .ok (.aload_n 0, 1) := by decide +kernel
theorem d_HoldQueueModel_rank_1 : decode c_HoldQueueModel_rank 1 = .ok (.iconst 0, 1) := by decide +kernel
theorem d_HoldQueueModel_rank_2 : decode c_HoldQueueModel_rank 2 = .ok (.putfield 61, 3) := by decide +kernel
theorem d_HoldQueueModel_rank_5 : decode c_HoldQueueModel_rank 5 = .ok (.aload_n 0, 1) := by decide +kernel
theorem d_HoldQueueModel_rank_6 : decode c_HoldQueueModel_rank 6 = .ok (.iload_n 1, 1) := by decide +kernel
theorem d_HoldQueueModel_rank_7 : decode c_HoldQueueModel_rank 7 = .ok (.invokevirtual 105, 3) := by decide +kernel
theorem d_HoldQueueModel_rank_10 : decode c_HoldQueueModel_rank 10 = .ok (.ifCond .ne 5, 3) := by decide +kernel
theorem d_HoldQueueModel_rank_13 : decode c_HoldQueueModel_rank 13 = .ok (.iconst (-1), 1) := by decide +kernel
theorem d_HoldQueueModel_rank_14 : decode c_HoldQueueModel_rank 14 = .ok (.ireturn, 1) := by decide +kernel
theorem d_HoldQueueModel_rank_15 : decode c_HoldQueueModel_rank 15 = .ok (.aload_n 0, 1) := by decide +kernel
theorem d_HoldQueueModel_rank_16 : decode c_HoldQueueModel_rank 16 = .ok (.getfield 45, 3) := by decide +kernel
theorem d_HoldQueueModel_rank_19 : decode c_HoldQueueModel_rank 19 = .ok (.iload_n 1, 1) := by decide +kernel
theorem d_HoldQueueModel_rank_20 : decode c_HoldQueueModel_rank 20 = .ok (.iload_n 2, 1) := by decide +kernel
theorem d_HoldQueueModel_rank_21 : decode c_HoldQueueModel_rank 21 = .ok (.iastore, 1) := by decide +kernel
theorem d_HoldQueueModel_rank_22 : decode c_HoldQueueModel_rank 22 = .ok (.aload_n 0, 1) := by decide +kernel
theorem d_HoldQueueModel_rank_23 : decode c_HoldQueueModel_rank 23 = .ok (.iload_n 1, 1) := by decide +kernel
theorem d_HoldQueueModel_rank_24 : decode c_HoldQueueModel_rank 24 = .ok (.invokevirtual 116, 3) := by decide +kernel
theorem d_HoldQueueModel_rank_27 : decode c_HoldQueueModel_rank 27 = .ok (.ireturn, 1) := by decide +kernel
theorem d_HoldQueueModel_order_0 : decode c_HoldQueueModel_order 0 = .ok (.aload_n 0, 1) := by decide +kernel
theorem d_HoldQueueModel_order_1 : decode c_HoldQueueModel_order 1 = .ok (.iconst 0, 1) := by decide +kernel
theorem d_HoldQueueModel_order_2 : decode c_HoldQueueModel_order 2 = .ok (.putfield 61, 3) := by decide +kernel
theorem d_HoldQueueModel_order_5 : decode c_HoldQueueModel_order 5 = .ok (.iconst 1, 1) := by decide +kernel
theorem d_HoldQueueModel_order_6 : decode c_HoldQueueModel_order 6 = .ok (.istore_n 3, 1) := by decide +kernel
theorem d_HoldQueueModel_order_7 : decode c_HoldQueueModel_order 7 = .ok (.iload_n 3, 1) := by decide +kernel
theorem d_HoldQueueModel_order_8 : decode c_HoldQueueModel_order 8 = .ok (.aload_n 0, 1) := by decide +kernel
theorem d_HoldQueueModel_order_9 : decode c_HoldQueueModel_order 9 = .ok (.getfield 74, 3) := by decide +kernel
theorem d_HoldQueueModel_order_12 : decode c_HoldQueueModel_order 12 = .ok (.if_icmp .gt 39, 3) := by decide +kernel
theorem d_HoldQueueModel_order_15 : decode c_HoldQueueModel_order 15 = .ok (.aload_n 0, 1) := by decide +kernel
theorem d_HoldQueueModel_order_16 : decode c_HoldQueueModel_order 16 = .ok (.getfield 48, 3) := by decide +kernel
theorem d_HoldQueueModel_order_19 : decode c_HoldQueueModel_order 19 = .ok (.iload_n 3, 1) := by decide +kernel
theorem d_HoldQueueModel_order_20 : decode c_HoldQueueModel_order 20 = .ok (.iaload, 1) := by decide +kernel
theorem d_HoldQueueModel_order_21 : decode c_HoldQueueModel_order 21 = .ok (.ifCond .ne 24, 3) := by decide +kernel
theorem d_HoldQueueModel_order_24 : decode c_HoldQueueModel_order 24 = .ok (.aload_n 0, 1) := by decide +kernel
theorem d_HoldQueueModel_order_25 : decode c_HoldQueueModel_order 25 = .ok (.getfield 39, 3) := by decide +kernel
theorem d_HoldQueueModel_order_28 : decode c_HoldQueueModel_order 28 = .ok (.iload_n 3, 1) := by decide +kernel
theorem d_HoldQueueModel_order_29 : decode c_HoldQueueModel_order 29 = .ok (.iaload, 1) := by decide +kernel
theorem d_HoldQueueModel_order_30 : decode c_HoldQueueModel_order 30 = .ok (.iload_n 1, 1) := by decide +kernel
theorem d_HoldQueueModel_order_31 : decode c_HoldQueueModel_order 31 = .ok (.if_icmp .ne 14, 3) := by decide +kernel
theorem d_HoldQueueModel_order_34 : decode c_HoldQueueModel_order 34 = .ok (.aload_n 0, 1) := by decide +kernel
theorem d_HoldQueueModel_order_35 : decode c_HoldQueueModel_order 35 = .ok (.iload_n 3, 1) := by decide +kernel
theorem d_HoldQueueModel_order_36 : decode c_HoldQueueModel_order 36 = .ok (.invokevirtual 116, 3) := by decide +kernel
theorem d_HoldQueueModel_order_39 : decode c_HoldQueueModel_order 39 = .ok (.iload_n 2, 1) := by decide +kernel
theorem d_HoldQueueModel_order_40 : decode c_HoldQueueModel_order 40 = .ok (.if_icmp .ne 5, 3) := by decide +kernel
theorem d_HoldQueueModel_order_43 : decode c_HoldQueueModel_order 43 = .ok (.iload_n 3, 1) := by decide +kernel
theorem d_HoldQueueModel_order_44 : decode c_HoldQueueModel_order 44 = .ok (.ireturn, 1) := by decide +kernel
theorem d_HoldQueueModel_order_45 : decode c_HoldQueueModel_order 45 = .ok (.iinc 3 1, 3) := by decide +kernel
theorem d_HoldQueueModel_order_48 : decode c_HoldQueueModel_order 48 = .ok (.goto (-41), 3) := by decide +kernel
theorem d_HoldQueueModel_order_51 : decode c_HoldQueueModel_order 51 = .ok (.iconst 0, 1) := by decide +kernel
theorem d_HoldQueueModel_order_52 : decode c_HoldQueueModel_order 52 = .ok (.ireturn, 1) := by decide +kernel
theorem d_HoldQueueModel_state_0 : decode c_HoldQueueModel_state 0 = .ok (.aload_n 0, 1) := by decide +kernel
theorem d_HoldQueueModel_state_1 : decode c_HoldQueueModel_state 1 = .ok (.iconst 0, 1) := by decide +kernel
theorem d_HoldQueueModel_state_2 : decode c_HoldQueueModel_state 2 = .ok (.putfield 61, 3) := by decide +kernel
theorem d_HoldQueueModel_state_5 : decode c_HoldQueueModel_state 5 = .ok (.aload_n 0, 1) := by decide +kernel
theorem d_HoldQueueModel_state_6 : decode c_HoldQueueModel_state 6 = .ok (.iload_n 1, 1) := by decide +kernel
theorem d_HoldQueueModel_state_7 : decode c_HoldQueueModel_state 7 = .ok (.invokevirtual 102, 3) := by decide +kernel
theorem d_HoldQueueModel_state_10 : decode c_HoldQueueModel_state 10 = .ok (.ifCond .ne 5, 3) := by decide +kernel
theorem d_HoldQueueModel_state_13 : decode c_HoldQueueModel_state 13 = .ok (.iconst (-1), 1) := by decide +kernel
theorem d_HoldQueueModel_state_14 : decode c_HoldQueueModel_state 14 = .ok (.ireturn, 1) := by decide +kernel
theorem d_HoldQueueModel_state_15 : decode c_HoldQueueModel_state 15 = .ok (.iload_n 2, 1) := by decide +kernel
theorem d_HoldQueueModel_state_16 : decode c_HoldQueueModel_state 16 = .ok (.tableswitch 61 0 2 #[28, 35, 42], 28) := by decide +kernel
theorem d_HoldQueueModel_state_44 : decode c_HoldQueueModel_state 44 = .ok (.aload_n 0, 1) := by decide +kernel
theorem d_HoldQueueModel_state_45 : decode c_HoldQueueModel_state 45 = .ok (.getfield 48, 3) := by decide +kernel
theorem d_HoldQueueModel_state_48 : decode c_HoldQueueModel_state 48 = .ok (.iload_n 1, 1) := by decide +kernel
theorem d_HoldQueueModel_state_49 : decode c_HoldQueueModel_state 49 = .ok (.iaload, 1) := by decide +kernel
theorem d_HoldQueueModel_state_50 : decode c_HoldQueueModel_state 50 = .ok (.ireturn, 1) := by decide +kernel
theorem d_HoldQueueModel_state_51 : decode c_HoldQueueModel_state 51 = .ok (.aload_n 0, 1) := by decide +kernel
theorem d_HoldQueueModel_state_52 : decode c_HoldQueueModel_state 52 = .ok (.getfield 51, 3) := by decide +kernel
theorem d_HoldQueueModel_state_55 : decode c_HoldQueueModel_state 55 = .ok (.iload_n 1, 1) := by decide +kernel
theorem d_HoldQueueModel_state_56 : decode c_HoldQueueModel_state 56 = .ok (.iaload, 1) := by decide +kernel
theorem d_HoldQueueModel_state_57 : decode c_HoldQueueModel_state 57 = .ok (.ireturn, 1) := by decide +kernel
theorem d_HoldQueueModel_state_58 : decode c_HoldQueueModel_state 58 = .ok (.aload_n 0, 1) := by decide +kernel
theorem d_HoldQueueModel_state_59 : decode c_HoldQueueModel_state 59 = .ok (.getfield 48, 3) := by decide +kernel
theorem d_HoldQueueModel_state_62 : decode c_HoldQueueModel_state 62 = .ok (.iload_n 1, 1) := by decide +kernel
theorem d_HoldQueueModel_state_63 : decode c_HoldQueueModel_state 63 = .ok (.iaload, 1) := by decide +kernel
theorem d_HoldQueueModel_state_64 : decode c_HoldQueueModel_state 64 = .ok (.ifCond .ne 11, 3) := by decide +kernel
theorem d_HoldQueueModel_state_67 : decode c_HoldQueueModel_state 67 = .ok (.aload_n 0, 1) := by decide +kernel
theorem d_HoldQueueModel_state_68 : decode c_HoldQueueModel_state 68 = .ok (.iload_n 1, 1) := by decide +kernel
theorem d_HoldQueueModel_state_69 : decode c_HoldQueueModel_state 69 = .ok (.invokevirtual 116, 3) := by decide +kernel
theorem d_HoldQueueModel_state_72 : decode c_HoldQueueModel_state 72 = .ok (.goto 4, 3) := by decide +kernel
theorem d_HoldQueueModel_state_75 : decode c_HoldQueueModel_state 75 = .ok (.iconst (-1), 1) := by decide +kernel
theorem d_HoldQueueModel_state_76 : decode c_HoldQueueModel_state 76 = .ok (.ireturn, 1) := by decide +kernel
theorem d_HoldQueueModel_state_77 : decode c_HoldQueueModel_state 77 = .ok (.iconst (-1), 1) := by decide +kernel
theorem d_HoldQueueModel_state_78 : decode c_HoldQueueModel_state 78 = .ok (.ireturn, 1) := by decide +kernel
theorem d_HoldQueueModel_where_0 : decode c_HoldQueueModel_where 0 = .ok (.aload_n 0, 1) := by decide +kernel
theorem d_HoldQueueModel_where_1 : decode c_HoldQueueModel_where 1 = .ok (.iconst 0, 1) := by decide +kernel
theorem d_HoldQueueModel_where_2 : decode c_HoldQueueModel_where 2 = .ok (.putfield 61, 3) := by decide +kernel
theorem d_HoldQueueModel_where_5 : decode c_HoldQueueModel_where 5 = .ok (.iload_n 1, 1) := by decide +kernel
theorem d_HoldQueueModel_where_6 : decode c_HoldQueueModel_where 6 = .ok (.iconst 1, 1) := by decide +kernel
theorem d_HoldQueueModel_where_7 : decode c_HoldQueueModel_where 7 = .ok (.aload_n 0, 1) := by decide +kernel
theorem d_HoldQueueModel_where_8 : decode c_HoldQueueModel_where 8 = .ok (.getfield 71, 3) := by decide +kernel
theorem d_HoldQueueModel_where_11 : decode c_HoldQueueModel_where 11 = .ok (.invokestatic 64, 3) := by decide +kernel
theorem d_HoldQueueModel_where_14 : decode c_HoldQueueModel_where 14 = .ok (.ifCond .ne 5, 3) := by decide +kernel
theorem d_HoldQueueModel_where_17 : decode c_HoldQueueModel_where 17 = .ok (.iconst (-1), 1) := by decide +kernel
theorem d_HoldQueueModel_where_18 : decode c_HoldQueueModel_where 18 = .ok (.ireturn, 1) := by decide +kernel
theorem d_HoldQueueModel_where_19 : decode c_HoldQueueModel_where 19 = .ok (.iload_n 2, 1) := by decide +kernel
theorem d_HoldQueueModel_where_20 : decode c_HoldQueueModel_where 20 = .ok (.tableswitch 49 0 2 #[28, 35, 42], 28) := by decide +kernel
theorem d_HoldQueueModel_where_48 : decode c_HoldQueueModel_where 48 = .ok (.aload_n 0, 1) := by decide +kernel
theorem d_HoldQueueModel_where_49 : decode c_HoldQueueModel_where 49 = .ok (.getfield 27, 3) := by decide +kernel
theorem d_HoldQueueModel_where_52 : decode c_HoldQueueModel_where 52 = .ok (.iload_n 1, 1) := by decide +kernel
theorem d_HoldQueueModel_where_53 : decode c_HoldQueueModel_where 53 = .ok (.iaload, 1) := by decide +kernel
theorem d_HoldQueueModel_where_54 : decode c_HoldQueueModel_where 54 = .ok (.ireturn, 1) := by decide +kernel
theorem d_HoldQueueModel_where_55 : decode c_HoldQueueModel_where 55 = .ok (.aload_n 0, 1) := by decide +kernel
theorem d_HoldQueueModel_where_56 : decode c_HoldQueueModel_where 56 = .ok (.getfield 30, 3) := by decide +kernel
theorem d_HoldQueueModel_where_59 : decode c_HoldQueueModel_where 59 = .ok (.iload_n 1, 1) := by decide +kernel
theorem d_HoldQueueModel_where_60 : decode c_HoldQueueModel_where 60 = .ok (.iaload, 1) := by decide +kernel
theorem d_HoldQueueModel_where_61 : decode c_HoldQueueModel_where 61 = .ok (.ireturn, 1) := by decide +kernel
theorem d_HoldQueueModel_where_62 : decode c_HoldQueueModel_where 62 = .ok (.aload_n 0, 1) := by decide +kernel
theorem d_HoldQueueModel_where_63 : decode c_HoldQueueModel_where 63 = .ok (.getfield 33, 3) := by decide +kernel
theorem d_HoldQueueModel_where_66 : decode c_HoldQueueModel_where 66 = .ok (.iload_n 1, 1) := by decide +kernel
theorem d_HoldQueueModel_where_67 : decode c_HoldQueueModel_where 67 = .ok (.iaload, 1) := by decide +kernel
theorem d_HoldQueueModel_where_68 : decode c_HoldQueueModel_where 68 = .ok (.ireturn, 1) := by decide +kernel
theorem d_HoldQueueModel_where_69 : decode c_HoldQueueModel_where 69 = .ok (.iconst (-1), 1) := by decide +kernel
theorem d_HoldQueueModel_where_70 : decode c_HoldQueueModel_where 70 = .ok (.ireturn, 1) := by decide +kernel
theorem d_java_util_Arrays_fill_0 : decode c_java_util_Arrays_fill 0 = .ok (.iconst 0, 1) := by decide +kernel
theorem d_java_util_Arrays_fill_1 : decode c_java_util_Arrays_fill 1 = .ok (.istore_n 2, 1) := by decide +kernel
theorem d_java_util_Arrays_fill_2 : decode c_java_util_Arrays_fill 2 = .ok (.aload_n 0, 1) := by decide +kernel
theorem d_java_util_Arrays_fill_3 : decode c_java_util_Arrays_fill 3 = .ok (.arraylength, 1) := by decide +kernel
theorem d_java_util_Arrays_fill_4 : decode c_java_util_Arrays_fill 4 = .ok (.istore_n 3, 1) := by decide +kernel
theorem d_java_util_Arrays_fill_5 : decode c_java_util_Arrays_fill 5 = .ok (.iload_n 2, 1) := by decide +kernel
theorem d_java_util_Arrays_fill_6 : decode c_java_util_Arrays_fill 6 = .ok (.iload_n 3, 1) := by decide +kernel
theorem d_java_util_Arrays_fill_7 : decode c_java_util_Arrays_fill 7 = .ok (.if_icmp .ge 13, 3) := by decide +kernel
theorem d_java_util_Arrays_fill_10 : decode c_java_util_Arrays_fill 10 = .ok (.aload_n 0, 1) := by decide +kernel
theorem d_java_util_Arrays_fill_11 : decode c_java_util_Arrays_fill 11 = .ok (.iload_n 2, 1) := by decide +kernel
theorem d_java_util_Arrays_fill_12 : decode c_java_util_Arrays_fill 12 = .ok (.iload_n 1, 1) := by decide +kernel
theorem d_java_util_Arrays_fill_13 : decode c_java_util_Arrays_fill 13 = .ok (.iastore, 1) := by decide +kernel
theorem d_java_util_Arrays_fill_14 : decode c_java_util_Arrays_fill 14 = .ok (.iinc 2 1, 3) := by decide +kernel
theorem d_java_util_Arrays_fill_17 : decode c_java_util_Arrays_fill 17 = .ok (.goto (-12), 3) := by decide +kernel
theorem d_java_util_Arrays_fill_20 : decode c_java_util_Arrays_fill 20 = .ok (.return_, 1) := by decide +kernel
theorem d_HoldQueueLaw_law_0 : decode c_HoldQueueLaw_law 0 = .ok (.new 7, 3) := by decide +kernel
theorem d_HoldQueueLaw_law_3 : decode c_HoldQueueLaw_law 3 = .ok (.dup, 1) := by decide +kernel
theorem d_HoldQueueLaw_law_4 : decode c_HoldQueueLaw_law 4 = .ok (.invokespecial 9, 3) := by decide +kernel
theorem d_HoldQueueLaw_law_7 : decode c_HoldQueueLaw_law 7 = .ok (.astore_n 1, 1) := by decide +kernel
theorem d_HoldQueueLaw_law_8 : decode c_HoldQueueLaw_law 8 = .ok (.new 10, 3) := by decide +kernel
theorem d_HoldQueueLaw_law_11 : decode c_HoldQueueLaw_law 11 = .ok (.dup, 1) := by decide +kernel
theorem d_HoldQueueLaw_law_12 : decode c_HoldQueueLaw_law 12 = .ok (.invokespecial 12, 3) := by decide +kernel
theorem d_HoldQueueLaw_law_15 : decode c_HoldQueueLaw_law 15 = .ok (.astore_n 2, 1) := by decide +kernel
theorem d_HoldQueueLaw_law_16 : decode c_HoldQueueLaw_law 16 = .ok (.iconst 0, 1) := by decide +kernel
theorem d_HoldQueueLaw_law_17 : decode c_HoldQueueLaw_law 17 = .ok (.istore_n 3, 1) := by decide +kernel
theorem d_HoldQueueLaw_law_18 : decode c_HoldQueueLaw_law 18 = .ok (.iload_n 3, 1) := by decide +kernel
theorem d_HoldQueueLaw_law_19 : decode c_HoldQueueLaw_law 19 = .ok (.aload_n 0, 1) := by decide +kernel
theorem d_HoldQueueLaw_law_20 : decode c_HoldQueueLaw_law 20 = .ok (.arraylength, 1) := by decide +kernel
theorem d_HoldQueueLaw_law_21 : decode c_HoldQueueLaw_law 21 = .ok (.iconst 5, 1) := by decide +kernel
theorem d_HoldQueueLaw_law_22 : decode c_HoldQueueLaw_law 22 = .ok (.isub, 1) := by decide +kernel
theorem d_HoldQueueLaw_law_23 : decode c_HoldQueueLaw_law 23 = .ok (.if_icmp .gt 686, 3) := by decide +kernel
theorem d_HoldQueueLaw_law_26 : decode c_HoldQueueLaw_law 26 = .ok (.aload_n 0, 1) := by decide +kernel
theorem d_HoldQueueLaw_law_27 : decode c_HoldQueueLaw_law 27 = .ok (.iload_n 3, 1) := by decide +kernel
theorem d_HoldQueueLaw_law_28 : decode c_HoldQueueLaw_law 28 = .ok (.iaload, 1) := by decide +kernel
theorem d_HoldQueueLaw_law_29 : decode c_HoldQueueLaw_law 29 = .ok (.bipush 31, 2) := by decide +kernel
theorem d_HoldQueueLaw_law_31 : decode c_HoldQueueLaw_law 31 = .ok (.iand, 1) := by decide +kernel
theorem d_HoldQueueLaw_law_32 : decode c_HoldQueueLaw_law 32 = .ok (.tableswitch 671 0 16 #[84, 107, 140, 189, 242, 275, 338, 371, 394, 417, 440, 463, 516, 539, 572, 605, 638], 84) := by decide +kernel
theorem d_HoldQueueLaw_law_116 : decode c_HoldQueueLaw_law 116 = .ok (.aload_n 1, 1) := by decide +kernel
theorem d_HoldQueueLaw_law_117 : decode c_HoldQueueLaw_law 117 = .ok (.aload_n 0, 1) := by decide +kernel
theorem d_HoldQueueLaw_law_118 : decode c_HoldQueueLaw_law 118 = .ok (.iload_n 3, 1) := by decide +kernel
theorem d_HoldQueueLaw_law_119 : decode c_HoldQueueLaw_law 119 = .ok (.iconst 1, 1) := by decide +kernel
theorem d_HoldQueueLaw_law_120 : decode c_HoldQueueLaw_law 120 = .ok (.iadd, 1) := by decide +kernel
theorem d_HoldQueueLaw_law_121 : decode c_HoldQueueLaw_law 121 = .ok (.iaload, 1) := by decide +kernel
theorem d_HoldQueueLaw_law_122 : decode c_HoldQueueLaw_law 122 = .ok (.invokevirtual 13, 3) := by decide +kernel
theorem d_HoldQueueLaw_law_125 : decode c_HoldQueueLaw_law 125 = .ok (.aload_n 2, 1) := by decide +kernel
theorem d_HoldQueueLaw_law_126 : decode c_HoldQueueLaw_law 126 = .ok (.aload_n 0, 1) := by decide +kernel
theorem d_HoldQueueLaw_law_127 : decode c_HoldQueueLaw_law 127 = .ok (.iload_n 3, 1) := by decide +kernel
theorem d_HoldQueueLaw_law_128 : decode c_HoldQueueLaw_law 128 = .ok (.iconst 1, 1) := by decide +kernel
theorem d_HoldQueueLaw_law_129 : decode c_HoldQueueLaw_law 129 = .ok (.iadd, 1) := by decide +kernel
theorem d_HoldQueueLaw_law_130 : decode c_HoldQueueLaw_law 130 = .ok (.iaload, 1) := by decide +kernel
theorem d_HoldQueueLaw_law_131 : decode c_HoldQueueLaw_law 131 = .ok (.invokevirtual 17, 3) := by decide +kernel
theorem d_HoldQueueLaw_law_134 : decode c_HoldQueueLaw_law 134 = .ok (.if_icmp .eq 569, 3) := by decide +kernel
theorem d_HoldQueueLaw_law_137 : decode c_HoldQueueLaw_law 137 = .ok (.iconst 0, 1) := by decide +kernel
theorem d_HoldQueueLaw_law_138 : decode c_HoldQueueLaw_law 138 = .ok (.ireturn, 1) := by decide +kernel
theorem d_HoldQueueLaw_law_139 : decode c_HoldQueueLaw_law 139 = .ok (.aload_n 1, 1) := by decide +kernel
theorem d_HoldQueueLaw_law_140 : decode c_HoldQueueLaw_law 140 = .ok (.aload_n 0, 1) := by decide +kernel
theorem d_HoldQueueLaw_law_141 : decode c_HoldQueueLaw_law 141 = .ok (.iload_n 3, 1) := by decide +kernel
theorem d_HoldQueueLaw_law_142 : decode c_HoldQueueLaw_law 142 = .ok (.iconst 1, 1) := by decide +kernel
theorem d_HoldQueueLaw_law_143 : decode c_HoldQueueLaw_law 143 = .ok (.iadd, 1) := by decide +kernel
theorem d_HoldQueueLaw_law_144 : decode c_HoldQueueLaw_law 144 = .ok (.iaload, 1) := by decide +kernel
theorem d_HoldQueueLaw_law_145 : decode c_HoldQueueLaw_law 145 = .ok (.aload_n 0, 1) := by decide +kernel
theorem d_HoldQueueLaw_law_146 : decode c_HoldQueueLaw_law 146 = .ok (.iload_n 3, 1) := by decide +kernel
theorem d_HoldQueueLaw_law_147 : decode c_HoldQueueLaw_law 147 = .ok (.iconst 2, 1) := by decide +kernel
theorem d_HoldQueueLaw_law_148 : decode c_HoldQueueLaw_law 148 = .ok (.iadd, 1) := by decide +kernel
theorem d_HoldQueueLaw_law_149 : decode c_HoldQueueLaw_law 149 = .ok (.iaload, 1) := by decide +kernel
theorem d_HoldQueueLaw_law_150 : decode c_HoldQueueLaw_law 150 = .ok (.invokevirtual 18, 3) := by decide +kernel
theorem d_HoldQueueLaw_law_153 : decode c_HoldQueueLaw_law 153 = .ok (.pop, 1) := by decide +kernel
theorem d_HoldQueueLaw_law_154 : decode c_HoldQueueLaw_law 154 = .ok (.aload_n 2, 1) := by decide +kernel
theorem d_HoldQueueLaw_law_155 : decode c_HoldQueueLaw_law 155 = .ok (.aload_n 0, 1) := by decide +kernel
theorem d_HoldQueueLaw_law_156 : decode c_HoldQueueLaw_law 156 = .ok (.iload_n 3, 1) := by decide +kernel
theorem d_HoldQueueLaw_law_157 : decode c_HoldQueueLaw_law 157 = .ok (.iconst 1, 1) := by decide +kernel
theorem d_HoldQueueLaw_law_158 : decode c_HoldQueueLaw_law 158 = .ok (.iadd, 1) := by decide +kernel
theorem d_HoldQueueLaw_law_159 : decode c_HoldQueueLaw_law 159 = .ok (.iaload, 1) := by decide +kernel
theorem d_HoldQueueLaw_law_160 : decode c_HoldQueueLaw_law 160 = .ok (.aload_n 0, 1) := by decide +kernel
theorem d_HoldQueueLaw_law_161 : decode c_HoldQueueLaw_law 161 = .ok (.iload_n 3, 1) := by decide +kernel
theorem d_HoldQueueLaw_law_162 : decode c_HoldQueueLaw_law 162 = .ok (.iconst 2, 1) := by decide +kernel
theorem d_HoldQueueLaw_law_163 : decode c_HoldQueueLaw_law 163 = .ok (.iadd, 1) := by decide +kernel
theorem d_HoldQueueLaw_law_164 : decode c_HoldQueueLaw_law 164 = .ok (.iaload, 1) := by decide +kernel
theorem d_HoldQueueLaw_law_165 : decode c_HoldQueueLaw_law 165 = .ok (.invokevirtual 22, 3) := by decide +kernel
theorem d_HoldQueueLaw_law_168 : decode c_HoldQueueLaw_law 168 = .ok (.pop, 1) := by decide +kernel
theorem d_HoldQueueLaw_law_169 : decode c_HoldQueueLaw_law 169 = .ok (.goto 534, 3) := by decide +kernel
theorem d_HoldQueueLaw_law_172 : decode c_HoldQueueLaw_law 172 = .ok (.aload_n 1, 1) := by decide +kernel
end
section
theorem d_HoldQueueLaw_law_173 : decode c_HoldQueueLaw_law 173 = .ok (.aload_n 0, 1) := by decide +kernel
theorem d_HoldQueueLaw_law_174 : decode c_HoldQueueLaw_law 174 = .ok (.iload_n 3, 1) := by decide +kernel
theorem d_HoldQueueLaw_law_175 : decode c_HoldQueueLaw_law 175 = .ok (.iconst 1, 1) := by decide +kernel
theorem d_HoldQueueLaw_law_176 : decode c_HoldQueueLaw_law 176 = .ok (.iadd, 1) := by decide +kernel
theorem d_HoldQueueLaw_law_177 : decode c_HoldQueueLaw_law 177 = .ok (.iaload, 1) := by decide +kernel
theorem d_HoldQueueLaw_law_178 : decode c_HoldQueueLaw_law 178 = .ok (.aload_n 0, 1) := by decide +kernel
theorem d_HoldQueueLaw_law_179 : decode c_HoldQueueLaw_law 179 = .ok (.iload_n 3, 1) := by decide +kernel
theorem d_HoldQueueLaw_law_180 : decode c_HoldQueueLaw_law 180 = .ok (.iconst 2, 1) := by decide +kernel
theorem d_HoldQueueLaw_law_181 : decode c_HoldQueueLaw_law 181 = .ok (.iadd, 1) := by decide +kernel
theorem d_HoldQueueLaw_law_182 : decode c_HoldQueueLaw_law 182 = .ok (.iaload, 1) := by decide +kernel
theorem d_HoldQueueLaw_law_183 : decode c_HoldQueueLaw_law 183 = .ok (.ifCond .eq 7, 3) := by decide +kernel
theorem d_HoldQueueLaw_law_186 : decode c_HoldQueueLaw_law 186 = .ok (.iconst 1, 1) := by decide +kernel
theorem d_HoldQueueLaw_law_187 : decode c_HoldQueueLaw_law 187 = .ok (.goto 4, 3) := by decide +kernel
theorem d_HoldQueueLaw_law_190 : decode c_HoldQueueLaw_law 190 = .ok (.iconst 0, 1) := by decide +kernel
theorem d_HoldQueueLaw_law_191 : decode c_HoldQueueLaw_law 191 = .ok (.invokevirtual 23, 3) := by decide +kernel
theorem d_HoldQueueLaw_law_194 : decode c_HoldQueueLaw_law 194 = .ok (.pop, 1) := by decide +kernel
theorem d_HoldQueueLaw_law_195 : decode c_HoldQueueLaw_law 195 = .ok (.aload_n 2, 1) := by decide +kernel
theorem d_HoldQueueLaw_law_196 : decode c_HoldQueueLaw_law 196 = .ok (.aload_n 0, 1) := by decide +kernel
theorem d_HoldQueueLaw_law_197 : decode c_HoldQueueLaw_law 197 = .ok (.iload_n 3, 1) := by decide +kernel
theorem d_HoldQueueLaw_law_198 : decode c_HoldQueueLaw_law 198 = .ok (.iconst 1, 1) := by decide +kernel
theorem d_HoldQueueLaw_law_199 : decode c_HoldQueueLaw_law 199 = .ok (.iadd, 1) := by decide +kernel
theorem d_HoldQueueLaw_law_200 : decode c_HoldQueueLaw_law 200 = .ok (.iaload, 1) := by decide +kernel
theorem d_HoldQueueLaw_law_201 : decode c_HoldQueueLaw_law 201 = .ok (.aload_n 0, 1) := by decide +kernel
theorem d_HoldQueueLaw_law_202 : decode c_HoldQueueLaw_law 202 = .ok (.iload_n 3, 1) := by decide +kernel
theorem d_HoldQueueLaw_law_203 : decode c_HoldQueueLaw_law 203 = .ok (.iconst 2, 1) := by decide +kernel
theorem d_HoldQueueLaw_law_204 : decode c_HoldQueueLaw_law 204 = .ok (.iadd, 1) := by decide +kernel
theorem d_HoldQueueLaw_law_205 : decode c_HoldQueueLaw_law 205 = .ok (.iaload, 1) := by decide +kernel
theorem d_HoldQueueLaw_law_206 : decode c_HoldQueueLaw_law 206 = .ok (.ifCond .eq 7, 3) := by decide +kernel
theorem d_HoldQueueLaw_law_209 : decode c_HoldQueueLaw_law 209 = .ok (.iconst 1, 1) := by decide +kernel
theorem d_HoldQueueLaw_law_210 : decode c_HoldQueueLaw_law 210 = .ok (.goto 4, 3) := by decide +kernel
theorem d_HoldQueueLaw_law_213 : decode c_HoldQueueLaw_law 213 = .ok (.iconst 0, 1) := by decide +kernel
theorem d_HoldQueueLaw_law_214 : decode c_HoldQueueLaw_law 214 = .ok (.invokevirtual 27, 3) := by decide +kernel
theorem d_HoldQueueLaw_law_217 : decode c_HoldQueueLaw_law 217 = .ok (.pop, 1) := by decide +kernel
theorem d_HoldQueueLaw_law_218 : decode c_HoldQueueLaw_law 218 = .ok (.goto 485, 3) := by decide +kernel
theorem d_HoldQueueLaw_law_221 : decode c_HoldQueueLaw_law 221 = .ok (.aload_n 1, 1) := by decide +kernel
theorem d_HoldQueueLaw_law_222 : decode c_HoldQueueLaw_law 222 = .ok (.aload_n 0, 1) := by decide +kernel
theorem d_HoldQueueLaw_law_223 : decode c_HoldQueueLaw_law 223 = .ok (.iload_n 3, 1) := by decide +kernel
theorem d_HoldQueueLaw_law_224 : decode c_HoldQueueLaw_law 224 = .ok (.iconst 1, 1) := by decide +kernel
theorem d_HoldQueueLaw_law_225 : decode c_HoldQueueLaw_law 225 = .ok (.iadd, 1) := by decide +kernel
theorem d_HoldQueueLaw_law_226 : decode c_HoldQueueLaw_law 226 = .ok (.iaload, 1) := by decide +kernel
theorem d_HoldQueueLaw_law_227 : decode c_HoldQueueLaw_law 227 = .ok (.aload_n 0, 1) := by decide +kernel
theorem d_HoldQueueLaw_law_228 : decode c_HoldQueueLaw_law 228 = .ok (.iload_n 3, 1) := by decide +kernel
theorem d_HoldQueueLaw_law_229 : decode c_HoldQueueLaw_law 229 = .ok (.iconst 2, 1) := by decide +kernel
theorem d_HoldQueueLaw_law_230 : decode c_HoldQueueLaw_law 230 = .ok (.iadd, 1) := by decide +kernel
theorem d_HoldQueueLaw_law_231 : decode c_HoldQueueLaw_law 231 = .ok (.iaload, 1) := by decide +kernel
theorem d_HoldQueueLaw_law_232 : decode c_HoldQueueLaw_law 232 = .ok (.aload_n 0, 1) := by decide +kernel
theorem d_HoldQueueLaw_law_233 : decode c_HoldQueueLaw_law 233 = .ok (.iload_n 3, 1) := by decide +kernel
theorem d_HoldQueueLaw_law_234 : decode c_HoldQueueLaw_law 234 = .ok (.iconst 3, 1) := by decide +kernel
theorem d_HoldQueueLaw_law_235 : decode c_HoldQueueLaw_law 235 = .ok (.iadd, 1) := by decide +kernel
theorem d_HoldQueueLaw_law_236 : decode c_HoldQueueLaw_law 236 = .ok (.iaload, 1) := by decide +kernel
theorem d_HoldQueueLaw_law_237 : decode c_HoldQueueLaw_law 237 = .ok (.aload_n 0, 1) := by decide +kernel
theorem d_HoldQueueLaw_law_238 : decode c_HoldQueueLaw_law 238 = .ok (.iload_n 3, 1) := by decide +kernel
theorem d_HoldQueueLaw_law_239 : decode c_HoldQueueLaw_law 239 = .ok (.iconst 4, 1) := by decide +kernel
theorem d_HoldQueueLaw_law_240 : decode c_HoldQueueLaw_law 240 = .ok (.iadd, 1) := by decide +kernel
theorem d_HoldQueueLaw_law_241 : decode c_HoldQueueLaw_law 241 = .ok (.iaload, 1) := by decide +kernel
theorem d_HoldQueueLaw_law_242 : decode c_HoldQueueLaw_law 242 = .ok (.invokevirtual 28, 3) := by decide +kernel
theorem d_HoldQueueLaw_law_245 : decode c_HoldQueueLaw_law 245 = .ok (.pop, 1) := by decide +kernel
theorem d_HoldQueueLaw_law_246 : decode c_HoldQueueLaw_law 246 = .ok (.aload_n 2, 1) := by decide +kernel
theorem d_HoldQueueLaw_law_247 : decode c_HoldQueueLaw_law 247 = .ok (.aload_n 0, 1) := by decide +kernel
theorem d_HoldQueueLaw_law_248 : decode c_HoldQueueLaw_law 248 = .ok (.iload_n 3, 1) := by decide +kernel
theorem d_HoldQueueLaw_law_249 : decode c_HoldQueueLaw_law 249 = .ok (.iconst 1, 1) := by decide +kernel
theorem d_HoldQueueLaw_law_250 : decode c_HoldQueueLaw_law 250 = .ok (.iadd, 1) := by decide +kernel
theorem d_HoldQueueLaw_law_251 : decode c_HoldQueueLaw_law 251 = .ok (.iaload, 1) := by decide +kernel
theorem d_HoldQueueLaw_law_252 : decode c_HoldQueueLaw_law 252 = .ok (.aload_n 0, 1) := by decide +kernel
theorem d_HoldQueueLaw_law_253 : decode c_HoldQueueLaw_law 253 = .ok (.iload_n 3, 1) := by decide +kernel
theorem d_HoldQueueLaw_law_254 : decode c_HoldQueueLaw_law 254 = .ok (.iconst 2, 1) := by decide +kernel
theorem d_HoldQueueLaw_law_255 : decode c_HoldQueueLaw_law 255 = .ok (.iadd, 1) := by decide +kernel
theorem d_HoldQueueLaw_law_256 : decode c_HoldQueueLaw_law 256 = .ok (.iaload, 1) := by decide +kernel
theorem d_HoldQueueLaw_law_257 : decode c_HoldQueueLaw_law 257 = .ok (.aload_n 0, 1) := by decide +kernel
theorem d_HoldQueueLaw_law_258 : decode c_HoldQueueLaw_law 258 = .ok (.iload_n 3, 1) := by decide +kernel
theorem d_HoldQueueLaw_law_259 : decode c_HoldQueueLaw_law 259 = .ok (.iconst 3, 1) := by decide +kernel
theorem d_HoldQueueLaw_law_260 : decode c_HoldQueueLaw_law 260 = .ok (.iadd, 1) := by decide +kernel
theorem d_HoldQueueLaw_law_261 : decode c_HoldQueueLaw_law 261 = .ok (.iaload, 1) := by decide +kernel
theorem d_HoldQueueLaw_law_262 : decode c_HoldQueueLaw_law 262 = .ok (.aload_n 0, 1) := by decide +kernel
theorem d_HoldQueueLaw_law_263 : decode c_HoldQueueLaw_law 263 = .ok (.iload_n 3, 1) := by decide +kernel
theorem d_HoldQueueLaw_law_264 : decode c_HoldQueueLaw_law 264 = .ok (.iconst 4, 1) := by decide +kernel
theorem d_HoldQueueLaw_law_265 : decode c_HoldQueueLaw_law 265 = .ok (.iadd, 1) := by decide +kernel
theorem d_HoldQueueLaw_law_266 : decode c_HoldQueueLaw_law 266 = .ok (.iaload, 1) := by decide +kernel
theorem d_HoldQueueLaw_law_267 : decode c_HoldQueueLaw_law 267 = .ok (.invokevirtual 32, 3) := by decide +kernel
theorem d_HoldQueueLaw_law_270 : decode c_HoldQueueLaw_law 270 = .ok (.pop, 1) := by decide +kernel
theorem d_HoldQueueLaw_law_271 : decode c_HoldQueueLaw_law 271 = .ok (.goto 432, 3) := by decide +kernel
theorem d_HoldQueueLaw_law_274 : decode c_HoldQueueLaw_law 274 = .ok (.aload_n 1, 1) := by decide +kernel
theorem d_HoldQueueLaw_law_275 : decode c_HoldQueueLaw_law 275 = .ok (.aload_n 0, 1) := by decide +kernel
theorem d_HoldQueueLaw_law_276 : decode c_HoldQueueLaw_law 276 = .ok (.iload_n 3, 1) := by decide +kernel
theorem d_HoldQueueLaw_law_277 : decode c_HoldQueueLaw_law 277 = .ok (.iconst 1, 1) := by decide +kernel
theorem d_HoldQueueLaw_law_278 : decode c_HoldQueueLaw_law 278 = .ok (.iadd, 1) := by decide +kernel
theorem d_HoldQueueLaw_law_279 : decode c_HoldQueueLaw_law 279 = .ok (.iaload, 1) := by decide +kernel
theorem d_HoldQueueLaw_law_280 : decode c_HoldQueueLaw_law 280 = .ok (.aload_n 0, 1) := by decide +kernel
theorem d_HoldQueueLaw_law_281 : decode c_HoldQueueLaw_law 281 = .ok (.iload_n 3, 1) := by decide +kernel
theorem d_HoldQueueLaw_law_282 : decode c_HoldQueueLaw_law 282 = .ok (.iconst 2, 1) := by decide +kernel
theorem d_HoldQueueLaw_law_283 : decode c_HoldQueueLaw_law 283 = .ok (.iadd, 1) := by decide +kernel
theorem d_HoldQueueLaw_law_284 : decode c_HoldQueueLaw_law 284 = .ok (.iaload, 1) := by decide +kernel
theorem d_HoldQueueLaw_law_285 : decode c_HoldQueueLaw_law 285 = .ok (.invokevirtual 33, 3) := by decide +kernel
theorem d_HoldQueueLaw_law_288 : decode c_HoldQueueLaw_law 288 = .ok (.pop, 1) := by decide +kernel
theorem d_HoldQueueLaw_law_289 : decode c_HoldQueueLaw_law 289 = .ok (.aload_n 2, 1) := by decide +kernel
theorem d_HoldQueueLaw_law_290 : decode c_HoldQueueLaw_law 290 = .ok (.aload_n 0, 1) := by decide +kernel
theorem d_HoldQueueLaw_law_291 : decode c_HoldQueueLaw_law 291 = .ok (.iload_n 3, 1) := by decide +kernel
theorem d_HoldQueueLaw_law_292 : decode c_HoldQueueLaw_law 292 = .ok (.iconst 1, 1) := by decide +kernel
theorem d_HoldQueueLaw_law_293 : decode c_HoldQueueLaw_law 293 = .ok (.iadd, 1) := by decide +kernel
theorem d_HoldQueueLaw_law_294 : decode c_HoldQueueLaw_law 294 = .ok (.iaload, 1) := by decide +kernel
theorem d_HoldQueueLaw_law_295 : decode c_HoldQueueLaw_law 295 = .ok (.aload_n 0, 1) := by decide +kernel
theorem d_HoldQueueLaw_law_296 : decode c_HoldQueueLaw_law 296 = .ok (.iload_n 3, 1) := by decide +kernel
theorem d_HoldQueueLaw_law_297 : decode c_HoldQueueLaw_law 297 = .ok (.iconst 2, 1) := by decide +kernel
theorem d_HoldQueueLaw_law_298 : decode c_HoldQueueLaw_law 298 = .ok (.iadd, 1) := by decide +kernel
theorem d_HoldQueueLaw_law_299 : decode c_HoldQueueLaw_law 299 = .ok (.iaload, 1) := by decide +kernel
theorem d_HoldQueueLaw_law_300 : decode c_HoldQueueLaw_law 300 = .ok (.invokevirtual 36, 3) := by decide +kernel
theorem d_HoldQueueLaw_law_303 : decode c_HoldQueueLaw_law 303 = .ok (.pop, 1) := by decide +kernel
theorem d_HoldQueueLaw_law_304 : decode c_HoldQueueLaw_law 304 = .ok (.goto 399, 3) := by decide +kernel
theorem d_HoldQueueLaw_law_307 : decode c_HoldQueueLaw_law 307 = .ok (.aload_n 1, 1) := by decide +kernel
theorem d_HoldQueueLaw_law_308 : decode c_HoldQueueLaw_law 308 = .ok (.aload_n 0, 1) := by decide +kernel
theorem d_HoldQueueLaw_law_309 : decode c_HoldQueueLaw_law 309 = .ok (.iload_n 3, 1) := by decide +kernel
theorem d_HoldQueueLaw_law_310 : decode c_HoldQueueLaw_law 310 = .ok (.iconst 1, 1) := by decide +kernel
theorem d_HoldQueueLaw_law_311 : decode c_HoldQueueLaw_law 311 = .ok (.iadd, 1) := by decide +kernel
theorem d_HoldQueueLaw_law_312 : decode c_HoldQueueLaw_law 312 = .ok (.iaload, 1) := by decide +kernel
theorem d_HoldQueueLaw_law_313 : decode c_HoldQueueLaw_law 313 = .ok (.aload_n 0, 1) := by decide +kernel
theorem d_HoldQueueLaw_law_314 : decode c_HoldQueueLaw_law 314 = .ok (.iload_n 3, 1) := by decide +kernel
theorem d_HoldQueueLaw_law_315 : decode c_HoldQueueLaw_law 315 = .ok (.iconst 2, 1) := by decide +kernel
theorem d_HoldQueueLaw_law_316 : decode c_HoldQueueLaw_law 316 = .ok (.iadd, 1) := by decide +kernel
theorem d_HoldQueueLaw_law_317 : decode c_HoldQueueLaw_law 317 = .ok (.iaload, 1) := by decide +kernel
theorem d_HoldQueueLaw_law_318 : decode c_HoldQueueLaw_law 318 = .ok (.i2l, 1) := by decide +kernel
theorem d_HoldQueueLaw_law_319 : decode c_HoldQueueLaw_law 319 = .ok (.bipush 32, 2) := by decide +kernel
theorem d_HoldQueueLaw_law_321 : decode c_HoldQueueLaw_law 321 = .ok (.lshl, 1) := by decide +kernel
theorem d_HoldQueueLaw_law_322 : decode c_HoldQueueLaw_law 322 = .ok (.aload_n 0, 1) := by decide +kernel
theorem d_HoldQueueLaw_law_323 : decode c_HoldQueueLaw_law 323 = .ok (.iload_n 3, 1) := by decide +kernel
theorem d_HoldQueueLaw_law_324 : decode c_HoldQueueLaw_law 324 = .ok (.iconst 3, 1) := by decide +kernel
theorem d_HoldQueueLaw_law_325 : decode c_HoldQueueLaw_law 325 = .ok (.iadd, 1) := by decide +kernel
theorem d_HoldQueueLaw_law_326 : decode c_HoldQueueLaw_law 326 = .ok (.iaload, 1) := by decide +kernel
theorem d_HoldQueueLaw_law_327 : decode c_HoldQueueLaw_law 327 = .ok (.i2l, 1) := by decide +kernel
theorem d_HoldQueueLaw_law_328 : decode c_HoldQueueLaw_law 328 = .ok (.ldc2_w 37, 3) := by decide +kernel
theorem d_HoldQueueLaw_law_331 : decode c_HoldQueueLaw_law 331 = .ok (.land, 1) := by decide +kernel
theorem d_HoldQueueLaw_law_332 : decode c_HoldQueueLaw_law 332 = .ok (.lor, 1) := by decide +kernel
theorem d_HoldQueueLaw_law_333 : decode c_HoldQueueLaw_law 333 = .ok (.invokevirtual 39, 3) := by decide +kernel
theorem d_HoldQueueLaw_law_336 : decode c_HoldQueueLaw_law 336 = .ok (.pop, 1) := by decide +kernel
theorem d_HoldQueueLaw_law_337 : decode c_HoldQueueLaw_law 337 = .ok (.aload_n 2, 1) := by decide +kernel
theorem d_HoldQueueLaw_law_338 : decode c_HoldQueueLaw_law 338 = .ok (.aload_n 0, 1) := by decide +kernel
theorem d_HoldQueueLaw_law_339 : decode c_HoldQueueLaw_law 339 = .ok (.iload_n 3, 1) := by decide +kernel
theorem d_HoldQueueLaw_law_340 : decode c_HoldQueueLaw_law 340 = .ok (.iconst 1, 1) := by decide +kernel
theorem d_HoldQueueLaw_law_341 : decode c_HoldQueueLaw_law 341 = .ok (.iadd, 1) := by decide +kernel
theorem d_HoldQueueLaw_law_342 : decode c_HoldQueueLaw_law 342 = .ok (.iaload, 1) := by decide +kernel
theorem d_HoldQueueLaw_law_343 : decode c_HoldQueueLaw_law 343 = .ok (.aload_n 0, 1) := by decide +kernel
theorem d_HoldQueueLaw_law_344 : decode c_HoldQueueLaw_law 344 = .ok (.iload_n 3, 1) := by decide +kernel
theorem d_HoldQueueLaw_law_345 : decode c_HoldQueueLaw_law 345 = .ok (.iconst 2, 1) := by decide +kernel
theorem d_HoldQueueLaw_law_346 : decode c_HoldQueueLaw_law 346 = .ok (.iadd, 1) := by decide +kernel
theorem d_HoldQueueLaw_law_347 : decode c_HoldQueueLaw_law 347 = .ok (.iaload, 1) := by decide +kernel
theorem d_HoldQueueLaw_law_348 : decode c_HoldQueueLaw_law 348 = .ok (.i2l, 1) := by decide +kernel
theorem d_HoldQueueLaw_law_349 : decode c_HoldQueueLaw_law 349 = .ok (.bipush 32, 2) := by decide +kernel
theorem d_HoldQueueLaw_law_351 : decode c_HoldQueueLaw_law 351 = .ok (.lshl, 1) := by decide +kernel
theorem d_HoldQueueLaw_law_352 : decode c_HoldQueueLaw_law 352 = .ok (.aload_n 0, 1) := by decide +kernel
theorem d_HoldQueueLaw_law_353 : decode c_HoldQueueLaw_law 353 = .ok (.iload_n 3, 1) := by decide +kernel
theorem d_HoldQueueLaw_law_354 : decode c_HoldQueueLaw_law 354 = .ok (.iconst 3, 1) := by decide +kernel
theorem d_HoldQueueLaw_law_355 : decode c_HoldQueueLaw_law 355 = .ok (.iadd, 1) := by decide +kernel
theorem d_HoldQueueLaw_law_356 : decode c_HoldQueueLaw_law 356 = .ok (.iaload, 1) := by decide +kernel
theorem d_HoldQueueLaw_law_357 : decode c_HoldQueueLaw_law 357 = .ok (.i2l, 1) := by decide +kernel
theorem d_HoldQueueLaw_law_358 : decode c_HoldQueueLaw_law 358 = .ok (.ldc2_w 37, 3) := by decide +kernel
theorem d_HoldQueueLaw_law_361 : decode c_HoldQueueLaw_law 361 = .ok (.land, 1) := by decide +kernel
theorem d_HoldQueueLaw_law_362 : decode c_HoldQueueLaw_law 362 = .ok (.lor, 1) := by decide +kernel
theorem d_HoldQueueLaw_law_363 : decode c_HoldQueueLaw_law 363 = .ok (.invokevirtual 43, 3) := by decide +kernel
theorem d_HoldQueueLaw_law_366 : decode c_HoldQueueLaw_law 366 = .ok (.pop, 1) := by decide +kernel
theorem d_HoldQueueLaw_law_367 : decode c_HoldQueueLaw_law 367 = .ok (.goto 336, 3) := by decide +kernel
theorem d_HoldQueueLaw_law_370 : decode c_HoldQueueLaw_law 370 = .ok (.aload_n 1, 1) := by decide +kernel
theorem d_HoldQueueLaw_law_371 : decode c_HoldQueueLaw_law 371 = .ok (.aload_n 0, 1) := by decide +kernel
theorem d_HoldQueueLaw_law_372 : decode c_HoldQueueLaw_law 372 = .ok (.iload_n 3, 1) := by decide +kernel
theorem d_HoldQueueLaw_law_373 : decode c_HoldQueueLaw_law 373 = .ok (.iconst 1, 1) := by decide +kernel
theorem d_HoldQueueLaw_law_374 : decode c_HoldQueueLaw_law 374 = .ok (.iadd, 1) := by decide +kernel
theorem d_HoldQueueLaw_law_375 : decode c_HoldQueueLaw_law 375 = .ok (.iaload, 1) := by decide +kernel
theorem d_HoldQueueLaw_law_376 : decode c_HoldQueueLaw_law 376 = .ok (.aload_n 0, 1) := by decide +kernel
theorem d_HoldQueueLaw_law_377 : decode c_HoldQueueLaw_law 377 = .ok (.iload_n 3, 1) := by decide +kernel
theorem d_HoldQueueLaw_law_378 : decode c_HoldQueueLaw_law 378 = .ok (.iconst 2, 1) := by decide +kernel
theorem d_HoldQueueLaw_law_379 : decode c_HoldQueueLaw_law 379 = .ok (.iadd, 1) := by decide +kernel
theorem d_HoldQueueLaw_law_380 : decode c_HoldQueueLaw_law 380 = .ok (.iaload, 1) := by decide +kernel
theorem d_HoldQueueLaw_law_381 : decode c_HoldQueueLaw_law 381 = .ok (.invokevirtual 44, 3) := by decide +kernel
theorem d_HoldQueueLaw_law_384 : decode c_HoldQueueLaw_law 384 = .ok (.pop, 1) := by decide +kernel
theorem d_HoldQueueLaw_law_385 : decode c_HoldQueueLaw_law 385 = .ok (.aload_n 2, 1) := by decide +kernel
theorem d_HoldQueueLaw_law_386 : decode c_HoldQueueLaw_law 386 = .ok (.aload_n 0, 1) := by decide +kernel
theorem d_HoldQueueLaw_law_387 : decode c_HoldQueueLaw_law 387 = .ok (.iload_n 3, 1) := by decide +kernel
theorem d_HoldQueueLaw_law_388 : decode c_HoldQueueLaw_law 388 = .ok (.iconst 1, 1) := by decide +kernel
theorem d_HoldQueueLaw_law_389 : decode c_HoldQueueLaw_law 389 = .ok (.iadd, 1) := by decide +kernel
theorem d_HoldQueueLaw_law_390 : decode c_HoldQueueLaw_law 390 = .ok (.iaload, 1) := by decide +kernel
theorem d_HoldQueueLaw_law_391 : decode c_HoldQueueLaw_law 391 = .ok (.aload_n 0, 1) := by decide +kernel
theorem d_HoldQueueLaw_law_392 : decode c_HoldQueueLaw_law 392 = .ok (.iload_n 3, 1) := by decide +kernel
theorem d_HoldQueueLaw_law_393 : decode c_HoldQueueLaw_law 393 = .ok (.iconst 2, 1) := by decide +kernel
theorem d_HoldQueueLaw_law_394 : decode c_HoldQueueLaw_law 394 = .ok (.iadd, 1) := by decide +kernel
theorem d_HoldQueueLaw_law_395 : decode c_HoldQueueLaw_law 395 = .ok (.iaload, 1) := by decide +kernel
theorem d_HoldQueueLaw_law_396 : decode c_HoldQueueLaw_law 396 = .ok (.invokevirtual 47, 3) := by decide +kernel
theorem d_HoldQueueLaw_law_399 : decode c_HoldQueueLaw_law 399 = .ok (.pop, 1) := by decide +kernel
theorem d_HoldQueueLaw_law_400 : decode c_HoldQueueLaw_law 400 = .ok (.goto 303, 3) := by decide +kernel
theorem d_HoldQueueLaw_law_403 : decode c_HoldQueueLaw_law 403 = .ok (.aload_n 1, 1) := by decide +kernel
theorem d_HoldQueueLaw_law_404 : decode c_HoldQueueLaw_law 404 = .ok (.aload_n 0, 1) := by decide +kernel
theorem d_HoldQueueLaw_law_405 : decode c_HoldQueueLaw_law 405 = .ok (.iload_n 3, 1) := by decide +kernel
theorem d_HoldQueueLaw_law_406 : decode c_HoldQueueLaw_law 406 = .ok (.iconst 1, 1) := by decide +kernel
theorem d_HoldQueueLaw_law_407 : decode c_HoldQueueLaw_law 407 = .ok (.iadd, 1) := by decide +kernel
theorem d_HoldQueueLaw_law_408 : decode c_HoldQueueLaw_law 408 = .ok (.iaload, 1) := by decide +kernel
theorem d_HoldQueueLaw_law_409 : decode c_HoldQueueLaw_law 409 = .ok (.invokevirtual 48, 3) := by decide +kernel
theorem d_HoldQueueLaw_law_412 : decode c_HoldQueueLaw_law 412 = .ok (.pop, 1) := by decide +kernel
theorem d_HoldQueueLaw_law_413 : decode c_HoldQueueLaw_law 413 = .ok (.aload_n 2, 1) := by decide +kernel
theorem d_HoldQueueLaw_law_414 : decode c_HoldQueueLaw_law 414 = .ok (.aload_n 0, 1) := by decide +kernel
theorem d_HoldQueueLaw_law_415 : decode c_HoldQueueLaw_law 415 = .ok (.iload_n 3, 1) := by decide +kernel
theorem d_HoldQueueLaw_law_416 : decode c_HoldQueueLaw_law 416 = .ok (.iconst 1, 1) := by decide +kernel
theorem d_HoldQueueLaw_law_417 : decode c_HoldQueueLaw_law 417 = .ok (.iadd, 1) := by decide +kernel
theorem d_HoldQueueLaw_law_418 : decode c_HoldQueueLaw_law 418 = .ok (.iaload, 1) := by decide +kernel
theorem d_HoldQueueLaw_law_419 : decode c_HoldQueueLaw_law 419 = .ok (.invokevirtual 51, 3) := by decide +kernel
theorem d_HoldQueueLaw_law_422 : decode c_HoldQueueLaw_law 422 = .ok (.pop, 1) := by decide +kernel
theorem d_HoldQueueLaw_law_423 : decode c_HoldQueueLaw_law 423 = .ok (.goto 280, 3) := by decide +kernel
theorem d_HoldQueueLaw_law_426 : decode c_HoldQueueLaw_law 426 = .ok (.aload_n 1, 1) := by decide +kernel
theorem d_HoldQueueLaw_law_427 : decode c_HoldQueueLaw_law 427 = .ok (.aload_n 0, 1) := by decide +kernel
theorem d_HoldQueueLaw_law_428 : decode c_HoldQueueLaw_law 428 = .ok (.iload_n 3, 1) := by decide +kernel
theorem d_HoldQueueLaw_law_429 : decode c_HoldQueueLaw_law 429 = .ok (.iconst 1, 1) := by decide +kernel
theorem d_HoldQueueLaw_law_430 : decode c_HoldQueueLaw_law 430 = .ok (.iadd, 1) := by decide +kernel
theorem d_HoldQueueLaw_law_431 : decode c_HoldQueueLaw_law 431 = .ok (.iaload, 1) := by decide +kernel
theorem d_HoldQueueLaw_law_432 : decode c_HoldQueueLaw_law 432 = .ok (.invokevirtual 52, 3) := by decide +kernel
theorem d_HoldQueueLaw_law_435 : decode c_HoldQueueLaw_law 435 = .ok (.pop, 1) := by decide +kernel
theorem d_HoldQueueLaw_law_436 : decode c_HoldQueueLaw_law 436 = .ok (.aload_n 2, 1) := by decide +kernel
theorem d_HoldQueueLaw_law_437 : decode c_HoldQueueLaw_law 437 = .ok (.aload_n 0, 1) := by decide +kernel
theorem d_HoldQueueLaw_law_438 : decode c_HoldQueueLaw_law 438 = .ok (.iload_n 3, 1) := by decide +kernel
theorem d_HoldQueueLaw_law_439 : decode c_HoldQueueLaw_law 439 = .ok (.iconst 1, 1) := by decide +kernel
theorem d_HoldQueueLaw_law_440 : decode c_HoldQueueLaw_law 440 = .ok (.iadd, 1) := by decide +kernel
theorem d_HoldQueueLaw_law_441 : decode c_HoldQueueLaw_law 441 = .ok (.iaload, 1) := by decide +kernel
theorem d_HoldQueueLaw_law_442 : decode c_HoldQueueLaw_law 442 = .ok (.invokevirtual 55, 3) := by decide +kernel
theorem d_HoldQueueLaw_law_445 : decode c_HoldQueueLaw_law 445 = .ok (.pop, 1) := by decide +kernel
theorem d_HoldQueueLaw_law_446 : decode c_HoldQueueLaw_law 446 = .ok (.goto 257, 3) := by decide +kernel
theorem d_HoldQueueLaw_law_449 : decode c_HoldQueueLaw_law 449 = .ok (.aload_n 1, 1) := by decide +kernel
theorem d_HoldQueueLaw_law_450 : decode c_HoldQueueLaw_law 450 = .ok (.aload_n 0, 1) := by decide +kernel
theorem d_HoldQueueLaw_law_451 : decode c_HoldQueueLaw_law 451 = .ok (.iload_n 3, 1) := by decide +kernel
theorem d_HoldQueueLaw_law_452 : decode c_HoldQueueLaw_law 452 = .ok (.iconst 1, 1) := by decide +kernel
theorem d_HoldQueueLaw_law_453 : decode c_HoldQueueLaw_law 453 = .ok (.iadd, 1) := by decide +kernel
theorem d_HoldQueueLaw_law_454 : decode c_HoldQueueLaw_law 454 = .ok (.iaload, 1) := by decide +kernel
theorem d_HoldQueueLaw_law_455 : decode c_HoldQueueLaw_law 455 = .ok (.invokevirtual 56, 3) := by decide +kernel
theorem d_HoldQueueLaw_law_458 : decode c_HoldQueueLaw_law 458 = .ok (.pop, 1) := by decide +kernel
theorem d_HoldQueueLaw_law_459 : decode c_HoldQueueLaw_law 459 = .ok (.aload_n 2, 1) := by decide +kernel
theorem d_HoldQueueLaw_law_460 : decode c_HoldQueueLaw_law 460 = .ok (.aload_n 0, 1) := by decide +kernel
theorem d_HoldQueueLaw_law_461 : decode c_HoldQueueLaw_law 461 = .ok (.iload_n 3, 1) := by decide +kernel
theorem d_HoldQueueLaw_law_462 : decode c_HoldQueueLaw_law 462 = .ok (.iconst 1, 1) := by decide +kernel
theorem d_HoldQueueLaw_law_463 : decode c_HoldQueueLaw_law 463 = .ok (.iadd, 1) := by decide +kernel
theorem d_HoldQueueLaw_law_464 : decode c_HoldQueueLaw_law 464 = .ok (.iaload, 1) := by decide +kernel
theorem d_HoldQueueLaw_law_465 : decode c_HoldQueueLaw_law 465 = .ok (.invokevirtual 59, 3) := by decide +kernel
theorem d_HoldQueueLaw_law_468 : decode c_HoldQueueLaw_law 468 = .ok (.pop, 1) := by decide +kernel
theorem d_HoldQueueLaw_law_469 : decode c_HoldQueueLaw_law 469 = .ok (.goto 234, 3) := by decide +kernel
theorem d_HoldQueueLaw_law_472 : decode c_HoldQueueLaw_law 472 = .ok (.aload_n 1, 1) := by decide +kernel
theorem d_HoldQueueLaw_law_473 : decode c_HoldQueueLaw_law 473 = .ok (.aload_n 0, 1) := by decide +kernel
theorem d_HoldQueueLaw_law_474 : decode c_HoldQueueLaw_law 474 = .ok (.iload_n 3, 1) := by decide +kernel
theorem d_HoldQueueLaw_law_475 : decode c_HoldQueueLaw_law 475 = .ok (.iconst 1, 1) := by decide +kernel
theorem d_HoldQueueLaw_law_476 : decode c_HoldQueueLaw_law 476 = .ok (.iadd, 1) := by decide +kernel
theorem d_HoldQueueLaw_law_477 : decode c_HoldQueueLaw_law 477 = .ok (.iaload, 1) := by decide +kernel
theorem d_HoldQueueLaw_law_478 : decode c_HoldQueueLaw_law 478 = .ok (.invokevirtual 60, 3) := by decide +kernel
theorem d_HoldQueueLaw_law_481 : decode c_HoldQueueLaw_law 481 = .ok (.pop, 1) := by decide +kernel
theorem d_HoldQueueLaw_law_482 : decode c_HoldQueueLaw_law 482 = .ok (.aload_n 2, 1) := by decide +kernel
theorem d_HoldQueueLaw_law_483 : decode c_HoldQueueLaw_law 483 = .ok (.aload_n 0, 1) := by decide +kernel
theorem d_HoldQueueLaw_law_484 : decode c_HoldQueueLaw_law 484 = .ok (.iload_n 3, 1) := by decide +kernel
theorem d_HoldQueueLaw_law_485 : decode c_HoldQueueLaw_law 485 = .ok (.iconst 1, 1) := by decide +kernel
theorem d_HoldQueueLaw_law_486 : decode c_HoldQueueLaw_law 486 = .ok (.iadd, 1) := by decide +kernel
theorem d_HoldQueueLaw_law_487 : decode c_HoldQueueLaw_law 487 = .ok (.iaload, 1) := by decide +kernel
theorem d_HoldQueueLaw_law_488 : decode c_HoldQueueLaw_law 488 = .ok (.invokevirtual 63, 3) := by decide +kernel
theorem d_HoldQueueLaw_law_491 : decode c_HoldQueueLaw_law 491 = .ok (.pop, 1) := by decide +kernel
theorem d_HoldQueueLaw_law_492 : decode c_HoldQueueLaw_law 492 = .ok (.goto 211, 3) := by decide +kernel
theorem d_HoldQueueLaw_law_495 : decode c_HoldQueueLaw_law 495 = .ok (.aload_n 1, 1) := by decide +kernel
theorem d_HoldQueueLaw_law_496 : decode c_HoldQueueLaw_law 496 = .ok (.aload_n 0, 1) := by decide +kernel
theorem d_HoldQueueLaw_law_497 : decode c_HoldQueueLaw_law 497 = .ok (.iload_n 3, 1) := by decide +kernel
theorem d_HoldQueueLaw_law_498 : decode c_HoldQueueLaw_law 498 = .ok (.iconst 1, 1) := by decide +kernel
theorem d_HoldQueueLaw_law_499 : decode c_HoldQueueLaw_law 499 = .ok (.iadd, 1) := by decide +kernel
theorem d_HoldQueueLaw_law_500 : decode c_HoldQueueLaw_law 500 = .ok (.iaload, 1) := by decide +kernel
theorem d_HoldQueueLaw_law_501 : decode c_HoldQueueLaw_law 501 = .ok (.i2l, 1) := by decide +kernel
theorem d_HoldQueueLaw_law_502 : decode c_HoldQueueLaw_law 502 = .ok (.bipush 32, 2) := by decide +kernel
theorem d_HoldQueueLaw_law_504 : decode c_HoldQueueLaw_law 504 = .ok (.lshl, 1) := by decide +kernel
theorem d_HoldQueueLaw_law_505 : decode c_HoldQueueLaw_law 505 = .ok (.aload_n 0, 1) := by decide +kernel
theorem d_HoldQueueLaw_law_506 : decode c_HoldQueueLaw_law 506 = .ok (.iload_n 3, 1) := by decide +kernel
theorem d_HoldQueueLaw_law_507 : decode c_HoldQueueLaw_law 507 = .ok (.iconst 2, 1) := by decide +kernel
theorem d_HoldQueueLaw_law_508 : decode c_HoldQueueLaw_law 508 = .ok (.iadd, 1) := by decide +kernel
theorem d_HoldQueueLaw_law_509 : decode c_HoldQueueLaw_law 509 = .ok (.iaload, 1) := by decide +kernel
theorem d_HoldQueueLaw_law_510 : decode c_HoldQueueLaw_law 510 = .ok (.i2l, 1) := by decide +kernel
theorem d_HoldQueueLaw_law_511 : decode c_HoldQueueLaw_law 511 = .ok (.ldc2_w 37, 3) := by decide +kernel
theorem d_HoldQueueLaw_law_514 : decode c_HoldQueueLaw_law 514 = .ok (.land, 1) := by decide +kernel
theorem d_HoldQueueLaw_law_515 : decode c_HoldQueueLaw_law 515 = .ok (.lor, 1) := by decide +kernel
theorem d_HoldQueueLaw_law_516 : decode c_HoldQueueLaw_law 516 = .ok (.invokevirtual 64, 3) := by decide +kernel
theorem d_HoldQueueLaw_law_519 : decode c_HoldQueueLaw_law 519 = .ok (.pop, 1) := by decide +kernel
theorem d_HoldQueueLaw_law_520 : decode c_HoldQueueLaw_law 520 = .ok (.aload_n 2, 1) := by decide +kernel
theorem d_HoldQueueLaw_law_521 : decode c_HoldQueueLaw_law 521 = .ok (.aload_n 0, 1) := by decide +kernel
theorem d_HoldQueueLaw_law_522 : decode c_HoldQueueLaw_law 522 = .ok (.iload_n 3, 1) := by decide +kernel
theorem d_HoldQueueLaw_law_523 : decode c_HoldQueueLaw_law 523 = .ok (.iconst 1, 1) := by decide +kernel
theorem d_HoldQueueLaw_law_524 : decode c_HoldQueueLaw_law 524 = .ok (.iadd, 1) := by decide +kernel
theorem d_HoldQueueLaw_law_525 : decode c_HoldQueueLaw_law 525 = .ok (.iaload, 1) := by decide +kernel
theorem d_HoldQueueLaw_law_526 : decode c_HoldQueueLaw_law 526 = .ok (.i2l, 1) := by decide +kernel
theorem d_HoldQueueLaw_law_527 : decode c_HoldQueueLaw_law 527 = .ok (.bipush 32, 2) := by decide +kernel
theorem d_HoldQueueLaw_law_529 : decode c_HoldQueueLaw_law 529 = .ok (.lshl, 1) := by decide +kernel
theorem d_HoldQueueLaw_law_530 : decode c_HoldQueueLaw_law 530 = .ok (.aload_n 0, 1) := by decide +kernel
theorem d_HoldQueueLaw_law_531 : decode c_HoldQueueLaw_law 531 = .ok (.iload_n 3, 1) := by decide +kernel
theorem d_HoldQueueLaw_law_532 : decode c_HoldQueueLaw_law 532 = .ok (.iconst 2, 1) := by decide +kernel
theorem d_HoldQueueLaw_law_533 : decode c_HoldQueueLaw_law 533 = .ok (.iadd, 1) := by decide +kernel
theorem d_HoldQueueLaw_law_534 : decode c_HoldQueueLaw_law 534 = .ok (.iaload, 1) := by decide +kernel
theorem d_HoldQueueLaw_law_535 : decode c_HoldQueueLaw_law 535 = .ok (.i2l, 1) := by decide +kernel
theorem d_HoldQueueLaw_law_536 : decode c_HoldQueueLaw_law 536 = .ok (.ldc2_w 37, 3) := by decide +kernel
theorem d_HoldQueueLaw_law_539 : decode c_HoldQueueLaw_law 539 = .ok (.land, 1) := by decide +kernel
theorem d_HoldQueueLaw_law_540 : decode c_HoldQueueLaw_law 540 = .ok (.lor, 1) := by decide +kernel
theorem d_HoldQueueLaw_law_541 : decode c_HoldQueueLaw_law 541 = .ok (.invokevirtual 68, 3) := by decide +kernel
theorem d_HoldQueueLaw_law_544 : decode c_HoldQueueLaw_law 544 = .ok (.pop, 1) := by decide +kernel
theorem d_HoldQueueLaw_law_545 : decode c_HoldQueueLaw_law 545 = .ok (.goto 158, 3) := by decide +kernel
theorem d_HoldQueueLaw_law_548 : decode c_HoldQueueLaw_law 548 = .ok (.aload_n 1, 1) := by decide +kernel
theorem d_HoldQueueLaw_law_549 : decode c_HoldQueueLaw_law 549 = .ok (.aload_n 0, 1) := by decide +kernel
theorem d_HoldQueueLaw_law_550 : decode c_HoldQueueLaw_law 550 = .ok (.iload_n 3, 1) := by decide +kernel
theorem d_HoldQueueLaw_law_551 : decode c_HoldQueueLaw_law 551 = .ok (.iconst 1, 1) := by decide +kernel
theorem d_HoldQueueLaw_law_552 : decode c_HoldQueueLaw_law 552 = .ok (.iadd, 1) := by decide +kernel
theorem d_HoldQueueLaw_law_553 : decode c_HoldQueueLaw_law 553 = .ok (.iaload, 1) := by decide +kernel
theorem d_HoldQueueLaw_law_554 : decode c_HoldQueueLaw_law 554 = .ok (.invokevirtual 69, 3) := by decide +kernel
theorem d_HoldQueueLaw_law_557 : decode c_HoldQueueLaw_law 557 = .ok (.pop, 1) := by decide +kernel
theorem d_HoldQueueLaw_law_558 : decode c_HoldQueueLaw_law 558 = .ok (.aload_n 2, 1) := by decide +kernel
theorem d_HoldQueueLaw_law_559 : decode c_HoldQueueLaw_law 559 = .ok (.aload_n 0, 1) := by decide +kernel
theorem d_HoldQueueLaw_law_560 : decode c_HoldQueueLaw_law 560 = .ok (.iload_n 3, 1) := by decide +kernel
theorem d_HoldQueueLaw_law_561 : decode c_HoldQueueLaw_law 561 = .ok (.iconst 1, 1) := by decide +kernel
theorem d_HoldQueueLaw_law_562 : decode c_HoldQueueLaw_law 562 = .ok (.iadd, 1) := by decide +kernel
theorem d_HoldQueueLaw_law_563 : decode c_HoldQueueLaw_law 563 = .ok (.iaload, 1) := by decide +kernel
theorem d_HoldQueueLaw_law_564 : decode c_HoldQueueLaw_law 564 = .ok (.invokevirtual 72, 3) := by decide +kernel
theorem d_HoldQueueLaw_law_567 : decode c_HoldQueueLaw_law 567 = .ok (.pop, 1) := by decide +kernel
theorem d_HoldQueueLaw_law_568 : decode c_HoldQueueLaw_law 568 = .ok (.goto 135, 3) := by decide +kernel
theorem d_HoldQueueLaw_law_571 : decode c_HoldQueueLaw_law 571 = .ok (.aload_n 1, 1) := by decide +kernel
theorem d_HoldQueueLaw_law_572 : decode c_HoldQueueLaw_law 572 = .ok (.aload_n 0, 1) := by decide +kernel
theorem d_HoldQueueLaw_law_573 : decode c_HoldQueueLaw_law 573 = .ok (.iload_n 3, 1) := by decide +kernel
theorem d_HoldQueueLaw_law_574 : decode c_HoldQueueLaw_law 574 = .ok (.iconst 1, 1) := by decide +kernel
theorem d_HoldQueueLaw_law_575 : decode c_HoldQueueLaw_law 575 = .ok (.iadd, 1) := by decide +kernel
theorem d_HoldQueueLaw_law_576 : decode c_HoldQueueLaw_law 576 = .ok (.iaload, 1) := by decide +kernel
theorem d_HoldQueueLaw_law_577 : decode c_HoldQueueLaw_law 577 = .ok (.aload_n 0, 1) := by decide +kernel
theorem d_HoldQueueLaw_law_578 : decode c_HoldQueueLaw_law 578 = .ok (.iload_n 3, 1) := by decide +kernel
theorem d_HoldQueueLaw_law_579 : decode c_HoldQueueLaw_law 579 = .ok (.iconst 2, 1) := by decide +kernel
theorem d_HoldQueueLaw_law_580 : decode c_HoldQueueLaw_law 580 = .ok (.iadd, 1) := by decide +kernel
theorem d_HoldQueueLaw_law_581 : decode c_HoldQueueLaw_law 581 = .ok (.iaload, 1) := by decide +kernel
theorem d_HoldQueueLaw_law_582 : decode c_HoldQueueLaw_law 582 = .ok (.invokevirtual 73, 3) := by decide +kernel
theorem d_HoldQueueLaw_law_585 : decode c_HoldQueueLaw_law 585 = .ok (.pop, 1) := by decide +kernel
theorem d_HoldQueueLaw_law_586 : decode c_HoldQueueLaw_law 586 = .ok (.aload_n 2, 1) := by decide +kernel
theorem d_HoldQueueLaw_law_587 : decode c_HoldQueueLaw_law 587 = .ok (.aload_n 0, 1) := by decide +kernel
theorem d_HoldQueueLaw_law_588 : decode c_HoldQueueLaw_law 588 = .ok (.iload_n 3, 1) := by decide +kernel
theorem d_HoldQueueLaw_law_589 : decode c_HoldQueueLaw_law 589 = .ok (.iconst 1, 1) := by decide +kernel
theorem d_HoldQueueLaw_law_590 : decode c_HoldQueueLaw_law 590 = .ok (.iadd, 1) := by decide +kernel
theorem d_HoldQueueLaw_law_591 : decode c_HoldQueueLaw_law 591 = .ok (.iaload, 1) := by decide +kernel
theorem d_HoldQueueLaw_law_592 : decode c_HoldQueueLaw_law 592 = .ok (.aload_n 0, 1) := by decide +kernel
theorem d_HoldQueueLaw_law_593 : decode c_HoldQueueLaw_law 593 = .ok (.iload_n 3, 1) := by decide +kernel
theorem d_HoldQueueLaw_law_594 : decode c_HoldQueueLaw_law 594 = .ok (.iconst 2, 1) := by decide +kernel
theorem d_HoldQueueLaw_law_595 : decode c_HoldQueueLaw_law 595 = .ok (.iadd, 1) := by decide +kernel
theorem d_HoldQueueLaw_law_596 : decode c_HoldQueueLaw_law 596 = .ok (.iaload, 1) := by decide +kernel
theorem d_HoldQueueLaw_law_597 : decode c_HoldQueueLaw_law 597 = .ok (.invokevirtual 76, 3) := by decide +kernel
theorem d_HoldQueueLaw_law_600 : decode c_HoldQueueLaw_law 600 = .ok (.pop, 1) := by decide +kernel
theorem d_HoldQueueLaw_law_601 : decode c_HoldQueueLaw_law 601 = .ok (.goto 102, 3) := by decide +kernel
theorem d_HoldQueueLaw_law_604 : decode c_HoldQueueLaw_law 604 = .ok (.aload_n 1, 1) := by decide +kernel
theorem d_HoldQueueLaw_law_605 : decode c_HoldQueueLaw_law 605 = .ok (.aload_n 0, 1) := by decide +kernel
theorem d_HoldQueueLaw_law_606 : decode c_HoldQueueLaw_law 606 = .ok (.iload_n 3, 1) := by decide +kernel
theorem d_HoldQueueLaw_law_607 : decode c_HoldQueueLaw_law 607 = .ok (.iconst 1, 1) := by decide +kernel
theorem d_HoldQueueLaw_law_608 : decode c_HoldQueueLaw_law 608 = .ok (.iadd, 1) := by decide +kernel
theorem d_HoldQueueLaw_law_609 : decode c_HoldQueueLaw_law 609 = .ok (.iaload, 1) := by decide +kernel
theorem d_HoldQueueLaw_law_610 : decode c_HoldQueueLaw_law 610 = .ok (.aload_n 0, 1) := by decide +kernel
theorem d_HoldQueueLaw_law_611 : decode c_HoldQueueLaw_law 611 = .ok (.iload_n 3, 1) := by decide +kernel
theorem d_HoldQueueLaw_law_612 : decode c_HoldQueueLaw_law 612 = .ok (.iconst 2, 1) := by decide +kernel
theorem d_HoldQueueLaw_law_613 : decode c_HoldQueueLaw_law 613 = .ok (.iadd, 1) := by decide +kernel
theorem d_HoldQueueLaw_law_614 : decode c_HoldQueueLaw_law 614 = .ok (.iaload, 1) := by decide +kernel
theorem d_HoldQueueLaw_law_615 : decode c_HoldQueueLaw_law 615 = .ok (.invokevirtual 77, 3) := by decide +kernel
theorem d_HoldQueueLaw_law_618 : decode c_HoldQueueLaw_law 618 = .ok (.pop, 1) := by decide +kernel
theorem d_HoldQueueLaw_law_619 : decode c_HoldQueueLaw_law 619 = .ok (.aload_n 2, 1) := by decide +kernel
theorem d_HoldQueueLaw_law_620 : decode c_HoldQueueLaw_law 620 = .ok (.aload_n 0, 1) := by decide +kernel
theorem d_HoldQueueLaw_law_621 : decode c_HoldQueueLaw_law 621 = .ok (.iload_n 3, 1) := by decide +kernel
theorem d_HoldQueueLaw_law_622 : decode c_HoldQueueLaw_law 622 = .ok (.iconst 1, 1) := by decide +kernel
theorem d_HoldQueueLaw_law_623 : decode c_HoldQueueLaw_law 623 = .ok (.iadd, 1) := by decide +kernel
theorem d_HoldQueueLaw_law_624 : decode c_HoldQueueLaw_law 624 = .ok (.iaload, 1) := by decide +kernel
theorem d_HoldQueueLaw_law_625 : decode c_HoldQueueLaw_law 625 = .ok (.aload_n 0, 1) := by decide +kernel
theorem d_HoldQueueLaw_law_626 : decode c_HoldQueueLaw_law 626 = .ok (.iload_n 3, 1) := by decide +kernel
theorem d_HoldQueueLaw_law_627 : decode c_HoldQueueLaw_law 627 = .ok (.iconst 2, 1) := by decide +kernel
theorem d_HoldQueueLaw_law_628 : decode c_HoldQueueLaw_law 628 = .ok (.iadd, 1) := by decide +kernel
theorem d_HoldQueueLaw_law_629 : decode c_HoldQueueLaw_law 629 = .ok (.iaload, 1) := by decide +kernel
theorem d_HoldQueueLaw_law_630 : decode c_HoldQueueLaw_law 630 = .ok (.invokevirtual 80, 3) := by decide +kernel
theorem d_HoldQueueLaw_law_633 : decode c_HoldQueueLaw_law 633 = .ok (.pop, 1) := by decide +kernel
theorem d_HoldQueueLaw_law_634 : decode c_HoldQueueLaw_law 634 = .ok (.goto 69, 3) := by decide +kernel
theorem d_HoldQueueLaw_law_637 : decode c_HoldQueueLaw_law 637 = .ok (.aload_n 1, 1) := by decide +kernel
theorem d_HoldQueueLaw_law_638 : decode c_HoldQueueLaw_law 638 = .ok (.aload_n 0, 1) := by decide +kernel
theorem d_HoldQueueLaw_law_639 : decode c_HoldQueueLaw_law 639 = .ok (.iload_n 3, 1) := by decide +kernel
theorem d_HoldQueueLaw_law_640 : decode c_HoldQueueLaw_law 640 = .ok (.iconst 1, 1) := by decide +kernel
theorem d_HoldQueueLaw_law_641 : decode c_HoldQueueLaw_law 641 = .ok (.iadd, 1) := by decide +kernel
theorem d_HoldQueueLaw_law_642 : decode c_HoldQueueLaw_law 642 = .ok (.iaload, 1) := by decide +kernel
theorem d_HoldQueueLaw_law_643 : decode c_HoldQueueLaw_law 643 = .ok (.aload_n 0, 1) := by decide +kernel
theorem d_HoldQueueLaw_law_644 : decode c_HoldQueueLaw_law 644 = .ok (.iload_n 3, 1) := by decide +kernel
theorem d_HoldQueueLaw_law_645 : decode c_HoldQueueLaw_law 645 = .ok (.iconst 2, 1) := by decide +kernel
theorem d_HoldQueueLaw_law_646 : decode c_HoldQueueLaw_law 646 = .ok (.iadd, 1) := by decide +kernel
theorem d_HoldQueueLaw_law_647 : decode c_HoldQueueLaw_law 647 = .ok (.iaload, 1) := by decide +kernel
theorem d_HoldQueueLaw_law_648 : decode c_HoldQueueLaw_law 648 = .ok (.invokevirtual 81, 3) := by decide +kernel
theorem d_HoldQueueLaw_law_651 : decode c_HoldQueueLaw_law 651 = .ok (.pop, 1) := by decide +kernel
theorem d_HoldQueueLaw_law_652 : decode c_HoldQueueLaw_law 652 = .ok (.aload_n 2, 1) := by decide +kernel
theorem d_HoldQueueLaw_law_653 : decode c_HoldQueueLaw_law 653 = .ok (.aload_n 0, 1) := by decide +kernel
theorem d_HoldQueueLaw_law_654 : decode c_HoldQueueLaw_law 654 = .ok (.iload_n 3, 1) := by decide +kernel
theorem d_HoldQueueLaw_law_655 : decode c_HoldQueueLaw_law 655 = .ok (.iconst 1, 1) := by decide +kernel
theorem d_HoldQueueLaw_law_656 : decode c_HoldQueueLaw_law 656 = .ok (.iadd, 1) := by decide +kernel
theorem d_HoldQueueLaw_law_657 : decode c_HoldQueueLaw_law 657 = .ok (.iaload, 1) := by decide +kernel
theorem d_HoldQueueLaw_law_658 : decode c_HoldQueueLaw_law 658 = .ok (.aload_n 0, 1) := by decide +kernel
theorem d_HoldQueueLaw_law_659 : decode c_HoldQueueLaw_law 659 = .ok (.iload_n 3, 1) := by decide +kernel
theorem d_HoldQueueLaw_law_660 : decode c_HoldQueueLaw_law 660 = .ok (.iconst 2, 1) := by decide +kernel
theorem d_HoldQueueLaw_law_661 : decode c_HoldQueueLaw_law 661 = .ok (.iadd, 1) := by decide +kernel
theorem d_HoldQueueLaw_law_662 : decode c_HoldQueueLaw_law 662 = .ok (.iaload, 1) := by decide +kernel
theorem d_HoldQueueLaw_law_663 : decode c_HoldQueueLaw_law 663 = .ok (.invokevirtual 84, 3) := by decide +kernel
theorem d_HoldQueueLaw_law_666 : decode c_HoldQueueLaw_law 666 = .ok (.pop, 1) := by decide +kernel
theorem d_HoldQueueLaw_law_667 : decode c_HoldQueueLaw_law 667 = .ok (.goto 36, 3) := by decide +kernel
theorem d_HoldQueueLaw_law_670 : decode c_HoldQueueLaw_law 670 = .ok (.aload_n 1, 1) := by decide +kernel
theorem d_HoldQueueLaw_law_671 : decode c_HoldQueueLaw_law 671 = .ok (.aload_n 0, 1) := by decide +kernel
theorem d_HoldQueueLaw_law_672 : decode c_HoldQueueLaw_law 672 = .ok (.iload_n 3, 1) := by decide +kernel
theorem d_HoldQueueLaw_law_673 : decode c_HoldQueueLaw_law 673 = .ok (.iconst 1, 1) := by decide +kernel
theorem d_HoldQueueLaw_law_674 : decode c_HoldQueueLaw_law 674 = .ok (.iadd, 1) := by decide +kernel
theorem d_HoldQueueLaw_law_675 : decode c_HoldQueueLaw_law 675 = .ok (.iaload, 1) := by decide +kernel
theorem d_HoldQueueLaw_law_676 : decode c_HoldQueueLaw_law 676 = .ok (.aload_n 0, 1) := by decide +kernel
theorem d_HoldQueueLaw_law_677 : decode c_HoldQueueLaw_law 677 = .ok (.iload_n 3, 1) := by decide +kernel
theorem d_HoldQueueLaw_law_678 : decode c_HoldQueueLaw_law 678 = .ok (.iconst 2, 1) := by decide +kernel
theorem d_HoldQueueLaw_law_679 : decode c_HoldQueueLaw_law 679 = .ok (.iadd, 1) := by decide +kernel
theorem d_HoldQueueLaw_law_680 : decode c_HoldQueueLaw_law 680 = .ok (.iaload, 1) := by decide +kernel
theorem d_HoldQueueLaw_law_681 : decode c_HoldQueueLaw_law 681 = .ok (.invokevirtual 85, 3) := by decide +kernel
theorem d_HoldQueueLaw_law_684 : decode c_HoldQueueLaw_law 684 = .ok (.pop, 1) := by decide +kernel
theorem d_HoldQueueLaw_law_685 : decode c_HoldQueueLaw_law 685 = .ok (.aload_n 2, 1) := by decide +kernel
theorem d_HoldQueueLaw_law_686 : decode c_HoldQueueLaw_law 686 = .ok (.aload_n 0, 1) := by decide +kernel
theorem d_HoldQueueLaw_law_687 : decode c_HoldQueueLaw_law 687 = .ok (.iload_n 3, 1) := by decide +kernel
theorem d_HoldQueueLaw_law_688 : decode c_HoldQueueLaw_law 688 = .ok (.iconst 1, 1) := by decide +kernel
theorem d_HoldQueueLaw_law_689 : decode c_HoldQueueLaw_law 689 = .ok (.iadd, 1) := by decide +kernel
theorem d_HoldQueueLaw_law_690 : decode c_HoldQueueLaw_law 690 = .ok (.iaload, 1) := by decide +kernel
theorem d_HoldQueueLaw_law_691 : decode c_HoldQueueLaw_law 691 = .ok (.aload_n 0, 1) := by decide +kernel
theorem d_HoldQueueLaw_law_692 : decode c_HoldQueueLaw_law 692 = .ok (.iload_n 3, 1) := by decide +kernel
theorem d_HoldQueueLaw_law_693 : decode c_HoldQueueLaw_law 693 = .ok (.iconst 2, 1) := by decide +kernel
theorem d_HoldQueueLaw_law_694 : decode c_HoldQueueLaw_law 694 = .ok (.iadd, 1) := by decide +kernel
theorem d_HoldQueueLaw_law_695 : decode c_HoldQueueLaw_law 695 = .ok (.iaload, 1) := by decide +kernel
theorem d_HoldQueueLaw_law_696 : decode c_HoldQueueLaw_law 696 = .ok (.invokevirtual 88, 3) := by decide +kernel
theorem d_HoldQueueLaw_law_699 : decode c_HoldQueueLaw_law 699 = .ok (.pop, 1) := by decide +kernel
theorem d_HoldQueueLaw_law_700 : decode c_HoldQueueLaw_law 700 = .ok (.goto 3, 3) := by decide +kernel
theorem d_HoldQueueLaw_law_703 : decode c_HoldQueueLaw_law 703 = .ok (.iinc 3 5, 3) := by decide +kernel
theorem d_HoldQueueLaw_law_706 : decode c_HoldQueueLaw_law 706 = .ok (.goto (-688), 3) := by decide +kernel
theorem d_HoldQueueLaw_law_709 : decode c_HoldQueueLaw_law 709 = .ok (.iconst 1, 1) := by decide +kernel
theorem d_HoldQueueLaw_law_710 : decode c_HoldQueueLaw_law 710 = .ok (.ireturn, 1) := by decide +kernel
end
section
theorem gz_in1 {k : Nat} {w : Cond} (h : tables_1_1[k]? = some w) (hn : goodWord w = true) : w ∈ lw_gd := List.mem_filter.mpr ⟨List.mem_append_right _ (List.mem_append_left _ (List.mem_of_getElem? h)), hn⟩
theorem gz_in2 {k : Nat} {w : Cond} (h : tables_1_2[k]? = some w) (hn : goodWord w = true) : w ∈ lw_gd := List.mem_filter.mpr ⟨List.mem_append_right _ (List.mem_append_right _ (List.mem_of_getElem? h)), hn⟩
theorem gz_in0 {k : Nat} {w : Cond} (h : (k2_sels lw_privs)[k]? = some w) (hn : goodWord w = true) : w ∈ lw_gd := List.mem_filter.mpr ⟨List.mem_append_left _ (List.mem_of_getElem? h), hn⟩
theorem wi_0 : (Jvm.Cond.initialized "HoldQueueLaw") ∈ lw_gd := gz_in1 (k := 0) rfl rfl
theorem wi_1 : (Jvm.Cond.initialized "HoldQueue") ∈ lw_gd := gz_in1 (k := 1) rfl rfl
theorem wi_2 : (Jvm.Cond.initialized "HoldQueue$Copies") ∈ lw_gd := gz_in1 (k := 2) rfl rfl
theorem wi_3 : (Jvm.Cond.initialized "HoldQueue$Holds") ∈ lw_gd := gz_in1 (k := 3) rfl rfl
theorem wi_4 : (Jvm.Cond.initialized "java/util/Arrays") ∈ lw_gd := gz_in1 (k := 4) rfl rfl
theorem wi_5 : (Jvm.Cond.initialized "HoldQueueModel") ∈ lw_gd := gz_in1 (k := 5) rfl rfl
theorem wi_6 : (Jvm.Cond.classLink "HoldQueueLaw" (7 : Nat) "HoldQueue") ∈ lw_gd := gz_in1 (k := 6) rfl rfl
theorem wi_7 : (Jvm.Cond.instantiable "HoldQueue" (8 : Nat)) ∈ lw_gd := gz_in1 (k := 7) rfl rfl
theorem wi_8 : (Jvm.Cond.methodLink "HoldQueueLaw" (9 : Nat) ({ cls := "HoldQueue", name := "<init>", desc := "()V" } : Jvm.MethodName)) ∈ lw_gd := gz_in1 (k := 8) rfl rfl
theorem wi_9 : (Jvm.Cond.instanceMethod ({ cls := "HoldQueue", name := "<init>", desc := "()V" } : Jvm.MethodName)) ∈ lw_gd := gz_in1 (k := 9) rfl rfl
theorem wi_10 : (Jvm.Cond.code ({ cls := "HoldQueue", name := "<init>", desc := "()V" } : Jvm.MethodName) prog_1_method_1_code (1 : Nat) (Option.none : Option Jvm.ClassFile.FieldType)) ∈ lw_gd := gz_in1 (k := 10) rfl rfl
theorem wi_11 : (Jvm.Cond.methodLink "HoldQueue" (1 : Nat) ({ cls := "java/lang/Object", name := "<init>", desc := "()V" } : Jvm.MethodName)) ∈ lw_gd := gz_in1 (k := 11) rfl rfl
theorem wi_12 : (Jvm.Cond.instanceMethod ({ cls := "java/lang/Object", name := "<init>", desc := "()V" } : Jvm.MethodName)) ∈ lw_gd := gz_in1 (k := 12) rfl rfl
theorem wi_13 : (Jvm.Cond.code ({ cls := "java/lang/Object", name := "<init>", desc := "()V" } : Jvm.MethodName) object_method_1_code (1 : Nat) (Option.none : Option Jvm.ClassFile.FieldType)) ∈ lw_gd := gz_in1 (k := 13) rfl rfl
theorem wi_14 : (Jvm.Cond.classLink "HoldQueue" (24 : Nat) "HoldQueue$Copies") ∈ lw_gd := gz_in1 (k := 14) rfl rfl
theorem wi_15 : (Jvm.Cond.instantiable "HoldQueue$Copies" (5 : Nat)) ∈ lw_gd := gz_in1 (k := 15) rfl rfl
theorem wi_17 : (Jvm.Cond.instanceMethod ({ cls := "HoldQueue$Copies", name := "<init>", desc := "()V" } : Jvm.MethodName)) ∈ lw_gd := gz_in1 (k := 17) rfl rfl
theorem wi_18 : (Jvm.Cond.code ({ cls := "HoldQueue$Copies", name := "<init>", desc := "()V" } : Jvm.MethodName) prog_2_method_1_code (1 : Nat) (Option.none : Option Jvm.ClassFile.FieldType)) ∈ lw_gd := gz_in1 (k := 18) rfl rfl
theorem wi_19 : (Jvm.Cond.methodLink "HoldQueue$Copies" (3 : Nat) ({ cls := "java/lang/Object", name := "<init>", desc := "()V" } : Jvm.MethodName)) ∈ lw_gd := gz_in1 (k := 19) rfl rfl
theorem wi_20 : (Jvm.Cond.fieldLink "HoldQueue$Copies" (9 : Nat) "HoldQueue$Copies" "count" "I") ∈ lw_gd := gz_in1 (k := 20) rfl rfl
theorem wi_21 : (Jvm.Cond.fieldLink "HoldQueue$Copies" (15 : Nat) "HoldQueue$Copies" "recordOf" "[I") ∈ lw_gd := gz_in1 (k := 21) rfl rfl
theorem wi_23 : (Jvm.Cond.fieldLink "HoldQueue$Copies" (19 : Nat) "HoldQueue$Copies" "placeOf" "[I") ∈ lw_gd := gz_in1 (k := 23) rfl rfl
theorem wi_25 : (Jvm.Cond.fieldLink "HoldQueue$Copies" (22 : Nat) "HoldQueue$Copies" "stateOf" "[I") ∈ lw_gd := gz_in1 (k := 25) rfl rfl
theorem wi_27 : (Jvm.Cond.fieldLink "HoldQueue$Copies" (25 : Nat) "HoldQueue$Copies" "holdOf" "[I") ∈ lw_gd := gz_in1 (k := 27) rfl rfl
theorem wi_29 : (Jvm.Cond.lays "HoldQueue$Copies" "HoldQueue$Copies" "count" "I") ∈ lw_gd := gz_in1 (k := 29) rfl rfl
theorem wi_30 : (Jvm.Cond.soleField "HoldQueue$Copies" "count") ∈ lw_gd := gz_in1 (k := 30) rfl rfl
theorem wi_31 : (Jvm.Cond.laysFinal "HoldQueue$Copies" "HoldQueue$Copies" "recordOf" "[I") ∈ lw_gd := gz_in1 (k := 31) rfl rfl
theorem wi_32 : (Jvm.Cond.soleField "HoldQueue$Copies" "recordOf") ∈ lw_gd := gz_in1 (k := 32) rfl rfl
theorem wi_33 : (Jvm.Cond.laysFinal "HoldQueue$Copies" "HoldQueue$Copies" "placeOf" "[I") ∈ lw_gd := gz_in1 (k := 33) rfl rfl
theorem wi_34 : (Jvm.Cond.soleField "HoldQueue$Copies" "placeOf") ∈ lw_gd := gz_in1 (k := 34) rfl rfl
theorem wi_35 : (Jvm.Cond.laysFinal "HoldQueue$Copies" "HoldQueue$Copies" "stateOf" "[I") ∈ lw_gd := gz_in1 (k := 35) rfl rfl
theorem wi_36 : (Jvm.Cond.soleField "HoldQueue$Copies" "stateOf") ∈ lw_gd := gz_in1 (k := 36) rfl rfl
theorem wi_37 : (Jvm.Cond.laysFinal "HoldQueue$Copies" "HoldQueue$Copies" "holdOf" "[I") ∈ lw_gd := gz_in1 (k := 37) rfl rfl
theorem wi_38 : (Jvm.Cond.soleField "HoldQueue$Copies" "holdOf") ∈ lw_gd := gz_in1 (k := 38) rfl rfl
theorem wi_39 : (Jvm.Cond.superclass "HoldQueue$Copies" "java/lang/Object") ∈ lw_gd := gz_in1 (k := 39) rfl rfl
theorem wi_40 : (Jvm.Cond.arrayClass Jvm.ClassFile.FieldType.int) ∈ lw_gd := gz_in1 (k := 40) rfl rfl
theorem wi_41 : (Jvm.Cond.arrayClass Jvm.ClassFile.FieldType.boolean) ∈ lw_gd := gz_in1 (k := 41) rfl rfl
theorem wi_42 : (Jvm.Cond.classLink "HoldQueue" (31 : Nat) "HoldQueue$Holds") ∈ lw_gd := gz_in1 (k := 42) rfl rfl
theorem wi_43 : (Jvm.Cond.instantiable "HoldQueue$Holds" (9 : Nat)) ∈ lw_gd := gz_in1 (k := 43) rfl rfl
theorem wi_45 : (Jvm.Cond.instanceMethod ({ cls := "HoldQueue$Holds", name := "<init>", desc := "()V" } : Jvm.MethodName)) ∈ lw_gd := gz_in1 (k := 45) rfl rfl
theorem wi_46 : (Jvm.Cond.code ({ cls := "HoldQueue$Holds", name := "<init>", desc := "()V" } : Jvm.MethodName) prog_3_method_1_code (1 : Nat) (Option.none : Option Jvm.ClassFile.FieldType)) ∈ lw_gd := gz_in1 (k := 46) rfl rfl
theorem wi_47 : (Jvm.Cond.methodLink "HoldQueue$Holds" (3 : Nat) ({ cls := "java/lang/Object", name := "<init>", desc := "()V" } : Jvm.MethodName)) ∈ lw_gd := gz_in1 (k := 47) rfl rfl
theorem wi_48 : (Jvm.Cond.fieldLink "HoldQueue$Holds" (9 : Nat) "HoldQueue$Holds" "count" "I") ∈ lw_gd := gz_in1 (k := 48) rfl rfl
theorem wi_50 : (Jvm.Cond.fieldLink "HoldQueue$Holds" (15 : Nat) "HoldQueue$Holds" "personOf" "[I") ∈ lw_gd := gz_in1 (k := 50) rfl rfl
theorem wi_51 : (Jvm.Cond.fieldLink "HoldQueue$Holds" (19 : Nat) "HoldQueue$Holds" "recordOf" "[I") ∈ lw_gd := gz_in1 (k := 51) rfl rfl
theorem wi_52 : (Jvm.Cond.fieldLink "HoldQueue$Holds" (22 : Nat) "HoldQueue$Holds" "placeOf" "[I") ∈ lw_gd := gz_in1 (k := 52) rfl rfl
theorem wi_54 : (Jvm.Cond.fieldLink "HoldQueue$Holds" (25 : Nat) "HoldQueue$Holds" "rankOf" "[I") ∈ lw_gd := gz_in1 (k := 54) rfl rfl
theorem wi_56 : (Jvm.Cond.fieldLink "HoldQueue$Holds" (28 : Nat) "HoldQueue$Holds" "stateOf" "[I") ∈ lw_gd := gz_in1 (k := 56) rfl rfl
theorem wi_58 : (Jvm.Cond.fieldLink "HoldQueue$Holds" (31 : Nat) "HoldQueue$Holds" "copyOf" "[I") ∈ lw_gd := gz_in1 (k := 58) rfl rfl
theorem wi_60 : (Jvm.Cond.fieldLink "HoldQueue$Holds" (34 : Nat) "HoldQueue$Holds" "suspendedUntil" "[J") ∈ lw_gd := gz_in1 (k := 60) rfl rfl
theorem wi_62 : (Jvm.Cond.fieldLink "HoldQueue$Holds" (38 : Nat) "HoldQueue$Holds" "endOf" "[J") ∈ lw_gd := gz_in1 (k := 62) rfl rfl
theorem wi_64 : (Jvm.Cond.lays "HoldQueue$Holds" "HoldQueue$Holds" "count" "I") ∈ lw_gd := gz_in1 (k := 64) rfl rfl
theorem wi_65 : (Jvm.Cond.soleField "HoldQueue$Holds" "count") ∈ lw_gd := gz_in1 (k := 65) rfl rfl
theorem wi_66 : (Jvm.Cond.laysFinal "HoldQueue$Holds" "HoldQueue$Holds" "personOf" "[I") ∈ lw_gd := gz_in1 (k := 66) rfl rfl
theorem wi_67 : (Jvm.Cond.soleField "HoldQueue$Holds" "personOf") ∈ lw_gd := gz_in1 (k := 67) rfl rfl
theorem wi_68 : (Jvm.Cond.laysFinal "HoldQueue$Holds" "HoldQueue$Holds" "recordOf" "[I") ∈ lw_gd := gz_in1 (k := 68) rfl rfl
theorem wi_69 : (Jvm.Cond.soleField "HoldQueue$Holds" "recordOf") ∈ lw_gd := gz_in1 (k := 69) rfl rfl
theorem wi_70 : (Jvm.Cond.laysFinal "HoldQueue$Holds" "HoldQueue$Holds" "placeOf" "[I") ∈ lw_gd := gz_in1 (k := 70) rfl rfl
theorem wi_71 : (Jvm.Cond.soleField "HoldQueue$Holds" "placeOf") ∈ lw_gd := gz_in1 (k := 71) rfl rfl
theorem wi_72 : (Jvm.Cond.laysFinal "HoldQueue$Holds" "HoldQueue$Holds" "rankOf" "[I") ∈ lw_gd := gz_in1 (k := 72) rfl rfl
theorem wi_73 : (Jvm.Cond.soleField "HoldQueue$Holds" "rankOf") ∈ lw_gd := gz_in1 (k := 73) rfl rfl
theorem wi_74 : (Jvm.Cond.laysFinal "HoldQueue$Holds" "HoldQueue$Holds" "stateOf" "[I") ∈ lw_gd := gz_in1 (k := 74) rfl rfl
theorem wi_75 : (Jvm.Cond.soleField "HoldQueue$Holds" "stateOf") ∈ lw_gd := gz_in1 (k := 75) rfl rfl
theorem wi_76 : (Jvm.Cond.laysFinal "HoldQueue$Holds" "HoldQueue$Holds" "copyOf" "[I") ∈ lw_gd := gz_in1 (k := 76) rfl rfl
theorem wi_77 : (Jvm.Cond.soleField "HoldQueue$Holds" "copyOf") ∈ lw_gd := gz_in1 (k := 77) rfl rfl
theorem wi_78 : (Jvm.Cond.laysFinal "HoldQueue$Holds" "HoldQueue$Holds" "suspendedUntil" "[J") ∈ lw_gd := gz_in1 (k := 78) rfl rfl
theorem wi_79 : (Jvm.Cond.soleField "HoldQueue$Holds" "suspendedUntil") ∈ lw_gd := gz_in1 (k := 79) rfl rfl
theorem wi_80 : (Jvm.Cond.laysFinal "HoldQueue$Holds" "HoldQueue$Holds" "endOf" "[J") ∈ lw_gd := gz_in1 (k := 80) rfl rfl
theorem wi_81 : (Jvm.Cond.soleField "HoldQueue$Holds" "endOf") ∈ lw_gd := gz_in1 (k := 81) rfl rfl
theorem wi_82 : (Jvm.Cond.superclass "HoldQueue$Holds" "java/lang/Object") ∈ lw_gd := gz_in1 (k := 82) rfl rfl
theorem wi_83 : (Jvm.Cond.arrayClass Jvm.ClassFile.FieldType.long) ∈ lw_gd := gz_in1 (k := 83) rfl rfl
theorem wi_84 : (Jvm.Cond.methodLink "HoldQueue" (45 : Nat) ({ cls := "java/util/Arrays", name := "fill", desc := "([II)V" } : Jvm.MethodName)) ∈ lw_gd := gz_in1 (k := 84) rfl rfl
theorem wi_85 : (Jvm.Cond.static ({ cls := "java/util/Arrays", name := "fill", desc := "([II)V" } : Jvm.MethodName)) ∈ lw_gd := gz_in1 (k := 85) rfl rfl
theorem wi_86 : (Jvm.Cond.code ({ cls := "java/util/Arrays", name := "fill", desc := "([II)V" } : Jvm.MethodName) prog_6_method_103_code (4 : Nat) (Option.none : Option Jvm.ClassFile.FieldType)) ∈ lw_gd := gz_in1 (k := 86) rfl rfl
theorem wi_87 : (Jvm.Cond.fieldLink "HoldQueue" (9 : Nat) "HoldQueue" "kindOfRecord" "[I") ∈ lw_gd := gz_in1 (k := 87) rfl rfl
theorem wi_88 : (Jvm.Cond.fieldLink "HoldQueue" (13 : Nat) "HoldQueue" "recordCount" "I") ∈ lw_gd := gz_in1 (k := 88) rfl rfl
theorem wi_89 : (Jvm.Cond.fieldLink "HoldQueue" (17 : Nat) "HoldQueue" "barredKind" "[Z") ∈ lw_gd := gz_in1 (k := 89) rfl rfl
theorem wi_90 : (Jvm.Cond.fieldLink "HoldQueue" (21 : Nat) "HoldQueue" "mostOfPerson" "[I") ∈ lw_gd := gz_in1 (k := 90) rfl rfl
theorem wi_91 : (Jvm.Cond.fieldLink "HoldQueue" (27 : Nat) "HoldQueue" "copies" "LHoldQueue$Copies;") ∈ lw_gd := gz_in1 (k := 91) rfl rfl
theorem wi_92 : (Jvm.Cond.fieldLink "HoldQueue" (34 : Nat) "HoldQueue" "holds" "LHoldQueue$Holds;") ∈ lw_gd := gz_in1 (k := 92) rfl rfl
theorem wi_93 : (Jvm.Cond.fieldLink "HoldQueue" (38 : Nat) "HoldQueue" "today" "J") ∈ lw_gd := gz_in1 (k := 93) rfl rfl
theorem wi_94 : (Jvm.Cond.fieldLink "HoldQueue" (42 : Nat) "HoldQueue" "spanDays" "I") ∈ lw_gd := gz_in1 (k := 94) rfl rfl
theorem wi_95 : (Jvm.Cond.laysFinal "HoldQueue" "HoldQueue" "kindOfRecord" "[I") ∈ lw_gd := gz_in1 (k := 95) rfl rfl
theorem wi_96 : (Jvm.Cond.soleField "HoldQueue" "kindOfRecord") ∈ lw_gd := gz_in1 (k := 96) rfl rfl
theorem wi_97 : (Jvm.Cond.lays "HoldQueue" "HoldQueue" "recordCount" "I") ∈ lw_gd := gz_in1 (k := 97) rfl rfl
theorem wi_98 : (Jvm.Cond.soleField "HoldQueue" "recordCount") ∈ lw_gd := gz_in1 (k := 98) rfl rfl
theorem wi_99 : (Jvm.Cond.laysFinal "HoldQueue" "HoldQueue" "barredKind" "[Z") ∈ lw_gd := gz_in1 (k := 99) rfl rfl
theorem wi_100 : (Jvm.Cond.soleField "HoldQueue" "barredKind") ∈ lw_gd := gz_in1 (k := 100) rfl rfl
theorem wi_101 : (Jvm.Cond.laysFinal "HoldQueue" "HoldQueue" "mostOfPerson" "[I") ∈ lw_gd := gz_in1 (k := 101) rfl rfl
theorem wi_102 : (Jvm.Cond.soleField "HoldQueue" "mostOfPerson") ∈ lw_gd := gz_in1 (k := 102) rfl rfl
theorem wi_103 : (Jvm.Cond.laysFinal "HoldQueue" "HoldQueue" "copies" "LHoldQueue$Copies;") ∈ lw_gd := gz_in1 (k := 103) rfl rfl
theorem wi_104 : (Jvm.Cond.soleField "HoldQueue" "copies") ∈ lw_gd := gz_in1 (k := 104) rfl rfl
theorem wi_105 : (Jvm.Cond.laysFinal "HoldQueue" "HoldQueue" "holds" "LHoldQueue$Holds;") ∈ lw_gd := gz_in1 (k := 105) rfl rfl
theorem wi_106 : (Jvm.Cond.soleField "HoldQueue" "holds") ∈ lw_gd := gz_in1 (k := 106) rfl rfl
theorem wi_107 : (Jvm.Cond.lays "HoldQueue" "HoldQueue" "today" "J") ∈ lw_gd := gz_in1 (k := 107) rfl rfl
theorem wi_108 : (Jvm.Cond.soleField "HoldQueue" "today") ∈ lw_gd := gz_in1 (k := 108) rfl rfl
theorem wi_109 : (Jvm.Cond.lays "HoldQueue" "HoldQueue" "spanDays" "I") ∈ lw_gd := gz_in1 (k := 109) rfl rfl
theorem wi_110 : (Jvm.Cond.soleField "HoldQueue" "spanDays") ∈ lw_gd := gz_in1 (k := 110) rfl rfl
theorem wi_111 : (Jvm.Cond.superclass "HoldQueue" "java/lang/Object") ∈ lw_gd := gz_in1 (k := 111) rfl rfl
theorem wi_112 : (Jvm.Cond.methodLink "HoldQueueLaw" (13 : Nat) ({ cls := "HoldQueue", name := "record", desc := "(I)I" } : Jvm.MethodName)) ∈ lw_gd := gz_in1 (k := 112) rfl rfl
theorem wi_113 : (Jvm.Cond.instanceMethod ({ cls := "HoldQueue", name := "record", desc := "(I)I" } : Jvm.MethodName)) ∈ lw_gd := gz_in1 (k := 113) rfl rfl
theorem wi_114 : (Jvm.Cond.selects "HoldQueue" ({ cls := "HoldQueue", name := "record", desc := "(I)I" } : Jvm.MethodName) ({ cls := "HoldQueue", name := "record", desc := "(I)I" } : Jvm.MethodName)) ∈ lw_gd := gz_in1 (k := 114) rfl rfl
theorem wi_115 : (Jvm.Cond.code ({ cls := "HoldQueue", name := "record", desc := "(I)I" } : Jvm.MethodName) prog_1_method_2_code (2 : Nat) (Option.some Jvm.ClassFile.FieldType.int)) ∈ lw_gd := gz_in1 (k := 115) rfl rfl
theorem wi_116 : (Jvm.Cond.methodLink "HoldQueue" (51 : Nat) ({ cls := "HoldQueue", name := "isKind", desc := "(I)Z" } : Jvm.MethodName)) ∈ lw_gd := gz_in1 (k := 116) rfl rfl
theorem wi_117 : (Jvm.Cond.static ({ cls := "HoldQueue", name := "isKind", desc := "(I)Z" } : Jvm.MethodName)) ∈ lw_gd := gz_in1 (k := 117) rfl rfl
theorem wi_118 : (Jvm.Cond.code ({ cls := "HoldQueue", name := "isKind", desc := "(I)Z" } : Jvm.MethodName) prog_1_method_19_code (1 : Nat) (Option.some Jvm.ClassFile.FieldType.boolean)) ∈ lw_gd := gz_in1 (k := 118) rfl rfl
theorem wi_119 : (Jvm.Cond.methodLink "HoldQueueLaw" (18 : Nat) ({ cls := "HoldQueue", name := "copy", desc := "(II)I" } : Jvm.MethodName)) ∈ lw_gd := gz_in1 (k := 119) rfl rfl
theorem wi_120 : (Jvm.Cond.instanceMethod ({ cls := "HoldQueue", name := "copy", desc := "(II)I" } : Jvm.MethodName)) ∈ lw_gd := gz_in1 (k := 120) rfl rfl
theorem wi_121 : (Jvm.Cond.selects "HoldQueue" ({ cls := "HoldQueue", name := "copy", desc := "(II)I" } : Jvm.MethodName) ({ cls := "HoldQueue", name := "copy", desc := "(II)I" } : Jvm.MethodName)) ∈ lw_gd := gz_in1 (k := 121) rfl rfl
theorem wi_122 : (Jvm.Cond.code ({ cls := "HoldQueue", name := "copy", desc := "(II)I" } : Jvm.MethodName) prog_1_method_3_code (3 : Nat) (Option.some Jvm.ClassFile.FieldType.int)) ∈ lw_gd := gz_in1 (k := 122) rfl rfl
theorem wi_123 : (Jvm.Cond.methodLink "HoldQueue" (55 : Nat) ({ cls := "HoldQueue", name := "isRecord", desc := "(I)Z" } : Jvm.MethodName)) ∈ lw_gd := gz_in1 (k := 123) rfl rfl
theorem wi_125 : (Jvm.Cond.instanceMethod ({ cls := "HoldQueue", name := "isRecord", desc := "(I)Z" } : Jvm.MethodName)) ∈ lw_gd := gz_in1 (k := 125) rfl rfl
theorem wi_126 : (Jvm.Cond.code ({ cls := "HoldQueue", name := "isRecord", desc := "(I)Z" } : Jvm.MethodName) prog_1_method_22_code (2 : Nat) (Option.some Jvm.ClassFile.FieldType.boolean)) ∈ lw_gd := gz_in1 (k := 126) rfl rfl
theorem wi_127 : (Jvm.Cond.methodLink "HoldQueue" (58 : Nat) ({ cls := "HoldQueue", name := "isPlace", desc := "(I)Z" } : Jvm.MethodName)) ∈ lw_gd := gz_in1 (k := 127) rfl rfl
theorem wi_128 : (Jvm.Cond.static ({ cls := "HoldQueue", name := "isPlace", desc := "(I)Z" } : Jvm.MethodName)) ∈ lw_gd := gz_in1 (k := 128) rfl rfl
theorem wi_129 : (Jvm.Cond.code ({ cls := "HoldQueue", name := "isPlace", desc := "(I)Z" } : Jvm.MethodName) prog_1_method_21_code (1 : Nat) (Option.some Jvm.ClassFile.FieldType.boolean)) ∈ lw_gd := gz_in1 (k := 129) rfl rfl
theorem wi_132 : (Jvm.Cond.instanceMethod ({ cls := "HoldQueue$Copies", name := "areFull", desc := "()Z" } : Jvm.MethodName)) ∈ lw_gd := gz_in1 (k := 132) rfl rfl
theorem wi_133 : (Jvm.Cond.code ({ cls := "HoldQueue$Copies", name := "areFull", desc := "()Z" } : Jvm.MethodName) prog_2_method_4_code (1 : Nat) (Option.some Jvm.ClassFile.FieldType.boolean)) ∈ lw_gd := gz_in1 (k := 133) rfl rfl
theorem wi_136 : (Jvm.Cond.instanceMethod ({ cls := "HoldQueue$Copies", name := "add", desc := "(II)I" } : Jvm.MethodName)) ∈ lw_gd := gz_in1 (k := 136) rfl rfl
theorem wi_137 : (Jvm.Cond.code ({ cls := "HoldQueue$Copies", name := "add", desc := "(II)I" } : Jvm.MethodName) prog_2_method_5_code (3 : Nat) (Option.some Jvm.ClassFile.FieldType.int)) ∈ lw_gd := gz_in1 (k := 137) rfl rfl
theorem wi_138 : (Jvm.Cond.methodLink "HoldQueueLaw" (23 : Nat) ({ cls := "HoldQueue", name := "bar", desc := "(IZ)Z" } : Jvm.MethodName)) ∈ lw_gd := gz_in1 (k := 138) rfl rfl
theorem wi_139 : (Jvm.Cond.instanceMethod ({ cls := "HoldQueue", name := "bar", desc := "(IZ)Z" } : Jvm.MethodName)) ∈ lw_gd := gz_in1 (k := 139) rfl rfl
theorem wi_140 : (Jvm.Cond.selects "HoldQueue" ({ cls := "HoldQueue", name := "bar", desc := "(IZ)Z" } : Jvm.MethodName) ({ cls := "HoldQueue", name := "bar", desc := "(IZ)Z" } : Jvm.MethodName)) ∈ lw_gd := gz_in1 (k := 140) rfl rfl
theorem wi_141 : (Jvm.Cond.code ({ cls := "HoldQueue", name := "bar", desc := "(IZ)Z" } : Jvm.MethodName) prog_1_method_4_code (4 : Nat) (Option.some Jvm.ClassFile.FieldType.boolean)) ∈ lw_gd := gz_in1 (k := 141) rfl rfl
theorem wi_142 : (Jvm.Cond.methodLink "HoldQueueLaw" (28 : Nat) ({ cls := "HoldQueue", name := "hold", desc := "(IIII)I" } : Jvm.MethodName)) ∈ lw_gd := gz_in1 (k := 142) rfl rfl
theorem wi_143 : (Jvm.Cond.instanceMethod ({ cls := "HoldQueue", name := "hold", desc := "(IIII)I" } : Jvm.MethodName)) ∈ lw_gd := gz_in1 (k := 143) rfl rfl
theorem wi_144 : (Jvm.Cond.selects "HoldQueue" ({ cls := "HoldQueue", name := "hold", desc := "(IIII)I" } : Jvm.MethodName) ({ cls := "HoldQueue", name := "hold", desc := "(IIII)I" } : Jvm.MethodName)) ∈ lw_gd := gz_in1 (k := 144) rfl rfl
theorem wi_145 : (Jvm.Cond.code ({ cls := "HoldQueue", name := "hold", desc := "(IIII)I" } : Jvm.MethodName) prog_1_method_5_code (7 : Nat) (Option.some Jvm.ClassFile.FieldType.int)) ∈ lw_gd := gz_in1 (k := 145) rfl rfl
theorem wi_146 : (Jvm.Cond.methodLink "HoldQueue" (69 : Nat) ({ cls := "HoldQueue", name := "isPerson", desc := "(I)Z" } : Jvm.MethodName)) ∈ lw_gd := gz_in1 (k := 146) rfl rfl
theorem wi_147 : (Jvm.Cond.static ({ cls := "HoldQueue", name := "isPerson", desc := "(I)Z" } : Jvm.MethodName)) ∈ lw_gd := gz_in1 (k := 147) rfl rfl
theorem wi_148 : (Jvm.Cond.code ({ cls := "HoldQueue", name := "isPerson", desc := "(I)Z" } : Jvm.MethodName) prog_1_method_20_code (1 : Nat) (Option.some Jvm.ClassFile.FieldType.boolean)) ∈ lw_gd := gz_in1 (k := 148) rfl rfl
theorem wi_151 : (Jvm.Cond.instanceMethod ({ cls := "HoldQueue$Holds", name := "hasOpen", desc := "(II)Z" } : Jvm.MethodName)) ∈ lw_gd := gz_in1 (k := 151) rfl rfl
theorem wi_152 : (Jvm.Cond.code ({ cls := "HoldQueue$Holds", name := "hasOpen", desc := "(II)Z" } : Jvm.MethodName) prog_3_method_8_code (4 : Nat) (Option.some Jvm.ClassFile.FieldType.boolean)) ∈ lw_gd := gz_in1 (k := 152) rfl rfl
theorem wi_153 : (Jvm.Cond.methodLink "HoldQueue$Holds" (49 : Nat) ({ cls := "HoldQueue$Holds", name := "isOpen", desc := "(I)Z" } : Jvm.MethodName)) ∈ lw_gd := gz_in1 (k := 153) rfl rfl
theorem wi_155 : (Jvm.Cond.instanceMethod ({ cls := "HoldQueue$Holds", name := "isOpen", desc := "(I)Z" } : Jvm.MethodName)) ∈ lw_gd := gz_in1 (k := 155) rfl rfl
theorem wi_156 : (Jvm.Cond.code ({ cls := "HoldQueue$Holds", name := "isOpen", desc := "(I)Z" } : Jvm.MethodName) prog_3_method_4_code (2 : Nat) (Option.some Jvm.ClassFile.FieldType.boolean)) ∈ lw_gd := gz_in1 (k := 156) rfl rfl
theorem wi_157 : (Jvm.Cond.methodLink "HoldQueue$Holds" (45 : Nat) ({ cls := "HoldQueue$Holds", name := "isIn", desc := "(II)Z" } : Jvm.MethodName)) ∈ lw_gd := gz_in1 (k := 157) rfl rfl
theorem wi_159 : (Jvm.Cond.instanceMethod ({ cls := "HoldQueue$Holds", name := "isIn", desc := "(II)Z" } : Jvm.MethodName)) ∈ lw_gd := gz_in1 (k := 159) rfl rfl
theorem wi_160 : (Jvm.Cond.code ({ cls := "HoldQueue$Holds", name := "isIn", desc := "(II)Z" } : Jvm.MethodName) prog_3_method_3_code (3 : Nat) (Option.some Jvm.ClassFile.FieldType.boolean)) ∈ lw_gd := gz_in1 (k := 160) rfl rfl
theorem wi_161 : (Jvm.Cond.methodLink "HoldQueue$Holds" (41 : Nat) ({ cls := "HoldQueue$Holds", name := "has", desc := "(I)Z" } : Jvm.MethodName)) ∈ lw_gd := gz_in1 (k := 161) rfl rfl
theorem wi_163 : (Jvm.Cond.instanceMethod ({ cls := "HoldQueue$Holds", name := "has", desc := "(I)Z" } : Jvm.MethodName)) ∈ lw_gd := gz_in1 (k := 163) rfl rfl
theorem wi_164 : (Jvm.Cond.code ({ cls := "HoldQueue$Holds", name := "has", desc := "(I)Z" } : Jvm.MethodName) prog_3_method_2_code (2 : Nat) (Option.some Jvm.ClassFile.FieldType.boolean)) ∈ lw_gd := gz_in1 (k := 164) rfl rfl
theorem wi_167 : (Jvm.Cond.instanceMethod ({ cls := "HoldQueue$Holds", name := "areFull", desc := "()Z" } : Jvm.MethodName)) ∈ lw_gd := gz_in1 (k := 167) rfl rfl
theorem wi_168 : (Jvm.Cond.code ({ cls := "HoldQueue$Holds", name := "areFull", desc := "()Z" } : Jvm.MethodName) prog_3_method_5_code (1 : Nat) (Option.some Jvm.ClassFile.FieldType.boolean)) ∈ lw_gd := gz_in1 (k := 168) rfl rfl
theorem wi_171 : (Jvm.Cond.instanceMethod ({ cls := "HoldQueue$Holds", name := "countOpen", desc := "(I)I" } : Jvm.MethodName)) ∈ lw_gd := gz_in1 (k := 171) rfl rfl
theorem wi_172 : (Jvm.Cond.code ({ cls := "HoldQueue$Holds", name := "countOpen", desc := "(I)I" } : Jvm.MethodName) prog_3_method_7_code (4 : Nat) (Option.some Jvm.ClassFile.FieldType.int)) ∈ lw_gd := gz_in1 (k := 172) rfl rfl
theorem wi_175 : (Jvm.Cond.instanceMethod ({ cls := "HoldQueue$Holds", name := "add", desc := "(IIII)I" } : Jvm.MethodName)) ∈ lw_gd := gz_in1 (k := 175) rfl rfl
theorem wi_176 : (Jvm.Cond.code ({ cls := "HoldQueue$Holds", name := "add", desc := "(IIII)I" } : Jvm.MethodName) prog_3_method_6_code (5 : Nat) (Option.some Jvm.ClassFile.FieldType.int)) ∈ lw_gd := gz_in1 (k := 176) rfl rfl
theorem wi_179 : (Jvm.Cond.instanceMethod ({ cls := "HoldQueue$Copies", name := "leastFree", desc := "(I)I" } : Jvm.MethodName)) ∈ lw_gd := gz_in1 (k := 179) rfl rfl
theorem wi_180 : (Jvm.Cond.code ({ cls := "HoldQueue$Copies", name := "leastFree", desc := "(I)I" } : Jvm.MethodName) prog_2_method_6_code (3 : Nat) (Option.some Jvm.ClassFile.FieldType.int)) ∈ lw_gd := gz_in1 (k := 180) rfl rfl
theorem wi_181 : (Jvm.Cond.methodLink "HoldQueue" (87 : Nat) ({ cls := "HoldQueue", name := "settle", desc := "(I)I" } : Jvm.MethodName)) ∈ lw_gd := gz_in1 (k := 181) rfl rfl
theorem wi_183 : (Jvm.Cond.instanceMethod ({ cls := "HoldQueue", name := "settle", desc := "(I)I" } : Jvm.MethodName)) ∈ lw_gd := gz_in1 (k := 183) rfl rfl
theorem wi_184 : (Jvm.Cond.code ({ cls := "HoldQueue", name := "settle", desc := "(I)I" } : Jvm.MethodName) prog_1_method_23_code (3 : Nat) (Option.some Jvm.ClassFile.FieldType.int)) ∈ lw_gd := gz_in1 (k := 184) rfl rfl
theorem wi_187 : (Jvm.Cond.instanceMethod ({ cls := "HoldQueue$Holds", name := "firstFitting", desc := "(IJ)I" } : Jvm.MethodName)) ∈ lw_gd := gz_in1 (k := 187) rfl rfl
theorem wi_188 : (Jvm.Cond.code ({ cls := "HoldQueue$Holds", name := "firstFitting", desc := "(IJ)I" } : Jvm.MethodName) prog_3_method_11_code (6 : Nat) (Option.some Jvm.ClassFile.FieldType.int)) ∈ lw_gd := gz_in1 (k := 188) rfl rfl
theorem wi_189 : (Jvm.Cond.methodLink "HoldQueue$Holds" (52 : Nat) ({ cls := "HoldQueue$Holds", name := "isQueued", desc := "(II)Z" } : Jvm.MethodName)) ∈ lw_gd := gz_in1 (k := 189) rfl rfl
theorem wi_191 : (Jvm.Cond.instanceMethod ({ cls := "HoldQueue$Holds", name := "isQueued", desc := "(II)Z" } : Jvm.MethodName)) ∈ lw_gd := gz_in1 (k := 191) rfl rfl
theorem wi_192 : (Jvm.Cond.code ({ cls := "HoldQueue$Holds", name := "isQueued", desc := "(II)Z" } : Jvm.MethodName) prog_3_method_9_code (3 : Nat) (Option.some Jvm.ClassFile.FieldType.boolean)) ∈ lw_gd := gz_in1 (k := 192) rfl rfl
theorem wi_193 : (Jvm.Cond.methodLink "HoldQueue$Holds" (55 : Nat) ({ cls := "HoldQueue$Holds", name := "comesBefore", desc := "(II)Z" } : Jvm.MethodName)) ∈ lw_gd := gz_in1 (k := 193) rfl rfl
theorem wi_195 : (Jvm.Cond.instanceMethod ({ cls := "HoldQueue$Holds", name := "comesBefore", desc := "(II)Z" } : Jvm.MethodName)) ∈ lw_gd := gz_in1 (k := 195) rfl rfl
theorem wi_196 : (Jvm.Cond.code ({ cls := "HoldQueue$Holds", name := "comesBefore", desc := "(II)Z" } : Jvm.MethodName) prog_3_method_10_code (3 : Nat) (Option.some Jvm.ClassFile.FieldType.boolean)) ∈ lw_gd := gz_in1 (k := 196) rfl rfl
theorem wi_197 : (Jvm.Cond.methodLink "HoldQueue" (104 : Nat) ({ cls := "HoldQueue", name := "layReady", desc := "(II)V" } : Jvm.MethodName)) ∈ lw_gd := gz_in1 (k := 197) rfl rfl
theorem wi_199 : (Jvm.Cond.instanceMethod ({ cls := "HoldQueue", name := "layReady", desc := "(II)V" } : Jvm.MethodName)) ∈ lw_gd := gz_in1 (k := 199) rfl rfl
theorem wi_200 : (Jvm.Cond.code ({ cls := "HoldQueue", name := "layReady", desc := "(II)V" } : Jvm.MethodName) prog_1_method_24_code (3 : Nat) (Option.none : Option Jvm.ClassFile.FieldType)) ∈ lw_gd := gz_in1 (k := 200) rfl rfl
theorem wi_201 : (Jvm.Cond.methodLink "HoldQueue" (154 : Nat) ({ cls := "HoldQueue", name := "send", desc := "(II)V" } : Jvm.MethodName)) ∈ lw_gd := gz_in1 (k := 201) rfl rfl
theorem wi_203 : (Jvm.Cond.instanceMethod ({ cls := "HoldQueue", name := "send", desc := "(II)V" } : Jvm.MethodName)) ∈ lw_gd := gz_in1 (k := 203) rfl rfl
theorem wi_204 : (Jvm.Cond.code ({ cls := "HoldQueue", name := "send", desc := "(II)V" } : Jvm.MethodName) prog_1_method_25_code (3 : Nat) (Option.none : Option Jvm.ClassFile.FieldType)) ∈ lw_gd := gz_in1 (k := 204) rfl rfl
theorem wi_205 : (Jvm.Cond.methodLink "HoldQueueLaw" (33 : Nat) ({ cls := "HoldQueue", name := "most", desc := "(II)I" } : Jvm.MethodName)) ∈ lw_gd := gz_in1 (k := 205) rfl rfl
theorem wi_206 : (Jvm.Cond.instanceMethod ({ cls := "HoldQueue", name := "most", desc := "(II)I" } : Jvm.MethodName)) ∈ lw_gd := gz_in1 (k := 206) rfl rfl
theorem wi_207 : (Jvm.Cond.selects "HoldQueue" ({ cls := "HoldQueue", name := "most", desc := "(II)I" } : Jvm.MethodName) ({ cls := "HoldQueue", name := "most", desc := "(II)I" } : Jvm.MethodName)) ∈ lw_gd := gz_in1 (k := 207) rfl rfl
theorem wi_208 : (Jvm.Cond.code ({ cls := "HoldQueue", name := "most", desc := "(II)I" } : Jvm.MethodName) prog_1_method_6_code (4 : Nat) (Option.some Jvm.ClassFile.FieldType.int)) ∈ lw_gd := gz_in1 (k := 208) rfl rfl
theorem wi_209 : (Jvm.Cond.methodLink "HoldQueueLaw" (39 : Nat) ({ cls := "HoldQueue", name := "suspend", desc := "(IJ)I" } : Jvm.MethodName)) ∈ lw_gd := gz_in1 (k := 209) rfl rfl
theorem wi_210 : (Jvm.Cond.instanceMethod ({ cls := "HoldQueue", name := "suspend", desc := "(IJ)I" } : Jvm.MethodName)) ∈ lw_gd := gz_in1 (k := 210) rfl rfl
theorem wi_211 : (Jvm.Cond.selects "HoldQueue" ({ cls := "HoldQueue", name := "suspend", desc := "(IJ)I" } : Jvm.MethodName) ({ cls := "HoldQueue", name := "suspend", desc := "(IJ)I" } : Jvm.MethodName)) ∈ lw_gd := gz_in1 (k := 211) rfl rfl
theorem wi_212 : (Jvm.Cond.code ({ cls := "HoldQueue", name := "suspend", desc := "(IJ)I" } : Jvm.MethodName) prog_1_method_7_code (4 : Nat) (Option.some Jvm.ClassFile.FieldType.int)) ∈ lw_gd := gz_in1 (k := 212) rfl rfl
theorem wi_214 : (Jvm.Cond.methodLink "HoldQueueLaw" (44 : Nat) ({ cls := "HoldQueue", name := "back", desc := "(II)I" } : Jvm.MethodName)) ∈ lw_gd := gz_in1 (k := 214) rfl rfl
theorem wi_215 : (Jvm.Cond.instanceMethod ({ cls := "HoldQueue", name := "back", desc := "(II)I" } : Jvm.MethodName)) ∈ lw_gd := gz_in1 (k := 215) rfl rfl
theorem wi_216 : (Jvm.Cond.selects "HoldQueue" ({ cls := "HoldQueue", name := "back", desc := "(II)I" } : Jvm.MethodName) ({ cls := "HoldQueue", name := "back", desc := "(II)I" } : Jvm.MethodName)) ∈ lw_gd := gz_in1 (k := 216) rfl rfl
theorem wi_217 : (Jvm.Cond.code ({ cls := "HoldQueue", name := "back", desc := "(II)I" } : Jvm.MethodName) prog_1_method_8_code (3 : Nat) (Option.some Jvm.ClassFile.FieldType.int)) ∈ lw_gd := gz_in1 (k := 217) rfl rfl
theorem wi_220 : (Jvm.Cond.instanceMethod ({ cls := "HoldQueue$Copies", name := "isIn", desc := "(II)Z" } : Jvm.MethodName)) ∈ lw_gd := gz_in1 (k := 220) rfl rfl
theorem wi_221 : (Jvm.Cond.code ({ cls := "HoldQueue$Copies", name := "isIn", desc := "(II)Z" } : Jvm.MethodName) prog_2_method_3_code (3 : Nat) (Option.some Jvm.ClassFile.FieldType.boolean)) ∈ lw_gd := gz_in1 (k := 221) rfl rfl
theorem wi_222 : (Jvm.Cond.methodLink "HoldQueue$Copies" (28 : Nat) ({ cls := "HoldQueue$Copies", name := "has", desc := "(I)Z" } : Jvm.MethodName)) ∈ lw_gd := gz_in1 (k := 222) rfl rfl
theorem wi_224 : (Jvm.Cond.instanceMethod ({ cls := "HoldQueue$Copies", name := "has", desc := "(I)Z" } : Jvm.MethodName)) ∈ lw_gd := gz_in1 (k := 224) rfl rfl
theorem wi_225 : (Jvm.Cond.code ({ cls := "HoldQueue$Copies", name := "has", desc := "(I)Z" } : Jvm.MethodName) prog_2_method_2_code (2 : Nat) (Option.some Jvm.ClassFile.FieldType.boolean)) ∈ lw_gd := gz_in1 (k := 225) rfl rfl
theorem wi_226 : (Jvm.Cond.methodLink "HoldQueueLaw" (48 : Nat) ({ cls := "HoldQueue", name := "arrive", desc := "(I)I" } : Jvm.MethodName)) ∈ lw_gd := gz_in1 (k := 226) rfl rfl
theorem wi_227 : (Jvm.Cond.instanceMethod ({ cls := "HoldQueue", name := "arrive", desc := "(I)I" } : Jvm.MethodName)) ∈ lw_gd := gz_in1 (k := 227) rfl rfl
theorem wi_228 : (Jvm.Cond.selects "HoldQueue" ({ cls := "HoldQueue", name := "arrive", desc := "(I)I" } : Jvm.MethodName) ({ cls := "HoldQueue", name := "arrive", desc := "(I)I" } : Jvm.MethodName)) ∈ lw_gd := gz_in1 (k := 228) rfl rfl
theorem wi_229 : (Jvm.Cond.code ({ cls := "HoldQueue", name := "arrive", desc := "(I)I" } : Jvm.MethodName) prog_1_method_9_code (3 : Nat) (Option.some Jvm.ClassFile.FieldType.int)) ∈ lw_gd := gz_in1 (k := 229) rfl rfl
theorem wi_230 : (Jvm.Cond.methodLink "HoldQueue" (108 : Nat) ({ cls := "HoldQueue", name := "untie", desc := "(II)V" } : Jvm.MethodName)) ∈ lw_gd := gz_in1 (k := 230) rfl rfl
theorem wi_232 : (Jvm.Cond.instanceMethod ({ cls := "HoldQueue", name := "untie", desc := "(II)V" } : Jvm.MethodName)) ∈ lw_gd := gz_in1 (k := 232) rfl rfl
theorem wi_233 : (Jvm.Cond.code ({ cls := "HoldQueue", name := "untie", desc := "(II)V" } : Jvm.MethodName) prog_1_method_26_code (3 : Nat) (Option.none : Option Jvm.ClassFile.FieldType)) ∈ lw_gd := gz_in1 (k := 233) rfl rfl
theorem wi_234 : (Jvm.Cond.methodLink "HoldQueueLaw" (52 : Nat) ({ cls := "HoldQueue", name := "pick", desc := "(I)I" } : Jvm.MethodName)) ∈ lw_gd := gz_in1 (k := 234) rfl rfl
theorem wi_235 : (Jvm.Cond.instanceMethod ({ cls := "HoldQueue", name := "pick", desc := "(I)I" } : Jvm.MethodName)) ∈ lw_gd := gz_in1 (k := 235) rfl rfl
theorem wi_236 : (Jvm.Cond.selects "HoldQueue" ({ cls := "HoldQueue", name := "pick", desc := "(I)I" } : Jvm.MethodName) ({ cls := "HoldQueue", name := "pick", desc := "(I)I" } : Jvm.MethodName)) ∈ lw_gd := gz_in1 (k := 236) rfl rfl
theorem wi_237 : (Jvm.Cond.code ({ cls := "HoldQueue", name := "pick", desc := "(I)I" } : Jvm.MethodName) prog_1_method_10_code (3 : Nat) (Option.some Jvm.ClassFile.FieldType.int)) ∈ lw_gd := gz_in1 (k := 237) rfl rfl
theorem wi_238 : (Jvm.Cond.methodLink "HoldQueueLaw" (56 : Nat) ({ cls := "HoldQueue", name := "lend", desc := "(I)I" } : Jvm.MethodName)) ∈ lw_gd := gz_in1 (k := 238) rfl rfl
theorem wi_239 : (Jvm.Cond.instanceMethod ({ cls := "HoldQueue", name := "lend", desc := "(I)I" } : Jvm.MethodName)) ∈ lw_gd := gz_in1 (k := 239) rfl rfl
theorem wi_240 : (Jvm.Cond.selects "HoldQueue" ({ cls := "HoldQueue", name := "lend", desc := "(I)I" } : Jvm.MethodName) ({ cls := "HoldQueue", name := "lend", desc := "(I)I" } : Jvm.MethodName)) ∈ lw_gd := gz_in2 (k := 0) rfl rfl
theorem wi_241 : (Jvm.Cond.code ({ cls := "HoldQueue", name := "lend", desc := "(I)I" } : Jvm.MethodName) prog_1_method_11_code (2 : Nat) (Option.some Jvm.ClassFile.FieldType.int)) ∈ lw_gd := gz_in2 (k := 1) rfl rfl
theorem wi_242 : (Jvm.Cond.methodLink "HoldQueueLaw" (60 : Nat) ({ cls := "HoldQueue", name := "cancel", desc := "(I)I" } : Jvm.MethodName)) ∈ lw_gd := gz_in2 (k := 2) rfl rfl
theorem wi_243 : (Jvm.Cond.instanceMethod ({ cls := "HoldQueue", name := "cancel", desc := "(I)I" } : Jvm.MethodName)) ∈ lw_gd := gz_in2 (k := 3) rfl rfl
theorem wi_244 : (Jvm.Cond.selects "HoldQueue" ({ cls := "HoldQueue", name := "cancel", desc := "(I)I" } : Jvm.MethodName) ({ cls := "HoldQueue", name := "cancel", desc := "(I)I" } : Jvm.MethodName)) ∈ lw_gd := gz_in2 (k := 4) rfl rfl
theorem wi_245 : (Jvm.Cond.code ({ cls := "HoldQueue", name := "cancel", desc := "(I)I" } : Jvm.MethodName) prog_1_method_12_code (3 : Nat) (Option.some Jvm.ClassFile.FieldType.int)) ∈ lw_gd := gz_in2 (k := 5) rfl rfl
theorem wi_247 : (Jvm.Cond.methodLink "HoldQueue" (121 : Nat) ({ cls := "HoldQueue", name := "letGo", desc := "(I)V" } : Jvm.MethodName)) ∈ lw_gd := gz_in2 (k := 7) rfl rfl
theorem wi_249 : (Jvm.Cond.instanceMethod ({ cls := "HoldQueue", name := "letGo", desc := "(I)V" } : Jvm.MethodName)) ∈ lw_gd := gz_in2 (k := 9) rfl rfl
theorem wi_250 : (Jvm.Cond.code ({ cls := "HoldQueue", name := "letGo", desc := "(I)V" } : Jvm.MethodName) prog_1_method_27_code (3 : Nat) (Option.none : Option Jvm.ClassFile.FieldType)) ∈ lw_gd := gz_in2 (k := 10) rfl rfl
theorem wi_251 : (Jvm.Cond.methodLink "HoldQueueLaw" (64 : Nat) ({ cls := "HoldQueue", name := "tick", desc := "(J)I" } : Jvm.MethodName)) ∈ lw_gd := gz_in2 (k := 11) rfl rfl
theorem wi_252 : (Jvm.Cond.instanceMethod ({ cls := "HoldQueue", name := "tick", desc := "(J)I" } : Jvm.MethodName)) ∈ lw_gd := gz_in2 (k := 12) rfl rfl
theorem wi_253 : (Jvm.Cond.selects "HoldQueue" ({ cls := "HoldQueue", name := "tick", desc := "(J)I" } : Jvm.MethodName) ({ cls := "HoldQueue", name := "tick", desc := "(J)I" } : Jvm.MethodName)) ∈ lw_gd := gz_in2 (k := 13) rfl rfl
theorem wi_254 : (Jvm.Cond.code ({ cls := "HoldQueue", name := "tick", desc := "(J)I" } : Jvm.MethodName) prog_1_method_13_code (5 : Nat) (Option.some Jvm.ClassFile.FieldType.int)) ∈ lw_gd := gz_in2 (k := 14) rfl rfl
theorem wi_255 : (Jvm.Cond.constantLong "HoldQueue" (125 : Nat) (1000000000 : Int64)) ∈ lw_gd := gz_in2 (k := 15) rfl rfl
theorem wi_256 : (Jvm.Cond.methodLink "HoldQueueLaw" (69 : Nat) ({ cls := "HoldQueue", name := "span", desc := "(I)I" } : Jvm.MethodName)) ∈ lw_gd := gz_in2 (k := 16) rfl rfl
theorem wi_257 : (Jvm.Cond.instanceMethod ({ cls := "HoldQueue", name := "span", desc := "(I)I" } : Jvm.MethodName)) ∈ lw_gd := gz_in2 (k := 17) rfl rfl
theorem wi_258 : (Jvm.Cond.selects "HoldQueue" ({ cls := "HoldQueue", name := "span", desc := "(I)I" } : Jvm.MethodName) ({ cls := "HoldQueue", name := "span", desc := "(I)I" } : Jvm.MethodName)) ∈ lw_gd := gz_in2 (k := 18) rfl rfl
theorem wi_259 : (Jvm.Cond.code ({ cls := "HoldQueue", name := "span", desc := "(I)I" } : Jvm.MethodName) prog_1_method_14_code (3 : Nat) (Option.some Jvm.ClassFile.FieldType.int)) ∈ lw_gd := gz_in2 (k := 19) rfl rfl
theorem wi_260 : (Jvm.Cond.methodLink "HoldQueueLaw" (73 : Nat) ({ cls := "HoldQueue", name := "rank", desc := "(II)I" } : Jvm.MethodName)) ∈ lw_gd := gz_in2 (k := 20) rfl rfl
theorem wi_261 : (Jvm.Cond.instanceMethod ({ cls := "HoldQueue", name := "rank", desc := "(II)I" } : Jvm.MethodName)) ∈ lw_gd := gz_in2 (k := 21) rfl rfl
theorem wi_262 : (Jvm.Cond.selects "HoldQueue" ({ cls := "HoldQueue", name := "rank", desc := "(II)I" } : Jvm.MethodName) ({ cls := "HoldQueue", name := "rank", desc := "(II)I" } : Jvm.MethodName)) ∈ lw_gd := gz_in2 (k := 22) rfl rfl
theorem wi_263 : (Jvm.Cond.code ({ cls := "HoldQueue", name := "rank", desc := "(II)I" } : Jvm.MethodName) prog_1_method_15_code (3 : Nat) (Option.some Jvm.ClassFile.FieldType.int)) ∈ lw_gd := gz_in2 (k := 23) rfl rfl
theorem wi_266 : (Jvm.Cond.instanceMethod ({ cls := "HoldQueue$Holds", name := "placeInQueue", desc := "(I)I" } : Jvm.MethodName)) ∈ lw_gd := gz_in2 (k := 26) rfl rfl
theorem wi_267 : (Jvm.Cond.code ({ cls := "HoldQueue$Holds", name := "placeInQueue", desc := "(I)I" } : Jvm.MethodName) prog_3_method_12_code (4 : Nat) (Option.some Jvm.ClassFile.FieldType.int)) ∈ lw_gd := gz_in2 (k := 27) rfl rfl
theorem wi_268 : (Jvm.Cond.methodLink "HoldQueueLaw" (77 : Nat) ({ cls := "HoldQueue", name := "order", desc := "(II)I" } : Jvm.MethodName)) ∈ lw_gd := gz_in2 (k := 28) rfl rfl
theorem wi_269 : (Jvm.Cond.instanceMethod ({ cls := "HoldQueue", name := "order", desc := "(II)I" } : Jvm.MethodName)) ∈ lw_gd := gz_in2 (k := 29) rfl rfl
theorem wi_270 : (Jvm.Cond.selects "HoldQueue" ({ cls := "HoldQueue", name := "order", desc := "(II)I" } : Jvm.MethodName) ({ cls := "HoldQueue", name := "order", desc := "(II)I" } : Jvm.MethodName)) ∈ lw_gd := gz_in2 (k := 30) rfl rfl
theorem wi_271 : (Jvm.Cond.code ({ cls := "HoldQueue", name := "order", desc := "(II)I" } : Jvm.MethodName) prog_1_method_16_code (3 : Nat) (Option.some Jvm.ClassFile.FieldType.int)) ∈ lw_gd := gz_in2 (k := 31) rfl rfl
theorem wi_274 : (Jvm.Cond.instanceMethod ({ cls := "HoldQueue$Holds", name := "atPlaceInQueue", desc := "(II)I" } : Jvm.MethodName)) ∈ lw_gd := gz_in2 (k := 34) rfl rfl
theorem wi_275 : (Jvm.Cond.code ({ cls := "HoldQueue$Holds", name := "atPlaceInQueue", desc := "(II)I" } : Jvm.MethodName) prog_3_method_13_code (4 : Nat) (Option.some Jvm.ClassFile.FieldType.int)) ∈ lw_gd := gz_in2 (k := 35) rfl rfl
theorem wi_276 : (Jvm.Cond.methodLink "HoldQueue$Holds" (58 : Nat) ({ cls := "HoldQueue$Holds", name := "placeInQueue", desc := "(I)I" } : Jvm.MethodName)) ∈ lw_gd := gz_in2 (k := 36) rfl rfl
theorem wi_277 : (Jvm.Cond.methodLink "HoldQueueLaw" (81 : Nat) ({ cls := "HoldQueue", name := "state", desc := "(II)I" } : Jvm.MethodName)) ∈ lw_gd := gz_in2 (k := 37) rfl rfl
theorem wi_278 : (Jvm.Cond.instanceMethod ({ cls := "HoldQueue", name := "state", desc := "(II)I" } : Jvm.MethodName)) ∈ lw_gd := gz_in2 (k := 38) rfl rfl
theorem wi_279 : (Jvm.Cond.selects "HoldQueue" ({ cls := "HoldQueue", name := "state", desc := "(II)I" } : Jvm.MethodName) ({ cls := "HoldQueue", name := "state", desc := "(II)I" } : Jvm.MethodName)) ∈ lw_gd := gz_in2 (k := 39) rfl rfl
theorem wi_280 : (Jvm.Cond.code ({ cls := "HoldQueue", name := "state", desc := "(II)I" } : Jvm.MethodName) prog_1_method_17_code (3 : Nat) (Option.some Jvm.ClassFile.FieldType.int)) ∈ lw_gd := gz_in2 (k := 40) rfl rfl
theorem wi_282 : (Jvm.Cond.methodLink "HoldQueueLaw" (85 : Nat) ({ cls := "HoldQueue", name := "where", desc := "(II)I" } : Jvm.MethodName)) ∈ lw_gd := gz_in2 (k := 42) rfl rfl
theorem wi_283 : (Jvm.Cond.instanceMethod ({ cls := "HoldQueue", name := "where", desc := "(II)I" } : Jvm.MethodName)) ∈ lw_gd := gz_in2 (k := 43) rfl rfl
theorem wi_284 : (Jvm.Cond.selects "HoldQueue" ({ cls := "HoldQueue", name := "where", desc := "(II)I" } : Jvm.MethodName) ({ cls := "HoldQueue", name := "where", desc := "(II)I" } : Jvm.MethodName)) ∈ lw_gd := gz_in2 (k := 44) rfl rfl
theorem wi_285 : (Jvm.Cond.code ({ cls := "HoldQueue", name := "where", desc := "(II)I" } : Jvm.MethodName) prog_1_method_18_code (3 : Nat) (Option.some Jvm.ClassFile.FieldType.int)) ∈ lw_gd := gz_in2 (k := 45) rfl rfl
theorem wi_287 : (Jvm.Cond.classLink "HoldQueueLaw" (10 : Nat) "HoldQueueModel") ∈ lw_gd := gz_in2 (k := 47) rfl rfl
theorem wi_288 : (Jvm.Cond.instantiable "HoldQueueModel" (21 : Nat)) ∈ lw_gd := gz_in2 (k := 48) rfl rfl
theorem wi_289 : (Jvm.Cond.methodLink "HoldQueueLaw" (12 : Nat) ({ cls := "HoldQueueModel", name := "<init>", desc := "()V" } : Jvm.MethodName)) ∈ lw_gd := gz_in2 (k := 49) rfl rfl
theorem wi_290 : (Jvm.Cond.instanceMethod ({ cls := "HoldQueueModel", name := "<init>", desc := "()V" } : Jvm.MethodName)) ∈ lw_gd := gz_in2 (k := 50) rfl rfl
theorem wi_291 : (Jvm.Cond.code ({ cls := "HoldQueueModel", name := "<init>", desc := "()V" } : Jvm.MethodName) prog_5_method_1_code (2 : Nat) (Option.none : Option Jvm.ClassFile.FieldType)) ∈ lw_gd := gz_in2 (k := 51) rfl rfl
theorem wi_292 : (Jvm.Cond.methodLink "HoldQueueModel" (1 : Nat) ({ cls := "java/lang/Object", name := "<init>", desc := "()V" } : Jvm.MethodName)) ∈ lw_gd := gz_in2 (k := 52) rfl rfl
theorem wi_293 : (Jvm.Cond.fieldLink "HoldQueueModel" (61 : Nat) "HoldQueueModel" "thrown" "I") ∈ lw_gd := gz_in2 (k := 53) rfl rfl
theorem wi_294 : (Jvm.Cond.fieldLink "HoldQueueModel" (68 : Nat) "HoldQueueModel" "records" "I") ∈ lw_gd := gz_in2 (k := 54) rfl rfl
theorem wi_295 : (Jvm.Cond.fieldLink "HoldQueueModel" (71 : Nat) "HoldQueueModel" "copies" "I") ∈ lw_gd := gz_in2 (k := 55) rfl rfl
theorem wi_296 : (Jvm.Cond.fieldLink "HoldQueueModel" (74 : Nat) "HoldQueueModel" "holds" "I") ∈ lw_gd := gz_in2 (k := 56) rfl rfl
theorem wi_297 : (Jvm.Cond.fieldLink "HoldQueueModel" (7 : Nat) "HoldQueueModel" "kindOf" "[I") ∈ lw_gd := gz_in2 (k := 57) rfl rfl
theorem wi_298 : (Jvm.Cond.fieldLink "HoldQueueModel" (13 : Nat) "HoldQueueModel" "barred" "[Z") ∈ lw_gd := gz_in2 (k := 58) rfl rfl
theorem wi_299 : (Jvm.Cond.fieldLink "HoldQueueModel" (17 : Nat) "HoldQueueModel" "most" "[I") ∈ lw_gd := gz_in2 (k := 59) rfl rfl
theorem wi_300 : (Jvm.Cond.fieldLink "HoldQueueModel" (81 : Nat) "HoldQueueModel" "today" "J") ∈ lw_gd := gz_in2 (k := 60) rfl rfl
theorem wi_301 : (Jvm.Cond.fieldLink "HoldQueueModel" (20 : Nat) "HoldQueueModel" "span" "I") ∈ lw_gd := gz_in2 (k := 61) rfl rfl
theorem wi_302 : (Jvm.Cond.fieldLink "HoldQueueModel" (24 : Nat) "HoldQueueModel" "recordOf" "[I") ∈ lw_gd := gz_in2 (k := 62) rfl rfl
theorem wi_303 : (Jvm.Cond.fieldLink "HoldQueueModel" (27 : Nat) "HoldQueueModel" "copyState" "[I") ∈ lw_gd := gz_in2 (k := 63) rfl rfl
theorem wi_304 : (Jvm.Cond.fieldLink "HoldQueueModel" (30 : Nat) "HoldQueueModel" "copyPlace" "[I") ∈ lw_gd := gz_in2 (k := 64) rfl rfl
theorem wi_305 : (Jvm.Cond.fieldLink "HoldQueueModel" (33 : Nat) "HoldQueueModel" "copyHold" "[I") ∈ lw_gd := gz_in2 (k := 65) rfl rfl
theorem wi_306 : (Jvm.Cond.fieldLink "HoldQueueModel" (36 : Nat) "HoldQueueModel" "person" "[I") ∈ lw_gd := gz_in2 (k := 66) rfl rfl
theorem wi_307 : (Jvm.Cond.fieldLink "HoldQueueModel" (39 : Nat) "HoldQueueModel" "record" "[I") ∈ lw_gd := gz_in2 (k := 67) rfl rfl
theorem wi_308 : (Jvm.Cond.fieldLink "HoldQueueModel" (42 : Nat) "HoldQueueModel" "place" "[I") ∈ lw_gd := gz_in2 (k := 68) rfl rfl
theorem wi_309 : (Jvm.Cond.fieldLink "HoldQueueModel" (45 : Nat) "HoldQueueModel" "rank" "[I") ∈ lw_gd := gz_in2 (k := 69) rfl rfl
theorem wi_310 : (Jvm.Cond.fieldLink "HoldQueueModel" (48 : Nat) "HoldQueueModel" "status" "[I") ∈ lw_gd := gz_in2 (k := 70) rfl rfl
theorem wi_311 : (Jvm.Cond.fieldLink "HoldQueueModel" (51 : Nat) "HoldQueueModel" "copy" "[I") ∈ lw_gd := gz_in2 (k := 71) rfl rfl
theorem wi_312 : (Jvm.Cond.fieldLink "HoldQueueModel" (54 : Nat) "HoldQueueModel" "until" "[J") ∈ lw_gd := gz_in2 (k := 72) rfl rfl
theorem wi_313 : (Jvm.Cond.fieldLink "HoldQueueModel" (58 : Nat) "HoldQueueModel" "end" "[J") ∈ lw_gd := gz_in2 (k := 73) rfl rfl
theorem wi_314 : (Jvm.Cond.lays "HoldQueueModel" "HoldQueueModel" "thrown" "I") ∈ lw_gd := gz_in2 (k := 74) rfl rfl
theorem wi_315 : (Jvm.Cond.soleField "HoldQueueModel" "thrown") ∈ lw_gd := gz_in2 (k := 75) rfl rfl
theorem wi_316 : (Jvm.Cond.lays "HoldQueueModel" "HoldQueueModel" "records" "I") ∈ lw_gd := gz_in2 (k := 76) rfl rfl
theorem wi_317 : (Jvm.Cond.soleField "HoldQueueModel" "records") ∈ lw_gd := gz_in2 (k := 77) rfl rfl
theorem wi_318 : (Jvm.Cond.lays "HoldQueueModel" "HoldQueueModel" "copies" "I") ∈ lw_gd := gz_in2 (k := 78) rfl rfl
theorem wi_319 : (Jvm.Cond.soleField "HoldQueueModel" "copies") ∈ lw_gd := gz_in2 (k := 79) rfl rfl
theorem wi_320 : (Jvm.Cond.lays "HoldQueueModel" "HoldQueueModel" "holds" "I") ∈ lw_gd := gz_in2 (k := 80) rfl rfl
theorem wi_321 : (Jvm.Cond.soleField "HoldQueueModel" "holds") ∈ lw_gd := gz_in2 (k := 81) rfl rfl
theorem wi_322 : (Jvm.Cond.laysFinal "HoldQueueModel" "HoldQueueModel" "kindOf" "[I") ∈ lw_gd := gz_in2 (k := 82) rfl rfl
theorem wi_323 : (Jvm.Cond.soleField "HoldQueueModel" "kindOf") ∈ lw_gd := gz_in2 (k := 83) rfl rfl
theorem wi_324 : (Jvm.Cond.laysFinal "HoldQueueModel" "HoldQueueModel" "barred" "[Z") ∈ lw_gd := gz_in2 (k := 84) rfl rfl
theorem wi_325 : (Jvm.Cond.soleField "HoldQueueModel" "barred") ∈ lw_gd := gz_in2 (k := 85) rfl rfl
theorem wi_326 : (Jvm.Cond.laysFinal "HoldQueueModel" "HoldQueueModel" "most" "[I") ∈ lw_gd := gz_in2 (k := 86) rfl rfl
theorem wi_327 : (Jvm.Cond.soleField "HoldQueueModel" "most") ∈ lw_gd := gz_in2 (k := 87) rfl rfl
theorem wi_328 : (Jvm.Cond.lays "HoldQueueModel" "HoldQueueModel" "today" "J") ∈ lw_gd := gz_in2 (k := 88) rfl rfl
theorem wi_329 : (Jvm.Cond.soleField "HoldQueueModel" "today") ∈ lw_gd := gz_in2 (k := 89) rfl rfl
theorem wi_330 : (Jvm.Cond.lays "HoldQueueModel" "HoldQueueModel" "span" "I") ∈ lw_gd := gz_in2 (k := 90) rfl rfl
theorem wi_331 : (Jvm.Cond.soleField "HoldQueueModel" "span") ∈ lw_gd := gz_in2 (k := 91) rfl rfl
theorem wi_332 : (Jvm.Cond.laysFinal "HoldQueueModel" "HoldQueueModel" "recordOf" "[I") ∈ lw_gd := gz_in2 (k := 92) rfl rfl
theorem wi_333 : (Jvm.Cond.soleField "HoldQueueModel" "recordOf") ∈ lw_gd := gz_in2 (k := 93) rfl rfl
theorem wi_334 : (Jvm.Cond.laysFinal "HoldQueueModel" "HoldQueueModel" "copyState" "[I") ∈ lw_gd := gz_in2 (k := 94) rfl rfl
theorem wi_335 : (Jvm.Cond.soleField "HoldQueueModel" "copyState") ∈ lw_gd := gz_in2 (k := 95) rfl rfl
theorem wi_336 : (Jvm.Cond.laysFinal "HoldQueueModel" "HoldQueueModel" "copyPlace" "[I") ∈ lw_gd := gz_in2 (k := 96) rfl rfl
theorem wi_337 : (Jvm.Cond.soleField "HoldQueueModel" "copyPlace") ∈ lw_gd := gz_in2 (k := 97) rfl rfl
theorem wi_338 : (Jvm.Cond.laysFinal "HoldQueueModel" "HoldQueueModel" "copyHold" "[I") ∈ lw_gd := gz_in2 (k := 98) rfl rfl
theorem wi_339 : (Jvm.Cond.soleField "HoldQueueModel" "copyHold") ∈ lw_gd := gz_in2 (k := 99) rfl rfl
theorem wi_340 : (Jvm.Cond.laysFinal "HoldQueueModel" "HoldQueueModel" "person" "[I") ∈ lw_gd := gz_in2 (k := 100) rfl rfl
theorem wi_341 : (Jvm.Cond.soleField "HoldQueueModel" "person") ∈ lw_gd := gz_in2 (k := 101) rfl rfl
theorem wi_342 : (Jvm.Cond.laysFinal "HoldQueueModel" "HoldQueueModel" "record" "[I") ∈ lw_gd := gz_in2 (k := 102) rfl rfl
theorem wi_343 : (Jvm.Cond.soleField "HoldQueueModel" "record") ∈ lw_gd := gz_in2 (k := 103) rfl rfl
theorem wi_344 : (Jvm.Cond.laysFinal "HoldQueueModel" "HoldQueueModel" "place" "[I") ∈ lw_gd := gz_in2 (k := 104) rfl rfl
theorem wi_345 : (Jvm.Cond.soleField "HoldQueueModel" "place") ∈ lw_gd := gz_in2 (k := 105) rfl rfl
theorem wi_346 : (Jvm.Cond.laysFinal "HoldQueueModel" "HoldQueueModel" "rank" "[I") ∈ lw_gd := gz_in2 (k := 106) rfl rfl
theorem wi_347 : (Jvm.Cond.soleField "HoldQueueModel" "rank") ∈ lw_gd := gz_in2 (k := 107) rfl rfl
theorem wi_348 : (Jvm.Cond.laysFinal "HoldQueueModel" "HoldQueueModel" "status" "[I") ∈ lw_gd := gz_in2 (k := 108) rfl rfl
theorem wi_349 : (Jvm.Cond.soleField "HoldQueueModel" "status") ∈ lw_gd := gz_in2 (k := 109) rfl rfl
theorem wi_350 : (Jvm.Cond.laysFinal "HoldQueueModel" "HoldQueueModel" "copy" "[I") ∈ lw_gd := gz_in2 (k := 110) rfl rfl
theorem wi_351 : (Jvm.Cond.soleField "HoldQueueModel" "copy") ∈ lw_gd := gz_in2 (k := 111) rfl rfl
theorem wi_352 : (Jvm.Cond.laysFinal "HoldQueueModel" "HoldQueueModel" "until" "[J") ∈ lw_gd := gz_in2 (k := 112) rfl rfl
theorem wi_353 : (Jvm.Cond.soleField "HoldQueueModel" "until") ∈ lw_gd := gz_in2 (k := 113) rfl rfl
theorem wi_354 : (Jvm.Cond.laysFinal "HoldQueueModel" "HoldQueueModel" "end" "[J") ∈ lw_gd := gz_in2 (k := 114) rfl rfl
theorem wi_355 : (Jvm.Cond.soleField "HoldQueueModel" "end") ∈ lw_gd := gz_in2 (k := 115) rfl rfl
theorem wi_356 : (Jvm.Cond.superclass "HoldQueueModel" "java/lang/Object") ∈ lw_gd := gz_in2 (k := 116) rfl rfl
theorem wi_357 : (Jvm.Cond.methodLink "HoldQueueLaw" (17 : Nat) ({ cls := "HoldQueueModel", name := "record", desc := "(I)I" } : Jvm.MethodName)) ∈ lw_gd := gz_in2 (k := 117) rfl rfl
theorem wi_358 : (Jvm.Cond.instanceMethod ({ cls := "HoldQueueModel", name := "record", desc := "(I)I" } : Jvm.MethodName)) ∈ lw_gd := gz_in2 (k := 118) rfl rfl
theorem wi_359 : (Jvm.Cond.selects "HoldQueueModel" ({ cls := "HoldQueueModel", name := "record", desc := "(I)I" } : Jvm.MethodName) ({ cls := "HoldQueueModel", name := "record", desc := "(I)I" } : Jvm.MethodName)) ∈ lw_gd := gz_in2 (k := 119) rfl rfl
theorem wi_360 : (Jvm.Cond.code ({ cls := "HoldQueueModel", name := "record", desc := "(I)I" } : Jvm.MethodName) prog_5_method_4_code (2 : Nat) (Option.some Jvm.ClassFile.FieldType.int)) ∈ lw_gd := gz_in2 (k := 120) rfl rfl
theorem wi_361 : (Jvm.Cond.methodLink "HoldQueueModel" (64 : Nat) ({ cls := "HoldQueueModel", name := "in", desc := "(III)Z" } : Jvm.MethodName)) ∈ lw_gd := gz_in2 (k := 121) rfl rfl
theorem wi_362 : (Jvm.Cond.static ({ cls := "HoldQueueModel", name := "in", desc := "(III)Z" } : Jvm.MethodName)) ∈ lw_gd := gz_in2 (k := 122) rfl rfl
theorem wi_363 : (Jvm.Cond.code ({ cls := "HoldQueueModel", name := "in", desc := "(III)Z" } : Jvm.MethodName) prog_5_method_3_code (3 : Nat) (Option.some Jvm.ClassFile.FieldType.boolean)) ∈ lw_gd := gz_in2 (k := 123) rfl rfl
theorem wi_364 : (Jvm.Cond.methodLink "HoldQueueLaw" (22 : Nat) ({ cls := "HoldQueueModel", name := "copy", desc := "(II)I" } : Jvm.MethodName)) ∈ lw_gd := gz_in2 (k := 124) rfl rfl
theorem wi_365 : (Jvm.Cond.instanceMethod ({ cls := "HoldQueueModel", name := "copy", desc := "(II)I" } : Jvm.MethodName)) ∈ lw_gd := gz_in2 (k := 125) rfl rfl
theorem wi_366 : (Jvm.Cond.selects "HoldQueueModel" ({ cls := "HoldQueueModel", name := "copy", desc := "(II)I" } : Jvm.MethodName) ({ cls := "HoldQueueModel", name := "copy", desc := "(II)I" } : Jvm.MethodName)) ∈ lw_gd := gz_in2 (k := 126) rfl rfl
theorem wi_367 : (Jvm.Cond.code ({ cls := "HoldQueueModel", name := "copy", desc := "(II)I" } : Jvm.MethodName) prog_5_method_5_code (3 : Nat) (Option.some Jvm.ClassFile.FieldType.int)) ∈ lw_gd := gz_in2 (k := 127) rfl rfl
theorem wi_368 : (Jvm.Cond.methodLink "HoldQueueLaw" (27 : Nat) ({ cls := "HoldQueueModel", name := "bar", desc := "(IZ)Z" } : Jvm.MethodName)) ∈ lw_gd := gz_in2 (k := 128) rfl rfl
theorem wi_369 : (Jvm.Cond.instanceMethod ({ cls := "HoldQueueModel", name := "bar", desc := "(IZ)Z" } : Jvm.MethodName)) ∈ lw_gd := gz_in2 (k := 129) rfl rfl
theorem wi_370 : (Jvm.Cond.selects "HoldQueueModel" ({ cls := "HoldQueueModel", name := "bar", desc := "(IZ)Z" } : Jvm.MethodName) ({ cls := "HoldQueueModel", name := "bar", desc := "(IZ)Z" } : Jvm.MethodName)) ∈ lw_gd := gz_in2 (k := 130) rfl rfl
theorem wi_371 : (Jvm.Cond.code ({ cls := "HoldQueueModel", name := "bar", desc := "(IZ)Z" } : Jvm.MethodName) prog_5_method_6_code (4 : Nat) (Option.some Jvm.ClassFile.FieldType.boolean)) ∈ lw_gd := gz_in2 (k := 131) rfl rfl
theorem wi_372 : (Jvm.Cond.methodLink "HoldQueueLaw" (32 : Nat) ({ cls := "HoldQueueModel", name := "hold", desc := "(IIII)I" } : Jvm.MethodName)) ∈ lw_gd := gz_in2 (k := 132) rfl rfl
theorem wi_373 : (Jvm.Cond.instanceMethod ({ cls := "HoldQueueModel", name := "hold", desc := "(IIII)I" } : Jvm.MethodName)) ∈ lw_gd := gz_in2 (k := 133) rfl rfl
theorem wi_374 : (Jvm.Cond.selects "HoldQueueModel" ({ cls := "HoldQueueModel", name := "hold", desc := "(IIII)I" } : Jvm.MethodName) ({ cls := "HoldQueueModel", name := "hold", desc := "(IIII)I" } : Jvm.MethodName)) ∈ lw_gd := gz_in2 (k := 134) rfl rfl
theorem wi_375 : (Jvm.Cond.code ({ cls := "HoldQueueModel", name := "hold", desc := "(IIII)I" } : Jvm.MethodName) prog_5_method_13_code (9 : Nat) (Option.some Jvm.ClassFile.FieldType.int)) ∈ lw_gd := gz_in2 (k := 135) rfl rfl
theorem wi_376 : (Jvm.Cond.methodLink "HoldQueueModel" (93 : Nat) ({ cls := "HoldQueueModel", name := "isOpen", desc := "(I)Z" } : Jvm.MethodName)) ∈ lw_gd := gz_in2 (k := 136) rfl rfl
theorem wi_378 : (Jvm.Cond.instanceMethod ({ cls := "HoldQueueModel", name := "isOpen", desc := "(I)Z" } : Jvm.MethodName)) ∈ lw_gd := gz_in2 (k := 138) rfl rfl
theorem wi_379 : (Jvm.Cond.code ({ cls := "HoldQueueModel", name := "isOpen", desc := "(I)Z" } : Jvm.MethodName) prog_5_method_7_code (2 : Nat) (Option.some Jvm.ClassFile.FieldType.boolean)) ∈ lw_gd := gz_in2 (k := 139) rfl rfl
theorem wi_380 : (Jvm.Cond.constantLong "HoldQueueModel" (97 : Nat) (-9223372036854775807 : Int64)) ∈ lw_gd := gz_in2 (k := 140) rfl rfl
theorem wi_381 : (Jvm.Cond.methodLink "HoldQueueModel" (99 : Nat) ({ cls := "HoldQueueModel", name := "goes", desc := "(I)I" } : Jvm.MethodName)) ∈ lw_gd := gz_in2 (k := 141) rfl rfl
theorem wi_383 : (Jvm.Cond.instanceMethod ({ cls := "HoldQueueModel", name := "goes", desc := "(I)I" } : Jvm.MethodName)) ∈ lw_gd := gz_in2 (k := 143) rfl rfl
theorem wi_384 : (Jvm.Cond.code ({ cls := "HoldQueueModel", name := "goes", desc := "(I)I" } : Jvm.MethodName) prog_5_method_12_code (3 : Nat) (Option.some Jvm.ClassFile.FieldType.int)) ∈ lw_gd := gz_in2 (k := 144) rfl rfl
theorem wi_385 : (Jvm.Cond.methodLink "HoldQueueModel" (85 : Nat) ({ cls := "HoldQueueModel", name := "fits", desc := "(I)I" } : Jvm.MethodName)) ∈ lw_gd := gz_in2 (k := 145) rfl rfl
theorem wi_387 : (Jvm.Cond.instanceMethod ({ cls := "HoldQueueModel", name := "fits", desc := "(I)I" } : Jvm.MethodName)) ∈ lw_gd := gz_in2 (k := 147) rfl rfl
theorem wi_388 : (Jvm.Cond.code ({ cls := "HoldQueueModel", name := "fits", desc := "(I)I" } : Jvm.MethodName) prog_5_method_10_code (5 : Nat) (Option.some Jvm.ClassFile.FieldType.int)) ∈ lw_gd := gz_in2 (k := 148) rfl rfl
theorem wi_389 : (Jvm.Cond.methodLink "HoldQueueModel" (77 : Nat) ({ cls := "HoldQueueModel", name := "isAhead", desc := "(II)Z" } : Jvm.MethodName)) ∈ lw_gd := gz_in2 (k := 149) rfl rfl
theorem wi_391 : (Jvm.Cond.instanceMethod ({ cls := "HoldQueueModel", name := "isAhead", desc := "(II)Z" } : Jvm.MethodName)) ∈ lw_gd := gz_in2 (k := 151) rfl rfl
theorem wi_392 : (Jvm.Cond.code ({ cls := "HoldQueueModel", name := "isAhead", desc := "(II)Z" } : Jvm.MethodName) prog_5_method_8_code (3 : Nat) (Option.some Jvm.ClassFile.FieldType.boolean)) ∈ lw_gd := gz_in2 (k := 152) rfl rfl
theorem wi_393 : (Jvm.Cond.methodLink "HoldQueueModel" (89 : Nat) ({ cls := "HoldQueueModel", name := "lies", desc := "(II)V" } : Jvm.MethodName)) ∈ lw_gd := gz_in2 (k := 153) rfl rfl
theorem wi_395 : (Jvm.Cond.instanceMethod ({ cls := "HoldQueueModel", name := "lies", desc := "(II)V" } : Jvm.MethodName)) ∈ lw_gd := gz_in2 (k := 155) rfl rfl
theorem wi_396 : (Jvm.Cond.code ({ cls := "HoldQueueModel", name := "lies", desc := "(II)V" } : Jvm.MethodName) prog_5_method_11_code (3 : Nat) (Option.none : Option Jvm.ClassFile.FieldType)) ∈ lw_gd := gz_in2 (k := 156) rfl rfl
theorem wi_397 : (Jvm.Cond.methodLink "HoldQueueLaw" (36 : Nat) ({ cls := "HoldQueueModel", name := "most", desc := "(II)I" } : Jvm.MethodName)) ∈ lw_gd := gz_in2 (k := 157) rfl rfl
theorem wi_398 : (Jvm.Cond.instanceMethod ({ cls := "HoldQueueModel", name := "most", desc := "(II)I" } : Jvm.MethodName)) ∈ lw_gd := gz_in2 (k := 158) rfl rfl
theorem wi_399 : (Jvm.Cond.selects "HoldQueueModel" ({ cls := "HoldQueueModel", name := "most", desc := "(II)I" } : Jvm.MethodName) ({ cls := "HoldQueueModel", name := "most", desc := "(II)I" } : Jvm.MethodName)) ∈ lw_gd := gz_in2 (k := 159) rfl rfl
theorem wi_400 : (Jvm.Cond.code ({ cls := "HoldQueueModel", name := "most", desc := "(II)I" } : Jvm.MethodName) prog_5_method_14_code (4 : Nat) (Option.some Jvm.ClassFile.FieldType.int)) ∈ lw_gd := gz_in2 (k := 160) rfl rfl
theorem wi_401 : (Jvm.Cond.methodLink "HoldQueueLaw" (43 : Nat) ({ cls := "HoldQueueModel", name := "suspend", desc := "(IJ)I" } : Jvm.MethodName)) ∈ lw_gd := gz_in2 (k := 161) rfl rfl
theorem wi_402 : (Jvm.Cond.instanceMethod ({ cls := "HoldQueueModel", name := "suspend", desc := "(IJ)I" } : Jvm.MethodName)) ∈ lw_gd := gz_in2 (k := 162) rfl rfl
theorem wi_403 : (Jvm.Cond.selects "HoldQueueModel" ({ cls := "HoldQueueModel", name := "suspend", desc := "(IJ)I" } : Jvm.MethodName) ({ cls := "HoldQueueModel", name := "suspend", desc := "(IJ)I" } : Jvm.MethodName)) ∈ lw_gd := gz_in2 (k := 163) rfl rfl
theorem wi_404 : (Jvm.Cond.code ({ cls := "HoldQueueModel", name := "suspend", desc := "(IJ)I" } : Jvm.MethodName) prog_5_method_17_code (4 : Nat) (Option.some Jvm.ClassFile.FieldType.int)) ∈ lw_gd := gz_in2 (k := 164) rfl rfl
theorem wi_405 : (Jvm.Cond.methodLink "HoldQueueModel" (105 : Nat) ({ cls := "HoldQueueModel", name := "isWaiting", desc := "(I)Z" } : Jvm.MethodName)) ∈ lw_gd := gz_in2 (k := 165) rfl rfl
theorem wi_407 : (Jvm.Cond.instanceMethod ({ cls := "HoldQueueModel", name := "isWaiting", desc := "(I)Z" } : Jvm.MethodName)) ∈ lw_gd := gz_in2 (k := 167) rfl rfl
theorem wi_408 : (Jvm.Cond.code ({ cls := "HoldQueueModel", name := "isWaiting", desc := "(I)Z" } : Jvm.MethodName) prog_5_method_16_code (2 : Nat) (Option.some Jvm.ClassFile.FieldType.boolean)) ∈ lw_gd := gz_in2 (k := 168) rfl rfl
theorem wi_409 : (Jvm.Cond.methodLink "HoldQueueModel" (102 : Nat) ({ cls := "HoldQueueModel", name := "isHold", desc := "(I)Z" } : Jvm.MethodName)) ∈ lw_gd := gz_in2 (k := 169) rfl rfl
theorem wi_411 : (Jvm.Cond.instanceMethod ({ cls := "HoldQueueModel", name := "isHold", desc := "(I)Z" } : Jvm.MethodName)) ∈ lw_gd := gz_in2 (k := 171) rfl rfl
theorem wi_412 : (Jvm.Cond.code ({ cls := "HoldQueueModel", name := "isHold", desc := "(I)Z" } : Jvm.MethodName) prog_5_method_15_code (2 : Nat) (Option.some Jvm.ClassFile.FieldType.boolean)) ∈ lw_gd := gz_in2 (k := 172) rfl rfl
theorem wi_413 : (Jvm.Cond.methodLink "HoldQueueLaw" (47 : Nat) ({ cls := "HoldQueueModel", name := "back", desc := "(II)I" } : Jvm.MethodName)) ∈ lw_gd := gz_in2 (k := 173) rfl rfl
theorem wi_414 : (Jvm.Cond.instanceMethod ({ cls := "HoldQueueModel", name := "back", desc := "(II)I" } : Jvm.MethodName)) ∈ lw_gd := gz_in2 (k := 174) rfl rfl
theorem wi_415 : (Jvm.Cond.selects "HoldQueueModel" ({ cls := "HoldQueueModel", name := "back", desc := "(II)I" } : Jvm.MethodName) ({ cls := "HoldQueueModel", name := "back", desc := "(II)I" } : Jvm.MethodName)) ∈ lw_gd := gz_in2 (k := 175) rfl rfl
theorem wi_416 : (Jvm.Cond.code ({ cls := "HoldQueueModel", name := "back", desc := "(II)I" } : Jvm.MethodName) prog_5_method_19_code (3 : Nat) (Option.some Jvm.ClassFile.FieldType.int)) ∈ lw_gd := gz_in2 (k := 176) rfl rfl
theorem wi_417 : (Jvm.Cond.methodLink "HoldQueueModel" (108 : Nat) ({ cls := "HoldQueueModel", name := "isCopy", desc := "(II)Z" } : Jvm.MethodName)) ∈ lw_gd := gz_in2 (k := 177) rfl rfl
theorem wi_419 : (Jvm.Cond.instanceMethod ({ cls := "HoldQueueModel", name := "isCopy", desc := "(II)Z" } : Jvm.MethodName)) ∈ lw_gd := gz_in2 (k := 179) rfl rfl
theorem wi_420 : (Jvm.Cond.code ({ cls := "HoldQueueModel", name := "isCopy", desc := "(II)Z" } : Jvm.MethodName) prog_5_method_18_code (3 : Nat) (Option.some Jvm.ClassFile.FieldType.boolean)) ∈ lw_gd := gz_in2 (k := 180) rfl rfl
theorem wi_421 : (Jvm.Cond.methodLink "HoldQueueLaw" (51 : Nat) ({ cls := "HoldQueueModel", name := "arrive", desc := "(I)I" } : Jvm.MethodName)) ∈ lw_gd := gz_in2 (k := 181) rfl rfl
theorem wi_422 : (Jvm.Cond.instanceMethod ({ cls := "HoldQueueModel", name := "arrive", desc := "(I)I" } : Jvm.MethodName)) ∈ lw_gd := gz_in2 (k := 182) rfl rfl
theorem wi_423 : (Jvm.Cond.selects "HoldQueueModel" ({ cls := "HoldQueueModel", name := "arrive", desc := "(I)I" } : Jvm.MethodName) ({ cls := "HoldQueueModel", name := "arrive", desc := "(I)I" } : Jvm.MethodName)) ∈ lw_gd := gz_in2 (k := 183) rfl rfl
theorem wi_424 : (Jvm.Cond.code ({ cls := "HoldQueueModel", name := "arrive", desc := "(I)I" } : Jvm.MethodName) prog_5_method_20_code (3 : Nat) (Option.some Jvm.ClassFile.FieldType.int)) ∈ lw_gd := gz_in2 (k := 184) rfl rfl
theorem wi_425 : (Jvm.Cond.methodLink "HoldQueueLaw" (55 : Nat) ({ cls := "HoldQueueModel", name := "pick", desc := "(I)I" } : Jvm.MethodName)) ∈ lw_gd := gz_in2 (k := 185) rfl rfl
theorem wi_426 : (Jvm.Cond.instanceMethod ({ cls := "HoldQueueModel", name := "pick", desc := "(I)I" } : Jvm.MethodName)) ∈ lw_gd := gz_in2 (k := 186) rfl rfl
theorem wi_427 : (Jvm.Cond.selects "HoldQueueModel" ({ cls := "HoldQueueModel", name := "pick", desc := "(I)I" } : Jvm.MethodName) ({ cls := "HoldQueueModel", name := "pick", desc := "(I)I" } : Jvm.MethodName)) ∈ lw_gd := gz_in2 (k := 187) rfl rfl
theorem wi_428 : (Jvm.Cond.code ({ cls := "HoldQueueModel", name := "pick", desc := "(I)I" } : Jvm.MethodName) prog_5_method_21_code (3 : Nat) (Option.some Jvm.ClassFile.FieldType.int)) ∈ lw_gd := gz_in2 (k := 188) rfl rfl
theorem wi_429 : (Jvm.Cond.methodLink "HoldQueueLaw" (59 : Nat) ({ cls := "HoldQueueModel", name := "lend", desc := "(I)I" } : Jvm.MethodName)) ∈ lw_gd := gz_in2 (k := 189) rfl rfl
theorem wi_430 : (Jvm.Cond.instanceMethod ({ cls := "HoldQueueModel", name := "lend", desc := "(I)I" } : Jvm.MethodName)) ∈ lw_gd := gz_in2 (k := 190) rfl rfl
theorem wi_431 : (Jvm.Cond.selects "HoldQueueModel" ({ cls := "HoldQueueModel", name := "lend", desc := "(I)I" } : Jvm.MethodName) ({ cls := "HoldQueueModel", name := "lend", desc := "(I)I" } : Jvm.MethodName)) ∈ lw_gd := gz_in2 (k := 191) rfl rfl
theorem wi_432 : (Jvm.Cond.code ({ cls := "HoldQueueModel", name := "lend", desc := "(I)I" } : Jvm.MethodName) prog_5_method_22_code (2 : Nat) (Option.some Jvm.ClassFile.FieldType.int)) ∈ lw_gd := gz_in2 (k := 192) rfl rfl
theorem wi_433 : (Jvm.Cond.methodLink "HoldQueueLaw" (63 : Nat) ({ cls := "HoldQueueModel", name := "cancel", desc := "(I)I" } : Jvm.MethodName)) ∈ lw_gd := gz_in2 (k := 193) rfl rfl
theorem wi_434 : (Jvm.Cond.instanceMethod ({ cls := "HoldQueueModel", name := "cancel", desc := "(I)I" } : Jvm.MethodName)) ∈ lw_gd := gz_in2 (k := 194) rfl rfl
theorem wi_435 : (Jvm.Cond.selects "HoldQueueModel" ({ cls := "HoldQueueModel", name := "cancel", desc := "(I)I" } : Jvm.MethodName) ({ cls := "HoldQueueModel", name := "cancel", desc := "(I)I" } : Jvm.MethodName)) ∈ lw_gd := gz_in2 (k := 195) rfl rfl
theorem wi_436 : (Jvm.Cond.code ({ cls := "HoldQueueModel", name := "cancel", desc := "(I)I" } : Jvm.MethodName) prog_5_method_24_code (2 : Nat) (Option.some Jvm.ClassFile.FieldType.int)) ∈ lw_gd := gz_in2 (k := 196) rfl rfl
theorem wi_437 : (Jvm.Cond.methodLink "HoldQueueModel" (111 : Nat) ({ cls := "HoldQueueModel", name := "ends", desc := "(II)V" } : Jvm.MethodName)) ∈ lw_gd := gz_in2 (k := 197) rfl rfl
theorem wi_439 : (Jvm.Cond.instanceMethod ({ cls := "HoldQueueModel", name := "ends", desc := "(II)V" } : Jvm.MethodName)) ∈ lw_gd := gz_in2 (k := 199) rfl rfl
theorem wi_440 : (Jvm.Cond.code ({ cls := "HoldQueueModel", name := "ends", desc := "(II)V" } : Jvm.MethodName) prog_5_method_23_code (5 : Nat) (Option.none : Option Jvm.ClassFile.FieldType)) ∈ lw_gd := gz_in2 (k := 200) rfl rfl
theorem wi_441 : (Jvm.Cond.methodLink "HoldQueueLaw" (68 : Nat) ({ cls := "HoldQueueModel", name := "tick", desc := "(J)I" } : Jvm.MethodName)) ∈ lw_gd := gz_in2 (k := 201) rfl rfl
theorem wi_442 : (Jvm.Cond.instanceMethod ({ cls := "HoldQueueModel", name := "tick", desc := "(J)I" } : Jvm.MethodName)) ∈ lw_gd := gz_in2 (k := 202) rfl rfl
theorem wi_443 : (Jvm.Cond.selects "HoldQueueModel" ({ cls := "HoldQueueModel", name := "tick", desc := "(J)I" } : Jvm.MethodName) ({ cls := "HoldQueueModel", name := "tick", desc := "(J)I" } : Jvm.MethodName)) ∈ lw_gd := gz_in2 (k := 203) rfl rfl
theorem wi_444 : (Jvm.Cond.code ({ cls := "HoldQueueModel", name := "tick", desc := "(J)I" } : Jvm.MethodName) prog_5_method_25_code (5 : Nat) (Option.some Jvm.ClassFile.FieldType.int)) ∈ lw_gd := gz_in2 (k := 204) rfl rfl
theorem wi_445 : (Jvm.Cond.constantLong "HoldQueueModel" (114 : Nat) (1000000000 : Int64)) ∈ lw_gd := gz_in2 (k := 205) rfl rfl
theorem wi_446 : (Jvm.Cond.methodLink "HoldQueueLaw" (72 : Nat) ({ cls := "HoldQueueModel", name := "span", desc := "(I)I" } : Jvm.MethodName)) ∈ lw_gd := gz_in2 (k := 206) rfl rfl
theorem wi_447 : (Jvm.Cond.instanceMethod ({ cls := "HoldQueueModel", name := "span", desc := "(I)I" } : Jvm.MethodName)) ∈ lw_gd := gz_in2 (k := 207) rfl rfl
theorem wi_448 : (Jvm.Cond.selects "HoldQueueModel" ({ cls := "HoldQueueModel", name := "span", desc := "(I)I" } : Jvm.MethodName) ({ cls := "HoldQueueModel", name := "span", desc := "(I)I" } : Jvm.MethodName)) ∈ lw_gd := gz_in2 (k := 208) rfl rfl
theorem wi_449 : (Jvm.Cond.code ({ cls := "HoldQueueModel", name := "span", desc := "(I)I" } : Jvm.MethodName) prog_5_method_26_code (3 : Nat) (Option.some Jvm.ClassFile.FieldType.int)) ∈ lw_gd := gz_in2 (k := 209) rfl rfl
theorem wi_450 : (Jvm.Cond.methodLink "HoldQueueLaw" (76 : Nat) ({ cls := "HoldQueueModel", name := "rank", desc := "(II)I" } : Jvm.MethodName)) ∈ lw_gd := gz_in2 (k := 210) rfl rfl
theorem wi_451 : (Jvm.Cond.instanceMethod ({ cls := "HoldQueueModel", name := "rank", desc := "(II)I" } : Jvm.MethodName)) ∈ lw_gd := gz_in2 (k := 211) rfl rfl
theorem wi_452 : (Jvm.Cond.selects "HoldQueueModel" ({ cls := "HoldQueueModel", name := "rank", desc := "(II)I" } : Jvm.MethodName) ({ cls := "HoldQueueModel", name := "rank", desc := "(II)I" } : Jvm.MethodName)) ∈ lw_gd := gz_in2 (k := 212) rfl rfl
theorem wi_453 : (Jvm.Cond.code ({ cls := "HoldQueueModel", name := "rank", desc := "(II)I" } : Jvm.MethodName) prog_5_method_27_code (3 : Nat) (Option.some Jvm.ClassFile.FieldType.int)) ∈ lw_gd := gz_in2 (k := 213) rfl rfl
theorem wi_454 : (Jvm.Cond.methodLink "HoldQueueModel" (116 : Nat) ({ cls := "HoldQueueModel", name := "placeOf", desc := "(I)I" } : Jvm.MethodName)) ∈ lw_gd := gz_in2 (k := 214) rfl rfl
theorem wi_456 : (Jvm.Cond.instanceMethod ({ cls := "HoldQueueModel", name := "placeOf", desc := "(I)I" } : Jvm.MethodName)) ∈ lw_gd := gz_in2 (k := 216) rfl rfl
theorem wi_457 : (Jvm.Cond.code ({ cls := "HoldQueueModel", name := "placeOf", desc := "(I)I" } : Jvm.MethodName) prog_5_method_9_code (4 : Nat) (Option.some Jvm.ClassFile.FieldType.int)) ∈ lw_gd := gz_in2 (k := 217) rfl rfl
theorem wi_458 : (Jvm.Cond.methodLink "HoldQueueLaw" (80 : Nat) ({ cls := "HoldQueueModel", name := "order", desc := "(II)I" } : Jvm.MethodName)) ∈ lw_gd := gz_in2 (k := 218) rfl rfl
theorem wi_459 : (Jvm.Cond.instanceMethod ({ cls := "HoldQueueModel", name := "order", desc := "(II)I" } : Jvm.MethodName)) ∈ lw_gd := gz_in2 (k := 219) rfl rfl
theorem wi_460 : (Jvm.Cond.selects "HoldQueueModel" ({ cls := "HoldQueueModel", name := "order", desc := "(II)I" } : Jvm.MethodName) ({ cls := "HoldQueueModel", name := "order", desc := "(II)I" } : Jvm.MethodName)) ∈ lw_gd := gz_in2 (k := 220) rfl rfl
theorem wi_461 : (Jvm.Cond.code ({ cls := "HoldQueueModel", name := "order", desc := "(II)I" } : Jvm.MethodName) prog_5_method_28_code (4 : Nat) (Option.some Jvm.ClassFile.FieldType.int)) ∈ lw_gd := gz_in2 (k := 221) rfl rfl
theorem wi_462 : (Jvm.Cond.methodLink "HoldQueueLaw" (84 : Nat) ({ cls := "HoldQueueModel", name := "state", desc := "(II)I" } : Jvm.MethodName)) ∈ lw_gd := gz_in2 (k := 222) rfl rfl
theorem wi_463 : (Jvm.Cond.instanceMethod ({ cls := "HoldQueueModel", name := "state", desc := "(II)I" } : Jvm.MethodName)) ∈ lw_gd := gz_in2 (k := 223) rfl rfl
theorem wi_464 : (Jvm.Cond.selects "HoldQueueModel" ({ cls := "HoldQueueModel", name := "state", desc := "(II)I" } : Jvm.MethodName) ({ cls := "HoldQueueModel", name := "state", desc := "(II)I" } : Jvm.MethodName)) ∈ lw_gd := gz_in2 (k := 224) rfl rfl
theorem wi_465 : (Jvm.Cond.code ({ cls := "HoldQueueModel", name := "state", desc := "(II)I" } : Jvm.MethodName) prog_5_method_29_code (3 : Nat) (Option.some Jvm.ClassFile.FieldType.int)) ∈ lw_gd := gz_in2 (k := 225) rfl rfl
theorem wi_466 : (Jvm.Cond.methodLink "HoldQueueLaw" (88 : Nat) ({ cls := "HoldQueueModel", name := "where", desc := "(II)I" } : Jvm.MethodName)) ∈ lw_gd := gz_in2 (k := 226) rfl rfl
theorem wi_467 : (Jvm.Cond.instanceMethod ({ cls := "HoldQueueModel", name := "where", desc := "(II)I" } : Jvm.MethodName)) ∈ lw_gd := gz_in2 (k := 227) rfl rfl
theorem wi_468 : (Jvm.Cond.selects "HoldQueueModel" ({ cls := "HoldQueueModel", name := "where", desc := "(II)I" } : Jvm.MethodName) ({ cls := "HoldQueueModel", name := "where", desc := "(II)I" } : Jvm.MethodName)) ∈ lw_gd := gz_in2 (k := 228) rfl rfl
theorem wi_469 : (Jvm.Cond.code ({ cls := "HoldQueueModel", name := "where", desc := "(II)I" } : Jvm.MethodName) prog_5_method_30_code (3 : Nat) (Option.some Jvm.ClassFile.FieldType.int)) ∈ lw_gd := gz_in2 (k := 229) rfl rfl
theorem wi_470 : (Jvm.Cond.constantLong "HoldQueueLaw" (37 : Nat) (4294967295 : Int64)) ∈ lw_gd := gz_in2 (k := 230) rfl rfl
end
section
/-- words: all of the tables' are good; a callee's are among them -/
theorem gz_hts {p : Program} {s : State} {m : MethodId} {args : Array Value} {meth : Method} {c : Code} {cc : ByteArray} {nL : Nat} {ret : Option FieldType} {own : String} {cd : Cond} (F : gz_F p s m args meth c cc nL ret (cd :: lw_gd) own) : ∀ w ∈ lw_gd, w.before args s = true := fun w h => F.2.2.2.2.2.1 w (List.mem_cons_of_mem _ h)
theorem gz_nwF {p : Program} {s : State} {m : MethodId} {args : Array Value} {meth : Method} {c : Code} {cc : ByteArray} {nL : Nat} {ret : Option FieldType} {own : String} {ws : List Cond} (F : gz_F p s m args meth c cc nL ret ws own) : ∀ w ∈ gz_nw, va_Nw w s := F.2.2.2.2.2.2.2
theorem lw_good : GoodIn lw_gd lw_gd := fun w hw => ⟨hw, good_of_word (List.mem_filter.mp hw).2⟩
theorem gz_gN {T : List Cond} {cd : Cond} (hg : GoodIn T T) (h : cd ∈ T) : GoodIn T (cd :: T) := by
  intro w hw
  rcases List.mem_cons.mp hw with h1 | h1
  · rw [h1]; exact hg _ h
  · exact hg _ h1
theorem gz_gV {T : List Cond} {cd : Cond} {own C : String} {idx : Nat} {y : MethodName} (hg : GoodIn T T) (h1 : Cond.methodLink own idx y ∈ T) (h2 : Cond.instanceMethod y ∈ T) (h3 : Cond.selects C y y ∈ T) (h4 : Cond.initialized C ∈ T) (h : cd ∈ T) : GoodIn T (wsV own idx C y (cd :: T)) := by
  intro w hw
  unfold wsV at hw
  rcases List.mem_append.mp hw with h5 | h5
  · rcases List.mem_cons.mp h5 with h6 | h6
    · rw [h6]; exact hg _ h1
    · rcases List.mem_cons.mp h6 with h6 | h6
      · rw [h6]; exact hg _ h2
      · rcases List.mem_cons.mp h6 with h6 | h6
        · rw [h6]; exact hg _ h3
        · rcases List.mem_cons.mp h6 with h6 | h6
          · rw [h6]; exact hg _ h4
          · cases h6
  · exact gz_gN hg h w h5
theorem gz_gS {T : List Cond} {cd : Cond} {own : String} {idx : Nat} {y : MethodName} (hg : GoodIn T T) (h1 : Cond.methodLink own idx y ∈ T) (h2 : Cond.static y ∈ T) (h3 : Cond.initialized own ∈ T) (h : cd ∈ T) : GoodIn T (wsS own idx y (cd :: T)) := by
  intro w hw
  unfold wsS at hw
  rcases List.mem_append.mp hw with h5 | h5
  · rcases List.mem_cons.mp h5 with h6 | h6
    · rw [h6]; exact hg _ h1
    · rcases List.mem_cons.mp h6 with h6 | h6
      · rw [h6]; exact hg _ h2
      · rcases List.mem_cons.mp h6 with h6 | h6
        · rw [h6]; exact hg _ h3
        · cases h6
  · exact gz_gN hg h w h5

/-- the cells of the landed code -/
def x_wf (a : Nat → Nat) (kc : Nat → ClassId) (u : q_S) : va_W := [(a 0, .inr (0, [.ref (a 3), .int (q_nr u), .ref (a 4), .ref (a 5), .ref (a 1), .ref (a 2), .long (q_td u), .int (q_sp u)])), (a 1, .inr (1, [.int (q_nc u), .ref (a 6), .ref (a 7), .ref (a 8), .ref (a 9)])), (a 2, .inr (2, [.int (q_nh u), .ref (a 10), .ref (a 11), .ref (a 12), .ref (a 13), .ref (a 14), .ref (a 15), .ref (a 16), .ref (a 17)])), (a 3, .inl (kc 3, 31, .inl (q_kd u))), (a 4, .inl (kc 4, 4, .inl (q_bd u))), (a 5, .inl (kc 5, 40, .inl (q_mo u))), (a 6, .inl (kc 6, 61, .inl (q_cr u))), (a 7, .inl (kc 7, 61, .inl (q_cp u))), (a 8, .inl (kc 8, 61, .inl (q_cs u))), (a 9, .inl (kc 9, 61, .inl (q_ch u))), (a 10, .inl (kc 10, 121, .inl (q_hp u))), (a 11, .inl (kc 11, 121, .inl (q_hr u))), (a 12, .inl (kc 12, 121, .inl (q_hl u))), (a 13, .inl (kc 13, 121, .inl (q_hk u))), (a 14, .inl (kc 14, 121, .inl (q_hs u))), (a 15, .inl (kc 15, 121, .inl (q_hy u))), (a 16, .inl (kc 16, 121, .inr (.inl (q_hu u)))), (a 17, .inl (kc 17, 121, .inr (.inl (q_he u))))]
def x_tys (kc : Nat → ClassId) : List (ClassId × FieldType) := [(kc 3, .int), (kc 4, .boolean), (kc 5, .int), (kc 6, .int), (kc 7, .int), (kc 8, .int), (kc 9, .int), (kc 10, .int), (kc 11, .int), (kc 12, .int), (kc 13, .int), (kc 14, .int), (kc 15, .int), (kc 16, .long), (kc 17, .long)]
def x_as (a : Nat → Nat) : List Nat := [a 0, a 1, a 2, a 3, a 4, a 5, a 6, a 7, a 8, a 9, a 10, a 11, a 12, a 13, a 14, a 15, a 16, a 17]
theorem x_has (a : Nat → Nat) (kc : Nat → ClassId) : ∀ z : q_S, (x_wf a kc z).map (fun q => q.1) = x_as a := fun _ => rfl
/-- the cells of the reference -/
def m_wf (a : Nat → Nat) (kc : Nat → ClassId) (u : q_S) : va_W := [(a 0, .inr (3, [.int (q_th u), .int (q_nr u), .int (q_nc u), .int (q_nh u), .ref (a 1), .ref (a 2), .ref (a 3), .long (q_td u), .int (q_sp u), .ref (a 4), .ref (a 5), .ref (a 6), .ref (a 7), .ref (a 8), .ref (a 9), .ref (a 10), .ref (a 11), .ref (a 12), .ref (a 13), .ref (a 14), .ref (a 15)])), (a 1, .inl (kc 1, 31, .inl (q_kd u))), (a 2, .inl (kc 2, 4, .inl (q_bd u))), (a 3, .inl (kc 3, 40, .inl (q_mo u))), (a 4, .inl (kc 4, 61, .inl (q_cr u))), (a 5, .inl (kc 5, 61, .inl (q_cs u))), (a 6, .inl (kc 6, 61, .inl (q_cp u))), (a 7, .inl (kc 7, 61, .inl (q_ch u))), (a 8, .inl (kc 8, 121, .inl (q_hp u))), (a 9, .inl (kc 9, 121, .inl (q_hr u))), (a 10, .inl (kc 10, 121, .inl (q_hl u))), (a 11, .inl (kc 11, 121, .inl (q_hk u))), (a 12, .inl (kc 12, 121, .inl (q_hs u))), (a 13, .inl (kc 13, 121, .inl (q_hy u))), (a 14, .inl (kc 14, 121, .inr (.inl (q_hu u)))), (a 15, .inl (kc 15, 121, .inr (.inl (q_he u))))]
def m_tys (kc : Nat → ClassId) : List (ClassId × FieldType) := [(kc 1, .int), (kc 2, .boolean), (kc 3, .int), (kc 4, .int), (kc 5, .int), (kc 6, .int), (kc 7, .int), (kc 8, .int), (kc 9, .int), (kc 10, .int), (kc 11, .int), (kc 12, .int), (kc 13, .int), (kc 14, .long), (kc 15, .long)]
def m_as (a : Nat → Nat) : List Nat := [a 0, a 1, a 2, a 3, a 4, a 5, a 6, a 7, a 8, a 9, a 10, a 11, a 12, a 13, a 14, a 15]
theorem m_has (a : Nat → Nat) (kc : Nat → ClassId) : ∀ z : q_S, (m_wf a kc z).map (fun q => q.1) = m_as a := fun _ => rfl
abbrev q_cl : List vw_C := [(R_HoldQueue, T_HoldQueue, 8), (R_HoldQueue_Copies, T_HoldQueue_Copies, 5), (R_HoldQueue_Holds, T_HoldQueue_Holds, 9), (R_HoldQueueModel, T_HoldQueueModel, 21)]
theorem _HoldQueue_in : ∀ w ∈ u_ws R_HoldQueue T_HoldQueue 8, w ∈ lw_gd := by decide +kernel
theorem _HoldQueue_Copies_in : ∀ w ∈ u_ws R_HoldQueue_Copies T_HoldQueue_Copies 5, w ∈ lw_gd := by decide +kernel
theorem _HoldQueue_Holds_in : ∀ w ∈ u_ws R_HoldQueue_Holds T_HoldQueue_Holds 9, w ∈ lw_gd := by decide +kernel
theorem _HoldQueueModel_in : ∀ w ∈ u_ws R_HoldQueueModel T_HoldQueueModel 21, w ∈ lw_gd := by decide +kernel
section GZX
variable {p : Program} {l : Launch} {e : Env} {R : Room} {s : State} {m : MethodId} {args : Array Value} {below : List Frame} {meth : Method} {c : Code} {cells slots : Nat} {Q : State → Prop} {cc : ByteArray} {nL : Nat} {a : Nat → Nat} {kc : Nat → ClassId} {D : va_G} {A : Nat → Prop} {Kr : Option Int32 → q_S → Prop} {pc : Nat} {ret : Option FieldType} {ws : List Cond} {own : String}

theorem x_ild (F : gz_F p s m args meth c cc nL ret ws own) (hd : decode cc pc = .ok (.iaload, 1)) : gz_TI x_ai (fun j n g _ => ∀ (u : q_S) (x : Int32), vp_in x n → gz_mv p l e R s m args below meth c cells slots Q nL a (gz_GG D q_cl (x_tys kc) A s (x_wf a kc)) (pc + 1) pc [gz_i x, gz_r j] u [gz_i (g u x.toNatClampNeg)] u) := by
  intro j k h
  unfold x_ai at h
  split at h
  · exact ⟨31, q_kd, q_kd_u, h, fun u x hin => gz_m_ild F.1 F.2.1 3 0 rfl rfl hd hin⟩
  · exact ⟨40, q_mo, q_mo_u, h, fun u x hin => gz_m_ild F.1 F.2.1 5 2 rfl rfl hd hin⟩
  · exact ⟨61, q_cr, q_cr_u, h, fun u x hin => gz_m_ild F.1 F.2.1 6 3 rfl rfl hd hin⟩
  · exact ⟨61, q_cp, q_cp_u, h, fun u x hin => gz_m_ild F.1 F.2.1 7 4 rfl rfl hd hin⟩
  · exact ⟨61, q_cs, q_cs_u, h, fun u x hin => gz_m_ild F.1 F.2.1 8 5 rfl rfl hd hin⟩
  · exact ⟨61, q_ch, q_ch_u, h, fun u x hin => gz_m_ild F.1 F.2.1 9 6 rfl rfl hd hin⟩
  · exact ⟨121, q_hp, q_hp_u, h, fun u x hin => gz_m_ild F.1 F.2.1 10 7 rfl rfl hd hin⟩
  · exact ⟨121, q_hr, q_hr_u, h, fun u x hin => gz_m_ild F.1 F.2.1 11 8 rfl rfl hd hin⟩
  · exact ⟨121, q_hl, q_hl_u, h, fun u x hin => gz_m_ild F.1 F.2.1 12 9 rfl rfl hd hin⟩
  · exact ⟨121, q_hk, q_hk_u, h, fun u x hin => gz_m_ild F.1 F.2.1 13 10 rfl rfl hd hin⟩
  · exact ⟨121, q_hs, q_hs_u, h, fun u x hin => gz_m_ild F.1 F.2.1 14 11 rfl rfl hd hin⟩
  · exact ⟨121, q_hy, q_hy_u, h, fun u x hin => gz_m_ild F.1 F.2.1 15 12 rfl rfl hd hin⟩
  · exact False.elim h
theorem x_zld (F : gz_F p s m args meth c cc nL ret ws own) (hd : decode cc pc = .ok (.baload, 1)) : gz_TI x_az (fun j n g _ => ∀ (u : q_S) (x : Int32), vp_in x n → gz_mv p l e R s m args below meth c cells slots Q nL a (gz_GG D q_cl (x_tys kc) A s (x_wf a kc)) (pc + 1) pc [gz_i x, gz_r j] u [gz_i (g u x.toNatClampNeg)] u) := by
  intro j k h
  unfold x_az at h
  split at h
  · exact ⟨4, q_bd, q_bd_u, h, fun u x hin => gz_m_zld F.1 F.2.1 4 1 rfl rfl hd hin⟩
  · exact False.elim h
theorem x_lld (F : gz_F p s m args meth c cc nL ret ws own) (hd : decode cc pc = .ok (.laload, 1)) : gz_TL x_al (fun j n g _ => ∀ (u : q_S) (x : Int32), vp_in x n → gz_mv p l e R s m args below meth c cells slots Q nL a (gz_GG D q_cl (x_tys kc) A s (x_wf a kc)) (pc + 1) pc [gz_i x, gz_r j] u [gz_l (g u x.toNatClampNeg)] u) := by
  intro j k h
  unfold x_al at h
  split at h
  · exact ⟨121, q_hu, q_hu_u, h, fun u x hin => gz_m_lld F.1 F.2.1 16 13 rfl rfl hd hin⟩
  · exact ⟨121, q_he, q_he_u, h, fun u x hin => gz_m_lld F.1 F.2.1 17 14 rfl rfl hd hin⟩
  · exact False.elim h
theorem x_ist (F : gz_F p s m args meth c cc nL ret ws own) (hd : decode cc pc = .ok (.iastore, 1)) : gz_TI x_ai (fun j n _ f => ∀ (u : q_S) (x y : Int32), vp_in x n → gz_mv p l e R s m args below meth c cells slots Q nL a (gz_GG D q_cl (x_tys kc) A s (x_wf a kc)) (pc + 1) pc [gz_i y, gz_i x, gz_r j] u [] (f u x y)) := by
  intro j k h
  unfold x_ai at h
  split at h
  · exact ⟨31, q_kd, q_kd_u, h, fun u x y hin => gz_m_ist F.1 F.2.1 3 0 rfl rfl hd hin rfl⟩
  · exact ⟨40, q_mo, q_mo_u, h, fun u x y hin => gz_m_ist F.1 F.2.1 5 2 rfl rfl hd hin rfl⟩
  · exact ⟨61, q_cr, q_cr_u, h, fun u x y hin => gz_m_ist F.1 F.2.1 6 3 rfl rfl hd hin rfl⟩
  · exact ⟨61, q_cp, q_cp_u, h, fun u x y hin => gz_m_ist F.1 F.2.1 7 4 rfl rfl hd hin rfl⟩
  · exact ⟨61, q_cs, q_cs_u, h, fun u x y hin => gz_m_ist F.1 F.2.1 8 5 rfl rfl hd hin rfl⟩
  · exact ⟨61, q_ch, q_ch_u, h, fun u x y hin => gz_m_ist F.1 F.2.1 9 6 rfl rfl hd hin rfl⟩
  · exact ⟨121, q_hp, q_hp_u, h, fun u x y hin => gz_m_ist F.1 F.2.1 10 7 rfl rfl hd hin rfl⟩
  · exact ⟨121, q_hr, q_hr_u, h, fun u x y hin => gz_m_ist F.1 F.2.1 11 8 rfl rfl hd hin rfl⟩
  · exact ⟨121, q_hl, q_hl_u, h, fun u x y hin => gz_m_ist F.1 F.2.1 12 9 rfl rfl hd hin rfl⟩
  · exact ⟨121, q_hk, q_hk_u, h, fun u x y hin => gz_m_ist F.1 F.2.1 13 10 rfl rfl hd hin rfl⟩
  · exact ⟨121, q_hs, q_hs_u, h, fun u x y hin => gz_m_ist F.1 F.2.1 14 11 rfl rfl hd hin rfl⟩
  · exact ⟨121, q_hy, q_hy_u, h, fun u x y hin => gz_m_ist F.1 F.2.1 15 12 rfl rfl hd hin rfl⟩
  · exact False.elim h
theorem x_zst (F : gz_F p s m args meth c cc nL ret ws own) (hd : decode cc pc = .ok (.bastore, 1)) : gz_TI x_az (fun j n _ f => ∀ (u : q_S) (x y : Int32), vp_in x n → gz_mv p l e R s m args below meth c cells slots Q nL a (gz_GG D q_cl (x_tys kc) A s (x_wf a kc)) (pc + 1) pc [gz_i y, gz_i x, gz_r j] u [] (f u x (vp_nar .boolean y))) := by
  intro j k h
  unfold x_az at h
  split at h
  · exact ⟨4, q_bd, q_bd_u, h, fun u x y hin => gz_m_zst F.1 F.2.1 4 1 rfl rfl hd hin rfl⟩
  · exact False.elim h
theorem x_lst (F : gz_F p s m args meth c cc nL ret ws own) (hd : decode cc pc = .ok (.lastore, 1)) : gz_TL x_al (fun j n _ f => ∀ (u : q_S) (x : Int32) (y : Int64), vp_in x n → gz_mv p l e R s m args below meth c cells slots Q nL a (gz_GG D q_cl (x_tys kc) A s (x_wf a kc)) (pc + 1) pc [gz_l y, gz_i x, gz_r j] u [] (f u x y)) := by
  intro j k h
  unfold x_al at h
  split at h
  · exact ⟨121, q_hu, q_hu_u, h, fun u x y hin => gz_m_lst F.1 F.2.1 16 13 rfl rfl hd hin rfl⟩
  · exact ⟨121, q_he, q_he_u, h, fun u x y hin => gz_m_lst F.1 F.2.1 17 14 rfl rfl hd hin rfl⟩
  · exact False.elim h
theorem xg__HoldQueue_13_w : (Cond.fieldLink R_HoldQueue 13 "HoldQueue" "recordCount" "I" : Cond) ∈ lw_gd := wi_88
theorem xg__HoldQueue_13 {cd : Cond} (F : gz_F p s m args meth c cc nL ret (cd :: lw_gd) R_HoldQueue) (hd : decode cc pc = .ok (.getfield 13, 3)) : ∀ u : q_S, gz_mv p l e R s m args below meth c cells slots Q nL a (gz_GG D q_cl (x_tys kc) A s (x_wf a kc)) (pc + 3) pc [gz_r 0] u [gz_i (q_nr u)] u := fun u => gz_m_get (C := R_HoldQueue) (T := T_HoldQueue) (N := 8) (ci := 0) F.1 F.2.1 (gz_hts F) _HoldQueue_in F.2.2.2.2.1 0 rfl rfl 1 (by decide) (gz_hts F _ xg__HoldQueue_13_w) (fun _ h => h) rfl hd
theorem xp__HoldQueue_13_w : (Cond.fieldLink R_HoldQueue 13 "HoldQueue" "recordCount" "I" : Cond) ∈ lw_gd := wi_88
theorem xp__HoldQueue_13 {cd : Cond} (F : gz_F p s m args meth c cc nL ret (cd :: lw_gd) R_HoldQueue) (hd : decode cc pc = .ok (.putfield 13, 3)) : ∀ (u : q_S) (x : Int32), gz_mv p l e R s m args below meth c cells slots Q nL a (gz_GG D q_cl (x_tys kc) A s (x_wf a kc)) (pc + 3) pc [gz_i x, gz_r 0] u [] (q_nr_s u x) := fun u x => gz_m_put (ty := .int) (C := R_HoldQueue) (T := T_HoldQueue) (N := 8) (ci := 0) F.1 F.2.1 (gz_hts F) _HoldQueue_in ty_HoldQueue ty_HoldQueue_ok nm_HoldQueue F.2.2.2.2.1 0 rfl rfl 1 (by decide) (gz_hts F _ xp__HoldQueue_13_w) (fun _ h => h) rfl (by decide +kernel) rfl rfl (Nat.le_of_ble_eq_true rfl) rfl hd
theorem xg__HoldQueue_9_w : (Cond.fieldLink R_HoldQueue 9 "HoldQueue" "kindOfRecord" "[I" : Cond) ∈ lw_gd := wi_87
theorem xg__HoldQueue_9 {cd : Cond} (F : gz_F p s m args meth c cc nL ret (cd :: lw_gd) R_HoldQueue) (hd : decode cc pc = .ok (.getfield 9, 3)) : ∀ u : q_S, gz_mv p l e R s m args below meth c cells slots Q nL a (gz_GG D q_cl (x_tys kc) A s (x_wf a kc)) (pc + 3) pc [gz_r 0] u [gz_r 3] u := fun u => gz_m_get (C := R_HoldQueue) (T := T_HoldQueue) (N := 8) (ci := 0) F.1 F.2.1 (gz_hts F) _HoldQueue_in F.2.2.2.2.1 0 rfl rfl 0 (by decide) (gz_hts F _ xg__HoldQueue_9_w) (fun _ h => h) rfl hd
theorem xg__HoldQueue_Copies_9_w : (Cond.fieldLink R_HoldQueue_Copies 9 "HoldQueue$Copies" "count" "I" : Cond) ∈ lw_gd := wi_20
theorem xg__HoldQueue_Copies_9 {cd : Cond} (F : gz_F p s m args meth c cc nL ret (cd :: lw_gd) R_HoldQueue_Copies) (hd : decode cc pc = .ok (.getfield 9, 3)) : ∀ u : q_S, gz_mv p l e R s m args below meth c cells slots Q nL a (gz_GG D q_cl (x_tys kc) A s (x_wf a kc)) (pc + 3) pc [gz_r 1] u [gz_i (q_nc u)] u := fun u => gz_m_get (C := R_HoldQueue_Copies) (T := T_HoldQueue_Copies) (N := 5) (ci := 1) F.1 F.2.1 (gz_hts F) _HoldQueue_Copies_in F.2.2.2.2.1 1 rfl rfl 0 (by decide) (gz_hts F _ xg__HoldQueue_Copies_9_w) (fun _ h => h) rfl hd
theorem xp__HoldQueue_Copies_9_w : (Cond.fieldLink R_HoldQueue_Copies 9 "HoldQueue$Copies" "count" "I" : Cond) ∈ lw_gd := wi_20
theorem xp__HoldQueue_Copies_9 {cd : Cond} (F : gz_F p s m args meth c cc nL ret (cd :: lw_gd) R_HoldQueue_Copies) (hd : decode cc pc = .ok (.putfield 9, 3)) : ∀ (u : q_S) (x : Int32), gz_mv p l e R s m args below meth c cells slots Q nL a (gz_GG D q_cl (x_tys kc) A s (x_wf a kc)) (pc + 3) pc [gz_i x, gz_r 1] u [] (q_nc_s u x) := fun u x => gz_m_put (ty := .int) (C := R_HoldQueue_Copies) (T := T_HoldQueue_Copies) (N := 5) (ci := 1) F.1 F.2.1 (gz_hts F) _HoldQueue_Copies_in ty_HoldQueue_Copies ty_HoldQueue_Copies_ok nm_HoldQueue_Copies F.2.2.2.2.1 1 rfl rfl 0 (by decide) (gz_hts F _ xp__HoldQueue_Copies_9_w) (fun _ h => h) rfl (by decide +kernel) rfl rfl (Nat.le_of_ble_eq_true rfl) rfl hd
theorem xg__HoldQueue_Copies_15_w : (Cond.fieldLink R_HoldQueue_Copies 15 "HoldQueue$Copies" "recordOf" "[I" : Cond) ∈ lw_gd := wi_21
theorem xg__HoldQueue_Copies_15 {cd : Cond} (F : gz_F p s m args meth c cc nL ret (cd :: lw_gd) R_HoldQueue_Copies) (hd : decode cc pc = .ok (.getfield 15, 3)) : ∀ u : q_S, gz_mv p l e R s m args below meth c cells slots Q nL a (gz_GG D q_cl (x_tys kc) A s (x_wf a kc)) (pc + 3) pc [gz_r 1] u [gz_r 6] u := fun u => gz_m_get (C := R_HoldQueue_Copies) (T := T_HoldQueue_Copies) (N := 5) (ci := 1) F.1 F.2.1 (gz_hts F) _HoldQueue_Copies_in F.2.2.2.2.1 1 rfl rfl 1 (by decide) (gz_hts F _ xg__HoldQueue_Copies_15_w) (fun _ h => h) rfl hd
theorem xg__HoldQueue_Copies_19_w : (Cond.fieldLink R_HoldQueue_Copies 19 "HoldQueue$Copies" "placeOf" "[I" : Cond) ∈ lw_gd := wi_23
theorem xg__HoldQueue_Copies_19 {cd : Cond} (F : gz_F p s m args meth c cc nL ret (cd :: lw_gd) R_HoldQueue_Copies) (hd : decode cc pc = .ok (.getfield 19, 3)) : ∀ u : q_S, gz_mv p l e R s m args below meth c cells slots Q nL a (gz_GG D q_cl (x_tys kc) A s (x_wf a kc)) (pc + 3) pc [gz_r 1] u [gz_r 7] u := fun u => gz_m_get (C := R_HoldQueue_Copies) (T := T_HoldQueue_Copies) (N := 5) (ci := 1) F.1 F.2.1 (gz_hts F) _HoldQueue_Copies_in F.2.2.2.2.1 1 rfl rfl 2 (by decide) (gz_hts F _ xg__HoldQueue_Copies_19_w) (fun _ h => h) rfl hd
theorem xg__HoldQueue_Copies_22_w : (Cond.fieldLink R_HoldQueue_Copies 22 "HoldQueue$Copies" "stateOf" "[I" : Cond) ∈ lw_gd := wi_25
theorem xg__HoldQueue_Copies_22 {cd : Cond} (F : gz_F p s m args meth c cc nL ret (cd :: lw_gd) R_HoldQueue_Copies) (hd : decode cc pc = .ok (.getfield 22, 3)) : ∀ u : q_S, gz_mv p l e R s m args below meth c cells slots Q nL a (gz_GG D q_cl (x_tys kc) A s (x_wf a kc)) (pc + 3) pc [gz_r 1] u [gz_r 8] u := fun u => gz_m_get (C := R_HoldQueue_Copies) (T := T_HoldQueue_Copies) (N := 5) (ci := 1) F.1 F.2.1 (gz_hts F) _HoldQueue_Copies_in F.2.2.2.2.1 1 rfl rfl 3 (by decide) (gz_hts F _ xg__HoldQueue_Copies_22_w) (fun _ h => h) rfl hd
theorem xg__HoldQueue_27_w : (Cond.fieldLink R_HoldQueue 27 "HoldQueue" "copies" "LHoldQueue$Copies;" : Cond) ∈ lw_gd := wi_91
theorem xg__HoldQueue_27 {cd : Cond} (F : gz_F p s m args meth c cc nL ret (cd :: lw_gd) R_HoldQueue) (hd : decode cc pc = .ok (.getfield 27, 3)) : ∀ u : q_S, gz_mv p l e R s m args below meth c cells slots Q nL a (gz_GG D q_cl (x_tys kc) A s (x_wf a kc)) (pc + 3) pc [gz_r 0] u [gz_r 1] u := fun u => gz_m_get (C := R_HoldQueue) (T := T_HoldQueue) (N := 8) (ci := 0) F.1 F.2.1 (gz_hts F) _HoldQueue_in F.2.2.2.2.1 0 rfl rfl 4 (by decide) (gz_hts F _ xg__HoldQueue_27_w) (fun _ h => h) rfl hd
theorem xg__HoldQueue_17_w : (Cond.fieldLink R_HoldQueue 17 "HoldQueue" "barredKind" "[Z" : Cond) ∈ lw_gd := wi_89
theorem xg__HoldQueue_17 {cd : Cond} (F : gz_F p s m args meth c cc nL ret (cd :: lw_gd) R_HoldQueue) (hd : decode cc pc = .ok (.getfield 17, 3)) : ∀ u : q_S, gz_mv p l e R s m args below meth c cells slots Q nL a (gz_GG D q_cl (x_tys kc) A s (x_wf a kc)) (pc + 3) pc [gz_r 0] u [gz_r 4] u := fun u => gz_m_get (C := R_HoldQueue) (T := T_HoldQueue) (N := 8) (ci := 0) F.1 F.2.1 (gz_hts F) _HoldQueue_in F.2.2.2.2.1 0 rfl rfl 2 (by decide) (gz_hts F _ xg__HoldQueue_17_w) (fun _ h => h) rfl hd
theorem xg__HoldQueue_Holds_9_w : (Cond.fieldLink R_HoldQueue_Holds 9 "HoldQueue$Holds" "count" "I" : Cond) ∈ lw_gd := wi_48
theorem xg__HoldQueue_Holds_9 {cd : Cond} (F : gz_F p s m args meth c cc nL ret (cd :: lw_gd) R_HoldQueue_Holds) (hd : decode cc pc = .ok (.getfield 9, 3)) : ∀ u : q_S, gz_mv p l e R s m args below meth c cells slots Q nL a (gz_GG D q_cl (x_tys kc) A s (x_wf a kc)) (pc + 3) pc [gz_r 2] u [gz_i (q_nh u)] u := fun u => gz_m_get (C := R_HoldQueue_Holds) (T := T_HoldQueue_Holds) (N := 9) (ci := 2) F.1 F.2.1 (gz_hts F) _HoldQueue_Holds_in F.2.2.2.2.1 2 rfl rfl 0 (by decide) (gz_hts F _ xg__HoldQueue_Holds_9_w) (fun _ h => h) rfl hd
theorem xg__HoldQueue_Holds_28_w : (Cond.fieldLink R_HoldQueue_Holds 28 "HoldQueue$Holds" "stateOf" "[I" : Cond) ∈ lw_gd := wi_56
theorem xg__HoldQueue_Holds_28 {cd : Cond} (F : gz_F p s m args meth c cc nL ret (cd :: lw_gd) R_HoldQueue_Holds) (hd : decode cc pc = .ok (.getfield 28, 3)) : ∀ u : q_S, gz_mv p l e R s m args below meth c cells slots Q nL a (gz_GG D q_cl (x_tys kc) A s (x_wf a kc)) (pc + 3) pc [gz_r 2] u [gz_r 14] u := fun u => gz_m_get (C := R_HoldQueue_Holds) (T := T_HoldQueue_Holds) (N := 9) (ci := 2) F.1 F.2.1 (gz_hts F) _HoldQueue_Holds_in F.2.2.2.2.1 2 rfl rfl 5 (by decide) (gz_hts F _ xg__HoldQueue_Holds_28_w) (fun _ h => h) rfl hd
theorem xg__HoldQueue_Holds_15_w : (Cond.fieldLink R_HoldQueue_Holds 15 "HoldQueue$Holds" "personOf" "[I" : Cond) ∈ lw_gd := wi_50
theorem xg__HoldQueue_Holds_15 {cd : Cond} (F : gz_F p s m args meth c cc nL ret (cd :: lw_gd) R_HoldQueue_Holds) (hd : decode cc pc = .ok (.getfield 15, 3)) : ∀ u : q_S, gz_mv p l e R s m args below meth c cells slots Q nL a (gz_GG D q_cl (x_tys kc) A s (x_wf a kc)) (pc + 3) pc [gz_r 2] u [gz_r 10] u := fun u => gz_m_get (C := R_HoldQueue_Holds) (T := T_HoldQueue_Holds) (N := 9) (ci := 2) F.1 F.2.1 (gz_hts F) _HoldQueue_Holds_in F.2.2.2.2.1 2 rfl rfl 1 (by decide) (gz_hts F _ xg__HoldQueue_Holds_15_w) (fun _ h => h) rfl hd
theorem xg__HoldQueue_Holds_19_w : (Cond.fieldLink R_HoldQueue_Holds 19 "HoldQueue$Holds" "recordOf" "[I" : Cond) ∈ lw_gd := wi_51
theorem xg__HoldQueue_Holds_19 {cd : Cond} (F : gz_F p s m args meth c cc nL ret (cd :: lw_gd) R_HoldQueue_Holds) (hd : decode cc pc = .ok (.getfield 19, 3)) : ∀ u : q_S, gz_mv p l e R s m args below meth c cells slots Q nL a (gz_GG D q_cl (x_tys kc) A s (x_wf a kc)) (pc + 3) pc [gz_r 2] u [gz_r 11] u := fun u => gz_m_get (C := R_HoldQueue_Holds) (T := T_HoldQueue_Holds) (N := 9) (ci := 2) F.1 F.2.1 (gz_hts F) _HoldQueue_Holds_in F.2.2.2.2.1 2 rfl rfl 2 (by decide) (gz_hts F _ xg__HoldQueue_Holds_19_w) (fun _ h => h) rfl hd
theorem xp__HoldQueue_Holds_9_w : (Cond.fieldLink R_HoldQueue_Holds 9 "HoldQueue$Holds" "count" "I" : Cond) ∈ lw_gd := wi_48
theorem xp__HoldQueue_Holds_9 {cd : Cond} (F : gz_F p s m args meth c cc nL ret (cd :: lw_gd) R_HoldQueue_Holds) (hd : decode cc pc = .ok (.putfield 9, 3)) : ∀ (u : q_S) (x : Int32), gz_mv p l e R s m args below meth c cells slots Q nL a (gz_GG D q_cl (x_tys kc) A s (x_wf a kc)) (pc + 3) pc [gz_i x, gz_r 2] u [] (q_nh_s u x) := fun u x => gz_m_put (ty := .int) (C := R_HoldQueue_Holds) (T := T_HoldQueue_Holds) (N := 9) (ci := 2) F.1 F.2.1 (gz_hts F) _HoldQueue_Holds_in ty_HoldQueue_Holds ty_HoldQueue_Holds_ok nm_HoldQueue_Holds F.2.2.2.2.1 2 rfl rfl 0 (by decide) (gz_hts F _ xp__HoldQueue_Holds_9_w) (fun _ h => h) rfl (by decide +kernel) rfl rfl (Nat.le_of_ble_eq_true rfl) rfl hd
theorem xg__HoldQueue_Holds_22_w : (Cond.fieldLink R_HoldQueue_Holds 22 "HoldQueue$Holds" "placeOf" "[I" : Cond) ∈ lw_gd := wi_52
theorem xg__HoldQueue_Holds_22 {cd : Cond} (F : gz_F p s m args meth c cc nL ret (cd :: lw_gd) R_HoldQueue_Holds) (hd : decode cc pc = .ok (.getfield 22, 3)) : ∀ u : q_S, gz_mv p l e R s m args below meth c cells slots Q nL a (gz_GG D q_cl (x_tys kc) A s (x_wf a kc)) (pc + 3) pc [gz_r 2] u [gz_r 12] u := fun u => gz_m_get (C := R_HoldQueue_Holds) (T := T_HoldQueue_Holds) (N := 9) (ci := 2) F.1 F.2.1 (gz_hts F) _HoldQueue_Holds_in F.2.2.2.2.1 2 rfl rfl 3 (by decide) (gz_hts F _ xg__HoldQueue_Holds_22_w) (fun _ h => h) rfl hd
theorem xg__HoldQueue_Holds_25_w : (Cond.fieldLink R_HoldQueue_Holds 25 "HoldQueue$Holds" "rankOf" "[I" : Cond) ∈ lw_gd := wi_54
theorem xg__HoldQueue_Holds_25 {cd : Cond} (F : gz_F p s m args meth c cc nL ret (cd :: lw_gd) R_HoldQueue_Holds) (hd : decode cc pc = .ok (.getfield 25, 3)) : ∀ u : q_S, gz_mv p l e R s m args below meth c cells slots Q nL a (gz_GG D q_cl (x_tys kc) A s (x_wf a kc)) (pc + 3) pc [gz_r 2] u [gz_r 13] u := fun u => gz_m_get (C := R_HoldQueue_Holds) (T := T_HoldQueue_Holds) (N := 9) (ci := 2) F.1 F.2.1 (gz_hts F) _HoldQueue_Holds_in F.2.2.2.2.1 2 rfl rfl 4 (by decide) (gz_hts F _ xg__HoldQueue_Holds_25_w) (fun _ h => h) rfl hd
theorem xg__HoldQueue_Holds_34_w : (Cond.fieldLink R_HoldQueue_Holds 34 "HoldQueue$Holds" "suspendedUntil" "[J" : Cond) ∈ lw_gd := wi_60
theorem xg__HoldQueue_Holds_34 {cd : Cond} (F : gz_F p s m args meth c cc nL ret (cd :: lw_gd) R_HoldQueue_Holds) (hd : decode cc pc = .ok (.getfield 34, 3)) : ∀ u : q_S, gz_mv p l e R s m args below meth c cells slots Q nL a (gz_GG D q_cl (x_tys kc) A s (x_wf a kc)) (pc + 3) pc [gz_r 2] u [gz_r 16] u := fun u => gz_m_get (C := R_HoldQueue_Holds) (T := T_HoldQueue_Holds) (N := 9) (ci := 2) F.1 F.2.1 (gz_hts F) _HoldQueue_Holds_in F.2.2.2.2.1 2 rfl rfl 7 (by decide) (gz_hts F _ xg__HoldQueue_Holds_34_w) (fun _ h => h) rfl hd
theorem xg__HoldQueue_117_w : (Cond.fieldLinkNest R_HoldQueue 117 "HoldQueue$Copies" "stateOf" "[I" "HoldQueue" : Cond) ∈ gz_nw := by decide +kernel
theorem xg__HoldQueue_117 {cd : Cond} (F : gz_F p s m args meth c cc nL ret (cd :: lw_gd) R_HoldQueue) (hd : decode cc pc = .ok (.getfield 117, 3)) : ∀ u : q_S, gz_mv p l e R s m args below meth c cells slots Q nL a (gz_GG D q_cl (x_tys kc) A s (x_wf a kc)) (pc + 3) pc [gz_r 1] u [gz_r 8] u := fun u => gz_m_getN (C := R_HoldQueue_Copies) (T := T_HoldQueue_Copies) (N := 5) (ci := 1) F.1 F.2.1 (gz_hts F) _HoldQueue_Copies_in F.2.2.2.2.1 1 rfl rfl 3 (by decide) (va_Nw.use rfl (gz_nwF F _ xg__HoldQueue_117_w)) (fun _ h => h) rfl hd
theorem xg__HoldQueue_34_w : (Cond.fieldLink R_HoldQueue 34 "HoldQueue" "holds" "LHoldQueue$Holds;" : Cond) ∈ lw_gd := wi_92
theorem xg__HoldQueue_34 {cd : Cond} (F : gz_F p s m args meth c cc nL ret (cd :: lw_gd) R_HoldQueue) (hd : decode cc pc = .ok (.getfield 34, 3)) : ∀ u : q_S, gz_mv p l e R s m args below meth c cells slots Q nL a (gz_GG D q_cl (x_tys kc) A s (x_wf a kc)) (pc + 3) pc [gz_r 0] u [gz_r 2] u := fun u => gz_m_get (C := R_HoldQueue) (T := T_HoldQueue) (N := 8) (ci := 0) F.1 F.2.1 (gz_hts F) _HoldQueue_in F.2.2.2.2.1 0 rfl rfl 5 (by decide) (gz_hts F _ xg__HoldQueue_34_w) (fun _ h => h) rfl hd
theorem xg__HoldQueue_114_w : (Cond.fieldLinkNest R_HoldQueue 114 "HoldQueue$Holds" "stateOf" "[I" "HoldQueue" : Cond) ∈ gz_nw := by decide +kernel
theorem xg__HoldQueue_114 {cd : Cond} (F : gz_F p s m args meth c cc nL ret (cd :: lw_gd) R_HoldQueue) (hd : decode cc pc = .ok (.getfield 114, 3)) : ∀ u : q_S, gz_mv p l e R s m args below meth c cells slots Q nL a (gz_GG D q_cl (x_tys kc) A s (x_wf a kc)) (pc + 3) pc [gz_r 2] u [gz_r 14] u := fun u => gz_m_getN (C := R_HoldQueue_Holds) (T := T_HoldQueue_Holds) (N := 9) (ci := 2) F.1 F.2.1 (gz_hts F) _HoldQueue_Holds_in F.2.2.2.2.1 2 rfl rfl 5 (by decide) (va_Nw.use rfl (gz_nwF F _ xg__HoldQueue_114_w)) (fun _ h => h) rfl hd
theorem xg__HoldQueue_130_w : (Cond.fieldLinkNest R_HoldQueue 130 "HoldQueue$Holds" "endOf" "[J" "HoldQueue" : Cond) ∈ gz_nw := by decide +kernel
theorem xg__HoldQueue_130 {cd : Cond} (F : gz_F p s m args meth c cc nL ret (cd :: lw_gd) R_HoldQueue) (hd : decode cc pc = .ok (.getfield 130, 3)) : ∀ u : q_S, gz_mv p l e R s m args below meth c cells slots Q nL a (gz_GG D q_cl (x_tys kc) A s (x_wf a kc)) (pc + 3) pc [gz_r 2] u [gz_r 17] u := fun u => gz_m_getN (C := R_HoldQueue_Holds) (T := T_HoldQueue_Holds) (N := 9) (ci := 2) F.1 F.2.1 (gz_hts F) _HoldQueue_Holds_in F.2.2.2.2.1 2 rfl rfl 8 (by decide) (va_Nw.use rfl (gz_nwF F _ xg__HoldQueue_130_w)) (fun _ h => h) rfl hd
theorem xg__HoldQueue_38_w : (Cond.fieldLink R_HoldQueue 38 "HoldQueue" "today" "J" : Cond) ∈ lw_gd := wi_93
theorem xg__HoldQueue_38 {cd : Cond} (F : gz_F p s m args meth c cc nL ret (cd :: lw_gd) R_HoldQueue) (hd : decode cc pc = .ok (.getfield 38, 3)) : ∀ u : q_S, gz_mv p l e R s m args below meth c cells slots Q nL a (gz_GG D q_cl (x_tys kc) A s (x_wf a kc)) (pc + 3) pc [gz_r 0] u [gz_l (q_td u)] u := fun u => gz_m_get (C := R_HoldQueue) (T := T_HoldQueue) (N := 8) (ci := 0) F.1 F.2.1 (gz_hts F) _HoldQueue_in F.2.2.2.2.1 0 rfl rfl 6 (by decide) (gz_hts F _ xg__HoldQueue_38_w) (fun _ h => h) rfl hd
theorem xg__HoldQueue_42_w : (Cond.fieldLink R_HoldQueue 42 "HoldQueue" "spanDays" "I" : Cond) ∈ lw_gd := wi_94
theorem xg__HoldQueue_42 {cd : Cond} (F : gz_F p s m args meth c cc nL ret (cd :: lw_gd) R_HoldQueue) (hd : decode cc pc = .ok (.getfield 42, 3)) : ∀ u : q_S, gz_mv p l e R s m args below meth c cells slots Q nL a (gz_GG D q_cl (x_tys kc) A s (x_wf a kc)) (pc + 3) pc [gz_r 0] u [gz_i (q_sp u)] u := fun u => gz_m_get (C := R_HoldQueue) (T := T_HoldQueue) (N := 8) (ci := 0) F.1 F.2.1 (gz_hts F) _HoldQueue_in F.2.2.2.2.1 0 rfl rfl 7 (by decide) (gz_hts F _ xg__HoldQueue_42_w) (fun _ h => h) rfl hd
theorem xg__HoldQueue_98_w : (Cond.fieldLinkNest R_HoldQueue 98 "HoldQueue$Copies" "placeOf" "[I" "HoldQueue" : Cond) ∈ gz_nw := by decide +kernel
theorem xg__HoldQueue_98 {cd : Cond} (F : gz_F p s m args meth c cc nL ret (cd :: lw_gd) R_HoldQueue) (hd : decode cc pc = .ok (.getfield 98, 3)) : ∀ u : q_S, gz_mv p l e R s m args below meth c cells slots Q nL a (gz_GG D q_cl (x_tys kc) A s (x_wf a kc)) (pc + 3) pc [gz_r 1] u [gz_r 7] u := fun u => gz_m_getN (C := R_HoldQueue_Copies) (T := T_HoldQueue_Copies) (N := 5) (ci := 1) F.1 F.2.1 (gz_hts F) _HoldQueue_Copies_in F.2.2.2.2.1 1 rfl rfl 2 (by decide) (va_Nw.use rfl (gz_nwF F _ xg__HoldQueue_98_w)) (fun _ h => h) rfl hd
theorem xg__HoldQueue_153_w : (Cond.fieldLinkNest R_HoldQueue 153 "HoldQueue$Holds" "placeOf" "[I" "HoldQueue" : Cond) ∈ gz_nw := by decide +kernel
theorem xg__HoldQueue_153 {cd : Cond} (F : gz_F p s m args meth c cc nL ret (cd :: lw_gd) R_HoldQueue) (hd : decode cc pc = .ok (.getfield 153, 3)) : ∀ u : q_S, gz_mv p l e R s m args below meth c cells slots Q nL a (gz_GG D q_cl (x_tys kc) A s (x_wf a kc)) (pc + 3) pc [gz_r 2] u [gz_r 12] u := fun u => gz_m_getN (C := R_HoldQueue_Holds) (T := T_HoldQueue_Holds) (N := 9) (ci := 2) F.1 F.2.1 (gz_hts F) _HoldQueue_Holds_in F.2.2.2.2.1 2 rfl rfl 3 (by decide) (va_Nw.use rfl (gz_nwF F _ xg__HoldQueue_153_w)) (fun _ h => h) rfl hd
theorem xg__HoldQueue_146_w : (Cond.fieldLinkNest R_HoldQueue 146 "HoldQueue$Copies" "recordOf" "[I" "HoldQueue" : Cond) ∈ gz_nw := by decide +kernel
theorem xg__HoldQueue_146 {cd : Cond} (F : gz_F p s m args meth c cc nL ret (cd :: lw_gd) R_HoldQueue) (hd : decode cc pc = .ok (.getfield 146, 3)) : ∀ u : q_S, gz_mv p l e R s m args below meth c cells slots Q nL a (gz_GG D q_cl (x_tys kc) A s (x_wf a kc)) (pc + 3) pc [gz_r 1] u [gz_r 6] u := fun u => gz_m_getN (C := R_HoldQueue_Copies) (T := T_HoldQueue_Copies) (N := 5) (ci := 1) F.1 F.2.1 (gz_hts F) _HoldQueue_Copies_in F.2.2.2.2.1 1 rfl rfl 1 (by decide) (va_Nw.use rfl (gz_nwF F _ xg__HoldQueue_146_w)) (fun _ h => h) rfl hd
theorem xg__HoldQueue_101_w : (Cond.fieldLinkNest R_HoldQueue 101 "HoldQueue$Copies" "holdOf" "[I" "HoldQueue" : Cond) ∈ gz_nw := by decide +kernel
theorem xg__HoldQueue_101 {cd : Cond} (F : gz_F p s m args meth c cc nL ret (cd :: lw_gd) R_HoldQueue) (hd : decode cc pc = .ok (.getfield 101, 3)) : ∀ u : q_S, gz_mv p l e R s m args below meth c cells slots Q nL a (gz_GG D q_cl (x_tys kc) A s (x_wf a kc)) (pc + 3) pc [gz_r 1] u [gz_r 9] u := fun u => gz_m_getN (C := R_HoldQueue_Copies) (T := T_HoldQueue_Copies) (N := 5) (ci := 1) F.1 F.2.1 (gz_hts F) _HoldQueue_Copies_in F.2.2.2.2.1 1 rfl rfl 4 (by decide) (va_Nw.use rfl (gz_nwF F _ xg__HoldQueue_101_w)) (fun _ h => h) rfl hd
theorem xg__HoldQueue_111_w : (Cond.fieldLinkNest R_HoldQueue 111 "HoldQueue$Holds" "copyOf" "[I" "HoldQueue" : Cond) ∈ gz_nw := by decide +kernel
theorem xg__HoldQueue_111 {cd : Cond} (F : gz_F p s m args meth c cc nL ret (cd :: lw_gd) R_HoldQueue) (hd : decode cc pc = .ok (.getfield 111, 3)) : ∀ u : q_S, gz_mv p l e R s m args below meth c cells slots Q nL a (gz_GG D q_cl (x_tys kc) A s (x_wf a kc)) (pc + 3) pc [gz_r 2] u [gz_r 15] u := fun u => gz_m_getN (C := R_HoldQueue_Holds) (T := T_HoldQueue_Holds) (N := 9) (ci := 2) F.1 F.2.1 (gz_hts F) _HoldQueue_Holds_in F.2.2.2.2.1 2 rfl rfl 6 (by decide) (va_Nw.use rfl (gz_nwF F _ xg__HoldQueue_111_w)) (fun _ h => h) rfl hd
theorem xg__HoldQueue_21_w : (Cond.fieldLink R_HoldQueue 21 "HoldQueue" "mostOfPerson" "[I" : Cond) ∈ lw_gd := wi_90
theorem xg__HoldQueue_21 {cd : Cond} (F : gz_F p s m args meth c cc nL ret (cd :: lw_gd) R_HoldQueue) (hd : decode cc pc = .ok (.getfield 21, 3)) : ∀ u : q_S, gz_mv p l e R s m args below meth c cells slots Q nL a (gz_GG D q_cl (x_tys kc) A s (x_wf a kc)) (pc + 3) pc [gz_r 0] u [gz_r 5] u := fun u => gz_m_get (C := R_HoldQueue) (T := T_HoldQueue) (N := 8) (ci := 0) F.1 F.2.1 (gz_hts F) _HoldQueue_in F.2.2.2.2.1 0 rfl rfl 3 (by decide) (gz_hts F _ xg__HoldQueue_21_w) (fun _ h => h) rfl hd
theorem xg__HoldQueue_93_w : (Cond.fieldLinkNest R_HoldQueue 93 "HoldQueue$Holds" "suspendedUntil" "[J" "HoldQueue" : Cond) ∈ gz_nw := by decide +kernel
theorem xg__HoldQueue_93 {cd : Cond} (F : gz_F p s m args meth c cc nL ret (cd :: lw_gd) R_HoldQueue) (hd : decode cc pc = .ok (.getfield 93, 3)) : ∀ u : q_S, gz_mv p l e R s m args below meth c cells slots Q nL a (gz_GG D q_cl (x_tys kc) A s (x_wf a kc)) (pc + 3) pc [gz_r 2] u [gz_r 16] u := fun u => gz_m_getN (C := R_HoldQueue_Holds) (T := T_HoldQueue_Holds) (N := 9) (ci := 2) F.1 F.2.1 (gz_hts F) _HoldQueue_Holds_in F.2.2.2.2.1 2 rfl rfl 7 (by decide) (va_Nw.use rfl (gz_nwF F _ xg__HoldQueue_93_w)) (fun _ h => h) rfl hd
theorem xp__HoldQueue_38_w : (Cond.fieldLink R_HoldQueue 38 "HoldQueue" "today" "J" : Cond) ∈ lw_gd := wi_93
theorem xp__HoldQueue_38 {cd : Cond} (F : gz_F p s m args meth c cc nL ret (cd :: lw_gd) R_HoldQueue) (hd : decode cc pc = .ok (.putfield 38, 3)) : ∀ (u : q_S) (x : Int64), gz_mv p l e R s m args below meth c cells slots Q nL a (gz_GG D q_cl (x_tys kc) A s (x_wf a kc)) (pc + 3) pc [gz_l x, gz_r 0] u [] (q_td_s u x) := fun u x => gz_m_put (ty := .long) (C := R_HoldQueue) (T := T_HoldQueue) (N := 8) (ci := 0) F.1 F.2.1 (gz_hts F) _HoldQueue_in ty_HoldQueue ty_HoldQueue_ok nm_HoldQueue F.2.2.2.2.1 0 rfl rfl 6 (by decide) (gz_hts F _ xp__HoldQueue_38_w) (fun _ h => h) rfl (by decide +kernel) rfl rfl (Nat.le_of_ble_eq_true rfl) rfl hd
theorem xg__HoldQueue_127_w : (Cond.fieldLinkNest R_HoldQueue 127 "HoldQueue$Holds" "count" "I" "HoldQueue" : Cond) ∈ gz_nw := by decide +kernel
theorem xg__HoldQueue_127 {cd : Cond} (F : gz_F p s m args meth c cc nL ret (cd :: lw_gd) R_HoldQueue) (hd : decode cc pc = .ok (.getfield 127, 3)) : ∀ u : q_S, gz_mv p l e R s m args below meth c cells slots Q nL a (gz_GG D q_cl (x_tys kc) A s (x_wf a kc)) (pc + 3) pc [gz_r 2] u [gz_i (q_nh u)] u := fun u => gz_m_getN (C := R_HoldQueue_Holds) (T := T_HoldQueue_Holds) (N := 9) (ci := 2) F.1 F.2.1 (gz_hts F) _HoldQueue_Holds_in F.2.2.2.2.1 2 rfl rfl 0 (by decide) (va_Nw.use rfl (gz_nwF F _ xg__HoldQueue_127_w)) (fun _ h => h) rfl hd
theorem xp__HoldQueue_42_w : (Cond.fieldLink R_HoldQueue 42 "HoldQueue" "spanDays" "I" : Cond) ∈ lw_gd := wi_94
theorem xp__HoldQueue_42 {cd : Cond} (F : gz_F p s m args meth c cc nL ret (cd :: lw_gd) R_HoldQueue) (hd : decode cc pc = .ok (.putfield 42, 3)) : ∀ (u : q_S) (x : Int32), gz_mv p l e R s m args below meth c cells slots Q nL a (gz_GG D q_cl (x_tys kc) A s (x_wf a kc)) (pc + 3) pc [gz_i x, gz_r 0] u [] (q_sp_s u x) := fun u x => gz_m_put (ty := .int) (C := R_HoldQueue) (T := T_HoldQueue) (N := 8) (ci := 0) F.1 F.2.1 (gz_hts F) _HoldQueue_in ty_HoldQueue ty_HoldQueue_ok nm_HoldQueue F.2.2.2.2.1 0 rfl rfl 7 (by decide) (gz_hts F _ xp__HoldQueue_42_w) (fun _ h => h) rfl (by decide +kernel) rfl rfl (Nat.le_of_ble_eq_true rfl) rfl hd
theorem xg__HoldQueue_133_w : (Cond.fieldLinkNest R_HoldQueue 133 "HoldQueue$Holds" "rankOf" "[I" "HoldQueue" : Cond) ∈ gz_nw := by decide +kernel
theorem xg__HoldQueue_133 {cd : Cond} (F : gz_F p s m args meth c cc nL ret (cd :: lw_gd) R_HoldQueue) (hd : decode cc pc = .ok (.getfield 133, 3)) : ∀ u : q_S, gz_mv p l e R s m args below meth c cells slots Q nL a (gz_GG D q_cl (x_tys kc) A s (x_wf a kc)) (pc + 3) pc [gz_r 2] u [gz_r 13] u := fun u => gz_m_getN (C := R_HoldQueue_Holds) (T := T_HoldQueue_Holds) (N := 9) (ci := 2) F.1 F.2.1 (gz_hts F) _HoldQueue_Holds_in F.2.2.2.2.1 2 rfl rfl 4 (by decide) (va_Nw.use rfl (gz_nwF F _ xg__HoldQueue_133_w)) (fun _ h => h) rfl hd
theorem m_ild (F : gz_F p s m args meth c cc nL ret ws own) (hd : decode cc pc = .ok (.iaload, 1)) : gz_TI m_ai (fun j n g _ => ∀ (u : q_S) (x : Int32), vp_in x n → gz_mv p l e R s m args below meth c cells slots Q nL a (gz_GG D q_cl (m_tys kc) A s (m_wf a kc)) (pc + 1) pc [gz_i x, gz_r j] u [gz_i (g u x.toNatClampNeg)] u) := by
  intro j k h
  unfold m_ai at h
  split at h
  · exact ⟨31, q_kd, q_kd_u, h, fun u x hin => gz_m_ild F.1 F.2.1 1 0 rfl rfl hd hin⟩
  · exact ⟨40, q_mo, q_mo_u, h, fun u x hin => gz_m_ild F.1 F.2.1 3 2 rfl rfl hd hin⟩
  · exact ⟨61, q_cr, q_cr_u, h, fun u x hin => gz_m_ild F.1 F.2.1 4 3 rfl rfl hd hin⟩
  · exact ⟨61, q_cs, q_cs_u, h, fun u x hin => gz_m_ild F.1 F.2.1 5 4 rfl rfl hd hin⟩
  · exact ⟨61, q_cp, q_cp_u, h, fun u x hin => gz_m_ild F.1 F.2.1 6 5 rfl rfl hd hin⟩
  · exact ⟨61, q_ch, q_ch_u, h, fun u x hin => gz_m_ild F.1 F.2.1 7 6 rfl rfl hd hin⟩
  · exact ⟨121, q_hp, q_hp_u, h, fun u x hin => gz_m_ild F.1 F.2.1 8 7 rfl rfl hd hin⟩
  · exact ⟨121, q_hr, q_hr_u, h, fun u x hin => gz_m_ild F.1 F.2.1 9 8 rfl rfl hd hin⟩
  · exact ⟨121, q_hl, q_hl_u, h, fun u x hin => gz_m_ild F.1 F.2.1 10 9 rfl rfl hd hin⟩
  · exact ⟨121, q_hk, q_hk_u, h, fun u x hin => gz_m_ild F.1 F.2.1 11 10 rfl rfl hd hin⟩
  · exact ⟨121, q_hs, q_hs_u, h, fun u x hin => gz_m_ild F.1 F.2.1 12 11 rfl rfl hd hin⟩
  · exact ⟨121, q_hy, q_hy_u, h, fun u x hin => gz_m_ild F.1 F.2.1 13 12 rfl rfl hd hin⟩
  · exact False.elim h
theorem m_zld (F : gz_F p s m args meth c cc nL ret ws own) (hd : decode cc pc = .ok (.baload, 1)) : gz_TI m_az (fun j n g _ => ∀ (u : q_S) (x : Int32), vp_in x n → gz_mv p l e R s m args below meth c cells slots Q nL a (gz_GG D q_cl (m_tys kc) A s (m_wf a kc)) (pc + 1) pc [gz_i x, gz_r j] u [gz_i (g u x.toNatClampNeg)] u) := by
  intro j k h
  unfold m_az at h
  split at h
  · exact ⟨4, q_bd, q_bd_u, h, fun u x hin => gz_m_zld F.1 F.2.1 2 1 rfl rfl hd hin⟩
  · exact False.elim h
theorem m_lld (F : gz_F p s m args meth c cc nL ret ws own) (hd : decode cc pc = .ok (.laload, 1)) : gz_TL m_al (fun j n g _ => ∀ (u : q_S) (x : Int32), vp_in x n → gz_mv p l e R s m args below meth c cells slots Q nL a (gz_GG D q_cl (m_tys kc) A s (m_wf a kc)) (pc + 1) pc [gz_i x, gz_r j] u [gz_l (g u x.toNatClampNeg)] u) := by
  intro j k h
  unfold m_al at h
  split at h
  · exact ⟨121, q_hu, q_hu_u, h, fun u x hin => gz_m_lld F.1 F.2.1 14 13 rfl rfl hd hin⟩
  · exact ⟨121, q_he, q_he_u, h, fun u x hin => gz_m_lld F.1 F.2.1 15 14 rfl rfl hd hin⟩
  · exact False.elim h
theorem m_ist (F : gz_F p s m args meth c cc nL ret ws own) (hd : decode cc pc = .ok (.iastore, 1)) : gz_TI m_ai (fun j n _ f => ∀ (u : q_S) (x y : Int32), vp_in x n → gz_mv p l e R s m args below meth c cells slots Q nL a (gz_GG D q_cl (m_tys kc) A s (m_wf a kc)) (pc + 1) pc [gz_i y, gz_i x, gz_r j] u [] (f u x y)) := by
  intro j k h
  unfold m_ai at h
  split at h
  · exact ⟨31, q_kd, q_kd_u, h, fun u x y hin => gz_m_ist F.1 F.2.1 1 0 rfl rfl hd hin rfl⟩
  · exact ⟨40, q_mo, q_mo_u, h, fun u x y hin => gz_m_ist F.1 F.2.1 3 2 rfl rfl hd hin rfl⟩
  · exact ⟨61, q_cr, q_cr_u, h, fun u x y hin => gz_m_ist F.1 F.2.1 4 3 rfl rfl hd hin rfl⟩
  · exact ⟨61, q_cs, q_cs_u, h, fun u x y hin => gz_m_ist F.1 F.2.1 5 4 rfl rfl hd hin rfl⟩
  · exact ⟨61, q_cp, q_cp_u, h, fun u x y hin => gz_m_ist F.1 F.2.1 6 5 rfl rfl hd hin rfl⟩
  · exact ⟨61, q_ch, q_ch_u, h, fun u x y hin => gz_m_ist F.1 F.2.1 7 6 rfl rfl hd hin rfl⟩
  · exact ⟨121, q_hp, q_hp_u, h, fun u x y hin => gz_m_ist F.1 F.2.1 8 7 rfl rfl hd hin rfl⟩
  · exact ⟨121, q_hr, q_hr_u, h, fun u x y hin => gz_m_ist F.1 F.2.1 9 8 rfl rfl hd hin rfl⟩
  · exact ⟨121, q_hl, q_hl_u, h, fun u x y hin => gz_m_ist F.1 F.2.1 10 9 rfl rfl hd hin rfl⟩
  · exact ⟨121, q_hk, q_hk_u, h, fun u x y hin => gz_m_ist F.1 F.2.1 11 10 rfl rfl hd hin rfl⟩
  · exact ⟨121, q_hs, q_hs_u, h, fun u x y hin => gz_m_ist F.1 F.2.1 12 11 rfl rfl hd hin rfl⟩
  · exact ⟨121, q_hy, q_hy_u, h, fun u x y hin => gz_m_ist F.1 F.2.1 13 12 rfl rfl hd hin rfl⟩
  · exact False.elim h
theorem m_zst (F : gz_F p s m args meth c cc nL ret ws own) (hd : decode cc pc = .ok (.bastore, 1)) : gz_TI m_az (fun j n _ f => ∀ (u : q_S) (x y : Int32), vp_in x n → gz_mv p l e R s m args below meth c cells slots Q nL a (gz_GG D q_cl (m_tys kc) A s (m_wf a kc)) (pc + 1) pc [gz_i y, gz_i x, gz_r j] u [] (f u x (vp_nar .boolean y))) := by
  intro j k h
  unfold m_az at h
  split at h
  · exact ⟨4, q_bd, q_bd_u, h, fun u x y hin => gz_m_zst F.1 F.2.1 2 1 rfl rfl hd hin rfl⟩
  · exact False.elim h
theorem m_lst (F : gz_F p s m args meth c cc nL ret ws own) (hd : decode cc pc = .ok (.lastore, 1)) : gz_TL m_al (fun j n _ f => ∀ (u : q_S) (x : Int32) (y : Int64), vp_in x n → gz_mv p l e R s m args below meth c cells slots Q nL a (gz_GG D q_cl (m_tys kc) A s (m_wf a kc)) (pc + 1) pc [gz_l y, gz_i x, gz_r j] u [] (f u x y)) := by
  intro j k h
  unfold m_al at h
  split at h
  · exact ⟨121, q_hu, q_hu_u, h, fun u x y hin => gz_m_lst F.1 F.2.1 14 13 rfl rfl hd hin rfl⟩
  · exact ⟨121, q_he, q_he_u, h, fun u x y hin => gz_m_lst F.1 F.2.1 15 14 rfl rfl hd hin rfl⟩
  · exact False.elim h
theorem mp__HoldQueueModel_61_w : (Cond.fieldLink R_HoldQueueModel 61 "HoldQueueModel" "thrown" "I" : Cond) ∈ lw_gd := wi_293
theorem mp__HoldQueueModel_61 {cd : Cond} (F : gz_F p s m args meth c cc nL ret (cd :: lw_gd) R_HoldQueueModel) (hd : decode cc pc = .ok (.putfield 61, 3)) : ∀ (u : q_S) (x : Int32), gz_mv p l e R s m args below meth c cells slots Q nL a (gz_GG D q_cl (m_tys kc) A s (m_wf a kc)) (pc + 3) pc [gz_i x, gz_r 0] u [] (q_th_s u x) := fun u x => gz_m_put (ty := .int) (C := R_HoldQueueModel) (T := T_HoldQueueModel) (N := 21) (ci := 3) F.1 F.2.1 (gz_hts F) _HoldQueueModel_in ty_HoldQueueModel ty_HoldQueueModel_ok nm_HoldQueueModel F.2.2.2.2.1 0 rfl rfl 0 (by decide) (gz_hts F _ mp__HoldQueueModel_61_w) (fun _ h => h) rfl (by decide +kernel) rfl rfl (Nat.le_of_ble_eq_true rfl) rfl hd
theorem mg__HoldQueueModel_68_w : (Cond.fieldLink R_HoldQueueModel 68 "HoldQueueModel" "records" "I" : Cond) ∈ lw_gd := wi_294
theorem mg__HoldQueueModel_68 {cd : Cond} (F : gz_F p s m args meth c cc nL ret (cd :: lw_gd) R_HoldQueueModel) (hd : decode cc pc = .ok (.getfield 68, 3)) : ∀ u : q_S, gz_mv p l e R s m args below meth c cells slots Q nL a (gz_GG D q_cl (m_tys kc) A s (m_wf a kc)) (pc + 3) pc [gz_r 0] u [gz_i (q_nr u)] u := fun u => gz_m_get (C := R_HoldQueueModel) (T := T_HoldQueueModel) (N := 21) (ci := 3) F.1 F.2.1 (gz_hts F) _HoldQueueModel_in F.2.2.2.2.1 0 rfl rfl 1 (by decide) (gz_hts F _ mg__HoldQueueModel_68_w) (fun _ h => h) rfl hd
theorem mp__HoldQueueModel_68_w : (Cond.fieldLink R_HoldQueueModel 68 "HoldQueueModel" "records" "I" : Cond) ∈ lw_gd := wi_294
theorem mp__HoldQueueModel_68 {cd : Cond} (F : gz_F p s m args meth c cc nL ret (cd :: lw_gd) R_HoldQueueModel) (hd : decode cc pc = .ok (.putfield 68, 3)) : ∀ (u : q_S) (x : Int32), gz_mv p l e R s m args below meth c cells slots Q nL a (gz_GG D q_cl (m_tys kc) A s (m_wf a kc)) (pc + 3) pc [gz_i x, gz_r 0] u [] (q_nr_s u x) := fun u x => gz_m_put (ty := .int) (C := R_HoldQueueModel) (T := T_HoldQueueModel) (N := 21) (ci := 3) F.1 F.2.1 (gz_hts F) _HoldQueueModel_in ty_HoldQueueModel ty_HoldQueueModel_ok nm_HoldQueueModel F.2.2.2.2.1 0 rfl rfl 1 (by decide) (gz_hts F _ mp__HoldQueueModel_68_w) (fun _ h => h) rfl (by decide +kernel) rfl rfl (Nat.le_of_ble_eq_true rfl) rfl hd
theorem mg__HoldQueueModel_7_w : (Cond.fieldLink R_HoldQueueModel 7 "HoldQueueModel" "kindOf" "[I" : Cond) ∈ lw_gd := wi_297
theorem mg__HoldQueueModel_7 {cd : Cond} (F : gz_F p s m args meth c cc nL ret (cd :: lw_gd) R_HoldQueueModel) (hd : decode cc pc = .ok (.getfield 7, 3)) : ∀ u : q_S, gz_mv p l e R s m args below meth c cells slots Q nL a (gz_GG D q_cl (m_tys kc) A s (m_wf a kc)) (pc + 3) pc [gz_r 0] u [gz_r 1] u := fun u => gz_m_get (C := R_HoldQueueModel) (T := T_HoldQueueModel) (N := 21) (ci := 3) F.1 F.2.1 (gz_hts F) _HoldQueueModel_in F.2.2.2.2.1 0 rfl rfl 4 (by decide) (gz_hts F _ mg__HoldQueueModel_7_w) (fun _ h => h) rfl hd
theorem mg__HoldQueueModel_71_w : (Cond.fieldLink R_HoldQueueModel 71 "HoldQueueModel" "copies" "I" : Cond) ∈ lw_gd := wi_295
theorem mg__HoldQueueModel_71 {cd : Cond} (F : gz_F p s m args meth c cc nL ret (cd :: lw_gd) R_HoldQueueModel) (hd : decode cc pc = .ok (.getfield 71, 3)) : ∀ u : q_S, gz_mv p l e R s m args below meth c cells slots Q nL a (gz_GG D q_cl (m_tys kc) A s (m_wf a kc)) (pc + 3) pc [gz_r 0] u [gz_i (q_nc u)] u := fun u => gz_m_get (C := R_HoldQueueModel) (T := T_HoldQueueModel) (N := 21) (ci := 3) F.1 F.2.1 (gz_hts F) _HoldQueueModel_in F.2.2.2.2.1 0 rfl rfl 2 (by decide) (gz_hts F _ mg__HoldQueueModel_71_w) (fun _ h => h) rfl hd
theorem mp__HoldQueueModel_71_w : (Cond.fieldLink R_HoldQueueModel 71 "HoldQueueModel" "copies" "I" : Cond) ∈ lw_gd := wi_295
theorem mp__HoldQueueModel_71 {cd : Cond} (F : gz_F p s m args meth c cc nL ret (cd :: lw_gd) R_HoldQueueModel) (hd : decode cc pc = .ok (.putfield 71, 3)) : ∀ (u : q_S) (x : Int32), gz_mv p l e R s m args below meth c cells slots Q nL a (gz_GG D q_cl (m_tys kc) A s (m_wf a kc)) (pc + 3) pc [gz_i x, gz_r 0] u [] (q_nc_s u x) := fun u x => gz_m_put (ty := .int) (C := R_HoldQueueModel) (T := T_HoldQueueModel) (N := 21) (ci := 3) F.1 F.2.1 (gz_hts F) _HoldQueueModel_in ty_HoldQueueModel ty_HoldQueueModel_ok nm_HoldQueueModel F.2.2.2.2.1 0 rfl rfl 2 (by decide) (gz_hts F _ mp__HoldQueueModel_71_w) (fun _ h => h) rfl (by decide +kernel) rfl rfl (Nat.le_of_ble_eq_true rfl) rfl hd
theorem mg__HoldQueueModel_24_w : (Cond.fieldLink R_HoldQueueModel 24 "HoldQueueModel" "recordOf" "[I" : Cond) ∈ lw_gd := wi_302
theorem mg__HoldQueueModel_24 {cd : Cond} (F : gz_F p s m args meth c cc nL ret (cd :: lw_gd) R_HoldQueueModel) (hd : decode cc pc = .ok (.getfield 24, 3)) : ∀ u : q_S, gz_mv p l e R s m args below meth c cells slots Q nL a (gz_GG D q_cl (m_tys kc) A s (m_wf a kc)) (pc + 3) pc [gz_r 0] u [gz_r 4] u := fun u => gz_m_get (C := R_HoldQueueModel) (T := T_HoldQueueModel) (N := 21) (ci := 3) F.1 F.2.1 (gz_hts F) _HoldQueueModel_in F.2.2.2.2.1 0 rfl rfl 9 (by decide) (gz_hts F _ mg__HoldQueueModel_24_w) (fun _ h => h) rfl hd
theorem mg__HoldQueueModel_27_w : (Cond.fieldLink R_HoldQueueModel 27 "HoldQueueModel" "copyState" "[I" : Cond) ∈ lw_gd := wi_303
theorem mg__HoldQueueModel_27 {cd : Cond} (F : gz_F p s m args meth c cc nL ret (cd :: lw_gd) R_HoldQueueModel) (hd : decode cc pc = .ok (.getfield 27, 3)) : ∀ u : q_S, gz_mv p l e R s m args below meth c cells slots Q nL a (gz_GG D q_cl (m_tys kc) A s (m_wf a kc)) (pc + 3) pc [gz_r 0] u [gz_r 5] u := fun u => gz_m_get (C := R_HoldQueueModel) (T := T_HoldQueueModel) (N := 21) (ci := 3) F.1 F.2.1 (gz_hts F) _HoldQueueModel_in F.2.2.2.2.1 0 rfl rfl 10 (by decide) (gz_hts F _ mg__HoldQueueModel_27_w) (fun _ h => h) rfl hd
theorem mg__HoldQueueModel_30_w : (Cond.fieldLink R_HoldQueueModel 30 "HoldQueueModel" "copyPlace" "[I" : Cond) ∈ lw_gd := wi_304
theorem mg__HoldQueueModel_30 {cd : Cond} (F : gz_F p s m args meth c cc nL ret (cd :: lw_gd) R_HoldQueueModel) (hd : decode cc pc = .ok (.getfield 30, 3)) : ∀ u : q_S, gz_mv p l e R s m args below meth c cells slots Q nL a (gz_GG D q_cl (m_tys kc) A s (m_wf a kc)) (pc + 3) pc [gz_r 0] u [gz_r 6] u := fun u => gz_m_get (C := R_HoldQueueModel) (T := T_HoldQueueModel) (N := 21) (ci := 3) F.1 F.2.1 (gz_hts F) _HoldQueueModel_in F.2.2.2.2.1 0 rfl rfl 11 (by decide) (gz_hts F _ mg__HoldQueueModel_30_w) (fun _ h => h) rfl hd
theorem mg__HoldQueueModel_33_w : (Cond.fieldLink R_HoldQueueModel 33 "HoldQueueModel" "copyHold" "[I" : Cond) ∈ lw_gd := wi_305
theorem mg__HoldQueueModel_33 {cd : Cond} (F : gz_F p s m args meth c cc nL ret (cd :: lw_gd) R_HoldQueueModel) (hd : decode cc pc = .ok (.getfield 33, 3)) : ∀ u : q_S, gz_mv p l e R s m args below meth c cells slots Q nL a (gz_GG D q_cl (m_tys kc) A s (m_wf a kc)) (pc + 3) pc [gz_r 0] u [gz_r 7] u := fun u => gz_m_get (C := R_HoldQueueModel) (T := T_HoldQueueModel) (N := 21) (ci := 3) F.1 F.2.1 (gz_hts F) _HoldQueueModel_in F.2.2.2.2.1 0 rfl rfl 12 (by decide) (gz_hts F _ mg__HoldQueueModel_33_w) (fun _ h => h) rfl hd
theorem mg__HoldQueueModel_13_w : (Cond.fieldLink R_HoldQueueModel 13 "HoldQueueModel" "barred" "[Z" : Cond) ∈ lw_gd := wi_298
theorem mg__HoldQueueModel_13 {cd : Cond} (F : gz_F p s m args meth c cc nL ret (cd :: lw_gd) R_HoldQueueModel) (hd : decode cc pc = .ok (.getfield 13, 3)) : ∀ u : q_S, gz_mv p l e R s m args below meth c cells slots Q nL a (gz_GG D q_cl (m_tys kc) A s (m_wf a kc)) (pc + 3) pc [gz_r 0] u [gz_r 2] u := fun u => gz_m_get (C := R_HoldQueueModel) (T := T_HoldQueueModel) (N := 21) (ci := 3) F.1 F.2.1 (gz_hts F) _HoldQueueModel_in F.2.2.2.2.1 0 rfl rfl 5 (by decide) (gz_hts F _ mg__HoldQueueModel_13_w) (fun _ h => h) rfl hd
theorem mg__HoldQueueModel_48_w : (Cond.fieldLink R_HoldQueueModel 48 "HoldQueueModel" "status" "[I" : Cond) ∈ lw_gd := wi_310
theorem mg__HoldQueueModel_48 {cd : Cond} (F : gz_F p s m args meth c cc nL ret (cd :: lw_gd) R_HoldQueueModel) (hd : decode cc pc = .ok (.getfield 48, 3)) : ∀ u : q_S, gz_mv p l e R s m args below meth c cells slots Q nL a (gz_GG D q_cl (m_tys kc) A s (m_wf a kc)) (pc + 3) pc [gz_r 0] u [gz_r 12] u := fun u => gz_m_get (C := R_HoldQueueModel) (T := T_HoldQueueModel) (N := 21) (ci := 3) F.1 F.2.1 (gz_hts F) _HoldQueueModel_in F.2.2.2.2.1 0 rfl rfl 17 (by decide) (gz_hts F _ mg__HoldQueueModel_48_w) (fun _ h => h) rfl hd
theorem mg__HoldQueueModel_45_w : (Cond.fieldLink R_HoldQueueModel 45 "HoldQueueModel" "rank" "[I" : Cond) ∈ lw_gd := wi_309
theorem mg__HoldQueueModel_45 {cd : Cond} (F : gz_F p s m args meth c cc nL ret (cd :: lw_gd) R_HoldQueueModel) (hd : decode cc pc = .ok (.getfield 45, 3)) : ∀ u : q_S, gz_mv p l e R s m args below meth c cells slots Q nL a (gz_GG D q_cl (m_tys kc) A s (m_wf a kc)) (pc + 3) pc [gz_r 0] u [gz_r 11] u := fun u => gz_m_get (C := R_HoldQueueModel) (T := T_HoldQueueModel) (N := 21) (ci := 3) F.1 F.2.1 (gz_hts F) _HoldQueueModel_in F.2.2.2.2.1 0 rfl rfl 16 (by decide) (gz_hts F _ mg__HoldQueueModel_45_w) (fun _ h => h) rfl hd
theorem mg__HoldQueueModel_74_w : (Cond.fieldLink R_HoldQueueModel 74 "HoldQueueModel" "holds" "I" : Cond) ∈ lw_gd := wi_296
theorem mg__HoldQueueModel_74 {cd : Cond} (F : gz_F p s m args meth c cc nL ret (cd :: lw_gd) R_HoldQueueModel) (hd : decode cc pc = .ok (.getfield 74, 3)) : ∀ u : q_S, gz_mv p l e R s m args below meth c cells slots Q nL a (gz_GG D q_cl (m_tys kc) A s (m_wf a kc)) (pc + 3) pc [gz_r 0] u [gz_i (q_nh u)] u := fun u => gz_m_get (C := R_HoldQueueModel) (T := T_HoldQueueModel) (N := 21) (ci := 3) F.1 F.2.1 (gz_hts F) _HoldQueueModel_in F.2.2.2.2.1 0 rfl rfl 3 (by decide) (gz_hts F _ mg__HoldQueueModel_74_w) (fun _ h => h) rfl hd
theorem mg__HoldQueueModel_39_w : (Cond.fieldLink R_HoldQueueModel 39 "HoldQueueModel" "record" "[I" : Cond) ∈ lw_gd := wi_307
theorem mg__HoldQueueModel_39 {cd : Cond} (F : gz_F p s m args meth c cc nL ret (cd :: lw_gd) R_HoldQueueModel) (hd : decode cc pc = .ok (.getfield 39, 3)) : ∀ u : q_S, gz_mv p l e R s m args below meth c cells slots Q nL a (gz_GG D q_cl (m_tys kc) A s (m_wf a kc)) (pc + 3) pc [gz_r 0] u [gz_r 9] u := fun u => gz_m_get (C := R_HoldQueueModel) (T := T_HoldQueueModel) (N := 21) (ci := 3) F.1 F.2.1 (gz_hts F) _HoldQueueModel_in F.2.2.2.2.1 0 rfl rfl 14 (by decide) (gz_hts F _ mg__HoldQueueModel_39_w) (fun _ h => h) rfl hd
theorem mg__HoldQueueModel_54_w : (Cond.fieldLink R_HoldQueueModel 54 "HoldQueueModel" "until" "[J" : Cond) ∈ lw_gd := wi_312
theorem mg__HoldQueueModel_54 {cd : Cond} (F : gz_F p s m args meth c cc nL ret (cd :: lw_gd) R_HoldQueueModel) (hd : decode cc pc = .ok (.getfield 54, 3)) : ∀ u : q_S, gz_mv p l e R s m args below meth c cells slots Q nL a (gz_GG D q_cl (m_tys kc) A s (m_wf a kc)) (pc + 3) pc [gz_r 0] u [gz_r 14] u := fun u => gz_m_get (C := R_HoldQueueModel) (T := T_HoldQueueModel) (N := 21) (ci := 3) F.1 F.2.1 (gz_hts F) _HoldQueueModel_in F.2.2.2.2.1 0 rfl rfl 19 (by decide) (gz_hts F _ mg__HoldQueueModel_54_w) (fun _ h => h) rfl hd
theorem mg__HoldQueueModel_81_w : (Cond.fieldLink R_HoldQueueModel 81 "HoldQueueModel" "today" "J" : Cond) ∈ lw_gd := wi_300
theorem mg__HoldQueueModel_81 {cd : Cond} (F : gz_F p s m args meth c cc nL ret (cd :: lw_gd) R_HoldQueueModel) (hd : decode cc pc = .ok (.getfield 81, 3)) : ∀ u : q_S, gz_mv p l e R s m args below meth c cells slots Q nL a (gz_GG D q_cl (m_tys kc) A s (m_wf a kc)) (pc + 3) pc [gz_r 0] u [gz_l (q_td u)] u := fun u => gz_m_get (C := R_HoldQueueModel) (T := T_HoldQueueModel) (N := 21) (ci := 3) F.1 F.2.1 (gz_hts F) _HoldQueueModel_in F.2.2.2.2.1 0 rfl rfl 7 (by decide) (gz_hts F _ mg__HoldQueueModel_81_w) (fun _ h => h) rfl hd
theorem mg__HoldQueueModel_58_w : (Cond.fieldLink R_HoldQueueModel 58 "HoldQueueModel" "end" "[J" : Cond) ∈ lw_gd := wi_313
theorem mg__HoldQueueModel_58 {cd : Cond} (F : gz_F p s m args meth c cc nL ret (cd :: lw_gd) R_HoldQueueModel) (hd : decode cc pc = .ok (.getfield 58, 3)) : ∀ u : q_S, gz_mv p l e R s m args below meth c cells slots Q nL a (gz_GG D q_cl (m_tys kc) A s (m_wf a kc)) (pc + 3) pc [gz_r 0] u [gz_r 15] u := fun u => gz_m_get (C := R_HoldQueueModel) (T := T_HoldQueueModel) (N := 21) (ci := 3) F.1 F.2.1 (gz_hts F) _HoldQueueModel_in F.2.2.2.2.1 0 rfl rfl 20 (by decide) (gz_hts F _ mg__HoldQueueModel_58_w) (fun _ h => h) rfl hd
theorem mg__HoldQueueModel_20_w : (Cond.fieldLink R_HoldQueueModel 20 "HoldQueueModel" "span" "I" : Cond) ∈ lw_gd := wi_301
theorem mg__HoldQueueModel_20 {cd : Cond} (F : gz_F p s m args meth c cc nL ret (cd :: lw_gd) R_HoldQueueModel) (hd : decode cc pc = .ok (.getfield 20, 3)) : ∀ u : q_S, gz_mv p l e R s m args below meth c cells slots Q nL a (gz_GG D q_cl (m_tys kc) A s (m_wf a kc)) (pc + 3) pc [gz_r 0] u [gz_i (q_sp u)] u := fun u => gz_m_get (C := R_HoldQueueModel) (T := T_HoldQueueModel) (N := 21) (ci := 3) F.1 F.2.1 (gz_hts F) _HoldQueueModel_in F.2.2.2.2.1 0 rfl rfl 8 (by decide) (gz_hts F _ mg__HoldQueueModel_20_w) (fun _ h => h) rfl hd
theorem mg__HoldQueueModel_51_w : (Cond.fieldLink R_HoldQueueModel 51 "HoldQueueModel" "copy" "[I" : Cond) ∈ lw_gd := wi_311
theorem mg__HoldQueueModel_51 {cd : Cond} (F : gz_F p s m args meth c cc nL ret (cd :: lw_gd) R_HoldQueueModel) (hd : decode cc pc = .ok (.getfield 51, 3)) : ∀ u : q_S, gz_mv p l e R s m args below meth c cells slots Q nL a (gz_GG D q_cl (m_tys kc) A s (m_wf a kc)) (pc + 3) pc [gz_r 0] u [gz_r 13] u := fun u => gz_m_get (C := R_HoldQueueModel) (T := T_HoldQueueModel) (N := 21) (ci := 3) F.1 F.2.1 (gz_hts F) _HoldQueueModel_in F.2.2.2.2.1 0 rfl rfl 18 (by decide) (gz_hts F _ mg__HoldQueueModel_51_w) (fun _ h => h) rfl hd
theorem mg__HoldQueueModel_42_w : (Cond.fieldLink R_HoldQueueModel 42 "HoldQueueModel" "place" "[I" : Cond) ∈ lw_gd := wi_308
theorem mg__HoldQueueModel_42 {cd : Cond} (F : gz_F p s m args meth c cc nL ret (cd :: lw_gd) R_HoldQueueModel) (hd : decode cc pc = .ok (.getfield 42, 3)) : ∀ u : q_S, gz_mv p l e R s m args below meth c cells slots Q nL a (gz_GG D q_cl (m_tys kc) A s (m_wf a kc)) (pc + 3) pc [gz_r 0] u [gz_r 10] u := fun u => gz_m_get (C := R_HoldQueueModel) (T := T_HoldQueueModel) (N := 21) (ci := 3) F.1 F.2.1 (gz_hts F) _HoldQueueModel_in F.2.2.2.2.1 0 rfl rfl 15 (by decide) (gz_hts F _ mg__HoldQueueModel_42_w) (fun _ h => h) rfl hd
theorem mg__HoldQueueModel_36_w : (Cond.fieldLink R_HoldQueueModel 36 "HoldQueueModel" "person" "[I" : Cond) ∈ lw_gd := wi_306
theorem mg__HoldQueueModel_36 {cd : Cond} (F : gz_F p s m args meth c cc nL ret (cd :: lw_gd) R_HoldQueueModel) (hd : decode cc pc = .ok (.getfield 36, 3)) : ∀ u : q_S, gz_mv p l e R s m args below meth c cells slots Q nL a (gz_GG D q_cl (m_tys kc) A s (m_wf a kc)) (pc + 3) pc [gz_r 0] u [gz_r 8] u := fun u => gz_m_get (C := R_HoldQueueModel) (T := T_HoldQueueModel) (N := 21) (ci := 3) F.1 F.2.1 (gz_hts F) _HoldQueueModel_in F.2.2.2.2.1 0 rfl rfl 13 (by decide) (gz_hts F _ mg__HoldQueueModel_36_w) (fun _ h => h) rfl hd
theorem mg__HoldQueueModel_17_w : (Cond.fieldLink R_HoldQueueModel 17 "HoldQueueModel" "most" "[I" : Cond) ∈ lw_gd := wi_299
theorem mg__HoldQueueModel_17 {cd : Cond} (F : gz_F p s m args meth c cc nL ret (cd :: lw_gd) R_HoldQueueModel) (hd : decode cc pc = .ok (.getfield 17, 3)) : ∀ u : q_S, gz_mv p l e R s m args below meth c cells slots Q nL a (gz_GG D q_cl (m_tys kc) A s (m_wf a kc)) (pc + 3) pc [gz_r 0] u [gz_r 3] u := fun u => gz_m_get (C := R_HoldQueueModel) (T := T_HoldQueueModel) (N := 21) (ci := 3) F.1 F.2.1 (gz_hts F) _HoldQueueModel_in F.2.2.2.2.1 0 rfl rfl 6 (by decide) (gz_hts F _ mg__HoldQueueModel_17_w) (fun _ h => h) rfl hd
theorem mp__HoldQueueModel_74_w : (Cond.fieldLink R_HoldQueueModel 74 "HoldQueueModel" "holds" "I" : Cond) ∈ lw_gd := wi_296
theorem mp__HoldQueueModel_74 {cd : Cond} (F : gz_F p s m args meth c cc nL ret (cd :: lw_gd) R_HoldQueueModel) (hd : decode cc pc = .ok (.putfield 74, 3)) : ∀ (u : q_S) (x : Int32), gz_mv p l e R s m args below meth c cells slots Q nL a (gz_GG D q_cl (m_tys kc) A s (m_wf a kc)) (pc + 3) pc [gz_i x, gz_r 0] u [] (q_nh_s u x) := fun u x => gz_m_put (ty := .int) (C := R_HoldQueueModel) (T := T_HoldQueueModel) (N := 21) (ci := 3) F.1 F.2.1 (gz_hts F) _HoldQueueModel_in ty_HoldQueueModel ty_HoldQueueModel_ok nm_HoldQueueModel F.2.2.2.2.1 0 rfl rfl 3 (by decide) (gz_hts F _ mp__HoldQueueModel_74_w) (fun _ h => h) rfl (by decide +kernel) rfl rfl (Nat.le_of_ble_eq_true rfl) rfl hd
theorem mp__HoldQueueModel_81_w : (Cond.fieldLink R_HoldQueueModel 81 "HoldQueueModel" "today" "J" : Cond) ∈ lw_gd := wi_300
theorem mp__HoldQueueModel_81 {cd : Cond} (F : gz_F p s m args meth c cc nL ret (cd :: lw_gd) R_HoldQueueModel) (hd : decode cc pc = .ok (.putfield 81, 3)) : ∀ (u : q_S) (x : Int64), gz_mv p l e R s m args below meth c cells slots Q nL a (gz_GG D q_cl (m_tys kc) A s (m_wf a kc)) (pc + 3) pc [gz_l x, gz_r 0] u [] (q_td_s u x) := fun u x => gz_m_put (ty := .long) (C := R_HoldQueueModel) (T := T_HoldQueueModel) (N := 21) (ci := 3) F.1 F.2.1 (gz_hts F) _HoldQueueModel_in ty_HoldQueueModel ty_HoldQueueModel_ok nm_HoldQueueModel F.2.2.2.2.1 0 rfl rfl 7 (by decide) (gz_hts F _ mp__HoldQueueModel_81_w) (fun _ h => h) rfl (by decide +kernel) rfl rfl (Nat.le_of_ble_eq_true rfl) rfl hd
theorem mp__HoldQueueModel_20_w : (Cond.fieldLink R_HoldQueueModel 20 "HoldQueueModel" "span" "I" : Cond) ∈ lw_gd := wi_301
theorem mp__HoldQueueModel_20 {cd : Cond} (F : gz_F p s m args meth c cc nL ret (cd :: lw_gd) R_HoldQueueModel) (hd : decode cc pc = .ok (.putfield 20, 3)) : ∀ (u : q_S) (x : Int32), gz_mv p l e R s m args below meth c cells slots Q nL a (gz_GG D q_cl (m_tys kc) A s (m_wf a kc)) (pc + 3) pc [gz_i x, gz_r 0] u [] (q_sp_s u x) := fun u x => gz_m_put (ty := .int) (C := R_HoldQueueModel) (T := T_HoldQueueModel) (N := 21) (ci := 3) F.1 F.2.1 (gz_hts F) _HoldQueueModel_in ty_HoldQueueModel ty_HoldQueueModel_ok nm_HoldQueueModel F.2.2.2.2.1 0 rfl rfl 8 (by decide) (gz_hts F _ mp__HoldQueueModel_20_w) (fun _ h => h) rfl (by decide +kernel) rfl rfl (Nat.le_of_ble_eq_true rfl) rfl hd
end GZX
end
