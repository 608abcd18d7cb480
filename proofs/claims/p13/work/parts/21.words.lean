theorem gz_in1 {k : Nat} {w : Cond} (h : tables_1_1[k]? = some w) (hn : goodWord w = true) : w ∈ lw_gd := List.mem_filter.mpr ⟨List.mem_append_right _ (List.mem_append_left _ (List.mem_of_getElem? h)), hn⟩
theorem gz_in2 {k : Nat} {w : Cond} (h : tables_1_2[k]? = some w) (hn : goodWord w = true) : w ∈ lw_gd := List.mem_filter.mpr ⟨List.mem_append_right _ (List.mem_append_right _ (List.mem_of_getElem? h)), hn⟩
theorem gz_in0 {k : Nat} {w : Cond} (h : (k2_sels lw_privs)[k]? = some w) (hn : goodWord w = true) : w ∈ lw_gd := List.mem_filter.mpr ⟨List.mem_append_left _ (List.mem_of_getElem? h), hn⟩
theorem wi_0 : (Jvm.Cond.initialized "HoldQueueLaw") ∈ lw_gd := gz_in1 (k := 0) rfl rfl
theorem wi_1 : (Jvm.Cond.initialized "HoldQueue") ∈ lw_gd := gz_in1 (k := 1) rfl rfl
theorem wi_2 : (Jvm.Cond.initialized "HoldQueue$Copies") ∈ lw_gd := gz_in1 (k := 2) rfl rfl
theorem wi_3 : (Jvm.Cond.initialized "HoldQueue$Holds") ∈ lw_gd := gz_in1 (k := 3) rfl rfl
theorem wi_4 : (Jvm.Cond.initialized "java/util/Arrays") ∈ lw_gd := gz_in1 (k := 4) rfl rfl
theorem wi_5 : (Jvm.Cond.initialized "HoldQueueModel") ∈ lw_gd := gz_in1 (k := 5) rfl rfl
theorem wi_6 : (Jvm.Cond.classLink "HoldQueueLaw" (7 : Nat) "HoldQueue") ∈ lw_gd := gz_in1 (k := 6) rfl rfl
theorem wi_7 : (Jvm.Cond.instantiable "HoldQueue" (8 : Nat)) ∈ lw_gd := gz_in1 (k := 7) rfl rfl
theorem wi_8 : (Jvm.Cond.methodLink "HoldQueueLaw" (9 : Nat) ({ cls := "HoldQueue", name := "<init>", desc := "()V" } : Jvm.MethodName)) ∈ lw_gd := gz_in1 (k := 8) rfl rfl
theorem wi_9 : (Jvm.Cond.instanceMethod ({ cls := "HoldQueue", name := "<init>", desc := "()V" } : Jvm.MethodName)) ∈ lw_gd := gz_in1 (k := 9) rfl rfl
theorem wi_10 : (Jvm.Cond.code ({ cls := "HoldQueue", name := "<init>", desc := "()V" } : Jvm.MethodName) prog_1_method_1_code (1 : Nat) (Option.none : Option Jvm.ClassFile.FieldType)) ∈ lw_gd := gz_in1 (k := 10) rfl rfl
theorem wi_11 : (Jvm.Cond.methodLink "HoldQueue" (1 : Nat) ({ cls := "java/lang/Object", name := "<init>", desc := "()V" } : Jvm.MethodName)) ∈ lw_gd := gz_in1 (k := 11) rfl rfl
theorem wi_12 : (Jvm.Cond.instanceMethod ({ cls := "java/lang/Object", name := "<init>", desc := "()V" } : Jvm.MethodName)) ∈ lw_gd := gz_in1 (k := 12) rfl rfl
theorem wi_13 : (Jvm.Cond.code ({ cls := "java/lang/Object", name := "<init>", desc := "()V" } : Jvm.MethodName) object_method_1_code (1 : Nat) (Option.none : Option Jvm.ClassFile.FieldType)) ∈ lw_gd := gz_in1 (k := 13) rfl rfl
theorem wi_14 : (Jvm.Cond.classLink "HoldQueue" (24 : Nat) "HoldQueue$Copies") ∈ lw_gd := gz_in1 (k := 14) rfl rfl
theorem wi_15 : (Jvm.Cond.instantiable "HoldQueue$Copies" (5 : Nat)) ∈ lw_gd := gz_in1 (k := 15) rfl rfl
theorem wi_17 : (Jvm.Cond.instanceMethod ({ cls := "HoldQueue$Copies", name := "<init>", desc := "()V" } : Jvm.MethodName)) ∈ lw_gd := gz_in1 (k := 17) rfl rfl
theorem wi_18 : (Jvm.Cond.code ({ cls := "HoldQueue$Copies", name := "<init>", desc := "()V" } : Jvm.MethodName) prog_2_method_1_code (1 : Nat) (Option.none : Option Jvm.ClassFile.FieldType)) ∈ lw_gd := gz_in1 (k := 18) rfl rfl
theorem wi_19 : (Jvm.Cond.methodLink "HoldQueue$Copies" (3 : Nat) ({ cls := "java/lang/Object", name := "<init>", desc := "()V" } : Jvm.MethodName)) ∈ lw_gd := gz_in1 (k := 19) rfl rfl
theorem wi_20 : (Jvm.Cond.fieldLink "HoldQueue$Copies" (9 : Nat) "HoldQueue$Copies" "count" "I") ∈ lw_gd := gz_in1 (k := 20) rfl rfl
theorem wi_21 : (Jvm.Cond.fieldLink "HoldQueue$Copies" (15 : Nat) "HoldQueue$Copies" "recordOf" "[I") ∈ lw_gd := gz_in1 (k := 21) rfl rfl
theorem wi_23 : (Jvm.Cond.fieldLink "HoldQueue$Copies" (19 : Nat) "HoldQueue$Copies" "placeOf" "[I") ∈ lw_gd := gz_in1 (k := 23) rfl rfl
theorem wi_25 : (Jvm.Cond.fieldLink "HoldQueue$Copies" (22 : Nat) "HoldQueue$Copies" "stateOf" "[I") ∈ lw_gd := gz_in1 (k := 25) rfl rfl
theorem wi_27 : (Jvm.Cond.fieldLink "HoldQueue$Copies" (25 : Nat) "HoldQueue$Copies" "holdOf" "[I") ∈ lw_gd := gz_in1 (k := 27) rfl rfl
theorem wi_29 : (Jvm.Cond.lays "HoldQueue$Copies" "HoldQueue$Copies" "count" "I") ∈ lw_gd := gz_in1 (k := 29) rfl rfl
theorem wi_30 : (Jvm.Cond.soleField "HoldQueue$Copies" "count") ∈ lw_gd := gz_in1 (k := 30) rfl rfl
theorem wi_31 : (Jvm.Cond.laysFinal "HoldQueue$Copies" "HoldQueue$Copies" "recordOf" "[I") ∈ lw_gd := gz_in1 (k := 31) rfl rfl
theorem wi_32 : (Jvm.Cond.soleField "HoldQueue$Copies" "recordOf") ∈ lw_gd := gz_in1 (k := 32) rfl rfl
theorem wi_33 : (Jvm.Cond.laysFinal "HoldQueue$Copies" "HoldQueue$Copies" "placeOf" "[I") ∈ lw_gd := gz_in1 (k := 33) rfl rfl
theorem wi_34 : (Jvm.Cond.soleField "HoldQueue$Copies" "placeOf") ∈ lw_gd := gz_in1 (k := 34) rfl rfl
theorem wi_35 : (Jvm.Cond.laysFinal "HoldQueue$Copies" "HoldQueue$Copies" "stateOf" "[I") ∈ lw_gd := gz_in1 (k := 35) rfl rfl
theorem wi_36 : (Jvm.Cond.soleField "HoldQueue$Copies" "stateOf") ∈ lw_gd := gz_in1 (k := 36) rfl rfl
theorem wi_37 : (Jvm.Cond.laysFinal "HoldQueue$Copies" "HoldQueue$Copies" "holdOf" "[I") ∈ lw_gd := gz_in1 (k := 37) rfl rfl
theorem wi_38 : (Jvm.Cond.soleField "HoldQueue$Copies" "holdOf") ∈ lw_gd := gz_in1 (k := 38) rfl rfl
theorem wi_39 : (Jvm.Cond.superclass "HoldQueue$Copies" "java/lang/Object") ∈ lw_gd := gz_in1 (k := 39) rfl rfl
theorem wi_40 : (Jvm.Cond.arrayClass Jvm.ClassFile.FieldType.int) ∈ lw_gd := gz_in1 (k := 40) rfl rfl
theorem wi_41 : (Jvm.Cond.arrayClass Jvm.ClassFile.FieldType.boolean) ∈ lw_gd := gz_in1 (k := 41) rfl rfl
theorem wi_42 : (Jvm.Cond.classLink "HoldQueue" (31 : Nat) "HoldQueue$Holds") ∈ lw_gd := gz_in1 (k := 42) rfl rfl
theorem wi_43 : (Jvm.Cond.instantiable "HoldQueue$Holds" (9 : Nat)) ∈ lw_gd := gz_in1 (k := 43) rfl rfl
theorem wi_45 : (Jvm.Cond.instanceMethod ({ cls := "HoldQueue$Holds", name := "<init>", desc := "()V" } : Jvm.MethodName)) ∈ lw_gd := gz_in1 (k := 45) rfl rfl
theorem wi_46 : (Jvm.Cond.code ({ cls := "HoldQueue$Holds", name := "<init>", desc := "()V" } : Jvm.MethodName) prog_3_method_1_code (1 : Nat) (Option.none : Option Jvm.ClassFile.FieldType)) ∈ lw_gd := gz_in1 (k := 46) rfl rfl
theorem wi_47 : (Jvm.Cond.methodLink "HoldQueue$Holds" (3 : Nat) ({ cls := "java/lang/Object", name := "<init>", desc := "()V" } : Jvm.MethodName)) ∈ lw_gd := gz_in1 (k := 47) rfl rfl
theorem wi_48 : (Jvm.Cond.fieldLink "HoldQueue$Holds" (9 : Nat) "HoldQueue$Holds" "count" "I") ∈ lw_gd := gz_in1 (k := 48) rfl rfl
theorem wi_50 : (Jvm.Cond.fieldLink "HoldQueue$Holds" (15 : Nat) "HoldQueue$Holds" "personOf" "[I") ∈ lw_gd := gz_in1 (k := 50) rfl rfl
theorem wi_51 : (Jvm.Cond.fieldLink "HoldQueue$Holds" (19 : Nat) "HoldQueue$Holds" "recordOf" "[I") ∈ lw_gd := gz_in1 (k := 51) rfl rfl
theorem wi_52 : (Jvm.Cond.fieldLink "HoldQueue$Holds" (22 : Nat) "HoldQueue$Holds" "placeOf" "[I") ∈ lw_gd := gz_in1 (k := 52) rfl rfl
theorem wi_54 : (Jvm.Cond.fieldLink "HoldQueue$Holds" (25 : Nat) "HoldQueue$Holds" "rankOf" "[I") ∈ lw_gd := gz_in1 (k := 54) rfl rfl
theorem wi_56 : (Jvm.Cond.fieldLink "HoldQueue$Holds" (28 : Nat) "HoldQueue$Holds" "stateOf" "[I") ∈ lw_gd := gz_in1 (k := 56) rfl rfl
theorem wi_58 : (Jvm.Cond.fieldLink "HoldQueue$Holds" (31 : Nat) "HoldQueue$Holds" "copyOf" "[I") ∈ lw_gd := gz_in1 (k := 58) rfl rfl
theorem wi_60 : (Jvm.Cond.fieldLink "HoldQueue$Holds" (34 : Nat) "HoldQueue$Holds" "suspendedUntil" "[J") ∈ lw_gd := gz_in1 (k := 60) rfl rfl
theorem wi_62 : (Jvm.Cond.fieldLink "HoldQueue$Holds" (38 : Nat) "HoldQueue$Holds" "endOf" "[J") ∈ lw_gd := gz_in1 (k := 62) rfl rfl
theorem wi_64 : (Jvm.Cond.lays "HoldQueue$Holds" "HoldQueue$Holds" "count" "I") ∈ lw_gd := gz_in1 (k := 64) rfl rfl
theorem wi_65 : (Jvm.Cond.soleField "HoldQueue$Holds" "count") ∈ lw_gd := gz_in1 (k := 65) rfl rfl
theorem wi_66 : (Jvm.Cond.laysFinal "HoldQueue$Holds" "HoldQueue$Holds" "personOf" "[I") ∈ lw_gd := gz_in1 (k := 66) rfl rfl
theorem wi_67 : (Jvm.Cond.soleField "HoldQueue$Holds" "personOf") ∈ lw_gd := gz_in1 (k := 67) rfl rfl
theorem wi_68 : (Jvm.Cond.laysFinal "HoldQueue$Holds" "HoldQueue$Holds" "recordOf" "[I") ∈ lw_gd := gz_in1 (k := 68) rfl rfl
theorem wi_69 : (Jvm.Cond.soleField "HoldQueue$Holds" "recordOf") ∈ lw_gd := gz_in1 (k := 69) rfl rfl
theorem wi_70 : (Jvm.Cond.laysFinal "HoldQueue$Holds" "HoldQueue$Holds" "placeOf" "[I") ∈ lw_gd := gz_in1 (k := 70) rfl rfl
theorem wi_71 : (Jvm.Cond.soleField "HoldQueue$Holds" "placeOf") ∈ lw_gd := gz_in1 (k := 71) rfl rfl
theorem wi_72 : (Jvm.Cond.laysFinal "HoldQueue$Holds" "HoldQueue$Holds" "rankOf" "[I") ∈ lw_gd := gz_in1 (k := 72) rfl rfl
theorem wi_73 : (Jvm.Cond.soleField "HoldQueue$Holds" "rankOf") ∈ lw_gd := gz_in1 (k := 73) rfl rfl
theorem wi_74 : (Jvm.Cond.laysFinal "HoldQueue$Holds" "HoldQueue$Holds" "stateOf" "[I") ∈ lw_gd := gz_in1 (k := 74) rfl rfl
theorem wi_75 : (Jvm.Cond.soleField "HoldQueue$Holds" "stateOf") ∈ lw_gd := gz_in1 (k := 75) rfl rfl
theorem wi_76 : (Jvm.Cond.laysFinal "HoldQueue$Holds" "HoldQueue$Holds" "copyOf" "[I") ∈ lw_gd := gz_in1 (k := 76) rfl rfl
theorem wi_77 : (Jvm.Cond.soleField "HoldQueue$Holds" "copyOf") ∈ lw_gd := gz_in1 (k := 77) rfl rfl
theorem wi_78 : (Jvm.Cond.laysFinal "HoldQueue$Holds" "HoldQueue$Holds" "suspendedUntil" "[J") ∈ lw_gd := gz_in1 (k := 78) rfl rfl
theorem wi_79 : (Jvm.Cond.soleField "HoldQueue$Holds" "suspendedUntil") ∈ lw_gd := gz_in1 (k := 79) rfl rfl
theorem wi_80 : (Jvm.Cond.laysFinal "HoldQueue$Holds" "HoldQueue$Holds" "endOf" "[J") ∈ lw_gd := gz_in1 (k := 80) rfl rfl
theorem wi_81 : (Jvm.Cond.soleField "HoldQueue$Holds" "endOf") ∈ lw_gd := gz_in1 (k := 81) rfl rfl
theorem wi_82 : (Jvm.Cond.superclass "HoldQueue$Holds" "java/lang/Object") ∈ lw_gd := gz_in1 (k := 82) rfl rfl
theorem wi_83 : (Jvm.Cond.arrayClass Jvm.ClassFile.FieldType.long) ∈ lw_gd := gz_in1 (k := 83) rfl rfl
theorem wi_84 : (Jvm.Cond.methodLink "HoldQueue" (45 : Nat) ({ cls := "java/util/Arrays", name := "fill", desc := "([II)V" } : Jvm.MethodName)) ∈ lw_gd := gz_in1 (k := 84) rfl rfl
theorem wi_85 : (Jvm.Cond.static ({ cls := "java/util/Arrays", name := "fill", desc := "([II)V" } : Jvm.MethodName)) ∈ lw_gd := gz_in1 (k := 85) rfl rfl
theorem wi_86 : (Jvm.Cond.code ({ cls := "java/util/Arrays", name := "fill", desc := "([II)V" } : Jvm.MethodName) prog_6_method_103_code (4 : Nat) (Option.none : Option Jvm.ClassFile.FieldType)) ∈ lw_gd := gz_in1 (k := 86) rfl rfl
theorem wi_87 : (Jvm.Cond.fieldLink "HoldQueue" (9 : Nat) "HoldQueue" "kindOfRecord" "[I") ∈ lw_gd := gz_in1 (k := 87) rfl rfl
theorem wi_88 : (Jvm.Cond.fieldLink "HoldQueue" (13 : Nat) "HoldQueue" "recordCount" "I") ∈ lw_gd := gz_in1 (k := 88) rfl rfl
theorem wi_89 : (Jvm.Cond.fieldLink "HoldQueue" (17 : Nat) "HoldQueue" "barredKind" "[Z") ∈ lw_gd := gz_in1 (k := 89) rfl rfl
theorem wi_90 : (Jvm.Cond.fieldLink "HoldQueue" (21 : Nat) "HoldQueue" "mostOfPerson" "[I") ∈ lw_gd := gz_in1 (k := 90) rfl rfl
theorem wi_91 : (Jvm.Cond.fieldLink "HoldQueue" (27 : Nat) "HoldQueue" "copies" "LHoldQueue$Copies;") ∈ lw_gd := gz_in1 (k := 91) rfl rfl
theorem wi_92 : (Jvm.Cond.fieldLink "HoldQueue" (34 : Nat) "HoldQueue" "holds" "LHoldQueue$Holds;") ∈ lw_gd := gz_in1 (k := 92) rfl rfl
theorem wi_93 : (Jvm.Cond.fieldLink "HoldQueue" (38 : Nat) "HoldQueue" "today" "J") ∈ lw_gd := gz_in1 (k := 93) rfl rfl
theorem wi_94 : (Jvm.Cond.fieldLink "HoldQueue" (42 : Nat) "HoldQueue" "spanDays" "I") ∈ lw_gd := gz_in1 (k := 94) rfl rfl
theorem wi_95 : (Jvm.Cond.laysFinal "HoldQueue" "HoldQueue" "kindOfRecord" "[I") ∈ lw_gd := gz_in1 (k := 95) rfl rfl
theorem wi_96 : (Jvm.Cond.soleField "HoldQueue" "kindOfRecord") ∈ lw_gd := gz_in1 (k := 96) rfl rfl
theorem wi_97 : (Jvm.Cond.lays "HoldQueue" "HoldQueue" "recordCount" "I") ∈ lw_gd := gz_in1 (k := 97) rfl rfl
theorem wi_98 : (Jvm.Cond.soleField "HoldQueue" "recordCount") ∈ lw_gd := gz_in1 (k := 98) rfl rfl
theorem wi_99 : (Jvm.Cond.laysFinal "HoldQueue" "HoldQueue" "barredKind" "[Z") ∈ lw_gd := gz_in1 (k := 99) rfl rfl
theorem wi_100 : (Jvm.Cond.soleField "HoldQueue" "barredKind") ∈ lw_gd := gz_in1 (k := 100) rfl rfl
theorem wi_101 : (Jvm.Cond.laysFinal "HoldQueue" "HoldQueue" "mostOfPerson" "[I") ∈ lw_gd := gz_in1 (k := 101) rfl rfl
theorem wi_102 : (Jvm.Cond.soleField "HoldQueue" "mostOfPerson") ∈ lw_gd := gz_in1 (k := 102) rfl rfl
theorem wi_103 : (Jvm.Cond.laysFinal "HoldQueue" "HoldQueue" "copies" "LHoldQueue$Copies;") ∈ lw_gd := gz_in1 (k := 103) rfl rfl
theorem wi_104 : (Jvm.Cond.soleField "HoldQueue" "copies") ∈ lw_gd := gz_in1 (k := 104) rfl rfl
theorem wi_105 : (Jvm.Cond.laysFinal "HoldQueue" "HoldQueue" "holds" "LHoldQueue$Holds;") ∈ lw_gd := gz_in1 (k := 105) rfl rfl
theorem wi_106 : (Jvm.Cond.soleField "HoldQueue" "holds") ∈ lw_gd := gz_in1 (k := 106) rfl rfl
theorem wi_107 : (Jvm.Cond.lays "HoldQueue" "HoldQueue" "today" "J") ∈ lw_gd := gz_in1 (k := 107) rfl rfl
theorem wi_108 : (Jvm.Cond.soleField "HoldQueue" "today") ∈ lw_gd := gz_in1 (k := 108) rfl rfl
theorem wi_109 : (Jvm.Cond.lays "HoldQueue" "HoldQueue" "spanDays" "I") ∈ lw_gd := gz_in1 (k := 109) rfl rfl
theorem wi_110 : (Jvm.Cond.soleField "HoldQueue" "spanDays") ∈ lw_gd := gz_in1 (k := 110) rfl rfl
theorem wi_111 : (Jvm.Cond.superclass "HoldQueue" "java/lang/Object") ∈ lw_gd := gz_in1 (k := 111) rfl rfl
theorem wi_112 : (Jvm.Cond.methodLink "HoldQueueLaw" (13 : Nat) ({ cls := "HoldQueue", name := "record", desc := "(I)I" } : Jvm.MethodName)) ∈ lw_gd := gz_in1 (k := 112) rfl rfl
theorem wi_113 : (Jvm.Cond.instanceMethod ({ cls := "HoldQueue", name := "record", desc := "(I)I" } : Jvm.MethodName)) ∈ lw_gd := gz_in1 (k := 113) rfl rfl
theorem wi_114 : (Jvm.Cond.selects "HoldQueue" ({ cls := "HoldQueue", name := "record", desc := "(I)I" } : Jvm.MethodName) ({ cls := "HoldQueue", name := "record", desc := "(I)I" } : Jvm.MethodName)) ∈ lw_gd := gz_in1 (k := 114) rfl rfl
theorem wi_115 : (Jvm.Cond.code ({ cls := "HoldQueue", name := "record", desc := "(I)I" } : Jvm.MethodName) prog_1_method_2_code (2 : Nat) (Option.some Jvm.ClassFile.FieldType.int)) ∈ lw_gd := gz_in1 (k := 115) rfl rfl
theorem wi_116 : (Jvm.Cond.methodLink "HoldQueue" (51 : Nat) ({ cls := "HoldQueue", name := "isKind", desc := "(I)Z" } : Jvm.MethodName)) ∈ lw_gd := gz_in1 (k := 116) rfl rfl
theorem wi_117 : (Jvm.Cond.static ({ cls := "HoldQueue", name := "isKind", desc := "(I)Z" } : Jvm.MethodName)) ∈ lw_gd := gz_in1 (k := 117) rfl rfl
theorem wi_118 : (Jvm.Cond.code ({ cls := "HoldQueue", name := "isKind", desc := "(I)Z" } : Jvm.MethodName) prog_1_method_19_code (1 : Nat) (Option.some Jvm.ClassFile.FieldType.boolean)) ∈ lw_gd := gz_in1 (k := 118) rfl rfl
theorem wi_119 : (Jvm.Cond.methodLink "HoldQueueLaw" (18 : Nat) ({ cls := "HoldQueue", name := "copy", desc := "(II)I" } : Jvm.MethodName)) ∈ lw_gd := gz_in1 (k := 119) rfl rfl
theorem wi_120 : (Jvm.Cond.instanceMethod ({ cls := "HoldQueue", name := "copy", desc := "(II)I" } : Jvm.MethodName)) ∈ lw_gd := gz_in1 (k := 120) rfl rfl
theorem wi_121 : (Jvm.Cond.selects "HoldQueue" ({ cls := "HoldQueue", name := "copy", desc := "(II)I" } : Jvm.MethodName) ({ cls := "HoldQueue", name := "copy", desc := "(II)I" } : Jvm.MethodName)) ∈ lw_gd := gz_in1 (k := 121) rfl rfl
theorem wi_122 : (Jvm.Cond.code ({ cls := "HoldQueue", name := "copy", desc := "(II)I" } : Jvm.MethodName) prog_1_method_3_code (3 : Nat) (Option.some Jvm.ClassFile.FieldType.int)) ∈ lw_gd := gz_in1 (k := 122) rfl rfl
theorem wi_123 : (Jvm.Cond.methodLink "HoldQueue" (55 : Nat) ({ cls := "HoldQueue", name := "isRecord", desc := "(I)Z" } : Jvm.MethodName)) ∈ lw_gd := gz_in1 (k := 123) rfl rfl
theorem wi_125 : (Jvm.Cond.instanceMethod ({ cls := "HoldQueue", name := "isRecord", desc := "(I)Z" } : Jvm.MethodName)) ∈ lw_gd := gz_in1 (k := 125) rfl rfl
theorem wi_126 : (Jvm.Cond.code ({ cls := "HoldQueue", name := "isRecord", desc := "(I)Z" } : Jvm.MethodName) prog_1_method_22_code (2 : Nat) (Option.some Jvm.ClassFile.FieldType.boolean)) ∈ lw_gd := gz_in1 (k := 126) rfl rfl
theorem wi_127 : (Jvm.Cond.methodLink "HoldQueue" (58 : Nat) ({ cls := "HoldQueue", name := "isPlace", desc := "(I)Z" } : Jvm.MethodName)) ∈ lw_gd := gz_in1 (k := 127) rfl rfl
theorem wi_128 : (Jvm.Cond.static ({ cls := "HoldQueue", name := "isPlace", desc := "(I)Z" } : Jvm.MethodName)) ∈ lw_gd := gz_in1 (k := 128) rfl rfl
theorem wi_129 : (Jvm.Cond.code ({ cls := "HoldQueue", name := "isPlace", desc := "(I)Z" } : Jvm.MethodName) prog_1_method_21_code (1 : Nat) (Option.some Jvm.ClassFile.FieldType.boolean)) ∈ lw_gd := gz_in1 (k := 129) rfl rfl
theorem wi_132 : (Jvm.Cond.instanceMethod ({ cls := "HoldQueue$Copies", name := "areFull", desc := "()Z" } : Jvm.MethodName)) ∈ lw_gd := gz_in1 (k := 132) rfl rfl
theorem wi_133 : (Jvm.Cond.code ({ cls := "HoldQueue$Copies", name := "areFull", desc := "()Z" } : Jvm.MethodName) prog_2_method_4_code (1 : Nat) (Option.some Jvm.ClassFile.FieldType.boolean)) ∈ lw_gd := gz_in1 (k := 133) rfl rfl
theorem wi_136 : (Jvm.Cond.instanceMethod ({ cls := "HoldQueue$Copies", name := "add", desc := "(II)I" } : Jvm.MethodName)) ∈ lw_gd := gz_in1 (k := 136) rfl rfl
theorem wi_137 : (Jvm.Cond.code ({ cls := "HoldQueue$Copies", name := "add", desc := "(II)I" } : Jvm.MethodName) prog_2_method_5_code (3 : Nat) (Option.some Jvm.ClassFile.FieldType.int)) ∈ lw_gd := gz_in1 (k := 137) rfl rfl
theorem wi_138 : (Jvm.Cond.methodLink "HoldQueueLaw" (23 : Nat) ({ cls := "HoldQueue", name := "bar", desc := "(IZ)Z" } : Jvm.MethodName)) ∈ lw_gd := gz_in1 (k := 138) rfl rfl
theorem wi_139 : (Jvm.Cond.instanceMethod ({ cls := "HoldQueue", name := "bar", desc := "(IZ)Z" } : Jvm.MethodName)) ∈ lw_gd := gz_in1 (k := 139) rfl rfl
theorem wi_140 : (Jvm.Cond.selects "HoldQueue" ({ cls := "HoldQueue", name := "bar", desc := "(IZ)Z" } : Jvm.MethodName) ({ cls := "HoldQueue", name := "bar", desc := "(IZ)Z" } : Jvm.MethodName)) ∈ lw_gd := gz_in1 (k := 140) rfl rfl
theorem wi_141 : (Jvm.Cond.code ({ cls := "HoldQueue", name := "bar", desc := "(IZ)Z" } : Jvm.MethodName) prog_1_method_4_code (4 : Nat) (Option.some Jvm.ClassFile.FieldType.boolean)) ∈ lw_gd := gz_in1 (k := 141) rfl rfl
theorem wi_142 : (Jvm.Cond.methodLink "HoldQueueLaw" (28 : Nat) ({ cls := "HoldQueue", name := "hold", desc := "(IIII)I" } : Jvm.MethodName)) ∈ lw_gd := gz_in1 (k := 142) rfl rfl
theorem wi_143 : (Jvm.Cond.instanceMethod ({ cls := "HoldQueue", name := "hold", desc := "(IIII)I" } : Jvm.MethodName)) ∈ lw_gd := gz_in1 (k := 143) rfl rfl
theorem wi_144 : (Jvm.Cond.selects "HoldQueue" ({ cls := "HoldQueue", name := "hold", desc := "(IIII)I" } : Jvm.MethodName) ({ cls := "HoldQueue", name := "hold", desc := "(IIII)I" } : Jvm.MethodName)) ∈ lw_gd := gz_in1 (k := 144) rfl rfl
theorem wi_145 : (Jvm.Cond.code ({ cls := "HoldQueue", name := "hold", desc := "(IIII)I" } : Jvm.MethodName) prog_1_method_5_code (7 : Nat) (Option.some Jvm.ClassFile.FieldType.int)) ∈ lw_gd := gz_in1 (k := 145) rfl rfl
theorem wi_146 : (Jvm.Cond.methodLink "HoldQueue" (69 : Nat) ({ cls := "HoldQueue", name := "isPerson", desc := "(I)Z" } : Jvm.MethodName)) ∈ lw_gd := gz_in1 (k := 146) rfl rfl
theorem wi_147 : (Jvm.Cond.static ({ cls := "HoldQueue", name := "isPerson", desc := "(I)Z" } : Jvm.MethodName)) ∈ lw_gd := gz_in1 (k := 147) rfl rfl
theorem wi_148 : (Jvm.Cond.code ({ cls := "HoldQueue", name := "isPerson", desc := "(I)Z" } : Jvm.MethodName) prog_1_method_20_code (1 : Nat) (Option.some Jvm.ClassFile.FieldType.boolean)) ∈ lw_gd := gz_in1 (k := 148) rfl rfl
theorem wi_151 : (Jvm.Cond.instanceMethod ({ cls := "HoldQueue$Holds", name := "hasOpen", desc := "(II)Z" } : Jvm.MethodName)) ∈ lw_gd := gz_in1 (k := 151) rfl rfl
theorem wi_152 : (Jvm.Cond.code ({ cls := "HoldQueue$Holds", name := "hasOpen", desc := "(II)Z" } : Jvm.MethodName) prog_3_method_8_code (4 : Nat) (Option.some Jvm.ClassFile.FieldType.boolean)) ∈ lw_gd := gz_in1 (k := 152) rfl rfl
theorem wi_153 : (Jvm.Cond.methodLink "HoldQueue$Holds" (49 : Nat) ({ cls := "HoldQueue$Holds", name := "isOpen", desc := "(I)Z" } : Jvm.MethodName)) ∈ lw_gd := gz_in1 (k := 153) rfl rfl
theorem wi_155 : (Jvm.Cond.instanceMethod ({ cls := "HoldQueue$Holds", name := "isOpen", desc := "(I)Z" } : Jvm.MethodName)) ∈ lw_gd := gz_in1 (k := 155) rfl rfl
theorem wi_156 : (Jvm.Cond.code ({ cls := "HoldQueue$Holds", name := "isOpen", desc := "(I)Z" } : Jvm.MethodName) prog_3_method_4_code (2 : Nat) (Option.some Jvm.ClassFile.FieldType.boolean)) ∈ lw_gd := gz_in1 (k := 156) rfl rfl
theorem wi_157 : (Jvm.Cond.methodLink "HoldQueue$Holds" (45 : Nat) ({ cls := "HoldQueue$Holds", name := "isIn", desc := "(II)Z" } : Jvm.MethodName)) ∈ lw_gd := gz_in1 (k := 157) rfl rfl
theorem wi_159 : (Jvm.Cond.instanceMethod ({ cls := "HoldQueue$Holds", name := "isIn", desc := "(II)Z" } : Jvm.MethodName)) ∈ lw_gd := gz_in1 (k := 159) rfl rfl
theorem wi_160 : (Jvm.Cond.code ({ cls := "HoldQueue$Holds", name := "isIn", desc := "(II)Z" } : Jvm.MethodName) prog_3_method_3_code (3 : Nat) (Option.some Jvm.ClassFile.FieldType.boolean)) ∈ lw_gd := gz_in1 (k := 160) rfl rfl
theorem wi_161 : (Jvm.Cond.methodLink "HoldQueue$Holds" (41 : Nat) ({ cls := "HoldQueue$Holds", name := "has", desc := "(I)Z" } : Jvm.MethodName)) ∈ lw_gd := gz_in1 (k := 161) rfl rfl
theorem wi_163 : (Jvm.Cond.instanceMethod ({ cls := "HoldQueue$Holds", name := "has", desc := "(I)Z" } : Jvm.MethodName)) ∈ lw_gd := gz_in1 (k := 163) rfl rfl
theorem wi_164 : (Jvm.Cond.code ({ cls := "HoldQueue$Holds", name := "has", desc := "(I)Z" } : Jvm.MethodName) prog_3_method_2_code (2 : Nat) (Option.some Jvm.ClassFile.FieldType.boolean)) ∈ lw_gd := gz_in1 (k := 164) rfl rfl
theorem wi_167 : (Jvm.Cond.instanceMethod ({ cls := "HoldQueue$Holds", name := "areFull", desc := "()Z" } : Jvm.MethodName)) ∈ lw_gd := gz_in1 (k := 167) rfl rfl
theorem wi_168 : (Jvm.Cond.code ({ cls := "HoldQueue$Holds", name := "areFull", desc := "()Z" } : Jvm.MethodName) prog_3_method_5_code (1 : Nat) (Option.some Jvm.ClassFile.FieldType.boolean)) ∈ lw_gd := gz_in1 (k := 168) rfl rfl
theorem wi_171 : (Jvm.Cond.instanceMethod ({ cls := "HoldQueue$Holds", name := "countOpen", desc := "(I)I" } : Jvm.MethodName)) ∈ lw_gd := gz_in1 (k := 171) rfl rfl
theorem wi_172 : (Jvm.Cond.code ({ cls := "HoldQueue$Holds", name := "countOpen", desc := "(I)I" } : Jvm.MethodName) prog_3_method_7_code (4 : Nat) (Option.some Jvm.ClassFile.FieldType.int)) ∈ lw_gd := gz_in1 (k := 172) rfl rfl
theorem wi_175 : (Jvm.Cond.instanceMethod ({ cls := "HoldQueue$Holds", name := "add", desc := "(IIII)I" } : Jvm.MethodName)) ∈ lw_gd := gz_in1 (k := 175) rfl rfl
theorem wi_176 : (Jvm.Cond.code ({ cls := "HoldQueue$Holds", name := "add", desc := "(IIII)I" } : Jvm.MethodName) prog_3_method_6_code (5 : Nat) (Option.some Jvm.ClassFile.FieldType.int)) ∈ lw_gd := gz_in1 (k := 176) rfl rfl
theorem wi_179 : (Jvm.Cond.instanceMethod ({ cls := "HoldQueue$Copies", name := "leastFree", desc := "(I)I" } : Jvm.MethodName)) ∈ lw_gd := gz_in1 (k := 179) rfl rfl
theorem wi_180 : (Jvm.Cond.code ({ cls := "HoldQueue$Copies", name := "leastFree", desc := "(I)I" } : Jvm.MethodName) prog_2_method_6_code (3 : Nat) (Option.some Jvm.ClassFile.FieldType.int)) ∈ lw_gd := gz_in1 (k := 180) rfl rfl
theorem wi_181 : (Jvm.Cond.methodLink "HoldQueue" (87 : Nat) ({ cls := "HoldQueue", name := "settle", desc := "(I)I" } : Jvm.MethodName)) ∈ lw_gd := gz_in1 (k := 181) rfl rfl
theorem wi_183 : (Jvm.Cond.instanceMethod ({ cls := "HoldQueue", name := "settle", desc := "(I)I" } : Jvm.MethodName)) ∈ lw_gd := gz_in1 (k := 183) rfl rfl
theorem wi_184 : (Jvm.Cond.code ({ cls := "HoldQueue", name := "settle", desc := "(I)I" } : Jvm.MethodName) prog_1_method_23_code (3 : Nat) (Option.some Jvm.ClassFile.FieldType.int)) ∈ lw_gd := gz_in1 (k := 184) rfl rfl
theorem wi_187 : (Jvm.Cond.instanceMethod ({ cls := "HoldQueue$Holds", name := "firstFitting", desc := "(IJ)I" } : Jvm.MethodName)) ∈ lw_gd := gz_in1 (k := 187) rfl rfl
theorem wi_188 : (Jvm.Cond.code ({ cls := "HoldQueue$Holds", name := "firstFitting", desc := "(IJ)I" } : Jvm.MethodName) prog_3_method_11_code (6 : Nat) (Option.some Jvm.ClassFile.FieldType.int)) ∈ lw_gd := gz_in1 (k := 188) rfl rfl
theorem wi_189 : (Jvm.Cond.methodLink "HoldQueue$Holds" (52 : Nat) ({ cls := "HoldQueue$Holds", name := "isQueued", desc := "(II)Z" } : Jvm.MethodName)) ∈ lw_gd := gz_in1 (k := 189) rfl rfl
theorem wi_191 : (Jvm.Cond.instanceMethod ({ cls := "HoldQueue$Holds", name := "isQueued", desc := "(II)Z" } : Jvm.MethodName)) ∈ lw_gd := gz_in1 (k := 191) rfl rfl
theorem wi_192 : (Jvm.Cond.code ({ cls := "HoldQueue$Holds", name := "isQueued", desc := "(II)Z" } : Jvm.MethodName) prog_3_method_9_code (3 : Nat) (Option.some Jvm.ClassFile.FieldType.boolean)) ∈ lw_gd := gz_in1 (k := 192) rfl rfl
theorem wi_193 : (Jvm.Cond.methodLink "HoldQueue$Holds" (55 : Nat) ({ cls := "HoldQueue$Holds", name := "comesBefore", desc := "(II)Z" } : Jvm.MethodName)) ∈ lw_gd := gz_in1 (k := 193) rfl rfl
theorem wi_195 : (Jvm.Cond.instanceMethod ({ cls := "HoldQueue$Holds", name := "comesBefore", desc := "(II)Z" } : Jvm.MethodName)) ∈ lw_gd := gz_in1 (k := 195) rfl rfl
theorem wi_196 : (Jvm.Cond.code ({ cls := "HoldQueue$Holds", name := "comesBefore", desc := "(II)Z" } : Jvm.MethodName) prog_3_method_10_code (3 : Nat) (Option.some Jvm.ClassFile.FieldType.boolean)) ∈ lw_gd := gz_in1 (k := 196) rfl rfl
theorem wi_197 : (Jvm.Cond.methodLink "HoldQueue" (104 : Nat) ({ cls := "HoldQueue", name := "layReady", desc := "(II)V" } : Jvm.MethodName)) ∈ lw_gd := gz_in1 (k := 197) rfl rfl
theorem wi_199 : (Jvm.Cond.instanceMethod ({ cls := "HoldQueue", name := "layReady", desc := "(II)V" } : Jvm.MethodName)) ∈ lw_gd := gz_in1 (k := 199) rfl rfl
theorem wi_200 : (Jvm.Cond.code ({ cls := "HoldQueue", name := "layReady", desc := "(II)V" } : Jvm.MethodName) prog_1_method_24_code (3 : Nat) (Option.none : Option Jvm.ClassFile.FieldType)) ∈ lw_gd := gz_in1 (k := 200) rfl rfl
theorem wi_201 : (Jvm.Cond.methodLink "HoldQueue" (154 : Nat) ({ cls := "HoldQueue", name := "send", desc := "(II)V" } : Jvm.MethodName)) ∈ lw_gd := gz_in1 (k := 201) rfl rfl
theorem wi_203 : (Jvm.Cond.instanceMethod ({ cls := "HoldQueue", name := "send", desc := "(II)V" } : Jvm.MethodName)) ∈ lw_gd := gz_in1 (k := 203) rfl rfl
theorem wi_204 : (Jvm.Cond.code ({ cls := "HoldQueue", name := "send", desc := "(II)V" } : Jvm.MethodName) prog_1_method_25_code (3 : Nat) (Option.none : Option Jvm.ClassFile.FieldType)) ∈ lw_gd := gz_in1 (k := 204) rfl rfl
theorem wi_205 : (Jvm.Cond.methodLink "HoldQueueLaw" (33 : Nat) ({ cls := "HoldQueue", name := "most", desc := "(II)I" } : Jvm.MethodName)) ∈ lw_gd := gz_in1 (k := 205) rfl rfl
theorem wi_206 : (Jvm.Cond.instanceMethod ({ cls := "HoldQueue", name := "most", desc := "(II)I" } : Jvm.MethodName)) ∈ lw_gd := gz_in1 (k := 206) rfl rfl
theorem wi_207 : (Jvm.Cond.selects "HoldQueue" ({ cls := "HoldQueue", name := "most", desc := "(II)I" } : Jvm.MethodName) ({ cls := "HoldQueue", name := "most", desc := "(II)I" } : Jvm.MethodName)) ∈ lw_gd := gz_in1 (k := 207) rfl rfl
theorem wi_208 : (Jvm.Cond.code ({ cls := "HoldQueue", name := "most", desc := "(II)I" } : Jvm.MethodName) prog_1_method_6_code (4 : Nat) (Option.some Jvm.ClassFile.FieldType.int)) ∈ lw_gd := gz_in1 (k := 208) rfl rfl
theorem wi_209 : (Jvm.Cond.methodLink "HoldQueueLaw" (39 : Nat) ({ cls := "HoldQueue", name := "suspend", desc := "(IJ)I" } : Jvm.MethodName)) ∈ lw_gd := gz_in1 (k := 209) rfl rfl
theorem wi_210 : (Jvm.Cond.instanceMethod ({ cls := "HoldQueue", name := "suspend", desc := "(IJ)I" } : Jvm.MethodName)) ∈ lw_gd := gz_in1 (k := 210) rfl rfl
theorem wi_211 : (Jvm.Cond.selects "HoldQueue" ({ cls := "HoldQueue", name := "suspend", desc := "(IJ)I" } : Jvm.MethodName) ({ cls := "HoldQueue", name := "suspend", desc := "(IJ)I" } : Jvm.MethodName)) ∈ lw_gd := gz_in1 (k := 211) rfl rfl
theorem wi_212 : (Jvm.Cond.code ({ cls := "HoldQueue", name := "suspend", desc := "(IJ)I" } : Jvm.MethodName) prog_1_method_7_code (4 : Nat) (Option.some Jvm.ClassFile.FieldType.int)) ∈ lw_gd := gz_in1 (k := 212) rfl rfl
theorem wi_214 : (Jvm.Cond.methodLink "HoldQueueLaw" (44 : Nat) ({ cls := "HoldQueue", name := "back", desc := "(II)I" } : Jvm.MethodName)) ∈ lw_gd := gz_in1 (k := 214) rfl rfl
theorem wi_215 : (Jvm.Cond.instanceMethod ({ cls := "HoldQueue", name := "back", desc := "(II)I" } : Jvm.MethodName)) ∈ lw_gd := gz_in1 (k := 215) rfl rfl
theorem wi_216 : (Jvm.Cond.selects "HoldQueue" ({ cls := "HoldQueue", name := "back", desc := "(II)I" } : Jvm.MethodName) ({ cls := "HoldQueue", name := "back", desc := "(II)I" } : Jvm.MethodName)) ∈ lw_gd := gz_in1 (k := 216) rfl rfl
theorem wi_217 : (Jvm.Cond.code ({ cls := "HoldQueue", name := "back", desc := "(II)I" } : Jvm.MethodName) prog_1_method_8_code (3 : Nat) (Option.some Jvm.ClassFile.FieldType.int)) ∈ lw_gd := gz_in1 (k := 217) rfl rfl
theorem wi_220 : (Jvm.Cond.instanceMethod ({ cls := "HoldQueue$Copies", name := "isIn", desc := "(II)Z" } : Jvm.MethodName)) ∈ lw_gd := gz_in1 (k := 220) rfl rfl
theorem wi_221 : (Jvm.Cond.code ({ cls := "HoldQueue$Copies", name := "isIn", desc := "(II)Z" } : Jvm.MethodName) prog_2_method_3_code (3 : Nat) (Option.some Jvm.ClassFile.FieldType.boolean)) ∈ lw_gd := gz_in1 (k := 221) rfl rfl
theorem wi_222 : (Jvm.Cond.methodLink "HoldQueue$Copies" (28 : Nat) ({ cls := "HoldQueue$Copies", name := "has", desc := "(I)Z" } : Jvm.MethodName)) ∈ lw_gd := gz_in1 (k := 222) rfl rfl
theorem wi_224 : (Jvm.Cond.instanceMethod ({ cls := "HoldQueue$Copies", name := "has", desc := "(I)Z" } : Jvm.MethodName)) ∈ lw_gd := gz_in1 (k := 224) rfl rfl
theorem wi_225 : (Jvm.Cond.code ({ cls := "HoldQueue$Copies", name := "has", desc := "(I)Z" } : Jvm.MethodName) prog_2_method_2_code (2 : Nat) (Option.some Jvm.ClassFile.FieldType.boolean)) ∈ lw_gd := gz_in1 (k := 225) rfl rfl
theorem wi_226 : (Jvm.Cond.methodLink "HoldQueueLaw" (48 : Nat) ({ cls := "HoldQueue", name := "arrive", desc := "(I)I" } : Jvm.MethodName)) ∈ lw_gd := gz_in1 (k := 226) rfl rfl
theorem wi_227 : (Jvm.Cond.instanceMethod ({ cls := "HoldQueue", name := "arrive", desc := "(I)I" } : Jvm.MethodName)) ∈ lw_gd := gz_in1 (k := 227) rfl rfl
theorem wi_228 : (Jvm.Cond.selects "HoldQueue" ({ cls := "HoldQueue", name := "arrive", desc := "(I)I" } : Jvm.MethodName) ({ cls := "HoldQueue", name := "arrive", desc := "(I)I" } : Jvm.MethodName)) ∈ lw_gd := gz_in1 (k := 228) rfl rfl
theorem wi_229 : (Jvm.Cond.code ({ cls := "HoldQueue", name := "arrive", desc := "(I)I" } : Jvm.MethodName) prog_1_method_9_code (3 : Nat) (Option.some Jvm.ClassFile.FieldType.int)) ∈ lw_gd := gz_in1 (k := 229) rfl rfl
theorem wi_230 : (Jvm.Cond.methodLink "HoldQueue" (108 : Nat) ({ cls := "HoldQueue", name := "untie", desc := "(II)V" } : Jvm.MethodName)) ∈ lw_gd := gz_in1 (k := 230) rfl rfl
theorem wi_232 : (Jvm.Cond.instanceMethod ({ cls := "HoldQueue", name := "untie", desc := "(II)V" } : Jvm.MethodName)) ∈ lw_gd := gz_in1 (k := 232) rfl rfl
theorem wi_233 : (Jvm.Cond.code ({ cls := "HoldQueue", name := "untie", desc := "(II)V" } : Jvm.MethodName) prog_1_method_26_code (3 : Nat) (Option.none : Option Jvm.ClassFile.FieldType)) ∈ lw_gd := gz_in1 (k := 233) rfl rfl
theorem wi_234 : (Jvm.Cond.methodLink "HoldQueueLaw" (52 : Nat) ({ cls := "HoldQueue", name := "pick", desc := "(I)I" } : Jvm.MethodName)) ∈ lw_gd := gz_in1 (k := 234) rfl rfl
theorem wi_235 : (Jvm.Cond.instanceMethod ({ cls := "HoldQueue", name := "pick", desc := "(I)I" } : Jvm.MethodName)) ∈ lw_gd := gz_in1 (k := 235) rfl rfl
theorem wi_236 : (Jvm.Cond.selects "HoldQueue" ({ cls := "HoldQueue", name := "pick", desc := "(I)I" } : Jvm.MethodName) ({ cls := "HoldQueue", name := "pick", desc := "(I)I" } : Jvm.MethodName)) ∈ lw_gd := gz_in1 (k := 236) rfl rfl
theorem wi_237 : (Jvm.Cond.code ({ cls := "HoldQueue", name := "pick", desc := "(I)I" } : Jvm.MethodName) prog_1_method_10_code (3 : Nat) (Option.some Jvm.ClassFile.FieldType.int)) ∈ lw_gd := gz_in1 (k := 237) rfl rfl
theorem wi_238 : (Jvm.Cond.methodLink "HoldQueueLaw" (56 : Nat) ({ cls := "HoldQueue", name := "lend", desc := "(I)I" } : Jvm.MethodName)) ∈ lw_gd := gz_in1 (k := 238) rfl rfl
theorem wi_239 : (Jvm.Cond.instanceMethod ({ cls := "HoldQueue", name := "lend", desc := "(I)I" } : Jvm.MethodName)) ∈ lw_gd := gz_in1 (k := 239) rfl rfl
theorem wi_240 : (Jvm.Cond.selects "HoldQueue" ({ cls := "HoldQueue", name := "lend", desc := "(I)I" } : Jvm.MethodName) ({ cls := "HoldQueue", name := "lend", desc := "(I)I" } : Jvm.MethodName)) ∈ lw_gd := gz_in2 (k := 0) rfl rfl
theorem wi_241 : (Jvm.Cond.code ({ cls := "HoldQueue", name := "lend", desc := "(I)I" } : Jvm.MethodName) prog_1_method_11_code (2 : Nat) (Option.some Jvm.ClassFile.FieldType.int)) ∈ lw_gd := gz_in2 (k := 1) rfl rfl
theorem wi_242 : (Jvm.Cond.methodLink "HoldQueueLaw" (60 : Nat) ({ cls := "HoldQueue", name := "cancel", desc := "(I)I" } : Jvm.MethodName)) ∈ lw_gd := gz_in2 (k := 2) rfl rfl
theorem wi_243 : (Jvm.Cond.instanceMethod ({ cls := "HoldQueue", name := "cancel", desc := "(I)I" } : Jvm.MethodName)) ∈ lw_gd := gz_in2 (k := 3) rfl rfl
theorem wi_244 : (Jvm.Cond.selects "HoldQueue" ({ cls := "HoldQueue", name := "cancel", desc := "(I)I" } : Jvm.MethodName) ({ cls := "HoldQueue", name := "cancel", desc := "(I)I" } : Jvm.MethodName)) ∈ lw_gd := gz_in2 (k := 4) rfl rfl
theorem wi_245 : (Jvm.Cond.code ({ cls := "HoldQueue", name := "cancel", desc := "(I)I" } : Jvm.MethodName) prog_1_method_12_code (3 : Nat) (Option.some Jvm.ClassFile.FieldType.int)) ∈ lw_gd := gz_in2 (k := 5) rfl rfl
theorem wi_247 : (Jvm.Cond.methodLink "HoldQueue" (121 : Nat) ({ cls := "HoldQueue", name := "letGo", desc := "(I)V" } : Jvm.MethodName)) ∈ lw_gd := gz_in2 (k := 7) rfl rfl
theorem wi_249 : (Jvm.Cond.instanceMethod ({ cls := "HoldQueue", name := "letGo", desc := "(I)V" } : Jvm.MethodName)) ∈ lw_gd := gz_in2 (k := 9) rfl rfl
theorem wi_250 : (Jvm.Cond.code ({ cls := "HoldQueue", name := "letGo", desc := "(I)V" } : Jvm.MethodName) prog_1_method_27_code (3 : Nat) (Option.none : Option Jvm.ClassFile.FieldType)) ∈ lw_gd := gz_in2 (k := 10) rfl rfl
theorem wi_251 : (Jvm.Cond.methodLink "HoldQueueLaw" (64 : Nat) ({ cls := "HoldQueue", name := "tick", desc := "(J)I" } : Jvm.MethodName)) ∈ lw_gd := gz_in2 (k := 11) rfl rfl
theorem wi_252 : (Jvm.Cond.instanceMethod ({ cls := "HoldQueue", name := "tick", desc := "(J)I" } : Jvm.MethodName)) ∈ lw_gd := gz_in2 (k := 12) rfl rfl
theorem wi_253 : (Jvm.Cond.selects "HoldQueue" ({ cls := "HoldQueue", name := "tick", desc := "(J)I" } : Jvm.MethodName) ({ cls := "HoldQueue", name := "tick", desc := "(J)I" } : Jvm.MethodName)) ∈ lw_gd := gz_in2 (k := 13) rfl rfl
theorem wi_254 : (Jvm.Cond.code ({ cls := "HoldQueue", name := "tick", desc := "(J)I" } : Jvm.MethodName) prog_1_method_13_code (5 : Nat) (Option.some Jvm.ClassFile.FieldType.int)) ∈ lw_gd := gz_in2 (k := 14) rfl rfl
theorem wi_255 : (Jvm.Cond.constantLong "HoldQueue" (125 : Nat) (1000000000 : Int64)) ∈ lw_gd := gz_in2 (k := 15) rfl rfl
theorem wi_256 : (Jvm.Cond.methodLink "HoldQueueLaw" (69 : Nat) ({ cls := "HoldQueue", name := "span", desc := "(I)I" } : Jvm.MethodName)) ∈ lw_gd := gz_in2 (k := 16) rfl rfl
theorem wi_257 : (Jvm.Cond.instanceMethod ({ cls := "HoldQueue", name := "span", desc := "(I)I" } : Jvm.MethodName)) ∈ lw_gd := gz_in2 (k := 17) rfl rfl
theorem wi_258 : (Jvm.Cond.selects "HoldQueue" ({ cls := "HoldQueue", name := "span", desc := "(I)I" } : Jvm.MethodName) ({ cls := "HoldQueue", name := "span", desc := "(I)I" } : Jvm.MethodName)) ∈ lw_gd := gz_in2 (k := 18) rfl rfl
theorem wi_259 : (Jvm.Cond.code ({ cls := "HoldQueue", name := "span", desc := "(I)I" } : Jvm.MethodName) prog_1_method_14_code (3 : Nat) (Option.some Jvm.ClassFile.FieldType.int)) ∈ lw_gd := gz_in2 (k := 19) rfl rfl
theorem wi_260 : (Jvm.Cond.methodLink "HoldQueueLaw" (73 : Nat) ({ cls := "HoldQueue", name := "rank", desc := "(II)I" } : Jvm.MethodName)) ∈ lw_gd := gz_in2 (k := 20) rfl rfl
theorem wi_261 : (Jvm.Cond.instanceMethod ({ cls := "HoldQueue", name := "rank", desc := "(II)I" } : Jvm.MethodName)) ∈ lw_gd := gz_in2 (k := 21) rfl rfl
theorem wi_262 : (Jvm.Cond.selects "HoldQueue" ({ cls := "HoldQueue", name := "rank", desc := "(II)I" } : Jvm.MethodName) ({ cls := "HoldQueue", name := "rank", desc := "(II)I" } : Jvm.MethodName)) ∈ lw_gd := gz_in2 (k := 22) rfl rfl
theorem wi_263 : (Jvm.Cond.code ({ cls := "HoldQueue", name := "rank", desc := "(II)I" } : Jvm.MethodName) prog_1_method_15_code (3 : Nat) (Option.some Jvm.ClassFile.FieldType.int)) ∈ lw_gd := gz_in2 (k := 23) rfl rfl
theorem wi_266 : (Jvm.Cond.instanceMethod ({ cls := "HoldQueue$Holds", name := "placeInQueue", desc := "(I)I" } : Jvm.MethodName)) ∈ lw_gd := gz_in2 (k := 26) rfl rfl
theorem wi_267 : (Jvm.Cond.code ({ cls := "HoldQueue$Holds", name := "placeInQueue", desc := "(I)I" } : Jvm.MethodName) prog_3_method_12_code (4 : Nat) (Option.some Jvm.ClassFile.FieldType.int)) ∈ lw_gd := gz_in2 (k := 27) rfl rfl
theorem wi_268 : (Jvm.Cond.methodLink "HoldQueueLaw" (77 : Nat) ({ cls := "HoldQueue", name := "order", desc := "(II)I" } : Jvm.MethodName)) ∈ lw_gd := gz_in2 (k := 28) rfl rfl
theorem wi_269 : (Jvm.Cond.instanceMethod ({ cls := "HoldQueue", name := "order", desc := "(II)I" } : Jvm.MethodName)) ∈ lw_gd := gz_in2 (k := 29) rfl rfl
theorem wi_270 : (Jvm.Cond.selects "HoldQueue" ({ cls := "HoldQueue", name := "order", desc := "(II)I" } : Jvm.MethodName) ({ cls := "HoldQueue", name := "order", desc := "(II)I" } : Jvm.MethodName)) ∈ lw_gd := gz_in2 (k := 30) rfl rfl
theorem wi_271 : (Jvm.Cond.code ({ cls := "HoldQueue", name := "order", desc := "(II)I" } : Jvm.MethodName) prog_1_method_16_code (3 : Nat) (Option.some Jvm.ClassFile.FieldType.int)) ∈ lw_gd := gz_in2 (k := 31) rfl rfl
theorem wi_274 : (Jvm.Cond.instanceMethod ({ cls := "HoldQueue$Holds", name := "atPlaceInQueue", desc := "(II)I" } : Jvm.MethodName)) ∈ lw_gd := gz_in2 (k := 34) rfl rfl
theorem wi_275 : (Jvm.Cond.code ({ cls := "HoldQueue$Holds", name := "atPlaceInQueue", desc := "(II)I" } : Jvm.MethodName) prog_3_method_13_code (4 : Nat) (Option.some Jvm.ClassFile.FieldType.int)) ∈ lw_gd := gz_in2 (k := 35) rfl rfl
theorem wi_276 : (Jvm.Cond.methodLink "HoldQueue$Holds" (58 : Nat) ({ cls := "HoldQueue$Holds", name := "placeInQueue", desc := "(I)I" } : Jvm.MethodName)) ∈ lw_gd := gz_in2 (k := 36) rfl rfl
theorem wi_277 : (Jvm.Cond.methodLink "HoldQueueLaw" (81 : Nat) ({ cls := "HoldQueue", name := "state", desc := "(II)I" } : Jvm.MethodName)) ∈ lw_gd := gz_in2 (k := 37) rfl rfl
theorem wi_278 : (Jvm.Cond.instanceMethod ({ cls := "HoldQueue", name := "state", desc := "(II)I" } : Jvm.MethodName)) ∈ lw_gd := gz_in2 (k := 38) rfl rfl
theorem wi_279 : (Jvm.Cond.selects "HoldQueue" ({ cls := "HoldQueue", name := "state", desc := "(II)I" } : Jvm.MethodName) ({ cls := "HoldQueue", name := "state", desc := "(II)I" } : Jvm.MethodName)) ∈ lw_gd := gz_in2 (k := 39) rfl rfl
theorem wi_280 : (Jvm.Cond.code ({ cls := "HoldQueue", name := "state", desc := "(II)I" } : Jvm.MethodName) prog_1_method_17_code (3 : Nat) (Option.some Jvm.ClassFile.FieldType.int)) ∈ lw_gd := gz_in2 (k := 40) rfl rfl
theorem wi_282 : (Jvm.Cond.methodLink "HoldQueueLaw" (85 : Nat) ({ cls := "HoldQueue", name := "where", desc := "(II)I" } : Jvm.MethodName)) ∈ lw_gd := gz_in2 (k := 42) rfl rfl
theorem wi_283 : (Jvm.Cond.instanceMethod ({ cls := "HoldQueue", name := "where", desc := "(II)I" } : Jvm.MethodName)) ∈ lw_gd := gz_in2 (k := 43) rfl rfl
theorem wi_284 : (Jvm.Cond.selects "HoldQueue" ({ cls := "HoldQueue", name := "where", desc := "(II)I" } : Jvm.MethodName) ({ cls := "HoldQueue", name := "where", desc := "(II)I" } : Jvm.MethodName)) ∈ lw_gd := gz_in2 (k := 44) rfl rfl
theorem wi_285 : (Jvm.Cond.code ({ cls := "HoldQueue", name := "where", desc := "(II)I" } : Jvm.MethodName) prog_1_method_18_code (3 : Nat) (Option.some Jvm.ClassFile.FieldType.int)) ∈ lw_gd := gz_in2 (k := 45) rfl rfl
theorem wi_287 : (Jvm.Cond.classLink "HoldQueueLaw" (10 : Nat) "HoldQueueModel") ∈ lw_gd := gz_in2 (k := 47) rfl rfl
theorem wi_288 : (Jvm.Cond.instantiable "HoldQueueModel" (21 : Nat)) ∈ lw_gd := gz_in2 (k := 48) rfl rfl
theorem wi_289 : (Jvm.Cond.methodLink "HoldQueueLaw" (12 : Nat) ({ cls := "HoldQueueModel", name := "<init>", desc := "()V" } : Jvm.MethodName)) ∈ lw_gd := gz_in2 (k := 49) rfl rfl
theorem wi_290 : (Jvm.Cond.instanceMethod ({ cls := "HoldQueueModel", name := "<init>", desc := "()V" } : Jvm.MethodName)) ∈ lw_gd := gz_in2 (k := 50) rfl rfl
theorem wi_291 : (Jvm.Cond.code ({ cls := "HoldQueueModel", name := "<init>", desc := "()V" } : Jvm.MethodName) prog_5_method_1_code (2 : Nat) (Option.none : Option Jvm.ClassFile.FieldType)) ∈ lw_gd := gz_in2 (k := 51) rfl rfl
theorem wi_292 : (Jvm.Cond.methodLink "HoldQueueModel" (1 : Nat) ({ cls := "java/lang/Object", name := "<init>", desc := "()V" } : Jvm.MethodName)) ∈ lw_gd := gz_in2 (k := 52) rfl rfl
theorem wi_293 : (Jvm.Cond.fieldLink "HoldQueueModel" (61 : Nat) "HoldQueueModel" "thrown" "I") ∈ lw_gd := gz_in2 (k := 53) rfl rfl
theorem wi_294 : (Jvm.Cond.fieldLink "HoldQueueModel" (68 : Nat) "HoldQueueModel" "records" "I") ∈ lw_gd := gz_in2 (k := 54) rfl rfl
theorem wi_295 : (Jvm.Cond.fieldLink "HoldQueueModel" (71 : Nat) "HoldQueueModel" "copies" "I") ∈ lw_gd := gz_in2 (k := 55) rfl rfl
theorem wi_296 : (Jvm.Cond.fieldLink "HoldQueueModel" (74 : Nat) "HoldQueueModel" "holds" "I") ∈ lw_gd := gz_in2 (k := 56) rfl rfl
theorem wi_297 : (Jvm.Cond.fieldLink "HoldQueueModel" (7 : Nat) "HoldQueueModel" "kindOf" "[I") ∈ lw_gd := gz_in2 (k := 57) rfl rfl
theorem wi_298 : (Jvm.Cond.fieldLink "HoldQueueModel" (13 : Nat) "HoldQueueModel" "barred" "[Z") ∈ lw_gd := gz_in2 (k := 58) rfl rfl
theorem wi_299 : (Jvm.Cond.fieldLink "HoldQueueModel" (17 : Nat) "HoldQueueModel" "most" "[I") ∈ lw_gd := gz_in2 (k := 59) rfl rfl
theorem wi_300 : (Jvm.Cond.fieldLink "HoldQueueModel" (81 : Nat) "HoldQueueModel" "today" "J") ∈ lw_gd := gz_in2 (k := 60) rfl rfl
theorem wi_301 : (Jvm.Cond.fieldLink "HoldQueueModel" (20 : Nat) "HoldQueueModel" "span" "I") ∈ lw_gd := gz_in2 (k := 61) rfl rfl
theorem wi_302 : (Jvm.Cond.fieldLink "HoldQueueModel" (24 : Nat) "HoldQueueModel" "recordOf" "[I") ∈ lw_gd := gz_in2 (k := 62) rfl rfl
theorem wi_303 : (Jvm.Cond.fieldLink "HoldQueueModel" (27 : Nat) "HoldQueueModel" "copyState" "[I") ∈ lw_gd := gz_in2 (k := 63) rfl rfl
theorem wi_304 : (Jvm.Cond.fieldLink "HoldQueueModel" (30 : Nat) "HoldQueueModel" "copyPlace" "[I") ∈ lw_gd := gz_in2 (k := 64) rfl rfl
theorem wi_305 : (Jvm.Cond.fieldLink "HoldQueueModel" (33 : Nat) "HoldQueueModel" "copyHold" "[I") ∈ lw_gd := gz_in2 (k := 65) rfl rfl
theorem wi_306 : (Jvm.Cond.fieldLink "HoldQueueModel" (36 : Nat) "HoldQueueModel" "person" "[I") ∈ lw_gd := gz_in2 (k := 66) rfl rfl
theorem wi_307 : (Jvm.Cond.fieldLink "HoldQueueModel" (39 : Nat) "HoldQueueModel" "record" "[I") ∈ lw_gd := gz_in2 (k := 67) rfl rfl
theorem wi_308 : (Jvm.Cond.fieldLink "HoldQueueModel" (42 : Nat) "HoldQueueModel" "place" "[I") ∈ lw_gd := gz_in2 (k := 68) rfl rfl
theorem wi_309 : (Jvm.Cond.fieldLink "HoldQueueModel" (45 : Nat) "HoldQueueModel" "rank" "[I") ∈ lw_gd := gz_in2 (k := 69) rfl rfl
theorem wi_310 : (Jvm.Cond.fieldLink "HoldQueueModel" (48 : Nat) "HoldQueueModel" "status" "[I") ∈ lw_gd := gz_in2 (k := 70) rfl rfl
theorem wi_311 : (Jvm.Cond.fieldLink "HoldQueueModel" (51 : Nat) "HoldQueueModel" "copy" "[I") ∈ lw_gd := gz_in2 (k := 71) rfl rfl
theorem wi_312 : (Jvm.Cond.fieldLink "HoldQueueModel" (54 : Nat) "HoldQueueModel" "until" "[J") ∈ lw_gd := gz_in2 (k := 72) rfl rfl
theorem wi_313 : (Jvm.Cond.fieldLink "HoldQueueModel" (58 : Nat) "HoldQueueModel" "end" "[J") ∈ lw_gd := gz_in2 (k := 73) rfl rfl
theorem wi_314 : (Jvm.Cond.lays "HoldQueueModel" "HoldQueueModel" "thrown" "I") ∈ lw_gd := gz_in2 (k := 74) rfl rfl
theorem wi_315 : (Jvm.Cond.soleField "HoldQueueModel" "thrown") ∈ lw_gd := gz_in2 (k := 75) rfl rfl
theorem wi_316 : (Jvm.Cond.lays "HoldQueueModel" "HoldQueueModel" "records" "I") ∈ lw_gd := gz_in2 (k := 76) rfl rfl
theorem wi_317 : (Jvm.Cond.soleField "HoldQueueModel" "records") ∈ lw_gd := gz_in2 (k := 77) rfl rfl
theorem wi_318 : (Jvm.Cond.lays "HoldQueueModel" "HoldQueueModel" "copies" "I") ∈ lw_gd := gz_in2 (k := 78) rfl rfl
theorem wi_319 : (Jvm.Cond.soleField "HoldQueueModel" "copies") ∈ lw_gd := gz_in2 (k := 79) rfl rfl
theorem wi_320 : (Jvm.Cond.lays "HoldQueueModel" "HoldQueueModel" "holds" "I") ∈ lw_gd := gz_in2 (k := 80) rfl rfl
theorem wi_321 : (Jvm.Cond.soleField "HoldQueueModel" "holds") ∈ lw_gd := gz_in2 (k := 81) rfl rfl
theorem wi_322 : (Jvm.Cond.laysFinal "HoldQueueModel" "HoldQueueModel" "kindOf" "[I") ∈ lw_gd := gz_in2 (k := 82) rfl rfl
theorem wi_323 : (Jvm.Cond.soleField "HoldQueueModel" "kindOf") ∈ lw_gd := gz_in2 (k := 83) rfl rfl
theorem wi_324 : (Jvm.Cond.laysFinal "HoldQueueModel" "HoldQueueModel" "barred" "[Z") ∈ lw_gd := gz_in2 (k := 84) rfl rfl
theorem wi_325 : (Jvm.Cond.soleField "HoldQueueModel" "barred") ∈ lw_gd := gz_in2 (k := 85) rfl rfl
theorem wi_326 : (Jvm.Cond.laysFinal "HoldQueueModel" "HoldQueueModel" "most" "[I") ∈ lw_gd := gz_in2 (k := 86) rfl rfl
theorem wi_327 : (Jvm.Cond.soleField "HoldQueueModel" "most") ∈ lw_gd := gz_in2 (k := 87) rfl rfl
theorem wi_328 : (Jvm.Cond.lays "HoldQueueModel" "HoldQueueModel" "today" "J") ∈ lw_gd := gz_in2 (k := 88) rfl rfl
theorem wi_329 : (Jvm.Cond.soleField "HoldQueueModel" "today") ∈ lw_gd := gz_in2 (k := 89) rfl rfl
theorem wi_330 : (Jvm.Cond.lays "HoldQueueModel" "HoldQueueModel" "span" "I") ∈ lw_gd := gz_in2 (k := 90) rfl rfl
theorem wi_331 : (Jvm.Cond.soleField "HoldQueueModel" "span") ∈ lw_gd := gz_in2 (k := 91) rfl rfl
theorem wi_332 : (Jvm.Cond.laysFinal "HoldQueueModel" "HoldQueueModel" "recordOf" "[I") ∈ lw_gd := gz_in2 (k := 92) rfl rfl
theorem wi_333 : (Jvm.Cond.soleField "HoldQueueModel" "recordOf") ∈ lw_gd := gz_in2 (k := 93) rfl rfl
theorem wi_334 : (Jvm.Cond.laysFinal "HoldQueueModel" "HoldQueueModel" "copyState" "[I") ∈ lw_gd := gz_in2 (k := 94) rfl rfl
theorem wi_335 : (Jvm.Cond.soleField "HoldQueueModel" "copyState") ∈ lw_gd := gz_in2 (k := 95) rfl rfl
theorem wi_336 : (Jvm.Cond.laysFinal "HoldQueueModel" "HoldQueueModel" "copyPlace" "[I") ∈ lw_gd := gz_in2 (k := 96) rfl rfl
theorem wi_337 : (Jvm.Cond.soleField "HoldQueueModel" "copyPlace") ∈ lw_gd := gz_in2 (k := 97) rfl rfl
theorem wi_338 : (Jvm.Cond.laysFinal "HoldQueueModel" "HoldQueueModel" "copyHold" "[I") ∈ lw_gd := gz_in2 (k := 98) rfl rfl
theorem wi_339 : (Jvm.Cond.soleField "HoldQueueModel" "copyHold") ∈ lw_gd := gz_in2 (k := 99) rfl rfl
theorem wi_340 : (Jvm.Cond.laysFinal "HoldQueueModel" "HoldQueueModel" "person" "[I") ∈ lw_gd := gz_in2 (k := 100) rfl rfl
theorem wi_341 : (Jvm.Cond.soleField "HoldQueueModel" "person") ∈ lw_gd := gz_in2 (k := 101) rfl rfl
theorem wi_342 : (Jvm.Cond.laysFinal "HoldQueueModel" "HoldQueueModel" "record" "[I") ∈ lw_gd := gz_in2 (k := 102) rfl rfl
theorem wi_343 : (Jvm.Cond.soleField "HoldQueueModel" "record") ∈ lw_gd := gz_in2 (k := 103) rfl rfl
theorem wi_344 : (Jvm.Cond.laysFinal "HoldQueueModel" "HoldQueueModel" "place" "[I") ∈ lw_gd := gz_in2 (k := 104) rfl rfl
theorem wi_345 : (Jvm.Cond.soleField "HoldQueueModel" "place") ∈ lw_gd := gz_in2 (k := 105) rfl rfl
theorem wi_346 : (Jvm.Cond.laysFinal "HoldQueueModel" "HoldQueueModel" "rank" "[I") ∈ lw_gd := gz_in2 (k := 106) rfl rfl
theorem wi_347 : (Jvm.Cond.soleField "HoldQueueModel" "rank") ∈ lw_gd := gz_in2 (k := 107) rfl rfl
theorem wi_348 : (Jvm.Cond.laysFinal "HoldQueueModel" "HoldQueueModel" "status" "[I") ∈ lw_gd := gz_in2 (k := 108) rfl rfl
theorem wi_349 : (Jvm.Cond.soleField "HoldQueueModel" "status") ∈ lw_gd := gz_in2 (k := 109) rfl rfl
theorem wi_350 : (Jvm.Cond.laysFinal "HoldQueueModel" "HoldQueueModel" "copy" "[I") ∈ lw_gd := gz_in2 (k := 110) rfl rfl
theorem wi_351 : (Jvm.Cond.soleField "HoldQueueModel" "copy") ∈ lw_gd := gz_in2 (k := 111) rfl rfl
theorem wi_352 : (Jvm.Cond.laysFinal "HoldQueueModel" "HoldQueueModel" "until" "[J") ∈ lw_gd := gz_in2 (k := 112) rfl rfl
theorem wi_353 : (Jvm.Cond.soleField "HoldQueueModel" "until") ∈ lw_gd := gz_in2 (k := 113) rfl rfl
theorem wi_354 : (Jvm.Cond.laysFinal "HoldQueueModel" "HoldQueueModel" "end" "[J") ∈ lw_gd := gz_in2 (k := 114) rfl rfl
theorem wi_355 : (Jvm.Cond.soleField "HoldQueueModel" "end") ∈ lw_gd := gz_in2 (k := 115) rfl rfl
theorem wi_356 : (Jvm.Cond.superclass "HoldQueueModel" "java/lang/Object") ∈ lw_gd := gz_in2 (k := 116) rfl rfl
theorem wi_357 : (Jvm.Cond.methodLink "HoldQueueLaw" (17 : Nat) ({ cls := "HoldQueueModel", name := "record", desc := "(I)I" } : Jvm.MethodName)) ∈ lw_gd := gz_in2 (k := 117) rfl rfl
theorem wi_358 : (Jvm.Cond.instanceMethod ({ cls := "HoldQueueModel", name := "record", desc := "(I)I" } : Jvm.MethodName)) ∈ lw_gd := gz_in2 (k := 118) rfl rfl
theorem wi_359 : (Jvm.Cond.selects "HoldQueueModel" ({ cls := "HoldQueueModel", name := "record", desc := "(I)I" } : Jvm.MethodName) ({ cls := "HoldQueueModel", name := "record", desc := "(I)I" } : Jvm.MethodName)) ∈ lw_gd := gz_in2 (k := 119) rfl rfl
theorem wi_360 : (Jvm.Cond.code ({ cls := "HoldQueueModel", name := "record", desc := "(I)I" } : Jvm.MethodName) prog_5_method_4_code (2 : Nat) (Option.some Jvm.ClassFile.FieldType.int)) ∈ lw_gd := gz_in2 (k := 120) rfl rfl
theorem wi_361 : (Jvm.Cond.methodLink "HoldQueueModel" (64 : Nat) ({ cls := "HoldQueueModel", name := "in", desc := "(III)Z" } : Jvm.MethodName)) ∈ lw_gd := gz_in2 (k := 121) rfl rfl
theorem wi_362 : (Jvm.Cond.static ({ cls := "HoldQueueModel", name := "in", desc := "(III)Z" } : Jvm.MethodName)) ∈ lw_gd := gz_in2 (k := 122) rfl rfl
theorem wi_363 : (Jvm.Cond.code ({ cls := "HoldQueueModel", name := "in", desc := "(III)Z" } : Jvm.MethodName) prog_5_method_3_code (3 : Nat) (Option.some Jvm.ClassFile.FieldType.boolean)) ∈ lw_gd := gz_in2 (k := 123) rfl rfl
theorem wi_364 : (Jvm.Cond.methodLink "HoldQueueLaw" (22 : Nat) ({ cls := "HoldQueueModel", name := "copy", desc := "(II)I" } : Jvm.MethodName)) ∈ lw_gd := gz_in2 (k := 124) rfl rfl
theorem wi_365 : (Jvm.Cond.instanceMethod ({ cls := "HoldQueueModel", name := "copy", desc := "(II)I" } : Jvm.MethodName)) ∈ lw_gd := gz_in2 (k := 125) rfl rfl
theorem wi_366 : (Jvm.Cond.selects "HoldQueueModel" ({ cls := "HoldQueueModel", name := "copy", desc := "(II)I" } : Jvm.MethodName) ({ cls := "HoldQueueModel", name := "copy", desc := "(II)I" } : Jvm.MethodName)) ∈ lw_gd := gz_in2 (k := 126) rfl rfl
theorem wi_367 : (Jvm.Cond.code ({ cls := "HoldQueueModel", name := "copy", desc := "(II)I" } : Jvm.MethodName) prog_5_method_5_code (3 : Nat) (Option.some Jvm.ClassFile.FieldType.int)) ∈ lw_gd := gz_in2 (k := 127) rfl rfl
theorem wi_368 : (Jvm.Cond.methodLink "HoldQueueLaw" (27 : Nat) ({ cls := "HoldQueueModel", name := "bar", desc := "(IZ)Z" } : Jvm.MethodName)) ∈ lw_gd := gz_in2 (k := 128) rfl rfl
theorem wi_369 : (Jvm.Cond.instanceMethod ({ cls := "HoldQueueModel", name := "bar", desc := "(IZ)Z" } : Jvm.MethodName)) ∈ lw_gd := gz_in2 (k := 129) rfl rfl
theorem wi_370 : (Jvm.Cond.selects "HoldQueueModel" ({ cls := "HoldQueueModel", name := "bar", desc := "(IZ)Z" } : Jvm.MethodName) ({ cls := "HoldQueueModel", name := "bar", desc := "(IZ)Z" } : Jvm.MethodName)) ∈ lw_gd := gz_in2 (k := 130) rfl rfl
theorem wi_371 : (Jvm.Cond.code ({ cls := "HoldQueueModel", name := "bar", desc := "(IZ)Z" } : Jvm.MethodName) prog_5_method_6_code (4 : Nat) (Option.some Jvm.ClassFile.FieldType.boolean)) ∈ lw_gd := gz_in2 (k := 131) rfl rfl
theorem wi_372 : (Jvm.Cond.methodLink "HoldQueueLaw" (32 : Nat) ({ cls := "HoldQueueModel", name := "hold", desc := "(IIII)I" } : Jvm.MethodName)) ∈ lw_gd := gz_in2 (k := 132) rfl rfl
theorem wi_373 : (Jvm.Cond.instanceMethod ({ cls := "HoldQueueModel", name := "hold", desc := "(IIII)I" } : Jvm.MethodName)) ∈ lw_gd := gz_in2 (k := 133) rfl rfl
theorem wi_374 : (Jvm.Cond.selects "HoldQueueModel" ({ cls := "HoldQueueModel", name := "hold", desc := "(IIII)I" } : Jvm.MethodName) ({ cls := "HoldQueueModel", name := "hold", desc := "(IIII)I" } : Jvm.MethodName)) ∈ lw_gd := gz_in2 (k := 134) rfl rfl
theorem wi_375 : (Jvm.Cond.code ({ cls := "HoldQueueModel", name := "hold", desc := "(IIII)I" } : Jvm.MethodName) prog_5_method_13_code (9 : Nat) (Option.some Jvm.ClassFile.FieldType.int)) ∈ lw_gd := gz_in2 (k := 135) rfl rfl
theorem wi_376 : (Jvm.Cond.methodLink "HoldQueueModel" (93 : Nat) ({ cls := "HoldQueueModel", name := "isOpen", desc := "(I)Z" } : Jvm.MethodName)) ∈ lw_gd := gz_in2 (k := 136) rfl rfl
theorem wi_378 : (Jvm.Cond.instanceMethod ({ cls := "HoldQueueModel", name := "isOpen", desc := "(I)Z" } : Jvm.MethodName)) ∈ lw_gd := gz_in2 (k := 138) rfl rfl
theorem wi_379 : (Jvm.Cond.code ({ cls := "HoldQueueModel", name := "isOpen", desc := "(I)Z" } : Jvm.MethodName) prog_5_method_7_code (2 : Nat) (Option.some Jvm.ClassFile.FieldType.boolean)) ∈ lw_gd := gz_in2 (k := 139) rfl rfl
theorem wi_380 : (Jvm.Cond.constantLong "HoldQueueModel" (97 : Nat) (-9223372036854775807 : Int64)) ∈ lw_gd := gz_in2 (k := 140) rfl rfl
theorem wi_381 : (Jvm.Cond.methodLink "HoldQueueModel" (99 : Nat) ({ cls := "HoldQueueModel", name := "goes", desc := "(I)I" } : Jvm.MethodName)) ∈ lw_gd := gz_in2 (k := 141) rfl rfl
theorem wi_383 : (Jvm.Cond.instanceMethod ({ cls := "HoldQueueModel", name := "goes", desc := "(I)I" } : Jvm.MethodName)) ∈ lw_gd := gz_in2 (k := 143) rfl rfl
theorem wi_384 : (Jvm.Cond.code ({ cls := "HoldQueueModel", name := "goes", desc := "(I)I" } : Jvm.MethodName) prog_5_method_12_code (3 : Nat) (Option.some Jvm.ClassFile.FieldType.int)) ∈ lw_gd := gz_in2 (k := 144) rfl rfl
theorem wi_385 : (Jvm.Cond.methodLink "HoldQueueModel" (85 : Nat) ({ cls := "HoldQueueModel", name := "fits", desc := "(I)I" } : Jvm.MethodName)) ∈ lw_gd := gz_in2 (k := 145) rfl rfl
theorem wi_387 : (Jvm.Cond.instanceMethod ({ cls := "HoldQueueModel", name := "fits", desc := "(I)I" } : Jvm.MethodName)) ∈ lw_gd := gz_in2 (k := 147) rfl rfl
theorem wi_388 : (Jvm.Cond.code ({ cls := "HoldQueueModel", name := "fits", desc := "(I)I" } : Jvm.MethodName) prog_5_method_10_code (5 : Nat) (Option.some Jvm.ClassFile.FieldType.int)) ∈ lw_gd := gz_in2 (k := 148) rfl rfl
theorem wi_389 : (Jvm.Cond.methodLink "HoldQueueModel" (77 : Nat) ({ cls := "HoldQueueModel", name := "isAhead", desc := "(II)Z" } : Jvm.MethodName)) ∈ lw_gd := gz_in2 (k := 149) rfl rfl
theorem wi_391 : (Jvm.Cond.instanceMethod ({ cls := "HoldQueueModel", name := "isAhead", desc := "(II)Z" } : Jvm.MethodName)) ∈ lw_gd := gz_in2 (k := 151) rfl rfl
theorem wi_392 : (Jvm.Cond.code ({ cls := "HoldQueueModel", name := "isAhead", desc := "(II)Z" } : Jvm.MethodName) prog_5_method_8_code (3 : Nat) (Option.some Jvm.ClassFile.FieldType.boolean)) ∈ lw_gd := gz_in2 (k := 152) rfl rfl
theorem wi_393 : (Jvm.Cond.methodLink "HoldQueueModel" (89 : Nat) ({ cls := "HoldQueueModel", name := "lies", desc := "(II)V" } : Jvm.MethodName)) ∈ lw_gd := gz_in2 (k := 153) rfl rfl
theorem wi_395 : (Jvm.Cond.instanceMethod ({ cls := "HoldQueueModel", name := "lies", desc := "(II)V" } : Jvm.MethodName)) ∈ lw_gd := gz_in2 (k := 155) rfl rfl
theorem wi_396 : (Jvm.Cond.code ({ cls := "HoldQueueModel", name := "lies", desc := "(II)V" } : Jvm.MethodName) prog_5_method_11_code (3 : Nat) (Option.none : Option Jvm.ClassFile.FieldType)) ∈ lw_gd := gz_in2 (k := 156) rfl rfl
theorem wi_397 : (Jvm.Cond.methodLink "HoldQueueLaw" (36 : Nat) ({ cls := "HoldQueueModel", name := "most", desc := "(II)I" } : Jvm.MethodName)) ∈ lw_gd := gz_in2 (k := 157) rfl rfl
theorem wi_398 : (Jvm.Cond.instanceMethod ({ cls := "HoldQueueModel", name := "most", desc := "(II)I" } : Jvm.MethodName)) ∈ lw_gd := gz_in2 (k := 158) rfl rfl
theorem wi_399 : (Jvm.Cond.selects "HoldQueueModel" ({ cls := "HoldQueueModel", name := "most", desc := "(II)I" } : Jvm.MethodName) ({ cls := "HoldQueueModel", name := "most", desc := "(II)I" } : Jvm.MethodName)) ∈ lw_gd := gz_in2 (k := 159) rfl rfl
theorem wi_400 : (Jvm.Cond.code ({ cls := "HoldQueueModel", name := "most", desc := "(II)I" } : Jvm.MethodName) prog_5_method_14_code (4 : Nat) (Option.some Jvm.ClassFile.FieldType.int)) ∈ lw_gd := gz_in2 (k := 160) rfl rfl
theorem wi_401 : (Jvm.Cond.methodLink "HoldQueueLaw" (43 : Nat) ({ cls := "HoldQueueModel", name := "suspend", desc := "(IJ)I" } : Jvm.MethodName)) ∈ lw_gd := gz_in2 (k := 161) rfl rfl
theorem wi_402 : (Jvm.Cond.instanceMethod ({ cls := "HoldQueueModel", name := "suspend", desc := "(IJ)I" } : Jvm.MethodName)) ∈ lw_gd := gz_in2 (k := 162) rfl rfl
theorem wi_403 : (Jvm.Cond.selects "HoldQueueModel" ({ cls := "HoldQueueModel", name := "suspend", desc := "(IJ)I" } : Jvm.MethodName) ({ cls := "HoldQueueModel", name := "suspend", desc := "(IJ)I" } : Jvm.MethodName)) ∈ lw_gd := gz_in2 (k := 163) rfl rfl
theorem wi_404 : (Jvm.Cond.code ({ cls := "HoldQueueModel", name := "suspend", desc := "(IJ)I" } : Jvm.MethodName) prog_5_method_17_code (4 : Nat) (Option.some Jvm.ClassFile.FieldType.int)) ∈ lw_gd := gz_in2 (k := 164) rfl rfl
theorem wi_405 : (Jvm.Cond.methodLink "HoldQueueModel" (105 : Nat) ({ cls := "HoldQueueModel", name := "isWaiting", desc := "(I)Z" } : Jvm.MethodName)) ∈ lw_gd := gz_in2 (k := 165) rfl rfl
theorem wi_407 : (Jvm.Cond.instanceMethod ({ cls := "HoldQueueModel", name := "isWaiting", desc := "(I)Z" } : Jvm.MethodName)) ∈ lw_gd := gz_in2 (k := 167) rfl rfl
theorem wi_408 : (Jvm.Cond.code ({ cls := "HoldQueueModel", name := "isWaiting", desc := "(I)Z" } : Jvm.MethodName) prog_5_method_16_code (2 : Nat) (Option.some Jvm.ClassFile.FieldType.boolean)) ∈ lw_gd := gz_in2 (k := 168) rfl rfl
theorem wi_409 : (Jvm.Cond.methodLink "HoldQueueModel" (102 : Nat) ({ cls := "HoldQueueModel", name := "isHold", desc := "(I)Z" } : Jvm.MethodName)) ∈ lw_gd := gz_in2 (k := 169) rfl rfl
theorem wi_411 : (Jvm.Cond.instanceMethod ({ cls := "HoldQueueModel", name := "isHold", desc := "(I)Z" } : Jvm.MethodName)) ∈ lw_gd := gz_in2 (k := 171) rfl rfl
theorem wi_412 : (Jvm.Cond.code ({ cls := "HoldQueueModel", name := "isHold", desc := "(I)Z" } : Jvm.MethodName) prog_5_method_15_code (2 : Nat) (Option.some Jvm.ClassFile.FieldType.boolean)) ∈ lw_gd := gz_in2 (k := 172) rfl rfl
theorem wi_413 : (Jvm.Cond.methodLink "HoldQueueLaw" (47 : Nat) ({ cls := "HoldQueueModel", name := "back", desc := "(II)I" } : Jvm.MethodName)) ∈ lw_gd := gz_in2 (k := 173) rfl rfl
theorem wi_414 : (Jvm.Cond.instanceMethod ({ cls := "HoldQueueModel", name := "back", desc := "(II)I" } : Jvm.MethodName)) ∈ lw_gd := gz_in2 (k := 174) rfl rfl
theorem wi_415 : (Jvm.Cond.selects "HoldQueueModel" ({ cls := "HoldQueueModel", name := "back", desc := "(II)I" } : Jvm.MethodName) ({ cls := "HoldQueueModel", name := "back", desc := "(II)I" } : Jvm.MethodName)) ∈ lw_gd := gz_in2 (k := 175) rfl rfl
theorem wi_416 : (Jvm.Cond.code ({ cls := "HoldQueueModel", name := "back", desc := "(II)I" } : Jvm.MethodName) prog_5_method_19_code (3 : Nat) (Option.some Jvm.ClassFile.FieldType.int)) ∈ lw_gd := gz_in2 (k := 176) rfl rfl
theorem wi_417 : (Jvm.Cond.methodLink "HoldQueueModel" (108 : Nat) ({ cls := "HoldQueueModel", name := "isCopy", desc := "(II)Z" } : Jvm.MethodName)) ∈ lw_gd := gz_in2 (k := 177) rfl rfl
theorem wi_419 : (Jvm.Cond.instanceMethod ({ cls := "HoldQueueModel", name := "isCopy", desc := "(II)Z" } : Jvm.MethodName)) ∈ lw_gd := gz_in2 (k := 179) rfl rfl
theorem wi_420 : (Jvm.Cond.code ({ cls := "HoldQueueModel", name := "isCopy", desc := "(II)Z" } : Jvm.MethodName) prog_5_method_18_code (3 : Nat) (Option.some Jvm.ClassFile.FieldType.boolean)) ∈ lw_gd := gz_in2 (k := 180) rfl rfl
theorem wi_421 : (Jvm.Cond.methodLink "HoldQueueLaw" (51 : Nat) ({ cls := "HoldQueueModel", name := "arrive", desc := "(I)I" } : Jvm.MethodName)) ∈ lw_gd := gz_in2 (k := 181) rfl rfl
theorem wi_422 : (Jvm.Cond.instanceMethod ({ cls := "HoldQueueModel", name := "arrive", desc := "(I)I" } : Jvm.MethodName)) ∈ lw_gd := gz_in2 (k := 182) rfl rfl
theorem wi_423 : (Jvm.Cond.selects "HoldQueueModel" ({ cls := "HoldQueueModel", name := "arrive", desc := "(I)I" } : Jvm.MethodName) ({ cls := "HoldQueueModel", name := "arrive", desc := "(I)I" } : Jvm.MethodName)) ∈ lw_gd := gz_in2 (k := 183) rfl rfl
theorem wi_424 : (Jvm.Cond.code ({ cls := "HoldQueueModel", name := "arrive", desc := "(I)I" } : Jvm.MethodName) prog_5_method_20_code (3 : Nat) (Option.some Jvm.ClassFile.FieldType.int)) ∈ lw_gd := gz_in2 (k := 184) rfl rfl
theorem wi_425 : (Jvm.Cond.methodLink "HoldQueueLaw" (55 : Nat) ({ cls := "HoldQueueModel", name := "pick", desc := "(I)I" } : Jvm.MethodName)) ∈ lw_gd := gz_in2 (k := 185) rfl rfl
theorem wi_426 : (Jvm.Cond.instanceMethod ({ cls := "HoldQueueModel", name := "pick", desc := "(I)I" } : Jvm.MethodName)) ∈ lw_gd := gz_in2 (k := 186) rfl rfl
theorem wi_427 : (Jvm.Cond.selects "HoldQueueModel" ({ cls := "HoldQueueModel", name := "pick", desc := "(I)I" } : Jvm.MethodName) ({ cls := "HoldQueueModel", name := "pick", desc := "(I)I" } : Jvm.MethodName)) ∈ lw_gd := gz_in2 (k := 187) rfl rfl
theorem wi_428 : (Jvm.Cond.code ({ cls := "HoldQueueModel", name := "pick", desc := "(I)I" } : Jvm.MethodName) prog_5_method_21_code (3 : Nat) (Option.some Jvm.ClassFile.FieldType.int)) ∈ lw_gd := gz_in2 (k := 188) rfl rfl
theorem wi_429 : (Jvm.Cond.methodLink "HoldQueueLaw" (59 : Nat) ({ cls := "HoldQueueModel", name := "lend", desc := "(I)I" } : Jvm.MethodName)) ∈ lw_gd := gz_in2 (k := 189) rfl rfl
theorem wi_430 : (Jvm.Cond.instanceMethod ({ cls := "HoldQueueModel", name := "lend", desc := "(I)I" } : Jvm.MethodName)) ∈ lw_gd := gz_in2 (k := 190) rfl rfl
theorem wi_431 : (Jvm.Cond.selects "HoldQueueModel" ({ cls := "HoldQueueModel", name := "lend", desc := "(I)I" } : Jvm.MethodName) ({ cls := "HoldQueueModel", name := "lend", desc := "(I)I" } : Jvm.MethodName)) ∈ lw_gd := gz_in2 (k := 191) rfl rfl
theorem wi_432 : (Jvm.Cond.code ({ cls := "HoldQueueModel", name := "lend", desc := "(I)I" } : Jvm.MethodName) prog_5_method_22_code (2 : Nat) (Option.some Jvm.ClassFile.FieldType.int)) ∈ lw_gd := gz_in2 (k := 192) rfl rfl
theorem wi_433 : (Jvm.Cond.methodLink "HoldQueueLaw" (63 : Nat) ({ cls := "HoldQueueModel", name := "cancel", desc := "(I)I" } : Jvm.MethodName)) ∈ lw_gd := gz_in2 (k := 193) rfl rfl
theorem wi_434 : (Jvm.Cond.instanceMethod ({ cls := "HoldQueueModel", name := "cancel", desc := "(I)I" } : Jvm.MethodName)) ∈ lw_gd := gz_in2 (k := 194) rfl rfl
theorem wi_435 : (Jvm.Cond.selects "HoldQueueModel" ({ cls := "HoldQueueModel", name := "cancel", desc := "(I)I" } : Jvm.MethodName) ({ cls := "HoldQueueModel", name := "cancel", desc := "(I)I" } : Jvm.MethodName)) ∈ lw_gd := gz_in2 (k := 195) rfl rfl
theorem wi_436 : (Jvm.Cond.code ({ cls := "HoldQueueModel", name := "cancel", desc := "(I)I" } : Jvm.MethodName) prog_5_method_24_code (2 : Nat) (Option.some Jvm.ClassFile.FieldType.int)) ∈ lw_gd := gz_in2 (k := 196) rfl rfl
theorem wi_437 : (Jvm.Cond.methodLink "HoldQueueModel" (111 : Nat) ({ cls := "HoldQueueModel", name := "ends", desc := "(II)V" } : Jvm.MethodName)) ∈ lw_gd := gz_in2 (k := 197) rfl rfl
theorem wi_439 : (Jvm.Cond.instanceMethod ({ cls := "HoldQueueModel", name := "ends", desc := "(II)V" } : Jvm.MethodName)) ∈ lw_gd := gz_in2 (k := 199) rfl rfl
theorem wi_440 : (Jvm.Cond.code ({ cls := "HoldQueueModel", name := "ends", desc := "(II)V" } : Jvm.MethodName) prog_5_method_23_code (5 : Nat) (Option.none : Option Jvm.ClassFile.FieldType)) ∈ lw_gd := gz_in2 (k := 200) rfl rfl
theorem wi_441 : (Jvm.Cond.methodLink "HoldQueueLaw" (68 : Nat) ({ cls := "HoldQueueModel", name := "tick", desc := "(J)I" } : Jvm.MethodName)) ∈ lw_gd := gz_in2 (k := 201) rfl rfl
theorem wi_442 : (Jvm.Cond.instanceMethod ({ cls := "HoldQueueModel", name := "tick", desc := "(J)I" } : Jvm.MethodName)) ∈ lw_gd := gz_in2 (k := 202) rfl rfl
theorem wi_443 : (Jvm.Cond.selects "HoldQueueModel" ({ cls := "HoldQueueModel", name := "tick", desc := "(J)I" } : Jvm.MethodName) ({ cls := "HoldQueueModel", name := "tick", desc := "(J)I" } : Jvm.MethodName)) ∈ lw_gd := gz_in2 (k := 203) rfl rfl
theorem wi_444 : (Jvm.Cond.code ({ cls := "HoldQueueModel", name := "tick", desc := "(J)I" } : Jvm.MethodName) prog_5_method_25_code (5 : Nat) (Option.some Jvm.ClassFile.FieldType.int)) ∈ lw_gd := gz_in2 (k := 204) rfl rfl
theorem wi_445 : (Jvm.Cond.constantLong "HoldQueueModel" (114 : Nat) (1000000000 : Int64)) ∈ lw_gd := gz_in2 (k := 205) rfl rfl
theorem wi_446 : (Jvm.Cond.methodLink "HoldQueueLaw" (72 : Nat) ({ cls := "HoldQueueModel", name := "span", desc := "(I)I" } : Jvm.MethodName)) ∈ lw_gd := gz_in2 (k := 206) rfl rfl
theorem wi_447 : (Jvm.Cond.instanceMethod ({ cls := "HoldQueueModel", name := "span", desc := "(I)I" } : Jvm.MethodName)) ∈ lw_gd := gz_in2 (k := 207) rfl rfl
theorem wi_448 : (Jvm.Cond.selects "HoldQueueModel" ({ cls := "HoldQueueModel", name := "span", desc := "(I)I" } : Jvm.MethodName) ({ cls := "HoldQueueModel", name := "span", desc := "(I)I" } : Jvm.MethodName)) ∈ lw_gd := gz_in2 (k := 208) rfl rfl
theorem wi_449 : (Jvm.Cond.code ({ cls := "HoldQueueModel", name := "span", desc := "(I)I" } : Jvm.MethodName) prog_5_method_26_code (3 : Nat) (Option.some Jvm.ClassFile.FieldType.int)) ∈ lw_gd := gz_in2 (k := 209) rfl rfl
theorem wi_450 : (Jvm.Cond.methodLink "HoldQueueLaw" (76 : Nat) ({ cls := "HoldQueueModel", name := "rank", desc := "(II)I" } : Jvm.MethodName)) ∈ lw_gd := gz_in2 (k := 210) rfl rfl
theorem wi_451 : (Jvm.Cond.instanceMethod ({ cls := "HoldQueueModel", name := "rank", desc := "(II)I" } : Jvm.MethodName)) ∈ lw_gd := gz_in2 (k := 211) rfl rfl
theorem wi_452 : (Jvm.Cond.selects "HoldQueueModel" ({ cls := "HoldQueueModel", name := "rank", desc := "(II)I" } : Jvm.MethodName) ({ cls := "HoldQueueModel", name := "rank", desc := "(II)I" } : Jvm.MethodName)) ∈ lw_gd := gz_in2 (k := 212) rfl rfl
theorem wi_453 : (Jvm.Cond.code ({ cls := "HoldQueueModel", name := "rank", desc := "(II)I" } : Jvm.MethodName) prog_5_method_27_code (3 : Nat) (Option.some Jvm.ClassFile.FieldType.int)) ∈ lw_gd := gz_in2 (k := 213) rfl rfl
theorem wi_454 : (Jvm.Cond.methodLink "HoldQueueModel" (116 : Nat) ({ cls := "HoldQueueModel", name := "placeOf", desc := "(I)I" } : Jvm.MethodName)) ∈ lw_gd := gz_in2 (k := 214) rfl rfl
theorem wi_456 : (Jvm.Cond.instanceMethod ({ cls := "HoldQueueModel", name := "placeOf", desc := "(I)I" } : Jvm.MethodName)) ∈ lw_gd := gz_in2 (k := 216) rfl rfl
theorem wi_457 : (Jvm.Cond.code ({ cls := "HoldQueueModel", name := "placeOf", desc := "(I)I" } : Jvm.MethodName) prog_5_method_9_code (4 : Nat) (Option.some Jvm.ClassFile.FieldType.int)) ∈ lw_gd := gz_in2 (k := 217) rfl rfl
theorem wi_458 : (Jvm.Cond.methodLink "HoldQueueLaw" (80 : Nat) ({ cls := "HoldQueueModel", name := "order", desc := "(II)I" } : Jvm.MethodName)) ∈ lw_gd := gz_in2 (k := 218) rfl rfl
theorem wi_459 : (Jvm.Cond.instanceMethod ({ cls := "HoldQueueModel", name := "order", desc := "(II)I" } : Jvm.MethodName)) ∈ lw_gd := gz_in2 (k := 219) rfl rfl
theorem wi_460 : (Jvm.Cond.selects "HoldQueueModel" ({ cls := "HoldQueueModel", name := "order", desc := "(II)I" } : Jvm.MethodName) ({ cls := "HoldQueueModel", name := "order", desc := "(II)I" } : Jvm.MethodName)) ∈ lw_gd := gz_in2 (k := 220) rfl rfl
theorem wi_461 : (Jvm.Cond.code ({ cls := "HoldQueueModel", name := "order", desc := "(II)I" } : Jvm.MethodName) prog_5_method_28_code (4 : Nat) (Option.some Jvm.ClassFile.FieldType.int)) ∈ lw_gd := gz_in2 (k := 221) rfl rfl
theorem wi_462 : (Jvm.Cond.methodLink "HoldQueueLaw" (84 : Nat) ({ cls := "HoldQueueModel", name := "state", desc := "(II)I" } : Jvm.MethodName)) ∈ lw_gd := gz_in2 (k := 222) rfl rfl
theorem wi_463 : (Jvm.Cond.instanceMethod ({ cls := "HoldQueueModel", name := "state", desc := "(II)I" } : Jvm.MethodName)) ∈ lw_gd := gz_in2 (k := 223) rfl rfl
theorem wi_464 : (Jvm.Cond.selects "HoldQueueModel" ({ cls := "HoldQueueModel", name := "state", desc := "(II)I" } : Jvm.MethodName) ({ cls := "HoldQueueModel", name := "state", desc := "(II)I" } : Jvm.MethodName)) ∈ lw_gd := gz_in2 (k := 224) rfl rfl
theorem wi_465 : (Jvm.Cond.code ({ cls := "HoldQueueModel", name := "state", desc := "(II)I" } : Jvm.MethodName) prog_5_method_29_code (3 : Nat) (Option.some Jvm.ClassFile.FieldType.int)) ∈ lw_gd := gz_in2 (k := 225) rfl rfl
theorem wi_466 : (Jvm.Cond.methodLink "HoldQueueLaw" (88 : Nat) ({ cls := "HoldQueueModel", name := "where", desc := "(II)I" } : Jvm.MethodName)) ∈ lw_gd := gz_in2 (k := 226) rfl rfl
theorem wi_467 : (Jvm.Cond.instanceMethod ({ cls := "HoldQueueModel", name := "where", desc := "(II)I" } : Jvm.MethodName)) ∈ lw_gd := gz_in2 (k := 227) rfl rfl
theorem wi_468 : (Jvm.Cond.selects "HoldQueueModel" ({ cls := "HoldQueueModel", name := "where", desc := "(II)I" } : Jvm.MethodName) ({ cls := "HoldQueueModel", name := "where", desc := "(II)I" } : Jvm.MethodName)) ∈ lw_gd := gz_in2 (k := 228) rfl rfl
theorem wi_469 : (Jvm.Cond.code ({ cls := "HoldQueueModel", name := "where", desc := "(II)I" } : Jvm.MethodName) prog_5_method_30_code (3 : Nat) (Option.some Jvm.ClassFile.FieldType.int)) ∈ lw_gd := gz_in2 (k := 229) rfl rfl
theorem wi_470 : (Jvm.Cond.constantLong "HoldQueueLaw" (37 : Nat) (4294967295 : Int64)) ∈ lw_gd := gz_in2 (k := 230) rfl rfl
