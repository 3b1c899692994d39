def uw : List Cond := lw_tbl.filter goodWord
theorem tu {w : Cond} (h : w ∈ lw_tbl) (g : goodWord w = true) : w ∈ uw := List.mem_filter.mpr ⟨h, g⟩
theorem tu_tbl {w : Cond} (h : w ∈ uw) : w ∈ lw_tbl := (List.mem_filter.mp h).1
theorem tu_good {w : Cond} (h : w ∈ uw) : goodWord w = true := (List.mem_filter.mp h).2
theorem in_p {w : Cond} (h : w ∈ k2_sels lw_privs) : w ∈ lw_tbl := List.mem_append_left _ h
theorem in_t1 {w : Cond} (h : w ∈ tables_1_1) : w ∈ lw_tbl := List.mem_append_right _ (List.mem_append_left _ h)
theorem in_t2 {w : Cond} (h : w ∈ tables_1_2) : w ∈ lw_tbl := List.mem_append_right _ (List.mem_append_right _ (List.mem_append_left _ h))
theorem in_t3 {w : Cond} (h : w ∈ tables_1_3) : w ∈ lw_tbl := List.mem_append_right _ (List.mem_append_right _ (List.mem_append_right _ (List.mem_append_left _ h)))
theorem in_t4 {w : Cond} (h : w ∈ tables_1_4) : w ∈ lw_tbl := List.mem_append_right _ (List.mem_append_right _ (List.mem_append_right _ (List.mem_append_right _ (List.mem_append_left _ h))))
theorem in_t5 {w : Cond} (h : w ∈ tables_1_5) : w ∈ lw_tbl := List.mem_append_right _ (List.mem_append_right _ (List.mem_append_right _ (List.mem_append_right _ (List.mem_append_right _ (List.mem_append_left _ h)))))
theorem in_t6 {w : Cond} (h : w ∈ tables_1_6) : w ∈ lw_tbl := List.mem_append_right _ (List.mem_append_right _ (List.mem_append_right _ (List.mem_append_right _ (List.mem_append_right _ (List.mem_append_right _ (h))))))
set_option maxRecDepth 100000 in
theorem tw_0 : (Cond.initialized "CarryShiftsLaw") ∈ uw := tu (in_t1 (List.mem_of_getElem? (i := 0) rfl)) rfl
set_option maxRecDepth 100000 in
theorem tw_1 : (Cond.initialized "CarryShifts") ∈ uw := tu (in_t1 (List.mem_of_getElem? (i := 1) rfl)) rfl
set_option maxRecDepth 100000 in
theorem tw_2 : (Cond.initialized "CarryShifts$Script") ∈ uw := tu (in_t1 (List.mem_of_getElem? (i := 2) rfl)) rfl
set_option maxRecDepth 100000 in
theorem tw_3 : (Cond.initialized "CarryShifts$Least") ∈ uw := tu (in_t1 (List.mem_of_getElem? (i := 3) rfl)) rfl
set_option maxRecDepth 100000 in
theorem tw_4 : (Cond.initialized "CarryShifts$Law") ∈ uw := tu (in_t1 (List.mem_of_getElem? (i := 4) rfl)) rfl
set_option maxRecDepth 100000 in
theorem tw_5 : (Cond.initialized "CarryShifts$Sheet") ∈ uw := tu (in_t1 (List.mem_of_getElem? (i := 5) rfl)) rfl
set_option maxRecDepth 100000 in
theorem tw_6 : (Cond.initialized "CarryShiftsModel") ∈ uw := tu (in_t1 (List.mem_of_getElem? (i := 6) rfl)) rfl
set_option maxRecDepth 100000 in
theorem tw_7 : (Cond.initialized "CarryShifts$Carrying") ∈ uw := tu (in_t1 (List.mem_of_getElem? (i := 7) rfl)) rfl
set_option maxRecDepth 100000 in
theorem tw_8 : (Cond.initialized "CarryShifts$Linear") ∈ uw := tu (in_t1 (List.mem_of_getElem? (i := 8) rfl)) rfl
set_option maxRecDepth 100000 in
theorem tw_9 : (Cond.initialized "CarryShifts$Turned") ∈ uw := tu (in_t1 (List.mem_of_getElem? (i := 9) rfl)) rfl
set_option maxRecDepth 100000 in
theorem tw_10 : (Cond.initialized "CarryShifts$Borrowing") ∈ uw := tu (in_t1 (List.mem_of_getElem? (i := 10) rfl)) rfl
set_option maxRecDepth 100000 in
theorem tw_11 : (Cond.initialized "CarryShifts$Held") ∈ uw := tu (in_t1 (List.mem_of_getElem? (i := 11) rfl)) rfl
set_option maxRecDepth 100000 in
theorem tw_12 : (Cond.initialized "CarryShifts$Ring") ∈ uw := tu (in_t1 (List.mem_of_getElem? (i := 12) rfl)) rfl
set_option maxRecDepth 100000 in
theorem tw_13 : (Cond.initialized "java/lang/Integer") ∈ uw := tu (in_t1 (List.mem_of_getElem? (i := 13) rfl)) rfl
set_option maxRecDepth 100000 in
theorem tw_14 : (Cond.initialized "java/lang/Math") ∈ uw := tu (in_t1 (List.mem_of_getElem? (i := 14) rfl)) rfl
set_option maxRecDepth 100000 in
theorem tw_15 : (Cond.initialized "java/lang/Long") ∈ uw := tu (in_t1 (List.mem_of_getElem? (i := 15) rfl)) rfl
set_option maxRecDepth 100000 in
theorem tw_16 : (Cond.initialized "java/lang/System") ∈ uw := tu (in_t1 (List.mem_of_getElem? (i := 16) rfl)) rfl
set_option maxRecDepth 100000 in
theorem tw_17 : (Cond.initialized "java/lang/String") ∈ uw := tu (in_t1 (List.mem_of_getElem? (i := 17) rfl)) rfl
set_option maxRecDepth 100000 in
theorem tw_18 : (Cond.initialized "java/lang/StringLatin1") ∈ uw := tu (in_t1 (List.mem_of_getElem? (i := 18) rfl)) rfl
set_option maxRecDepth 100000 in
theorem tw_19 : (Cond.initialized "jdk/internal/util/Preconditions") ∈ uw := tu (in_t1 (List.mem_of_getElem? (i := 19) rfl)) rfl
set_option maxRecDepth 100000 in
theorem tw_20 : (Cond.initialized "java/lang/StringUTF16") ∈ uw := tu (in_t1 (List.mem_of_getElem? (i := 20) rfl)) rfl
set_option maxRecDepth 100000 in
theorem tw_21 : (Cond.classLink "CarryShiftsLaw" (7 : Nat) "CarryShifts") ∈ uw := tu (in_t1 (List.mem_of_getElem? (i := 21) rfl)) rfl
set_option maxRecDepth 100000 in
theorem tw_22 : (Cond.instantiable "CarryShifts" (9 : Nat)) ∈ uw := tu (in_t1 (List.mem_of_getElem? (i := 22) rfl)) rfl
set_option maxRecDepth 100000 in
theorem tw_23 : (Cond.methodLink "CarryShiftsLaw" (9 : Nat) ⟨"CarryShifts", "<init>", "()V"⟩) ∈ uw := tu (in_t1 (List.mem_of_getElem? (i := 23) rfl)) rfl
set_option maxRecDepth 100000 in
theorem tw_24 : (Cond.instanceMethod ⟨"CarryShifts", "<init>", "()V"⟩) ∈ uw := tu (in_t1 (List.mem_of_getElem? (i := 24) rfl)) rfl
set_option maxRecDepth 100000 in
theorem tw_25 : (Cond.code ⟨"CarryShifts", "<init>", "()V"⟩ prog_1_method_1_code (2 : Nat) (Option.none : Option FieldType)) ∈ uw := tu (in_t1 (List.mem_of_getElem? (i := 25) rfl)) rfl
set_option maxRecDepth 100000 in
theorem tw_26 : (Cond.methodLink "CarryShifts" (3 : Nat) ⟨"java/lang/Object", "<init>", "()V"⟩) ∈ uw := tu (in_t1 (List.mem_of_getElem? (i := 26) rfl)) rfl
set_option maxRecDepth 100000 in
theorem tw_27 : (Cond.instanceMethod ⟨"java/lang/Object", "<init>", "()V"⟩) ∈ uw := tu (in_t1 (List.mem_of_getElem? (i := 27) rfl)) rfl
set_option maxRecDepth 100000 in
theorem tw_28 : (Cond.code ⟨"java/lang/Object", "<init>", "()V"⟩ object_method_1_code (1 : Nat) (Option.none : Option FieldType)) ∈ uw := tu (in_t1 (List.mem_of_getElem? (i := 28) rfl)) rfl
set_option maxRecDepth 100000 in
theorem tw_29 : (Cond.classLink "CarryShifts" (11 : Nat) "CarryShifts$Carrying") ∈ uw := tu (in_t1 (List.mem_of_getElem? (i := 29) rfl)) rfl
set_option maxRecDepth 100000 in
theorem tw_30 : (Cond.arrayOver (FieldType.object "CarryShifts$Carrying")) ∈ lw_tbl := in_t1 (List.mem_of_getElem? (i := 30) rfl)
set_option maxRecDepth 100000 in
theorem tw_31 : (Cond.classLink "CarryShifts" (28 : Nat) "CarryShifts$Sheet") ∈ uw := tu (in_t1 (List.mem_of_getElem? (i := 31) rfl)) rfl
set_option maxRecDepth 100000 in
theorem tw_32 : (Cond.arrayOver (FieldType.object "CarryShifts$Sheet")) ∈ lw_tbl := in_t1 (List.mem_of_getElem? (i := 32) rfl)
set_option maxRecDepth 100000 in
theorem tw_33 : (Cond.classLink "CarryShifts" (34 : Nat) "CarryShifts$Script") ∈ uw := tu (in_t1 (List.mem_of_getElem? (i := 33) rfl)) rfl
set_option maxRecDepth 100000 in
theorem tw_34 : (Cond.instantiable "CarryShifts$Script" (9 : Nat)) ∈ uw := tu (in_t1 (List.mem_of_getElem? (i := 34) rfl)) rfl
set_option maxRecDepth 100000 in
theorem tw_35 : (Cond.methodLinkNest "CarryShifts" (36 : Nat) ⟨"CarryShifts$Script", "<init>", "()V"⟩ "CarryShifts") ∈ lw_tbl := in_t1 (List.mem_of_getElem? (i := 35) rfl)
set_option maxRecDepth 100000 in
theorem tw_36 : (Cond.instanceMethod ⟨"CarryShifts$Script", "<init>", "()V"⟩) ∈ uw := tu (in_t1 (List.mem_of_getElem? (i := 36) rfl)) rfl
set_option maxRecDepth 100000 in
theorem tw_37 : (Cond.code ⟨"CarryShifts$Script", "<init>", "()V"⟩ prog_9_method_1_code (1 : Nat) (Option.none : Option FieldType)) ∈ uw := tu (in_t1 (List.mem_of_getElem? (i := 37) rfl)) rfl
set_option maxRecDepth 100000 in
theorem tw_38 : (Cond.methodLink "CarryShifts$Script" (3 : Nat) ⟨"java/lang/Object", "<init>", "()V"⟩) ∈ uw := tu (in_t1 (List.mem_of_getElem? (i := 38) rfl)) rfl
set_option maxRecDepth 100000 in
theorem tw_39 : (Cond.fieldLink "CarryShifts$Script" (11 : Nat) "CarryShifts$Script" "bytes" "[I") ∈ uw := tu (in_t1 (List.mem_of_getElem? (i := 39) rfl)) rfl
set_option maxRecDepth 100000 in
theorem tw_40 : (Cond.fieldLink "CarryShifts$Script" (15 : Nat) "CarryShifts$Script" "size" "I") ∈ uw := tu (in_t1 (List.mem_of_getElem? (i := 40) rfl)) rfl
set_option maxRecDepth 100000 in
theorem tw_41 : (Cond.fieldLink "CarryShifts" (242 : Nat) "CarryShifts$Script" "size" "I") ∈ uw := tu (in_t1 (List.mem_of_getElem? (i := 41) rfl)) rfl
set_option maxRecDepth 100000 in
theorem tw_42 : (Cond.fieldLink "CarryShifts$Script" (19 : Nat) "CarryShifts$Script" "clauses" "I") ∈ uw := tu (in_t1 (List.mem_of_getElem? (i := 42) rfl)) rfl
set_option maxRecDepth 100000 in
theorem tw_43 : (Cond.fieldLink "CarryShifts" (246 : Nat) "CarryShifts$Script" "clauses" "I") ∈ uw := tu (in_t1 (List.mem_of_getElem? (i := 43) rfl)) rfl
set_option maxRecDepth 100000 in
theorem tw_44 : (Cond.fieldLink "CarryShifts$Script" (22 : Nat) "CarryShifts$Script" "words" "[I") ∈ uw := tu (in_t1 (List.mem_of_getElem? (i := 44) rfl)) rfl
set_option maxRecDepth 100000 in
theorem tw_45 : (Cond.fieldLink "CarryShifts$Script" (25 : Nat) "CarryShifts$Script" "numbers" "[I") ∈ uw := tu (in_t1 (List.mem_of_getElem? (i := 45) rfl)) rfl
set_option maxRecDepth 100000 in
theorem tw_46 : (Cond.fieldLink "CarryShifts$Script" (28 : Nat) "CarryShifts$Script" "at" "I") ∈ uw := tu (in_t1 (List.mem_of_getElem? (i := 46) rfl)) rfl
set_option maxRecDepth 100000 in
theorem tw_47 : (Cond.fieldLink "CarryShifts$Script" (31 : Nat) "CarryShifts$Script" "token" "I") ∈ uw := tu (in_t1 (List.mem_of_getElem? (i := 47) rfl)) rfl
set_option maxRecDepth 100000 in
theorem tw_48 : (Cond.fieldLink "CarryShifts$Script" (34 : Nat) "CarryShifts$Script" "tokenStart" "I") ∈ uw := tu (in_t1 (List.mem_of_getElem? (i := 48) rfl)) rfl
set_option maxRecDepth 100000 in
theorem tw_49 : (Cond.fieldLink "CarryShifts$Script" (37 : Nat) "CarryShifts$Script" "tokenValue" "I") ∈ uw := tu (in_t1 (List.mem_of_getElem? (i := 49) rfl)) rfl
set_option maxRecDepth 100000 in
theorem tw_50 : (Cond.laysFinal "CarryShifts$Script" "CarryShifts$Script" "bytes" "[I") ∈ uw := tu (in_t1 (List.mem_of_getElem? (i := 50) rfl)) rfl
set_option maxRecDepth 100000 in
theorem tw_51 : (Cond.soleField "CarryShifts$Script" "bytes") ∈ uw := tu (in_t1 (List.mem_of_getElem? (i := 51) rfl)) rfl
set_option maxRecDepth 100000 in
theorem tw_52 : (Cond.lays "CarryShifts$Script" "CarryShifts$Script" "size" "I") ∈ uw := tu (in_t1 (List.mem_of_getElem? (i := 52) rfl)) rfl
set_option maxRecDepth 100000 in
theorem tw_53 : (Cond.soleField "CarryShifts$Script" "size") ∈ uw := tu (in_t1 (List.mem_of_getElem? (i := 53) rfl)) rfl
set_option maxRecDepth 100000 in
theorem tw_54 : (Cond.lays "CarryShifts$Script" "CarryShifts$Script" "clauses" "I") ∈ uw := tu (in_t1 (List.mem_of_getElem? (i := 54) rfl)) rfl
set_option maxRecDepth 100000 in
theorem tw_55 : (Cond.soleField "CarryShifts$Script" "clauses") ∈ uw := tu (in_t1 (List.mem_of_getElem? (i := 55) rfl)) rfl
set_option maxRecDepth 100000 in
theorem tw_56 : (Cond.laysFinal "CarryShifts$Script" "CarryShifts$Script" "words" "[I") ∈ uw := tu (in_t1 (List.mem_of_getElem? (i := 56) rfl)) rfl
set_option maxRecDepth 100000 in
theorem tw_57 : (Cond.soleField "CarryShifts$Script" "words") ∈ uw := tu (in_t1 (List.mem_of_getElem? (i := 57) rfl)) rfl
set_option maxRecDepth 100000 in
theorem tw_58 : (Cond.laysFinal "CarryShifts$Script" "CarryShifts$Script" "numbers" "[I") ∈ uw := tu (in_t1 (List.mem_of_getElem? (i := 58) rfl)) rfl
set_option maxRecDepth 100000 in
theorem tw_59 : (Cond.soleField "CarryShifts$Script" "numbers") ∈ uw := tu (in_t1 (List.mem_of_getElem? (i := 59) rfl)) rfl
set_option maxRecDepth 100000 in
theorem tw_60 : (Cond.lays "CarryShifts$Script" "CarryShifts$Script" "at" "I") ∈ uw := tu (in_t1 (List.mem_of_getElem? (i := 60) rfl)) rfl
set_option maxRecDepth 100000 in
theorem tw_61 : (Cond.soleField "CarryShifts$Script" "at") ∈ uw := tu (in_t1 (List.mem_of_getElem? (i := 61) rfl)) rfl
set_option maxRecDepth 100000 in
theorem tw_62 : (Cond.lays "CarryShifts$Script" "CarryShifts$Script" "token" "I") ∈ uw := tu (in_t1 (List.mem_of_getElem? (i := 62) rfl)) rfl
set_option maxRecDepth 100000 in
theorem tw_63 : (Cond.soleField "CarryShifts$Script" "token") ∈ uw := tu (in_t1 (List.mem_of_getElem? (i := 63) rfl)) rfl
set_option maxRecDepth 100000 in
theorem tw_64 : (Cond.lays "CarryShifts$Script" "CarryShifts$Script" "tokenStart" "I") ∈ uw := tu (in_t1 (List.mem_of_getElem? (i := 64) rfl)) rfl
set_option maxRecDepth 100000 in
theorem tw_65 : (Cond.soleField "CarryShifts$Script" "tokenStart") ∈ uw := tu (in_t1 (List.mem_of_getElem? (i := 65) rfl)) rfl
set_option maxRecDepth 100000 in
theorem tw_66 : (Cond.lays "CarryShifts$Script" "CarryShifts$Script" "tokenValue" "I") ∈ uw := tu (in_t1 (List.mem_of_getElem? (i := 66) rfl)) rfl
set_option maxRecDepth 100000 in
theorem tw_67 : (Cond.soleField "CarryShifts$Script" "tokenValue") ∈ uw := tu (in_t1 (List.mem_of_getElem? (i := 67) rfl)) rfl
set_option maxRecDepth 100000 in
theorem tw_68 : (Cond.superclass "CarryShifts$Script" "java/lang/Object") ∈ uw := tu (in_t1 (List.mem_of_getElem? (i := 68) rfl)) rfl
set_option maxRecDepth 100000 in
theorem tw_69 : (Cond.arrayClass FieldType.int) ∈ uw := tu (in_t1 (List.mem_of_getElem? (i := 69) rfl)) rfl
set_option maxRecDepth 100000 in
theorem tw_70 : (Cond.classLink "CarryShifts" (41 : Nat) "CarryShifts$Least") ∈ uw := tu (in_t1 (List.mem_of_getElem? (i := 70) rfl)) rfl
set_option maxRecDepth 100000 in
theorem tw_71 : (Cond.instantiable "CarryShifts$Least" (6 : Nat)) ∈ uw := tu (in_t1 (List.mem_of_getElem? (i := 71) rfl)) rfl
set_option maxRecDepth 100000 in
theorem tw_72 : (Cond.methodLinkNest "CarryShifts" (43 : Nat) ⟨"CarryShifts$Least", "<init>", "()V"⟩ "CarryShifts") ∈ lw_tbl := in_t1 (List.mem_of_getElem? (i := 72) rfl)
set_option maxRecDepth 100000 in
theorem tw_73 : (Cond.instanceMethod ⟨"CarryShifts$Least", "<init>", "()V"⟩) ∈ uw := tu (in_t1 (List.mem_of_getElem? (i := 73) rfl)) rfl
set_option maxRecDepth 100000 in
theorem tw_74 : (Cond.code ⟨"CarryShifts$Least", "<init>", "()V"⟩ prog_6_method_1_code (1 : Nat) (Option.none : Option FieldType)) ∈ uw := tu (in_t1 (List.mem_of_getElem? (i := 74) rfl)) rfl
set_option maxRecDepth 100000 in
theorem tw_75 : (Cond.methodLink "CarryShifts$Least" (1 : Nat) ⟨"java/lang/Object", "<init>", "()V"⟩) ∈ uw := tu (in_t1 (List.mem_of_getElem? (i := 75) rfl)) rfl
set_option maxRecDepth 100000 in
theorem tw_76 : (Cond.constantLong "CarryShifts$Least" (7 : Nat) (-1 : Int64)) ∈ uw := tu (in_t1 (List.mem_of_getElem? (i := 76) rfl)) rfl
set_option maxRecDepth 100000 in
theorem tw_77 : (Cond.fieldLink "CarryShifts$Least" (9 : Nat) "CarryShifts$Least" "above" "J") ∈ uw := tu (in_t1 (List.mem_of_getElem? (i := 77) rfl)) rfl
set_option maxRecDepth 100000 in
theorem tw_78 : (Cond.fieldLink "CarryShifts" (167 : Nat) "CarryShifts$Least" "above" "J") ∈ uw := tu (in_t1 (List.mem_of_getElem? (i := 78) rfl)) rfl
set_option maxRecDepth 100000 in
theorem tw_79 : (Cond.fieldLink "CarryShifts$Least" (15 : Nat) "CarryShifts$Least" "below" "J") ∈ uw := tu (in_t1 (List.mem_of_getElem? (i := 79) rfl)) rfl
set_option maxRecDepth 100000 in
theorem tw_80 : (Cond.fieldLink "CarryShifts" (171 : Nat) "CarryShifts$Least" "below" "J") ∈ uw := tu (in_t1 (List.mem_of_getElem? (i := 80) rfl)) rfl
set_option maxRecDepth 100000 in
theorem tw_81 : (Cond.fieldLink "CarryShifts$Least" (22 : Nat) "CarryShifts$Least" "shortAbove" "J") ∈ uw := tu (in_t1 (List.mem_of_getElem? (i := 81) rfl)) rfl
set_option maxRecDepth 100000 in
theorem tw_82 : (Cond.fieldLink "CarryShifts$Least" (25 : Nat) "CarryShifts$Least" "shortBelow" "J") ∈ uw := tu (in_t1 (List.mem_of_getElem? (i := 82) rfl)) rfl
set_option maxRecDepth 100000 in
theorem tw_83 : (Cond.fieldLink "CarryShifts$Least" (35 : Nat) "CarryShifts$Least" "longAbove" "J") ∈ uw := tu (in_t1 (List.mem_of_getElem? (i := 83) rfl)) rfl
set_option maxRecDepth 100000 in
theorem tw_84 : (Cond.fieldLink "CarryShifts$Least" (38 : Nat) "CarryShifts$Least" "longBelow" "J") ∈ uw := tu (in_t1 (List.mem_of_getElem? (i := 84) rfl)) rfl
set_option maxRecDepth 100000 in
theorem tw_85 : (Cond.lays "CarryShifts$Least" "CarryShifts$Least" "above" "J") ∈ uw := tu (in_t1 (List.mem_of_getElem? (i := 85) rfl)) rfl
set_option maxRecDepth 100000 in
theorem tw_86 : (Cond.soleField "CarryShifts$Least" "above") ∈ uw := tu (in_t1 (List.mem_of_getElem? (i := 86) rfl)) rfl
set_option maxRecDepth 100000 in
theorem tw_87 : (Cond.lays "CarryShifts$Least" "CarryShifts$Least" "below" "J") ∈ uw := tu (in_t1 (List.mem_of_getElem? (i := 87) rfl)) rfl
set_option maxRecDepth 100000 in
theorem tw_88 : (Cond.soleField "CarryShifts$Least" "below") ∈ uw := tu (in_t1 (List.mem_of_getElem? (i := 88) rfl)) rfl
set_option maxRecDepth 100000 in
theorem tw_89 : (Cond.lays "CarryShifts$Least" "CarryShifts$Least" "shortAbove" "J") ∈ uw := tu (in_t1 (List.mem_of_getElem? (i := 89) rfl)) rfl
set_option maxRecDepth 100000 in
theorem tw_90 : (Cond.soleField "CarryShifts$Least" "shortAbove") ∈ uw := tu (in_t1 (List.mem_of_getElem? (i := 90) rfl)) rfl
set_option maxRecDepth 100000 in
theorem tw_91 : (Cond.lays "CarryShifts$Least" "CarryShifts$Least" "shortBelow" "J") ∈ uw := tu (in_t1 (List.mem_of_getElem? (i := 91) rfl)) rfl
set_option maxRecDepth 100000 in
theorem tw_92 : (Cond.soleField "CarryShifts$Least" "shortBelow") ∈ uw := tu (in_t1 (List.mem_of_getElem? (i := 92) rfl)) rfl
set_option maxRecDepth 100000 in
theorem tw_93 : (Cond.lays "CarryShifts$Least" "CarryShifts$Least" "longAbove" "J") ∈ uw := tu (in_t1 (List.mem_of_getElem? (i := 93) rfl)) rfl
set_option maxRecDepth 100000 in
theorem tw_94 : (Cond.soleField "CarryShifts$Least" "longAbove") ∈ uw := tu (in_t1 (List.mem_of_getElem? (i := 94) rfl)) rfl
set_option maxRecDepth 100000 in
theorem tw_95 : (Cond.lays "CarryShifts$Least" "CarryShifts$Least" "longBelow" "J") ∈ uw := tu (in_t1 (List.mem_of_getElem? (i := 95) rfl)) rfl
set_option maxRecDepth 100000 in
theorem tw_96 : (Cond.soleField "CarryShifts$Least" "longBelow") ∈ uw := tu (in_t1 (List.mem_of_getElem? (i := 96) rfl)) rfl
set_option maxRecDepth 100000 in
theorem tw_97 : (Cond.superclass "CarryShifts$Least" "java/lang/Object") ∈ uw := tu (in_t1 (List.mem_of_getElem? (i := 97) rfl)) rfl
set_option maxRecDepth 100000 in
theorem tw_98 : (Cond.classLink "CarryShifts" (48 : Nat) "CarryShifts$Law") ∈ uw := tu (in_t1 (List.mem_of_getElem? (i := 98) rfl)) rfl
set_option maxRecDepth 100000 in
theorem tw_99 : (Cond.instantiable "CarryShifts$Law" (2 : Nat)) ∈ uw := tu (in_t1 (List.mem_of_getElem? (i := 99) rfl)) rfl
set_option maxRecDepth 100000 in
theorem tw_100 : (Cond.methodLinkNest "CarryShifts" (50 : Nat) ⟨"CarryShifts$Law", "<init>", "()V"⟩ "CarryShifts") ∈ lw_tbl := in_t1 (List.mem_of_getElem? (i := 100) rfl)
set_option maxRecDepth 100000 in
theorem tw_101 : (Cond.instanceMethod ⟨"CarryShifts$Law", "<init>", "()V"⟩) ∈ uw := tu (in_t1 (List.mem_of_getElem? (i := 101) rfl)) rfl
set_option maxRecDepth 100000 in
theorem tw_102 : (Cond.code ⟨"CarryShifts$Law", "<init>", "()V"⟩ prog_5_method_1_code (1 : Nat) (Option.none : Option FieldType)) ∈ uw := tu (in_t1 (List.mem_of_getElem? (i := 102) rfl)) rfl
set_option maxRecDepth 100000 in
theorem tw_103 : (Cond.methodLink "CarryShifts$Law" (1 : Nat) ⟨"java/lang/Object", "<init>", "()V"⟩) ∈ uw := tu (in_t1 (List.mem_of_getElem? (i := 103) rfl)) rfl
set_option maxRecDepth 100000 in
theorem tw_104 : (Cond.fieldLink "CarryShifts$Law" (7 : Nat) "CarryShifts$Law" "cells" "I") ∈ uw := tu (in_t1 (List.mem_of_getElem? (i := 104) rfl)) rfl
set_option maxRecDepth 100000 in
theorem tw_105 : (Cond.fieldLink "CarryShifts" (203 : Nat) "CarryShifts$Law" "cells" "I") ∈ uw := tu (in_t1 (List.mem_of_getElem? (i := 105) rfl)) rfl
set_option maxRecDepth 100000 in
theorem tw_106 : (Cond.fieldLink "CarryShifts$Law" (13 : Nat) "CarryShifts$Law" "taps" "J") ∈ uw := tu (in_t1 (List.mem_of_getElem? (i := 106) rfl)) rfl
set_option maxRecDepth 100000 in
theorem tw_107 : (Cond.fieldLink "CarryShifts" (345 : Nat) "CarryShifts$Law" "taps" "J") ∈ uw := tu (in_t1 (List.mem_of_getElem? (i := 107) rfl)) rfl
set_option maxRecDepth 100000 in
theorem tw_108 : (Cond.lays "CarryShifts$Law" "CarryShifts$Law" "cells" "I") ∈ uw := tu (in_t1 (List.mem_of_getElem? (i := 108) rfl)) rfl
set_option maxRecDepth 100000 in
theorem tw_109 : (Cond.soleField "CarryShifts$Law" "cells") ∈ uw := tu (in_t1 (List.mem_of_getElem? (i := 109) rfl)) rfl
set_option maxRecDepth 100000 in
theorem tw_110 : (Cond.lays "CarryShifts$Law" "CarryShifts$Law" "taps" "J") ∈ uw := tu (in_t1 (List.mem_of_getElem? (i := 110) rfl)) rfl
set_option maxRecDepth 100000 in
theorem tw_111 : (Cond.soleField "CarryShifts$Law" "taps") ∈ uw := tu (in_t1 (List.mem_of_getElem? (i := 111) rfl)) rfl
set_option maxRecDepth 100000 in
theorem tw_112 : (Cond.superclass "CarryShifts$Law" "java/lang/Object") ∈ uw := tu (in_t1 (List.mem_of_getElem? (i := 112) rfl)) rfl
set_option maxRecDepth 100000 in
theorem tw_113 : (Cond.instantiable "CarryShifts$Sheet" (3 : Nat)) ∈ uw := tu (in_t1 (List.mem_of_getElem? (i := 113) rfl)) rfl
set_option maxRecDepth 100000 in
theorem tw_114 : (Cond.methodLinkNest "CarryShifts" (59 : Nat) ⟨"CarryShifts$Sheet", "<init>", "()V"⟩ "CarryShifts") ∈ lw_tbl := in_t1 (List.mem_of_getElem? (i := 114) rfl)
set_option maxRecDepth 100000 in
theorem tw_115 : (Cond.instanceMethod ⟨"CarryShifts$Sheet", "<init>", "()V"⟩) ∈ uw := tu (in_t1 (List.mem_of_getElem? (i := 115) rfl)) rfl
set_option maxRecDepth 100000 in
theorem tw_116 : (Cond.code ⟨"CarryShifts$Sheet", "<init>", "()V"⟩ prog_10_method_1_code (1 : Nat) (Option.none : Option FieldType)) ∈ uw := tu (in_t1 (List.mem_of_getElem? (i := 116) rfl)) rfl
set_option maxRecDepth 100000 in
theorem tw_117 : (Cond.methodLink "CarryShifts$Sheet" (3 : Nat) ⟨"java/lang/Object", "<init>", "()V"⟩) ∈ uw := tu (in_t1 (List.mem_of_getElem? (i := 117) rfl)) rfl
set_option maxRecDepth 100000 in
theorem tw_118 : (Cond.fieldLink "CarryShifts$Sheet" (9 : Nat) "CarryShifts$Sheet" "items" "[I") ∈ uw := tu (in_t1 (List.mem_of_getElem? (i := 118) rfl)) rfl
set_option maxRecDepth 100000 in
theorem tw_119 : (Cond.fieldLink "CarryShifts" (271 : Nat) "CarryShifts$Sheet" "items" "[I") ∈ uw := tu (in_t1 (List.mem_of_getElem? (i := 119) rfl)) rfl
set_option maxRecDepth 100000 in
theorem tw_120 : (Cond.fieldLink "CarryShifts$Sheet" (15 : Nat) "CarryShifts$Sheet" "sort" "I") ∈ uw := tu (in_t1 (List.mem_of_getElem? (i := 120) rfl)) rfl
set_option maxRecDepth 100000 in
theorem tw_121 : (Cond.fieldLink "CarryShifts" (262 : Nat) "CarryShifts$Sheet" "sort" "I") ∈ uw := tu (in_t1 (List.mem_of_getElem? (i := 121) rfl)) rfl
set_option maxRecDepth 100000 in
theorem tw_122 : (Cond.fieldLink "CarryShifts$Sheet" (19 : Nat) "CarryShifts$Sheet" "size" "I") ∈ uw := tu (in_t1 (List.mem_of_getElem? (i := 122) rfl)) rfl
set_option maxRecDepth 100000 in
theorem tw_123 : (Cond.fieldLink "CarryShifts" (161 : Nat) "CarryShifts$Sheet" "size" "I") ∈ uw := tu (in_t1 (List.mem_of_getElem? (i := 123) rfl)) rfl
set_option maxRecDepth 100000 in
theorem tw_124 : (Cond.laysFinal "CarryShifts$Sheet" "CarryShifts$Sheet" "items" "[I") ∈ uw := tu (in_t1 (List.mem_of_getElem? (i := 124) rfl)) rfl
set_option maxRecDepth 100000 in
theorem tw_125 : (Cond.soleField "CarryShifts$Sheet" "items") ∈ uw := tu (in_t1 (List.mem_of_getElem? (i := 125) rfl)) rfl
set_option maxRecDepth 100000 in
theorem tw_126 : (Cond.lays "CarryShifts$Sheet" "CarryShifts$Sheet" "sort" "I") ∈ uw := tu (in_t1 (List.mem_of_getElem? (i := 126) rfl)) rfl
set_option maxRecDepth 100000 in
theorem tw_127 : (Cond.soleField "CarryShifts$Sheet" "sort") ∈ uw := tu (in_t1 (List.mem_of_getElem? (i := 127) rfl)) rfl
set_option maxRecDepth 100000 in
theorem tw_128 : (Cond.lays "CarryShifts$Sheet" "CarryShifts$Sheet" "size" "I") ∈ uw := tu (in_t1 (List.mem_of_getElem? (i := 128) rfl)) rfl
set_option maxRecDepth 100000 in
theorem tw_129 : (Cond.soleField "CarryShifts$Sheet" "size") ∈ uw := tu (in_t1 (List.mem_of_getElem? (i := 129) rfl)) rfl
set_option maxRecDepth 100000 in
theorem tw_130 : (Cond.superclass "CarryShifts$Sheet" "java/lang/Object") ∈ uw := tu (in_t1 (List.mem_of_getElem? (i := 130) rfl)) rfl
set_option maxRecDepth 100000 in
theorem tw_131 : (Cond.arrayClass FieldType.long) ∈ uw := tu (in_t1 (List.mem_of_getElem? (i := 131) rfl)) rfl
set_option maxRecDepth 100000 in
theorem tw_132 : (Cond.fieldLink "CarryShifts" (13 : Nat) "CarryShifts" "machines" "[LCarryShifts$Carrying;") ∈ uw := tu (in_t1 (List.mem_of_getElem? (i := 132) rfl)) rfl
set_option maxRecDepth 100000 in
theorem tw_133 : (Cond.fieldLink "CarryShifts" (17 : Nat) "CarryShifts" "machineCount" "I") ∈ uw := tu (in_t1 (List.mem_of_getElem? (i := 133) rfl)) rfl
set_option maxRecDepth 100000 in
theorem tw_134 : (Cond.fieldLink "CarryShifts" (21 : Nat) "CarryShifts" "imaged" "[I") ∈ uw := tu (in_t1 (List.mem_of_getElem? (i := 134) rfl)) rfl
set_option maxRecDepth 100000 in
theorem tw_135 : (Cond.fieldLink "CarryShifts" (25 : Nat) "CarryShifts" "imagedCount" "I") ∈ uw := tu (in_t1 (List.mem_of_getElem? (i := 135) rfl)) rfl
set_option maxRecDepth 100000 in
theorem tw_136 : (Cond.fieldLink "CarryShifts" (30 : Nat) "CarryShifts" "sheets" "[LCarryShifts$Sheet;") ∈ uw := tu (in_t1 (List.mem_of_getElem? (i := 136) rfl)) rfl
set_option maxRecDepth 100000 in
theorem tw_137 : (Cond.fieldLink "CarryShifts" (37 : Nat) "CarryShifts" "tape" "LCarryShifts$Script;") ∈ uw := tu (in_t1 (List.mem_of_getElem? (i := 137) rfl)) rfl
set_option maxRecDepth 100000 in
theorem tw_138 : (Cond.fieldLink "CarryShifts" (44 : Nat) "CarryShifts" "least" "LCarryShifts$Least;") ∈ uw := tu (in_t1 (List.mem_of_getElem? (i := 138) rfl)) rfl
set_option maxRecDepth 100000 in
theorem tw_139 : (Cond.fieldLink "CarryShifts" (51 : Nat) "CarryShifts" "law" "LCarryShifts$Law;") ∈ uw := tu (in_t1 (List.mem_of_getElem? (i := 139) rfl)) rfl
set_option maxRecDepth 100000 in
theorem tw_140 : (Cond.fieldLink "CarryShifts" (55 : Nat) "CarryShifts" "tellings" "[J") ∈ uw := tu (in_t1 (List.mem_of_getElem? (i := 140) rfl)) rfl
set_option maxRecDepth 100000 in
theorem tw_141 : (Cond.laysFinal "CarryShifts" "CarryShifts" "machines" "[LCarryShifts$Carrying;") ∈ uw := tu (in_t1 (List.mem_of_getElem? (i := 141) rfl)) rfl
set_option maxRecDepth 100000 in
theorem tw_142 : (Cond.soleField "CarryShifts" "machines") ∈ uw := tu (in_t1 (List.mem_of_getElem? (i := 142) rfl)) rfl
set_option maxRecDepth 100000 in
theorem tw_143 : (Cond.lays "CarryShifts" "CarryShifts" "machineCount" "I") ∈ uw := tu (in_t1 (List.mem_of_getElem? (i := 143) rfl)) rfl
set_option maxRecDepth 100000 in
theorem tw_144 : (Cond.soleField "CarryShifts" "machineCount") ∈ uw := tu (in_t1 (List.mem_of_getElem? (i := 144) rfl)) rfl
set_option maxRecDepth 100000 in
theorem tw_145 : (Cond.laysFinal "CarryShifts" "CarryShifts" "imaged" "[I") ∈ uw := tu (in_t1 (List.mem_of_getElem? (i := 145) rfl)) rfl
set_option maxRecDepth 100000 in
theorem tw_146 : (Cond.soleField "CarryShifts" "imaged") ∈ uw := tu (in_t1 (List.mem_of_getElem? (i := 146) rfl)) rfl
set_option maxRecDepth 100000 in
theorem tw_147 : (Cond.lays "CarryShifts" "CarryShifts" "imagedCount" "I") ∈ uw := tu (in_t1 (List.mem_of_getElem? (i := 147) rfl)) rfl
set_option maxRecDepth 100000 in
theorem tw_148 : (Cond.soleField "CarryShifts" "imagedCount") ∈ uw := tu (in_t1 (List.mem_of_getElem? (i := 148) rfl)) rfl
set_option maxRecDepth 100000 in
theorem tw_149 : (Cond.laysFinal "CarryShifts" "CarryShifts" "sheets" "[LCarryShifts$Sheet;") ∈ uw := tu (in_t1 (List.mem_of_getElem? (i := 149) rfl)) rfl
set_option maxRecDepth 100000 in
theorem tw_150 : (Cond.soleField "CarryShifts" "sheets") ∈ uw := tu (in_t1 (List.mem_of_getElem? (i := 150) rfl)) rfl
set_option maxRecDepth 100000 in
theorem tw_151 : (Cond.laysFinal "CarryShifts" "CarryShifts" "tape" "LCarryShifts$Script;") ∈ uw := tu (in_t1 (List.mem_of_getElem? (i := 151) rfl)) rfl
set_option maxRecDepth 100000 in
theorem tw_152 : (Cond.soleField "CarryShifts" "tape") ∈ uw := tu (in_t1 (List.mem_of_getElem? (i := 152) rfl)) rfl
set_option maxRecDepth 100000 in
theorem tw_153 : (Cond.laysFinal "CarryShifts" "CarryShifts" "least" "LCarryShifts$Least;") ∈ uw := tu (in_t1 (List.mem_of_getElem? (i := 153) rfl)) rfl
set_option maxRecDepth 100000 in
theorem tw_154 : (Cond.soleField "CarryShifts" "least") ∈ uw := tu (in_t1 (List.mem_of_getElem? (i := 154) rfl)) rfl
set_option maxRecDepth 100000 in
theorem tw_155 : (Cond.laysFinal "CarryShifts" "CarryShifts" "law" "LCarryShifts$Law;") ∈ uw := tu (in_t1 (List.mem_of_getElem? (i := 155) rfl)) rfl
set_option maxRecDepth 100000 in
theorem tw_156 : (Cond.soleField "CarryShifts" "law") ∈ uw := tu (in_t1 (List.mem_of_getElem? (i := 156) rfl)) rfl
set_option maxRecDepth 100000 in
theorem tw_157 : (Cond.laysFinal "CarryShifts" "CarryShifts" "tellings" "[J") ∈ uw := tu (in_t1 (List.mem_of_getElem? (i := 157) rfl)) rfl
set_option maxRecDepth 100000 in
theorem tw_158 : (Cond.soleField "CarryShifts" "tellings") ∈ uw := tu (in_t1 (List.mem_of_getElem? (i := 158) rfl)) rfl
set_option maxRecDepth 100000 in
theorem tw_159 : (Cond.superclass "CarryShifts" "java/lang/Object") ∈ uw := tu (in_t1 (List.mem_of_getElem? (i := 159) rfl)) rfl
set_option maxRecDepth 100000 in
theorem tw_160 : (Cond.methodLink "CarryShiftsLaw" (13 : Nat) ⟨"CarryShifts", "machine", "(IIII)I"⟩) ∈ uw := tu (in_t1 (List.mem_of_getElem? (i := 160) rfl)) rfl
set_option maxRecDepth 100000 in
theorem tw_161 : (Cond.instanceMethod ⟨"CarryShifts", "machine", "(IIII)I"⟩) ∈ uw := tu (in_t1 (List.mem_of_getElem? (i := 161) rfl)) rfl
set_option maxRecDepth 100000 in
theorem tw_162 : (Cond.selects "CarryShifts" ⟨"CarryShifts", "machine", "(IIII)I"⟩ ⟨"CarryShifts", "machine", "(IIII)I"⟩) ∈ uw := tu (in_t1 (List.mem_of_getElem? (i := 162) rfl)) rfl
set_option maxRecDepth 100000 in
theorem tw_163 : (Cond.code ⟨"CarryShifts", "machine", "(IIII)I"⟩ prog_1_method_2_code (5 : Nat) (Option.some FieldType.int)) ∈ uw := tu (in_t1 (List.mem_of_getElem? (i := 163) rfl)) rfl
set_option maxRecDepth 100000 in
theorem tw_164 : (Cond.methodLink "CarryShifts" (60 : Nat) ⟨"CarryShifts", "between", "(III)Z"⟩) ∈ uw := tu (in_t1 (List.mem_of_getElem? (i := 164) rfl)) rfl
set_option maxRecDepth 100000 in
theorem tw_165 : (Cond.static ⟨"CarryShifts", "between", "(III)Z"⟩) ∈ uw := tu (in_t1 (List.mem_of_getElem? (i := 165) rfl)) rfl
set_option maxRecDepth 100000 in
theorem tw_166 : (Cond.code ⟨"CarryShifts", "between", "(III)Z"⟩ prog_1_method_37_code (3 : Nat) (Option.some FieldType.boolean)) ∈ uw := tu (in_t1 (List.mem_of_getElem? (i := 166) rfl)) rfl
set_option maxRecDepth 100000 in
theorem tw_167 : (Cond.methodLink "CarryShifts" (64 : Nat) ⟨"CarryShifts", "allCells", "(I)I"⟩) ∈ uw := tu (in_t1 (List.mem_of_getElem? (i := 167) rfl)) rfl
set_option maxRecDepth 100000 in
theorem tw_168 : (Cond.static ⟨"CarryShifts", "allCells", "(I)I"⟩) ∈ uw := tu (in_t1 (List.mem_of_getElem? (i := 168) rfl)) rfl
set_option maxRecDepth 100000 in
theorem tw_169 : (Cond.code ⟨"CarryShifts", "allCells", "(I)I"⟩ prog_1_method_38_code (1 : Nat) (Option.some FieldType.int)) ∈ uw := tu (in_t1 (List.mem_of_getElem? (i := 169) rfl)) rfl
set_option maxRecDepth 100000 in
theorem tw_170 : (Cond.methodLink "CarryShifts" (68 : Nat) ⟨"CarryShifts", "made", "(IIIII)LCarryShifts$Carrying;"⟩) ∈ uw := tu (in_t1 (List.mem_of_getElem? (i := 170) rfl)) rfl
set_option maxRecDepth 100000 in
theorem tw_171 : (Cond.static ⟨"CarryShifts", "made", "(IIIII)LCarryShifts$Carrying;"⟩) ∈ uw := tu (in_t1 (List.mem_of_getElem? (i := 171) rfl)) rfl
set_option maxRecDepth 100000 in
theorem tw_172 : (Cond.code ⟨"CarryShifts", "made", "(IIIII)LCarryShifts$Carrying;"⟩ prog_1_method_39_code (6 : Nat) (Option.some (FieldType.object "CarryShifts$Carrying"))) ∈ uw := tu (in_t1 (List.mem_of_getElem? (i := 172) rfl)) rfl
set_option maxRecDepth 100000 in
theorem tw_173 : (Cond.classLink "CarryShifts" (294 : Nat) "CarryShifts$Linear") ∈ uw := tu (in_t1 (List.mem_of_getElem? (i := 173) rfl)) rfl
set_option maxRecDepth 100000 in
theorem tw_174 : (Cond.instantiable "CarryShifts$Linear" (6 : Nat)) ∈ uw := tu (in_t1 (List.mem_of_getElem? (i := 174) rfl)) rfl
set_option maxRecDepth 100000 in
theorem tw_175 : (Cond.methodLink "CarryShifts" (296 : Nat) ⟨"CarryShifts$Linear", "<init>", "(III)V"⟩) ∈ uw := tu (in_t1 (List.mem_of_getElem? (i := 175) rfl)) rfl
set_option maxRecDepth 100000 in
theorem tw_176 : (Cond.instanceMethod ⟨"CarryShifts$Linear", "<init>", "(III)V"⟩) ∈ uw := tu (in_t1 (List.mem_of_getElem? (i := 176) rfl)) rfl
set_option maxRecDepth 100000 in
theorem tw_177 : (Cond.code ⟨"CarryShifts$Linear", "<init>", "(III)V"⟩ prog_7_method_1_code (4 : Nat) (Option.none : Option FieldType)) ∈ uw := tu (in_t1 (List.mem_of_getElem? (i := 177) rfl)) rfl
set_option maxRecDepth 100000 in
theorem tw_178 : (Cond.methodLink "CarryShifts$Linear" (1 : Nat) ⟨"CarryShifts$Carrying", "<init>", "(III)V"⟩) ∈ uw := tu (in_t1 (List.mem_of_getElem? (i := 178) rfl)) rfl
set_option maxRecDepth 100000 in
theorem tw_179 : (Cond.instanceMethod ⟨"CarryShifts$Carrying", "<init>", "(III)V"⟩) ∈ uw := tu (in_t1 (List.mem_of_getElem? (i := 179) rfl)) rfl
set_option maxRecDepth 100000 in
theorem tw_180 : (Cond.code ⟨"CarryShifts$Carrying", "<init>", "(III)V"⟩ prog_3_method_1_code (4 : Nat) (Option.none : Option FieldType)) ∈ uw := tu (in_t1 (List.mem_of_getElem? (i := 180) rfl)) rfl
set_option maxRecDepth 100000 in
theorem tw_181 : (Cond.methodLink "CarryShifts$Carrying" (1 : Nat) ⟨"java/lang/Object", "<init>", "()V"⟩) ∈ uw := tu (in_t1 (List.mem_of_getElem? (i := 181) rfl)) rfl
set_option maxRecDepth 100000 in
theorem tw_182 : (Cond.methodLink "CarryShifts$Carrying" (28 : Nat) ⟨"CarryShifts$Carrying", "leave", "(I)V"⟩) ∈ uw := tu (in_t1 (List.mem_of_getElem? (i := 182) rfl)) rfl
set_option maxRecDepth 100000 in
theorem tw_183 : (Cond.instanceMethod ⟨"CarryShifts$Carrying", "leave", "(I)V"⟩) ∈ uw := tu (in_t1 (List.mem_of_getElem? (i := 183) rfl)) rfl
set_option maxRecDepth 100000 in
theorem tw_184 : (Cond.selects "CarryShifts$Carrying" ⟨"CarryShifts$Carrying", "leave", "(I)V"⟩ ⟨"CarryShifts$Carrying", "leave", "(I)V"⟩) ∈ uw := tu (in_t1 (List.mem_of_getElem? (i := 184) rfl)) rfl
set_option maxRecDepth 100000 in
theorem tw_185 : (Cond.sameMethod "CarryShifts$Carrying" "CarryShifts$Carrying" "leave" "(I)V") ∈ uw := tu (in_t1 (List.mem_of_getElem? (i := 185) rfl)) rfl
set_option maxRecDepth 100000 in
theorem tw_186 : (Cond.selects "CarryShifts$Borrowing" ⟨"CarryShifts$Carrying", "leave", "(I)V"⟩ ⟨"CarryShifts$Carrying", "leave", "(I)V"⟩) ∈ uw := tu (in_t1 (List.mem_of_getElem? (i := 186) rfl)) rfl
set_option maxRecDepth 100000 in
theorem tw_187 : (Cond.selects "CarryShifts$Held" ⟨"CarryShifts$Carrying", "leave", "(I)V"⟩ ⟨"CarryShifts$Carrying", "leave", "(I)V"⟩) ∈ uw := tu (in_t1 (List.mem_of_getElem? (i := 187) rfl)) rfl
set_option maxRecDepth 100000 in
theorem tw_188 : (Cond.selects "CarryShifts$Linear" ⟨"CarryShifts$Carrying", "leave", "(I)V"⟩ ⟨"CarryShifts$Carrying", "leave", "(I)V"⟩) ∈ uw := tu (in_t1 (List.mem_of_getElem? (i := 188) rfl)) rfl
set_option maxRecDepth 100000 in
theorem tw_189 : (Cond.selects "CarryShifts$Ring" ⟨"CarryShifts$Carrying", "leave", "(I)V"⟩ ⟨"CarryShifts$Carrying", "leave", "(I)V"⟩) ∈ uw := tu (in_t1 (List.mem_of_getElem? (i := 189) rfl)) rfl
set_option maxRecDepth 100000 in
theorem tw_190 : (Cond.selects "CarryShifts$Turned" ⟨"CarryShifts$Carrying", "leave", "(I)V"⟩ ⟨"CarryShifts$Carrying", "leave", "(I)V"⟩) ∈ uw := tu (in_t1 (List.mem_of_getElem? (i := 190) rfl)) rfl
set_option maxRecDepth 100000 in
theorem tw_191 : (Cond.code ⟨"CarryShifts$Carrying", "leave", "(I)V"⟩ prog_3_method_2_code (2 : Nat) (Option.none : Option FieldType)) ∈ uw := tu (in_t1 (List.mem_of_getElem? (i := 191) rfl)) rfl
set_option maxRecDepth 100000 in
theorem tw_192 : (Cond.methodLink "CarryShifts$Linear" (7 : Nat) ⟨"CarryShifts$Linear", "leave", "(I)V"⟩) ∈ uw := tu (in_t1 (List.mem_of_getElem? (i := 192) rfl)) rfl
set_option maxRecDepth 100000 in
theorem tw_193 : (Cond.sameMethod "CarryShifts$Linear" "CarryShifts$Carrying" "leave" "(I)V") ∈ uw := tu (in_t1 (List.mem_of_getElem? (i := 193) rfl)) rfl
set_option maxRecDepth 100000 in
theorem tw_194 : (Cond.declares ⟨"CarryShifts$Carrying", "leave", "(I)V"⟩) ∈ lw_tbl := in_t1 (List.mem_of_getElem? (i := 194) rfl)
set_option maxRecDepth 100000 in
theorem tw_195 : (Cond.selects "CarryShifts$Linear" ⟨"CarryShifts$Linear", "leave", "(I)V"⟩ ⟨"CarryShifts$Carrying", "leave", "(I)V"⟩) ∈ uw := tu (in_t1 (List.mem_of_getElem? (i := 195) rfl)) rfl
set_option maxRecDepth 100000 in
theorem tw_196 : (Cond.selects "CarryShifts$Turned" ⟨"CarryShifts$Linear", "leave", "(I)V"⟩ ⟨"CarryShifts$Carrying", "leave", "(I)V"⟩) ∈ uw := tu (in_t1 (List.mem_of_getElem? (i := 196) rfl)) rfl
set_option maxRecDepth 100000 in
theorem tw_197 : (Cond.fieldLink "CarryShifts$Carrying" (19 : Nat) "CarryShifts$Carrying" "kind" "I") ∈ uw := tu (in_t1 (List.mem_of_getElem? (i := 197) rfl)) rfl
set_option maxRecDepth 100000 in
theorem tw_198 : (Cond.fieldLink "CarryShifts" (93 : Nat) "CarryShifts$Carrying" "kind" "I") ∈ uw := tu (in_t1 (List.mem_of_getElem? (i := 198) rfl)) rfl
set_option maxRecDepth 100000 in
theorem tw_199 : (Cond.fieldLink "CarryShifts$Carrying" (22 : Nat) "CarryShifts$Carrying" "cells" "I") ∈ uw := tu (in_t1 (List.mem_of_getElem? (i := 199) rfl)) rfl
set_option maxRecDepth 100000 in
theorem tw_200 : (Cond.fieldLink "CarryShifts$Ring" (22 : Nat) "CarryShifts$Ring" "cells" "I") ∈ uw := tu (in_t1 (List.mem_of_getElem? (i := 200) rfl)) rfl
set_option maxRecDepth 100000 in
theorem tw_201 : (Cond.sameField "CarryShifts$Ring" "CarryShifts$Carrying" "cells" "I") ∈ uw := tu (in_t1 (List.mem_of_getElem? (i := 201) rfl)) rfl
set_option maxRecDepth 100000 in
theorem tw_202 : (Cond.fieldLink "CarryShifts" (96 : Nat) "CarryShifts$Carrying" "cells" "I") ∈ uw := tu (in_t1 (List.mem_of_getElem? (i := 202) rfl)) rfl
set_option maxRecDepth 100000 in
theorem tw_203 : (Cond.fieldLink "CarryShifts$Carrying" (25 : Nat) "CarryShifts$Carrying" "taps" "I") ∈ uw := tu (in_t1 (List.mem_of_getElem? (i := 203) rfl)) rfl
set_option maxRecDepth 100000 in
theorem tw_204 : (Cond.fieldLink "CarryShifts$Ring" (25 : Nat) "CarryShifts$Ring" "taps" "I") ∈ uw := tu (in_t1 (List.mem_of_getElem? (i := 204) rfl)) rfl
set_option maxRecDepth 100000 in
theorem tw_205 : (Cond.sameField "CarryShifts$Ring" "CarryShifts$Carrying" "taps" "I") ∈ uw := tu (in_t1 (List.mem_of_getElem? (i := 205) rfl)) rfl
set_option maxRecDepth 100000 in
theorem tw_206 : (Cond.fieldLink "CarryShifts" (90 : Nat) "CarryShifts$Carrying" "taps" "I") ∈ uw := tu (in_t1 (List.mem_of_getElem? (i := 206) rfl)) rfl
set_option maxRecDepth 100000 in
theorem tw_207 : (Cond.fieldLink "CarryShifts$Carrying" (7 : Nat) "CarryShifts$Carrying" "state" "I") ∈ uw := tu (in_t1 (List.mem_of_getElem? (i := 207) rfl)) rfl
set_option maxRecDepth 100000 in
theorem tw_208 : (Cond.fieldLink "CarryShifts$Ring" (15 : Nat) "CarryShifts$Ring" "state" "I") ∈ uw := tu (in_t1 (List.mem_of_getElem? (i := 208) rfl)) rfl
set_option maxRecDepth 100000 in
theorem tw_209 : (Cond.sameField "CarryShifts$Ring" "CarryShifts$Carrying" "state" "I") ∈ uw := tu (in_t1 (List.mem_of_getElem? (i := 209) rfl)) rfl
set_option maxRecDepth 100000 in
theorem tw_210 : (Cond.fieldLink "CarryShifts" (84 : Nat) "CarryShifts$Carrying" "state" "I") ∈ uw := tu (in_t1 (List.mem_of_getElem? (i := 210) rfl)) rfl
set_option maxRecDepth 100000 in
theorem tw_211 : (Cond.fieldLink "CarryShifts$Carrying" (13 : Nat) "CarryShifts$Carrying" "carry" "I") ∈ uw := tu (in_t1 (List.mem_of_getElem? (i := 211) rfl)) rfl
set_option maxRecDepth 100000 in
theorem tw_212 : (Cond.fieldLink "CarryShifts$Borrowing" (15 : Nat) "CarryShifts$Borrowing" "carry" "I") ∈ uw := tu (in_t1 (List.mem_of_getElem? (i := 212) rfl)) rfl
set_option maxRecDepth 100000 in
theorem tw_213 : (Cond.sameField "CarryShifts$Borrowing" "CarryShifts$Carrying" "carry" "I") ∈ uw := tu (in_t1 (List.mem_of_getElem? (i := 213) rfl)) rfl
set_option maxRecDepth 100000 in
theorem tw_214 : (Cond.fieldLink "CarryShifts$Ring" (19 : Nat) "CarryShifts$Ring" "carry" "I") ∈ uw := tu (in_t1 (List.mem_of_getElem? (i := 214) rfl)) rfl
set_option maxRecDepth 100000 in
theorem tw_215 : (Cond.sameField "CarryShifts$Ring" "CarryShifts$Carrying" "carry" "I") ∈ uw := tu (in_t1 (List.mem_of_getElem? (i := 215) rfl)) rfl
set_option maxRecDepth 100000 in
theorem tw_216 : (Cond.fieldLink "CarryShifts$Linear" (13 : Nat) "CarryShifts$Linear" "carry" "I") ∈ uw := tu (in_t1 (List.mem_of_getElem? (i := 216) rfl)) rfl
set_option maxRecDepth 100000 in
theorem tw_217 : (Cond.sameField "CarryShifts$Linear" "CarryShifts$Carrying" "carry" "I") ∈ uw := tu (in_t1 (List.mem_of_getElem? (i := 217) rfl)) rfl
set_option maxRecDepth 100000 in
theorem tw_218 : (Cond.fieldLink "CarryShifts" (87 : Nat) "CarryShifts$Carrying" "carry" "I") ∈ uw := tu (in_t1 (List.mem_of_getElem? (i := 218) rfl)) rfl
set_option maxRecDepth 100000 in
theorem tw_219 : (Cond.fieldLink "CarryShifts$Carrying" (16 : Nat) "CarryShifts$Carrying" "digits" "I") ∈ uw := tu (in_t1 (List.mem_of_getElem? (i := 219) rfl)) rfl
set_option maxRecDepth 100000 in
theorem tw_220 : (Cond.fieldLink "CarryShifts" (99 : Nat) "CarryShifts$Carrying" "digits" "I") ∈ uw := tu (in_t1 (List.mem_of_getElem? (i := 220) rfl)) rfl
set_option maxRecDepth 100000 in
theorem tw_221 : (Cond.laysFinal "CarryShifts$Linear" "CarryShifts$Carrying" "kind" "I") ∈ uw := tu (in_t1 (List.mem_of_getElem? (i := 221) rfl)) rfl
set_option maxRecDepth 100000 in
theorem tw_222 : (Cond.soleField "CarryShifts$Carrying" "kind") ∈ uw := tu (in_t1 (List.mem_of_getElem? (i := 222) rfl)) rfl
set_option maxRecDepth 100000 in
theorem tw_223 : (Cond.laysFinal "CarryShifts$Linear" "CarryShifts$Carrying" "cells" "I") ∈ uw := tu (in_t1 (List.mem_of_getElem? (i := 223) rfl)) rfl
set_option maxRecDepth 100000 in
theorem tw_224 : (Cond.soleField "CarryShifts$Carrying" "cells") ∈ uw := tu (in_t1 (List.mem_of_getElem? (i := 224) rfl)) rfl
set_option maxRecDepth 100000 in
theorem tw_225 : (Cond.lays "CarryShifts$Linear" "CarryShifts$Carrying" "taps" "I") ∈ uw := tu (in_t1 (List.mem_of_getElem? (i := 225) rfl)) rfl
set_option maxRecDepth 100000 in
theorem tw_226 : (Cond.soleField "CarryShifts$Carrying" "taps") ∈ uw := tu (in_t1 (List.mem_of_getElem? (i := 226) rfl)) rfl
set_option maxRecDepth 100000 in
theorem tw_227 : (Cond.lays "CarryShifts$Linear" "CarryShifts$Carrying" "state" "I") ∈ uw := tu (in_t1 (List.mem_of_getElem? (i := 227) rfl)) rfl
set_option maxRecDepth 100000 in
theorem tw_228 : (Cond.soleField "CarryShifts$Carrying" "state") ∈ uw := tu (in_t1 (List.mem_of_getElem? (i := 228) rfl)) rfl
set_option maxRecDepth 100000 in
theorem tw_229 : (Cond.lays "CarryShifts$Linear" "CarryShifts$Carrying" "carry" "I") ∈ uw := tu (in_t1 (List.mem_of_getElem? (i := 229) rfl)) rfl
set_option maxRecDepth 100000 in
theorem tw_230 : (Cond.soleField "CarryShifts$Carrying" "carry") ∈ uw := tu (in_t1 (List.mem_of_getElem? (i := 230) rfl)) rfl
set_option maxRecDepth 100000 in
theorem tw_231 : (Cond.lays "CarryShifts$Linear" "CarryShifts$Carrying" "digits" "I") ∈ uw := tu (in_t1 (List.mem_of_getElem? (i := 231) rfl)) rfl
set_option maxRecDepth 100000 in
theorem tw_232 : (Cond.soleField "CarryShifts$Carrying" "digits") ∈ uw := tu (in_t1 (List.mem_of_getElem? (i := 232) rfl)) rfl
set_option maxRecDepth 100000 in
theorem tw_233 : (Cond.superclass "CarryShifts$Linear" "CarryShifts$Carrying") ∈ uw := tu (in_t1 (List.mem_of_getElem? (i := 233) rfl)) rfl
set_option maxRecDepth 100000 in
theorem tw_234 : (Cond.classLink "CarryShifts" (299 : Nat) "CarryShifts$Turned") ∈ uw := tu (in_t1 (List.mem_of_getElem? (i := 234) rfl)) rfl
set_option maxRecDepth 100000 in
theorem tw_235 : (Cond.instantiable "CarryShifts$Turned" (6 : Nat)) ∈ uw := tu (in_t1 (List.mem_of_getElem? (i := 235) rfl)) rfl
set_option maxRecDepth 100000 in
theorem tw_236 : (Cond.methodLink "CarryShifts" (301 : Nat) ⟨"CarryShifts$Turned", "<init>", "(II)V"⟩) ∈ uw := tu (in_t1 (List.mem_of_getElem? (i := 236) rfl)) rfl
set_option maxRecDepth 100000 in
theorem tw_237 : (Cond.instanceMethod ⟨"CarryShifts$Turned", "<init>", "(II)V"⟩) ∈ uw := tu (in_t1 (List.mem_of_getElem? (i := 237) rfl)) rfl
set_option maxRecDepth 100000 in
theorem tw_238 : (Cond.code ⟨"CarryShifts$Turned", "<init>", "(II)V"⟩ prog_11_method_1_code (3 : Nat) (Option.none : Option FieldType)) ∈ uw := tu (in_t1 (List.mem_of_getElem? (i := 238) rfl)) rfl
set_option maxRecDepth 100000 in
theorem tw_239 : (Cond.methodLink "CarryShifts$Turned" (3 : Nat) ⟨"CarryShifts$Linear", "<init>", "(III)V"⟩) ∈ uw := tu (in_t1 (List.mem_of_getElem? (i := 239) rfl)) rfl
set_option maxRecDepth 100000 in
theorem tw_240 : (Cond.methodLink "CarryShifts$Turned" (9 : Nat) ⟨"CarryShifts$Turned", "leave", "(I)V"⟩) ∈ uw := tu (in_t2 (List.mem_of_getElem? (i := 0) rfl)) rfl
set_option maxRecDepth 100000 in
theorem tw_241 : (Cond.sameMethod "CarryShifts$Turned" "CarryShifts$Carrying" "leave" "(I)V") ∈ uw := tu (in_t2 (List.mem_of_getElem? (i := 1) rfl)) rfl
set_option maxRecDepth 100000 in
theorem tw_242 : (Cond.selects "CarryShifts$Turned" ⟨"CarryShifts$Turned", "leave", "(I)V"⟩ ⟨"CarryShifts$Carrying", "leave", "(I)V"⟩) ∈ uw := tu (in_t2 (List.mem_of_getElem? (i := 2) rfl)) rfl
set_option maxRecDepth 100000 in
theorem tw_243 : (Cond.laysFinal "CarryShifts$Turned" "CarryShifts$Carrying" "kind" "I") ∈ uw := tu (in_t2 (List.mem_of_getElem? (i := 3) rfl)) rfl
set_option maxRecDepth 100000 in
theorem tw_244 : (Cond.laysFinal "CarryShifts$Turned" "CarryShifts$Carrying" "cells" "I") ∈ uw := tu (in_t2 (List.mem_of_getElem? (i := 4) rfl)) rfl
set_option maxRecDepth 100000 in
theorem tw_245 : (Cond.lays "CarryShifts$Turned" "CarryShifts$Carrying" "taps" "I") ∈ uw := tu (in_t2 (List.mem_of_getElem? (i := 5) rfl)) rfl
set_option maxRecDepth 100000 in
theorem tw_246 : (Cond.lays "CarryShifts$Turned" "CarryShifts$Carrying" "state" "I") ∈ uw := tu (in_t2 (List.mem_of_getElem? (i := 6) rfl)) rfl
set_option maxRecDepth 100000 in
theorem tw_247 : (Cond.lays "CarryShifts$Turned" "CarryShifts$Carrying" "carry" "I") ∈ uw := tu (in_t2 (List.mem_of_getElem? (i := 7) rfl)) rfl
set_option maxRecDepth 100000 in
theorem tw_248 : (Cond.lays "CarryShifts$Turned" "CarryShifts$Carrying" "digits" "I") ∈ uw := tu (in_t2 (List.mem_of_getElem? (i := 8) rfl)) rfl
set_option maxRecDepth 100000 in
theorem tw_249 : (Cond.superclass "CarryShifts$Turned" "CarryShifts$Linear") ∈ uw := tu (in_t2 (List.mem_of_getElem? (i := 9) rfl)) rfl
set_option maxRecDepth 100000 in
theorem tw_250 : (Cond.classLink "CarryShifts" (303 : Nat) "CarryShifts$Borrowing") ∈ uw := tu (in_t2 (List.mem_of_getElem? (i := 10) rfl)) rfl
set_option maxRecDepth 100000 in
theorem tw_251 : (Cond.instantiable "CarryShifts$Borrowing" (6 : Nat)) ∈ uw := tu (in_t2 (List.mem_of_getElem? (i := 11) rfl)) rfl
set_option maxRecDepth 100000 in
theorem tw_252 : (Cond.methodLink "CarryShifts" (305 : Nat) ⟨"CarryShifts$Borrowing", "<init>", "(II)V"⟩) ∈ uw := tu (in_t2 (List.mem_of_getElem? (i := 12) rfl)) rfl
set_option maxRecDepth 100000 in
theorem tw_253 : (Cond.instanceMethod ⟨"CarryShifts$Borrowing", "<init>", "(II)V"⟩) ∈ uw := tu (in_t2 (List.mem_of_getElem? (i := 13) rfl)) rfl
set_option maxRecDepth 100000 in
theorem tw_254 : (Cond.code ⟨"CarryShifts$Borrowing", "<init>", "(II)V"⟩ prog_2_method_1_code (3 : Nat) (Option.none : Option FieldType)) ∈ uw := tu (in_t2 (List.mem_of_getElem? (i := 14) rfl)) rfl
set_option maxRecDepth 100000 in
theorem tw_255 : (Cond.methodLink "CarryShifts$Borrowing" (3 : Nat) ⟨"CarryShifts$Carrying", "<init>", "(III)V"⟩) ∈ uw := tu (in_t2 (List.mem_of_getElem? (i := 15) rfl)) rfl
set_option maxRecDepth 100000 in
theorem tw_256 : (Cond.methodLink "CarryShifts$Borrowing" (9 : Nat) ⟨"CarryShifts$Borrowing", "leave", "(I)V"⟩) ∈ uw := tu (in_t2 (List.mem_of_getElem? (i := 16) rfl)) rfl
set_option maxRecDepth 100000 in
theorem tw_257 : (Cond.sameMethod "CarryShifts$Borrowing" "CarryShifts$Carrying" "leave" "(I)V") ∈ uw := tu (in_t2 (List.mem_of_getElem? (i := 17) rfl)) rfl
set_option maxRecDepth 100000 in
theorem tw_258 : (Cond.selects "CarryShifts$Borrowing" ⟨"CarryShifts$Borrowing", "leave", "(I)V"⟩ ⟨"CarryShifts$Carrying", "leave", "(I)V"⟩) ∈ uw := tu (in_t2 (List.mem_of_getElem? (i := 18) rfl)) rfl
set_option maxRecDepth 100000 in
theorem tw_259 : (Cond.laysFinal "CarryShifts$Borrowing" "CarryShifts$Carrying" "kind" "I") ∈ uw := tu (in_t2 (List.mem_of_getElem? (i := 19) rfl)) rfl
set_option maxRecDepth 100000 in
theorem tw_260 : (Cond.laysFinal "CarryShifts$Borrowing" "CarryShifts$Carrying" "cells" "I") ∈ uw := tu (in_t2 (List.mem_of_getElem? (i := 20) rfl)) rfl
set_option maxRecDepth 100000 in
theorem tw_261 : (Cond.lays "CarryShifts$Borrowing" "CarryShifts$Carrying" "taps" "I") ∈ uw := tu (in_t2 (List.mem_of_getElem? (i := 21) rfl)) rfl
set_option maxRecDepth 100000 in
theorem tw_262 : (Cond.lays "CarryShifts$Borrowing" "CarryShifts$Carrying" "state" "I") ∈ uw := tu (in_t2 (List.mem_of_getElem? (i := 22) rfl)) rfl
set_option maxRecDepth 100000 in
theorem tw_263 : (Cond.lays "CarryShifts$Borrowing" "CarryShifts$Carrying" "carry" "I") ∈ uw := tu (in_t2 (List.mem_of_getElem? (i := 23) rfl)) rfl
set_option maxRecDepth 100000 in
theorem tw_264 : (Cond.lays "CarryShifts$Borrowing" "CarryShifts$Carrying" "digits" "I") ∈ uw := tu (in_t2 (List.mem_of_getElem? (i := 24) rfl)) rfl
set_option maxRecDepth 100000 in
theorem tw_265 : (Cond.superclass "CarryShifts$Borrowing" "CarryShifts$Carrying") ∈ uw := tu (in_t2 (List.mem_of_getElem? (i := 25) rfl)) rfl
set_option maxRecDepth 100000 in
theorem tw_266 : (Cond.classLink "CarryShifts" (306 : Nat) "CarryShifts$Held") ∈ uw := tu (in_t2 (List.mem_of_getElem? (i := 26) rfl)) rfl
set_option maxRecDepth 100000 in
theorem tw_267 : (Cond.instantiable "CarryShifts$Held" (6 : Nat)) ∈ uw := tu (in_t2 (List.mem_of_getElem? (i := 27) rfl)) rfl
set_option maxRecDepth 100000 in
theorem tw_268 : (Cond.methodLink "CarryShifts" (308 : Nat) ⟨"CarryShifts$Held", "<init>", "(II)V"⟩) ∈ uw := tu (in_t2 (List.mem_of_getElem? (i := 28) rfl)) rfl
set_option maxRecDepth 100000 in
theorem tw_269 : (Cond.instanceMethod ⟨"CarryShifts$Held", "<init>", "(II)V"⟩) ∈ uw := tu (in_t2 (List.mem_of_getElem? (i := 29) rfl)) rfl
set_option maxRecDepth 100000 in
theorem tw_270 : (Cond.code ⟨"CarryShifts$Held", "<init>", "(II)V"⟩ prog_4_method_1_code (3 : Nat) (Option.none : Option FieldType)) ∈ uw := tu (in_t2 (List.mem_of_getElem? (i := 30) rfl)) rfl
set_option maxRecDepth 100000 in
theorem tw_271 : (Cond.methodLink "CarryShifts$Held" (3 : Nat) ⟨"CarryShifts$Carrying", "<init>", "(III)V"⟩) ∈ uw := tu (in_t2 (List.mem_of_getElem? (i := 31) rfl)) rfl
set_option maxRecDepth 100000 in
theorem tw_272 : (Cond.methodLink "CarryShifts$Held" (9 : Nat) ⟨"CarryShifts$Held", "leave", "(I)V"⟩) ∈ uw := tu (in_t2 (List.mem_of_getElem? (i := 32) rfl)) rfl
set_option maxRecDepth 100000 in
theorem tw_273 : (Cond.sameMethod "CarryShifts$Held" "CarryShifts$Carrying" "leave" "(I)V") ∈ uw := tu (in_t2 (List.mem_of_getElem? (i := 33) rfl)) rfl
set_option maxRecDepth 100000 in
theorem tw_274 : (Cond.selects "CarryShifts$Held" ⟨"CarryShifts$Held", "leave", "(I)V"⟩ ⟨"CarryShifts$Carrying", "leave", "(I)V"⟩) ∈ uw := tu (in_t2 (List.mem_of_getElem? (i := 34) rfl)) rfl
set_option maxRecDepth 100000 in
theorem tw_275 : (Cond.laysFinal "CarryShifts$Held" "CarryShifts$Carrying" "kind" "I") ∈ uw := tu (in_t2 (List.mem_of_getElem? (i := 35) rfl)) rfl
set_option maxRecDepth 100000 in
theorem tw_276 : (Cond.laysFinal "CarryShifts$Held" "CarryShifts$Carrying" "cells" "I") ∈ uw := tu (in_t2 (List.mem_of_getElem? (i := 36) rfl)) rfl
set_option maxRecDepth 100000 in
theorem tw_277 : (Cond.lays "CarryShifts$Held" "CarryShifts$Carrying" "taps" "I") ∈ uw := tu (in_t2 (List.mem_of_getElem? (i := 37) rfl)) rfl
set_option maxRecDepth 100000 in
theorem tw_278 : (Cond.lays "CarryShifts$Held" "CarryShifts$Carrying" "state" "I") ∈ uw := tu (in_t2 (List.mem_of_getElem? (i := 38) rfl)) rfl
set_option maxRecDepth 100000 in
theorem tw_279 : (Cond.lays "CarryShifts$Held" "CarryShifts$Carrying" "carry" "I") ∈ uw := tu (in_t2 (List.mem_of_getElem? (i := 39) rfl)) rfl
set_option maxRecDepth 100000 in
theorem tw_280 : (Cond.lays "CarryShifts$Held" "CarryShifts$Carrying" "digits" "I") ∈ uw := tu (in_t2 (List.mem_of_getElem? (i := 40) rfl)) rfl
set_option maxRecDepth 100000 in
theorem tw_281 : (Cond.superclass "CarryShifts$Held" "CarryShifts$Carrying") ∈ uw := tu (in_t2 (List.mem_of_getElem? (i := 41) rfl)) rfl
set_option maxRecDepth 100000 in
theorem tw_282 : (Cond.classLink "CarryShifts" (309 : Nat) "CarryShifts$Ring") ∈ uw := tu (in_t2 (List.mem_of_getElem? (i := 42) rfl)) rfl
set_option maxRecDepth 100000 in
theorem tw_283 : (Cond.instantiable "CarryShifts$Ring" (6 : Nat)) ∈ uw := tu (in_t2 (List.mem_of_getElem? (i := 43) rfl)) rfl
set_option maxRecDepth 100000 in
theorem tw_284 : (Cond.methodLink "CarryShifts" (311 : Nat) ⟨"CarryShifts$Ring", "<init>", "(II)V"⟩) ∈ uw := tu (in_t2 (List.mem_of_getElem? (i := 44) rfl)) rfl
set_option maxRecDepth 100000 in
theorem tw_285 : (Cond.instanceMethod ⟨"CarryShifts$Ring", "<init>", "(II)V"⟩) ∈ uw := tu (in_t2 (List.mem_of_getElem? (i := 45) rfl)) rfl
set_option maxRecDepth 100000 in
theorem tw_286 : (Cond.code ⟨"CarryShifts$Ring", "<init>", "(II)V"⟩ prog_8_method_1_code (3 : Nat) (Option.none : Option FieldType)) ∈ uw := tu (in_t2 (List.mem_of_getElem? (i := 46) rfl)) rfl
set_option maxRecDepth 100000 in
theorem tw_287 : (Cond.methodLink "CarryShifts$Ring" (3 : Nat) ⟨"CarryShifts$Carrying", "<init>", "(III)V"⟩) ∈ uw := tu (in_t2 (List.mem_of_getElem? (i := 47) rfl)) rfl
set_option maxRecDepth 100000 in
theorem tw_288 : (Cond.methodLink "CarryShifts$Ring" (9 : Nat) ⟨"CarryShifts$Ring", "leave", "(I)V"⟩) ∈ uw := tu (in_t2 (List.mem_of_getElem? (i := 48) rfl)) rfl
set_option maxRecDepth 100000 in
theorem tw_289 : (Cond.sameMethod "CarryShifts$Ring" "CarryShifts$Carrying" "leave" "(I)V") ∈ uw := tu (in_t2 (List.mem_of_getElem? (i := 49) rfl)) rfl
set_option maxRecDepth 100000 in
theorem tw_290 : (Cond.selects "CarryShifts$Ring" ⟨"CarryShifts$Ring", "leave", "(I)V"⟩ ⟨"CarryShifts$Carrying", "leave", "(I)V"⟩) ∈ uw := tu (in_t2 (List.mem_of_getElem? (i := 50) rfl)) rfl
set_option maxRecDepth 100000 in
theorem tw_291 : (Cond.laysFinal "CarryShifts$Ring" "CarryShifts$Carrying" "kind" "I") ∈ uw := tu (in_t2 (List.mem_of_getElem? (i := 51) rfl)) rfl
set_option maxRecDepth 100000 in
theorem tw_292 : (Cond.laysFinal "CarryShifts$Ring" "CarryShifts$Carrying" "cells" "I") ∈ uw := tu (in_t2 (List.mem_of_getElem? (i := 52) rfl)) rfl
set_option maxRecDepth 100000 in
theorem tw_293 : (Cond.lays "CarryShifts$Ring" "CarryShifts$Carrying" "taps" "I") ∈ uw := tu (in_t2 (List.mem_of_getElem? (i := 53) rfl)) rfl
set_option maxRecDepth 100000 in
theorem tw_294 : (Cond.lays "CarryShifts$Ring" "CarryShifts$Carrying" "state" "I") ∈ uw := tu (in_t2 (List.mem_of_getElem? (i := 54) rfl)) rfl
set_option maxRecDepth 100000 in
theorem tw_295 : (Cond.lays "CarryShifts$Ring" "CarryShifts$Carrying" "carry" "I") ∈ uw := tu (in_t2 (List.mem_of_getElem? (i := 55) rfl)) rfl
set_option maxRecDepth 100000 in
theorem tw_296 : (Cond.lays "CarryShifts$Ring" "CarryShifts$Carrying" "digits" "I") ∈ uw := tu (in_t2 (List.mem_of_getElem? (i := 56) rfl)) rfl
set_option maxRecDepth 100000 in
theorem tw_297 : (Cond.superclass "CarryShifts$Ring" "CarryShifts$Carrying") ∈ uw := tu (in_t2 (List.mem_of_getElem? (i := 57) rfl)) rfl
set_option maxRecDepth 100000 in
theorem tw_298 : (Cond.instantiable "CarryShifts$Carrying" (6 : Nat)) ∈ uw := tu (in_t2 (List.mem_of_getElem? (i := 58) rfl)) rfl
set_option maxRecDepth 100000 in
theorem tw_299 : (Cond.methodLink "CarryShifts" (312 : Nat) ⟨"CarryShifts$Carrying", "<init>", "(III)V"⟩) ∈ uw := tu (in_t2 (List.mem_of_getElem? (i := 59) rfl)) rfl
set_option maxRecDepth 100000 in
theorem tw_300 : (Cond.laysFinal "CarryShifts$Carrying" "CarryShifts$Carrying" "kind" "I") ∈ uw := tu (in_t2 (List.mem_of_getElem? (i := 60) rfl)) rfl
set_option maxRecDepth 100000 in
theorem tw_301 : (Cond.laysFinal "CarryShifts$Carrying" "CarryShifts$Carrying" "cells" "I") ∈ uw := tu (in_t2 (List.mem_of_getElem? (i := 61) rfl)) rfl
set_option maxRecDepth 100000 in
theorem tw_302 : (Cond.lays "CarryShifts$Carrying" "CarryShifts$Carrying" "taps" "I") ∈ uw := tu (in_t2 (List.mem_of_getElem? (i := 62) rfl)) rfl
set_option maxRecDepth 100000 in
theorem tw_303 : (Cond.lays "CarryShifts$Carrying" "CarryShifts$Carrying" "state" "I") ∈ uw := tu (in_t2 (List.mem_of_getElem? (i := 63) rfl)) rfl
set_option maxRecDepth 100000 in
theorem tw_304 : (Cond.lays "CarryShifts$Carrying" "CarryShifts$Carrying" "carry" "I") ∈ uw := tu (in_t2 (List.mem_of_getElem? (i := 64) rfl)) rfl
set_option maxRecDepth 100000 in
theorem tw_305 : (Cond.lays "CarryShifts$Carrying" "CarryShifts$Carrying" "digits" "I") ∈ uw := tu (in_t2 (List.mem_of_getElem? (i := 65) rfl)) rfl
set_option maxRecDepth 100000 in
theorem tw_306 : (Cond.superclass "CarryShifts$Carrying" "java/lang/Object") ∈ uw := tu (in_t2 (List.mem_of_getElem? (i := 66) rfl)) rfl
set_option maxRecDepth 100000 in
theorem tw_307 : (Cond.methodLink "CarryShifts" (72 : Nat) ⟨"CarryShifts", "join", "(LCarryShifts$Carrying;)I"⟩) ∈ uw := tu (in_t2 (List.mem_of_getElem? (i := 67) rfl)) rfl
set_option maxRecDepth 100000 in
theorem tw_308 : (Cond.privateMethod ⟨"CarryShifts", "join", "(LCarryShifts$Carrying;)I"⟩) ∈ lw_tbl := in_t2 (List.mem_of_getElem? (i := 68) rfl)
set_option maxRecDepth 100000 in
theorem tw_309 : (Cond.instanceMethod ⟨"CarryShifts", "join", "(LCarryShifts$Carrying;)I"⟩) ∈ uw := tu (in_t2 (List.mem_of_getElem? (i := 69) rfl)) rfl
set_option maxRecDepth 100000 in
theorem tw_310 : (Cond.code ⟨"CarryShifts", "join", "(LCarryShifts$Carrying;)I"⟩ prog_1_method_42_code (2 : Nat) (Option.some FieldType.int)) ∈ uw := tu (in_t2 (List.mem_of_getElem? (i := 70) rfl)) rfl
set_option maxRecDepth 100000 in
theorem tw_311 : (Cond.methodLink "CarryShiftsLaw" (18 : Nat) ⟨"CarryShifts", "drop", "()I"⟩) ∈ uw := tu (in_t2 (List.mem_of_getElem? (i := 71) rfl)) rfl
set_option maxRecDepth 100000 in
theorem tw_312 : (Cond.instanceMethod ⟨"CarryShifts", "drop", "()I"⟩) ∈ uw := tu (in_t2 (List.mem_of_getElem? (i := 72) rfl)) rfl
set_option maxRecDepth 100000 in
theorem tw_313 : (Cond.selects "CarryShifts" ⟨"CarryShifts", "drop", "()I"⟩ ⟨"CarryShifts", "drop", "()I"⟩) ∈ uw := tu (in_t2 (List.mem_of_getElem? (i := 73) rfl)) rfl
set_option maxRecDepth 100000 in
theorem tw_314 : (Cond.code ⟨"CarryShifts", "drop", "()I"⟩ prog_1_method_3_code (1 : Nat) (Option.some FieldType.int)) ∈ uw := tu (in_t2 (List.mem_of_getElem? (i := 74) rfl)) rfl
set_option maxRecDepth 100000 in
theorem tw_315 : (Cond.methodLink "CarryShiftsLaw" (23 : Nat) ⟨"CarryShifts", "set", "(III)I"⟩) ∈ uw := tu (in_t2 (List.mem_of_getElem? (i := 75) rfl)) rfl
set_option maxRecDepth 100000 in
theorem tw_316 : (Cond.instanceMethod ⟨"CarryShifts", "set", "(III)I"⟩) ∈ uw := tu (in_t2 (List.mem_of_getElem? (i := 76) rfl)) rfl
set_option maxRecDepth 100000 in
theorem tw_317 : (Cond.selects "CarryShifts" ⟨"CarryShifts", "set", "(III)I"⟩ ⟨"CarryShifts", "set", "(III)I"⟩) ∈ uw := tu (in_t2 (List.mem_of_getElem? (i := 77) rfl)) rfl
set_option maxRecDepth 100000 in
theorem tw_318 : (Cond.code ⟨"CarryShifts", "set", "(III)I"⟩ prog_1_method_4_code (6 : Nat) (Option.some FieldType.int)) ∈ uw := tu (in_t2 (List.mem_of_getElem? (i := 78) rfl)) rfl
set_option maxRecDepth 100000 in
theorem tw_319 : (Cond.methodLink "CarryShifts" (76 : Nat) ⟨"CarryShifts", "machineAt", "(I)LCarryShifts$Carrying;"⟩) ∈ uw := tu (in_t2 (List.mem_of_getElem? (i := 79) rfl)) rfl
set_option maxRecDepth 100000 in
theorem tw_320 : (Cond.privateMethod ⟨"CarryShifts", "machineAt", "(I)LCarryShifts$Carrying;"⟩) ∈ lw_tbl := in_t2 (List.mem_of_getElem? (i := 80) rfl)
set_option maxRecDepth 100000 in
theorem tw_321 : (Cond.instanceMethod ⟨"CarryShifts", "machineAt", "(I)LCarryShifts$Carrying;"⟩) ∈ uw := tu (in_t2 (List.mem_of_getElem? (i := 81) rfl)) rfl
set_option maxRecDepth 100000 in
theorem tw_322 : (Cond.code ⟨"CarryShifts", "machineAt", "(I)LCarryShifts$Carrying;"⟩ prog_1_method_43_code (2 : Nat) (Option.some (FieldType.object "CarryShifts$Carrying"))) ∈ uw := tu (in_t2 (List.mem_of_getElem? (i := 82) rfl)) rfl
set_option maxRecDepth 100000 in
theorem tw_323 : (Cond.methodLink "CarryShifts" (80 : Nat) ⟨"CarryShifts", "canBecome", "(LCarryShifts$Carrying;II)Z"⟩) ∈ uw := tu (in_t2 (List.mem_of_getElem? (i := 83) rfl)) rfl
set_option maxRecDepth 100000 in
theorem tw_324 : (Cond.static ⟨"CarryShifts", "canBecome", "(LCarryShifts$Carrying;II)Z"⟩) ∈ uw := tu (in_t2 (List.mem_of_getElem? (i := 84) rfl)) rfl
set_option maxRecDepth 100000 in
theorem tw_325 : (Cond.code ⟨"CarryShifts", "canBecome", "(LCarryShifts$Carrying;II)Z"⟩ prog_1_method_44_code (3 : Nat) (Option.some FieldType.boolean)) ∈ uw := tu (in_t2 (List.mem_of_getElem? (i := 85) rfl)) rfl
set_option maxRecDepth 100000 in
theorem tw_326 : (Cond.methodLink "CarryShiftsLaw" (28 : Nat) ⟨"CarryShifts", "of", "(II)I"⟩) ∈ uw := tu (in_t2 (List.mem_of_getElem? (i := 86) rfl)) rfl
set_option maxRecDepth 100000 in
theorem tw_327 : (Cond.instanceMethod ⟨"CarryShifts", "of", "(II)I"⟩) ∈ uw := tu (in_t2 (List.mem_of_getElem? (i := 87) rfl)) rfl
set_option maxRecDepth 100000 in
theorem tw_328 : (Cond.selects "CarryShifts" ⟨"CarryShifts", "of", "(II)I"⟩ ⟨"CarryShifts", "of", "(II)I"⟩) ∈ uw := tu (in_t2 (List.mem_of_getElem? (i := 88) rfl)) rfl
set_option maxRecDepth 100000 in
theorem tw_329 : (Cond.code ⟨"CarryShifts", "of", "(II)I"⟩ prog_1_method_5_code (4 : Nat) (Option.some FieldType.int)) ∈ uw := tu (in_t2 (List.mem_of_getElem? (i := 89) rfl)) rfl
set_option maxRecDepth 100000 in
theorem tw_330 : (Cond.methodLink "CarryShifts" (102 : Nat) ⟨"CarryShifts$Carrying", "links", "()I"⟩) ∈ uw := tu (in_t2 (List.mem_of_getElem? (i := 90) rfl)) rfl
set_option maxRecDepth 100000 in
theorem tw_331 : (Cond.instanceMethod ⟨"CarryShifts$Carrying", "links", "()I"⟩) ∈ uw := tu (in_t2 (List.mem_of_getElem? (i := 91) rfl)) rfl
set_option maxRecDepth 100000 in
theorem tw_332 : (Cond.selects "CarryShifts$Carrying" ⟨"CarryShifts$Carrying", "links", "()I"⟩ ⟨"CarryShifts$Carrying", "links", "()I"⟩) ∈ uw := tu (in_t2 (List.mem_of_getElem? (i := 92) rfl)) rfl
set_option maxRecDepth 100000 in
theorem tw_333 : (Cond.sameMethod "CarryShifts$Carrying" "CarryShifts$Carrying" "links" "()I") ∈ uw := tu (in_t2 (List.mem_of_getElem? (i := 93) rfl)) rfl
set_option maxRecDepth 100000 in
theorem tw_334 : (Cond.selects "CarryShifts$Borrowing" ⟨"CarryShifts$Carrying", "links", "()I"⟩ ⟨"CarryShifts$Carrying", "links", "()I"⟩) ∈ uw := tu (in_t2 (List.mem_of_getElem? (i := 94) rfl)) rfl
set_option maxRecDepth 100000 in
theorem tw_335 : (Cond.selects "CarryShifts$Held" ⟨"CarryShifts$Carrying", "links", "()I"⟩ ⟨"CarryShifts$Carrying", "links", "()I"⟩) ∈ uw := tu (in_t2 (List.mem_of_getElem? (i := 95) rfl)) rfl
set_option maxRecDepth 100000 in
theorem tw_336 : (Cond.selects "CarryShifts$Linear" ⟨"CarryShifts$Carrying", "links", "()I"⟩ ⟨"CarryShifts$Carrying", "links", "()I"⟩) ∈ uw := tu (in_t2 (List.mem_of_getElem? (i := 96) rfl)) rfl
set_option maxRecDepth 100000 in
theorem tw_337 : (Cond.selects "CarryShifts$Ring" ⟨"CarryShifts$Carrying", "links", "()I"⟩ ⟨"CarryShifts$Carrying", "links", "()I"⟩) ∈ uw := tu (in_t2 (List.mem_of_getElem? (i := 97) rfl)) rfl
set_option maxRecDepth 100000 in
theorem tw_338 : (Cond.selects "CarryShifts$Turned" ⟨"CarryShifts$Carrying", "links", "()I"⟩ ⟨"CarryShifts$Carrying", "links", "()I"⟩) ∈ uw := tu (in_t2 (List.mem_of_getElem? (i := 98) rfl)) rfl
set_option maxRecDepth 100000 in
theorem tw_339 : (Cond.code ⟨"CarryShifts$Carrying", "links", "()I"⟩ prog_3_method_3_code (3 : Nat) (Option.some FieldType.int)) ∈ uw := tu (in_t2 (List.mem_of_getElem? (i := 99) rfl)) rfl
set_option maxRecDepth 100000 in
theorem tw_340 : (Cond.methodLink "CarryShiftsLaw" (33 : Nat) ⟨"CarryShifts", "taken", "(II)I"⟩) ∈ uw := tu (in_t2 (List.mem_of_getElem? (i := 100) rfl)) rfl
set_option maxRecDepth 100000 in
theorem tw_341 : (Cond.instanceMethod ⟨"CarryShifts", "taken", "(II)I"⟩) ∈ uw := tu (in_t2 (List.mem_of_getElem? (i := 101) rfl)) rfl
set_option maxRecDepth 100000 in
theorem tw_342 : (Cond.selects "CarryShifts" ⟨"CarryShifts", "taken", "(II)I"⟩ ⟨"CarryShifts", "taken", "(II)I"⟩) ∈ uw := tu (in_t2 (List.mem_of_getElem? (i := 102) rfl)) rfl
set_option maxRecDepth 100000 in
theorem tw_343 : (Cond.code ⟨"CarryShifts", "taken", "(II)I"⟩ prog_1_method_6_code (4 : Nat) (Option.some FieldType.int)) ∈ uw := tu (in_t2 (List.mem_of_getElem? (i := 103) rfl)) rfl
set_option maxRecDepth 100000 in
theorem tw_344 : (Cond.methodLink "CarryShifts" (106 : Nat) ⟨"CarryShifts", "isUnder", "(LCarryShifts$Carrying;I)Z"⟩) ∈ uw := tu (in_t2 (List.mem_of_getElem? (i := 104) rfl)) rfl
set_option maxRecDepth 100000 in
theorem tw_345 : (Cond.static ⟨"CarryShifts", "isUnder", "(LCarryShifts$Carrying;I)Z"⟩) ∈ uw := tu (in_t2 (List.mem_of_getElem? (i := 105) rfl)) rfl
set_option maxRecDepth 100000 in
theorem tw_346 : (Cond.code ⟨"CarryShifts", "isUnder", "(LCarryShifts$Carrying;I)Z"⟩ prog_1_method_41_code (2 : Nat) (Option.some FieldType.boolean)) ∈ uw := tu (in_t2 (List.mem_of_getElem? (i := 106) rfl)) rfl
set_option maxRecDepth 100000 in
theorem tw_347 : (Cond.methodLink "CarryShiftsLaw" (37 : Nat) ⟨"CarryShifts", "step", "(II)I"⟩) ∈ uw := tu (in_t2 (List.mem_of_getElem? (i := 107) rfl)) rfl
set_option maxRecDepth 100000 in
theorem tw_348 : (Cond.instanceMethod ⟨"CarryShifts", "step", "(II)I"⟩) ∈ uw := tu (in_t2 (List.mem_of_getElem? (i := 108) rfl)) rfl
set_option maxRecDepth 100000 in
theorem tw_349 : (Cond.selects "CarryShifts" ⟨"CarryShifts", "step", "(II)I"⟩ ⟨"CarryShifts", "step", "(II)I"⟩) ∈ uw := tu (in_t2 (List.mem_of_getElem? (i := 109) rfl)) rfl
set_option maxRecDepth 100000 in
theorem tw_350 : (Cond.code ⟨"CarryShifts", "step", "(II)I"⟩ prog_1_method_7_code (4 : Nat) (Option.some FieldType.int)) ∈ uw := tu (in_t2 (List.mem_of_getElem? (i := 110) rfl)) rfl
set_option maxRecDepth 100000 in
theorem tw_351 : (Cond.methodLink "CarryShifts" (110 : Nat) ⟨"CarryShifts", "tell", "(LCarryShifts$Carrying;I)J"⟩) ∈ uw := tu (in_t2 (List.mem_of_getElem? (i := 111) rfl)) rfl
set_option maxRecDepth 100000 in
theorem tw_352 : (Cond.static ⟨"CarryShifts", "tell", "(LCarryShifts$Carrying;I)J"⟩) ∈ uw := tu (in_t2 (List.mem_of_getElem? (i := 112) rfl)) rfl
set_option maxRecDepth 100000 in
theorem tw_353 : (Cond.code ⟨"CarryShifts", "tell", "(LCarryShifts$Carrying;I)J"⟩ prog_1_method_49_code (5 : Nat) (Option.some FieldType.long)) ∈ uw := tu (in_t2 (List.mem_of_getElem? (i := 113) rfl)) rfl
set_option maxRecDepth 100000 in
theorem tw_354 : (Cond.methodLink "CarryShifts" (313 : Nat) ⟨"CarryShifts$Carrying", "advance", "()I"⟩) ∈ uw := tu (in_t2 (List.mem_of_getElem? (i := 114) rfl)) rfl
set_option maxRecDepth 100000 in
theorem tw_355 : (Cond.instanceMethod ⟨"CarryShifts$Carrying", "advance", "()I"⟩) ∈ uw := tu (in_t2 (List.mem_of_getElem? (i := 115) rfl)) rfl
set_option maxRecDepth 100000 in
theorem tw_356 : (Cond.selects "CarryShifts$Carrying" ⟨"CarryShifts$Carrying", "advance", "()I"⟩ ⟨"CarryShifts$Carrying", "advance", "()I"⟩) ∈ uw := tu (in_t2 (List.mem_of_getElem? (i := 116) rfl)) rfl
set_option maxRecDepth 100000 in
theorem tw_357 : (Cond.sameMethod "CarryShifts$Carrying" "CarryShifts$Carrying" "advance" "()I") ∈ uw := tu (in_t2 (List.mem_of_getElem? (i := 117) rfl)) rfl
set_option maxRecDepth 100000 in
theorem tw_358 : (Cond.selects "CarryShifts$Borrowing" ⟨"CarryShifts$Carrying", "advance", "()I"⟩ ⟨"CarryShifts$Carrying", "advance", "()I"⟩) ∈ uw := tu (in_t2 (List.mem_of_getElem? (i := 118) rfl)) rfl
set_option maxRecDepth 100000 in
theorem tw_359 : (Cond.selects "CarryShifts$Held" ⟨"CarryShifts$Carrying", "advance", "()I"⟩ ⟨"CarryShifts$Carrying", "advance", "()I"⟩) ∈ uw := tu (in_t2 (List.mem_of_getElem? (i := 119) rfl)) rfl
set_option maxRecDepth 100000 in
theorem tw_360 : (Cond.selects "CarryShifts$Linear" ⟨"CarryShifts$Carrying", "advance", "()I"⟩ ⟨"CarryShifts$Carrying", "advance", "()I"⟩) ∈ uw := tu (in_t2 (List.mem_of_getElem? (i := 120) rfl)) rfl
set_option maxRecDepth 100000 in
theorem tw_361 : (Cond.selects "CarryShifts$Ring" ⟨"CarryShifts$Carrying", "advance", "()I"⟩ ⟨"CarryShifts$Ring", "advance", "()I"⟩) ∈ uw := tu (in_t2 (List.mem_of_getElem? (i := 121) rfl)) rfl
set_option maxRecDepth 100000 in
theorem tw_362 : (Cond.instanceMethod ⟨"CarryShifts$Ring", "advance", "()I"⟩) ∈ uw := tu (in_t2 (List.mem_of_getElem? (i := 122) rfl)) rfl
set_option maxRecDepth 100000 in
theorem tw_363 : (Cond.code ⟨"CarryShifts$Ring", "advance", "()I"⟩ prog_8_method_2_code (5 : Nat) (Option.some FieldType.int)) ∈ uw := tu (in_t2 (List.mem_of_getElem? (i := 123) rfl)) rfl
set_option maxRecDepth 100000 in
theorem tw_364 : (Cond.selects "CarryShifts$Turned" ⟨"CarryShifts$Carrying", "advance", "()I"⟩ ⟨"CarryShifts$Carrying", "advance", "()I"⟩) ∈ uw := tu (in_t2 (List.mem_of_getElem? (i := 124) rfl)) rfl
set_option maxRecDepth 100000 in
theorem tw_365 : (Cond.code ⟨"CarryShifts$Carrying", "advance", "()I"⟩ prog_3_method_5_code (3 : Nat) (Option.some FieldType.int)) ∈ uw := tu (in_t2 (List.mem_of_getElem? (i := 125) rfl)) rfl
set_option maxRecDepth 100000 in
theorem tw_366 : (Cond.methodLink "CarryShifts$Carrying" (32 : Nat) ⟨"java/lang/Integer", "bitCount", "(I)I"⟩) ∈ uw := tu (in_t2 (List.mem_of_getElem? (i := 126) rfl)) rfl
set_option maxRecDepth 100000 in
theorem tw_367 : (Cond.static ⟨"java/lang/Integer", "bitCount", "(I)I"⟩) ∈ uw := tu (in_t2 (List.mem_of_getElem? (i := 127) rfl)) rfl
set_option maxRecDepth 100000 in
theorem tw_368 : (Cond.code ⟨"java/lang/Integer", "bitCount", "(I)I"⟩ prog_14_method_49_code (1 : Nat) (Option.some FieldType.int)) ∈ uw := tu (in_t2 (List.mem_of_getElem? (i := 128) rfl)) rfl
set_option maxRecDepth 100000 in
theorem tw_369 : (Cond.constant "java/lang/Integer" (265 : Nat) (1431655765 : Int32)) ∈ uw := tu (in_t2 (List.mem_of_getElem? (i := 129) rfl)) rfl
set_option maxRecDepth 100000 in
theorem tw_370 : (Cond.constant "java/lang/Integer" (266 : Nat) (858993459 : Int32)) ∈ uw := tu (in_t2 (List.mem_of_getElem? (i := 130) rfl)) rfl
set_option maxRecDepth 100000 in
theorem tw_371 : (Cond.constant "java/lang/Integer" (267 : Nat) (252645135 : Int32)) ∈ uw := tu (in_t2 (List.mem_of_getElem? (i := 131) rfl)) rfl
set_option maxRecDepth 100000 in
theorem tw_372 : (Cond.methodLink "CarryShifts$Carrying" (38 : Nat) ⟨"CarryShifts$Carrying", "sumOf", "(I)I"⟩) ∈ uw := tu (in_t2 (List.mem_of_getElem? (i := 132) rfl)) rfl
set_option maxRecDepth 100000 in
theorem tw_373 : (Cond.instanceMethod ⟨"CarryShifts$Carrying", "sumOf", "(I)I"⟩) ∈ uw := tu (in_t2 (List.mem_of_getElem? (i := 133) rfl)) rfl
set_option maxRecDepth 100000 in
theorem tw_374 : (Cond.selects "CarryShifts$Carrying" ⟨"CarryShifts$Carrying", "sumOf", "(I)I"⟩ ⟨"CarryShifts$Carrying", "sumOf", "(I)I"⟩) ∈ uw := tu (in_t2 (List.mem_of_getElem? (i := 134) rfl)) rfl
set_option maxRecDepth 100000 in
theorem tw_375 : (Cond.sameMethod "CarryShifts$Carrying" "CarryShifts$Carrying" "sumOf" "(I)I") ∈ uw := tu (in_t2 (List.mem_of_getElem? (i := 135) rfl)) rfl
set_option maxRecDepth 100000 in
theorem tw_376 : (Cond.selects "CarryShifts$Borrowing" ⟨"CarryShifts$Carrying", "sumOf", "(I)I"⟩ ⟨"CarryShifts$Borrowing", "sumOf", "(I)I"⟩) ∈ uw := tu (in_t2 (List.mem_of_getElem? (i := 136) rfl)) rfl
set_option maxRecDepth 100000 in
theorem tw_377 : (Cond.instanceMethod ⟨"CarryShifts$Borrowing", "sumOf", "(I)I"⟩) ∈ uw := tu (in_t2 (List.mem_of_getElem? (i := 137) rfl)) rfl
set_option maxRecDepth 100000 in
theorem tw_378 : (Cond.code ⟨"CarryShifts$Borrowing", "sumOf", "(I)I"⟩ prog_2_method_2_code (2 : Nat) (Option.some FieldType.int)) ∈ uw := tu (in_t2 (List.mem_of_getElem? (i := 138) rfl)) rfl
set_option maxRecDepth 100000 in
theorem tw_379 : (Cond.selects "CarryShifts$Held" ⟨"CarryShifts$Carrying", "sumOf", "(I)I"⟩ ⟨"CarryShifts$Carrying", "sumOf", "(I)I"⟩) ∈ uw := tu (in_t2 (List.mem_of_getElem? (i := 139) rfl)) rfl
set_option maxRecDepth 100000 in
theorem tw_380 : (Cond.selects "CarryShifts$Linear" ⟨"CarryShifts$Carrying", "sumOf", "(I)I"⟩ ⟨"CarryShifts$Linear", "sumOf", "(I)I"⟩) ∈ uw := tu (in_t2 (List.mem_of_getElem? (i := 140) rfl)) rfl
set_option maxRecDepth 100000 in
theorem tw_381 : (Cond.instanceMethod ⟨"CarryShifts$Linear", "sumOf", "(I)I"⟩) ∈ uw := tu (in_t2 (List.mem_of_getElem? (i := 141) rfl)) rfl
set_option maxRecDepth 100000 in
theorem tw_382 : (Cond.code ⟨"CarryShifts$Linear", "sumOf", "(I)I"⟩ prog_7_method_2_code (2 : Nat) (Option.some FieldType.int)) ∈ uw := tu (in_t2 (List.mem_of_getElem? (i := 142) rfl)) rfl
set_option maxRecDepth 100000 in
theorem tw_383 : (Cond.selects "CarryShifts$Ring" ⟨"CarryShifts$Carrying", "sumOf", "(I)I"⟩ ⟨"CarryShifts$Carrying", "sumOf", "(I)I"⟩) ∈ uw := tu (in_t2 (List.mem_of_getElem? (i := 143) rfl)) rfl
set_option maxRecDepth 100000 in
theorem tw_384 : (Cond.selects "CarryShifts$Turned" ⟨"CarryShifts$Carrying", "sumOf", "(I)I"⟩ ⟨"CarryShifts$Turned", "sumOf", "(I)I"⟩) ∈ uw := tu (in_t2 (List.mem_of_getElem? (i := 144) rfl)) rfl
set_option maxRecDepth 100000 in
theorem tw_385 : (Cond.instanceMethod ⟨"CarryShifts$Turned", "sumOf", "(I)I"⟩) ∈ uw := tu (in_t2 (List.mem_of_getElem? (i := 145) rfl)) rfl
set_option maxRecDepth 100000 in
theorem tw_386 : (Cond.code ⟨"CarryShifts$Turned", "sumOf", "(I)I"⟩ prog_11_method_2_code (2 : Nat) (Option.some FieldType.int)) ∈ uw := tu (in_t2 (List.mem_of_getElem? (i := 146) rfl)) rfl
set_option maxRecDepth 100000 in
theorem tw_387 : (Cond.code ⟨"CarryShifts$Carrying", "sumOf", "(I)I"⟩ prog_3_method_6_code (2 : Nat) (Option.some FieldType.int)) ∈ uw := tu (in_t2 (List.mem_of_getElem? (i := 147) rfl)) rfl
set_option maxRecDepth 100000 in
theorem tw_388 : (Cond.methodLink "CarryShifts$Carrying" (41 : Nat) ⟨"CarryShifts$Carrying", "carriedOf", "(I)I"⟩) ∈ uw := tu (in_t2 (List.mem_of_getElem? (i := 148) rfl)) rfl
set_option maxRecDepth 100000 in
theorem tw_389 : (Cond.instanceMethod ⟨"CarryShifts$Carrying", "carriedOf", "(I)I"⟩) ∈ uw := tu (in_t2 (List.mem_of_getElem? (i := 149) rfl)) rfl
set_option maxRecDepth 100000 in
theorem tw_390 : (Cond.selects "CarryShifts$Carrying" ⟨"CarryShifts$Carrying", "carriedOf", "(I)I"⟩ ⟨"CarryShifts$Carrying", "carriedOf", "(I)I"⟩) ∈ uw := tu (in_t2 (List.mem_of_getElem? (i := 150) rfl)) rfl
set_option maxRecDepth 100000 in
theorem tw_391 : (Cond.sameMethod "CarryShifts$Carrying" "CarryShifts$Carrying" "carriedOf" "(I)I") ∈ uw := tu (in_t2 (List.mem_of_getElem? (i := 151) rfl)) rfl
set_option maxRecDepth 100000 in
theorem tw_392 : (Cond.selects "CarryShifts$Borrowing" ⟨"CarryShifts$Carrying", "carriedOf", "(I)I"⟩ ⟨"CarryShifts$Carrying", "carriedOf", "(I)I"⟩) ∈ uw := tu (in_t2 (List.mem_of_getElem? (i := 152) rfl)) rfl
set_option maxRecDepth 100000 in
theorem tw_393 : (Cond.selects "CarryShifts$Held" ⟨"CarryShifts$Carrying", "carriedOf", "(I)I"⟩ ⟨"CarryShifts$Held", "carriedOf", "(I)I"⟩) ∈ uw := tu (in_t2 (List.mem_of_getElem? (i := 153) rfl)) rfl
set_option maxRecDepth 100000 in
theorem tw_394 : (Cond.instanceMethod ⟨"CarryShifts$Held", "carriedOf", "(I)I"⟩) ∈ uw := tu (in_t2 (List.mem_of_getElem? (i := 154) rfl)) rfl
set_option maxRecDepth 100000 in
theorem tw_395 : (Cond.code ⟨"CarryShifts$Held", "carriedOf", "(I)I"⟩ prog_4_method_2_code (2 : Nat) (Option.some FieldType.int)) ∈ uw := tu (in_t2 (List.mem_of_getElem? (i := 155) rfl)) rfl
set_option maxRecDepth 100000 in
theorem tw_396 : (Cond.methodLink "CarryShifts$Held" (15 : Nat) ⟨"java/lang/Math", "min", "(II)I"⟩) ∈ uw := tu (in_t2 (List.mem_of_getElem? (i := 156) rfl)) rfl
set_option maxRecDepth 100000 in
theorem tw_397 : (Cond.static ⟨"java/lang/Math", "min", "(II)I"⟩) ∈ uw := tu (in_t2 (List.mem_of_getElem? (i := 157) rfl)) rfl
set_option maxRecDepth 100000 in
theorem tw_398 : (Cond.code ⟨"java/lang/Math", "min", "(II)I"⟩ prog_16_method_69_code (2 : Nat) (Option.some FieldType.int)) ∈ uw := tu (in_t2 (List.mem_of_getElem? (i := 158) rfl)) rfl
set_option maxRecDepth 100000 in
theorem tw_399 : (Cond.selects "CarryShifts$Linear" ⟨"CarryShifts$Carrying", "carriedOf", "(I)I"⟩ ⟨"CarryShifts$Linear", "carriedOf", "(I)I"⟩) ∈ uw := tu (in_t2 (List.mem_of_getElem? (i := 159) rfl)) rfl
set_option maxRecDepth 100000 in
theorem tw_400 : (Cond.instanceMethod ⟨"CarryShifts$Linear", "carriedOf", "(I)I"⟩) ∈ uw := tu (in_t2 (List.mem_of_getElem? (i := 160) rfl)) rfl
set_option maxRecDepth 100000 in
theorem tw_401 : (Cond.code ⟨"CarryShifts$Linear", "carriedOf", "(I)I"⟩ prog_7_method_3_code (2 : Nat) (Option.some FieldType.int)) ∈ uw := tu (in_t2 (List.mem_of_getElem? (i := 161) rfl)) rfl
set_option maxRecDepth 100000 in
theorem tw_402 : (Cond.selects "CarryShifts$Ring" ⟨"CarryShifts$Carrying", "carriedOf", "(I)I"⟩ ⟨"CarryShifts$Carrying", "carriedOf", "(I)I"⟩) ∈ uw := tu (in_t2 (List.mem_of_getElem? (i := 162) rfl)) rfl
set_option maxRecDepth 100000 in
theorem tw_403 : (Cond.selects "CarryShifts$Turned" ⟨"CarryShifts$Carrying", "carriedOf", "(I)I"⟩ ⟨"CarryShifts$Linear", "carriedOf", "(I)I"⟩) ∈ uw := tu (in_t2 (List.mem_of_getElem? (i := 163) rfl)) rfl
set_option maxRecDepth 100000 in
theorem tw_404 : (Cond.code ⟨"CarryShifts$Carrying", "carriedOf", "(I)I"⟩ prog_3_method_7_code (2 : Nat) (Option.some FieldType.int)) ∈ uw := tu (in_t2 (List.mem_of_getElem? (i := 164) rfl)) rfl
set_option maxRecDepth 100000 in
theorem tw_405 : (Cond.methodLink "CarryShiftsLaw" (41 : Nat) ⟨"CarryShifts", "then", "(III)I"⟩) ∈ uw := tu (in_t2 (List.mem_of_getElem? (i := 165) rfl)) rfl
set_option maxRecDepth 100000 in
theorem tw_406 : (Cond.instanceMethod ⟨"CarryShifts", "then", "(III)I"⟩) ∈ uw := tu (in_t2 (List.mem_of_getElem? (i := 166) rfl)) rfl
set_option maxRecDepth 100000 in
theorem tw_407 : (Cond.selects "CarryShifts" ⟨"CarryShifts", "then", "(III)I"⟩ ⟨"CarryShifts", "then", "(III)I"⟩) ∈ uw := tu (in_t2 (List.mem_of_getElem? (i := 167) rfl)) rfl
set_option maxRecDepth 100000 in
theorem tw_408 : (Cond.code ⟨"CarryShifts", "then", "(III)I"⟩ prog_1_method_8_code (6 : Nat) (Option.some FieldType.int)) ∈ uw := tu (in_t2 (List.mem_of_getElem? (i := 168) rfl)) rfl
set_option maxRecDepth 100000 in
theorem tw_409 : (Cond.methodLink "CarryShifts" (114 : Nat) ⟨"CarryShifts", "thoughtOf", "(LCarryShifts$Carrying;)LCarryShifts$Carrying;"⟩) ∈ uw := tu (in_t2 (List.mem_of_getElem? (i := 169) rfl)) rfl
set_option maxRecDepth 100000 in
theorem tw_410 : (Cond.static ⟨"CarryShifts", "thoughtOf", "(LCarryShifts$Carrying;)LCarryShifts$Carrying;"⟩) ∈ uw := tu (in_t2 (List.mem_of_getElem? (i := 170) rfl)) rfl
set_option maxRecDepth 100000 in
theorem tw_411 : (Cond.code ⟨"CarryShifts", "thoughtOf", "(LCarryShifts$Carrying;)LCarryShifts$Carrying;"⟩ prog_1_method_40_code (1 : Nat) (Option.some (FieldType.object "CarryShifts$Carrying"))) ∈ uw := tu (in_t2 (List.mem_of_getElem? (i := 171) rfl)) rfl
set_option maxRecDepth 100000 in
theorem tw_412 : (Cond.methodLink "CarryShiftsLaw" (45 : Nat) ⟨"CarryShifts", "film", "(III)I"⟩) ∈ uw := tu (in_t2 (List.mem_of_getElem? (i := 172) rfl)) rfl
set_option maxRecDepth 100000 in
theorem tw_413 : (Cond.instanceMethod ⟨"CarryShifts", "film", "(III)I"⟩) ∈ uw := tu (in_t2 (List.mem_of_getElem? (i := 173) rfl)) rfl
set_option maxRecDepth 100000 in
theorem tw_414 : (Cond.selects "CarryShifts" ⟨"CarryShifts", "film", "(III)I"⟩ ⟨"CarryShifts", "film", "(III)I"⟩) ∈ uw := tu (in_t2 (List.mem_of_getElem? (i := 174) rfl)) rfl
set_option maxRecDepth 100000 in
theorem tw_415 : (Cond.code ⟨"CarryShifts", "film", "(III)I"⟩ prog_1_method_9_code (6 : Nat) (Option.some FieldType.int)) ∈ uw := tu (in_t2 (List.mem_of_getElem? (i := 175) rfl)) rfl
set_option maxRecDepth 100000 in
theorem tw_416 : (Cond.methodLink "CarryShifts" (118 : Nat) ⟨"CarryShifts", "sheetAt", "(I)LCarryShifts$Sheet;"⟩) ∈ uw := tu (in_t2 (List.mem_of_getElem? (i := 176) rfl)) rfl
set_option maxRecDepth 100000 in
theorem tw_417 : (Cond.privateMethod ⟨"CarryShifts", "sheetAt", "(I)LCarryShifts$Sheet;"⟩) ∈ lw_tbl := in_t2 (List.mem_of_getElem? (i := 177) rfl)
set_option maxRecDepth 100000 in
theorem tw_418 : (Cond.instanceMethod ⟨"CarryShifts", "sheetAt", "(I)LCarryShifts$Sheet;"⟩) ∈ uw := tu (in_t2 (List.mem_of_getElem? (i := 178) rfl)) rfl
set_option maxRecDepth 100000 in
theorem tw_419 : (Cond.code ⟨"CarryShifts", "sheetAt", "(I)LCarryShifts$Sheet;"⟩ prog_1_method_59_code (2 : Nat) (Option.some (FieldType.object "CarryShifts$Sheet"))) ∈ uw := tu (in_t2 (List.mem_of_getElem? (i := 179) rfl)) rfl
set_option maxRecDepth 100000 in
theorem tw_420 : (Cond.methodLink "CarryShifts" (122 : Nat) ⟨"CarryShifts$Sheet", "becomeRow", "(JI)V"⟩) ∈ uw := tu (in_t2 (List.mem_of_getElem? (i := 180) rfl)) rfl
set_option maxRecDepth 100000 in
theorem tw_421 : (Cond.instanceMethod ⟨"CarryShifts$Sheet", "becomeRow", "(JI)V"⟩) ∈ uw := tu (in_t2 (List.mem_of_getElem? (i := 181) rfl)) rfl
set_option maxRecDepth 100000 in
theorem tw_422 : (Cond.selects "CarryShifts$Sheet" ⟨"CarryShifts$Sheet", "becomeRow", "(JI)V"⟩ ⟨"CarryShifts$Sheet", "becomeRow", "(JI)V"⟩) ∈ uw := tu (in_t2 (List.mem_of_getElem? (i := 182) rfl)) rfl
set_option maxRecDepth 100000 in
theorem tw_423 : (Cond.code ⟨"CarryShifts$Sheet", "becomeRow", "(JI)V"⟩ prog_10_method_5_code (5 : Nat) (Option.none : Option FieldType)) ∈ uw := tu (in_t2 (List.mem_of_getElem? (i := 183) rfl)) rfl
set_option maxRecDepth 100000 in
theorem tw_424 : (Cond.methodLink "CarryShifts$Sheet" (28 : Nat) ⟨"CarryShifts$Sheet", "become", "(II)V"⟩) ∈ uw := tu (in_t2 (List.mem_of_getElem? (i := 184) rfl)) rfl
set_option maxRecDepth 100000 in
theorem tw_425 : (Cond.instanceMethod ⟨"CarryShifts$Sheet", "become", "(II)V"⟩) ∈ uw := tu (in_t2 (List.mem_of_getElem? (i := 185) rfl)) rfl
set_option maxRecDepth 100000 in
theorem tw_426 : (Cond.selects "CarryShifts$Sheet" ⟨"CarryShifts$Sheet", "become", "(II)V"⟩ ⟨"CarryShifts$Sheet", "become", "(II)V"⟩) ∈ uw := tu (in_t2 (List.mem_of_getElem? (i := 186) rfl)) rfl
set_option maxRecDepth 100000 in
theorem tw_427 : (Cond.code ⟨"CarryShifts$Sheet", "become", "(II)V"⟩ prog_10_method_4_code (4 : Nat) (Option.none : Option FieldType)) ∈ uw := tu (in_t2 (List.mem_of_getElem? (i := 187) rfl)) rfl
set_option maxRecDepth 100000 in
theorem tw_428 : (Cond.methodLink "CarryShifts$Sheet" (22 : Nat) ⟨"java/lang/Math", "min", "(II)I"⟩) ∈ uw := tu (in_t2 (List.mem_of_getElem? (i := 188) rfl)) rfl
set_option maxRecDepth 100000 in
theorem tw_429 : (Cond.methodLink "CarryShiftsLaw" (49 : Nat) ⟨"CarryShifts", "mix", "(IIII)I"⟩) ∈ uw := tu (in_t2 (List.mem_of_getElem? (i := 189) rfl)) rfl
set_option maxRecDepth 100000 in
theorem tw_430 : (Cond.instanceMethod ⟨"CarryShifts", "mix", "(IIII)I"⟩) ∈ uw := tu (in_t2 (List.mem_of_getElem? (i := 190) rfl)) rfl
set_option maxRecDepth 100000 in
theorem tw_431 : (Cond.selects "CarryShifts" ⟨"CarryShifts", "mix", "(IIII)I"⟩ ⟨"CarryShifts", "mix", "(IIII)I"⟩) ∈ uw := tu (in_t2 (List.mem_of_getElem? (i := 191) rfl)) rfl
set_option maxRecDepth 100000 in
theorem tw_432 : (Cond.code ⟨"CarryShifts", "mix", "(IIII)I"⟩ prog_1_method_10_code (11 : Nat) (Option.some FieldType.int)) ∈ uw := tu (in_t2 (List.mem_of_getElem? (i := 192) rfl)) rfl
set_option maxRecDepth 100000 in
theorem tw_433 : (Cond.methodLink "CarryShifts" (126 : Nat) ⟨"CarryShifts", "tellAll", "(I)V"⟩) ∈ uw := tu (in_t2 (List.mem_of_getElem? (i := 193) rfl)) rfl
set_option maxRecDepth 100000 in
theorem tw_434 : (Cond.privateMethod ⟨"CarryShifts", "tellAll", "(I)V"⟩) ∈ lw_tbl := in_t2 (List.mem_of_getElem? (i := 194) rfl)
set_option maxRecDepth 100000 in
theorem tw_435 : (Cond.instanceMethod ⟨"CarryShifts", "tellAll", "(I)V"⟩) ∈ uw := tu (in_t2 (List.mem_of_getElem? (i := 195) rfl)) rfl
set_option maxRecDepth 100000 in
theorem tw_436 : (Cond.code ⟨"CarryShifts", "tellAll", "(I)V"⟩ prog_1_method_50_code (4 : Nat) (Option.none : Option FieldType)) ∈ uw := tu (in_t2 (List.mem_of_getElem? (i := 196) rfl)) rfl
set_option maxRecDepth 100000 in
theorem tw_437 : (Cond.methodLink "CarryShifts" (130 : Nat) ⟨"CarryShifts", "toldTogether", "(II)I"⟩) ∈ uw := tu (in_t2 (List.mem_of_getElem? (i := 197) rfl)) rfl
set_option maxRecDepth 100000 in
theorem tw_438 : (Cond.privateMethod ⟨"CarryShifts", "toldTogether", "(II)I"⟩) ∈ lw_tbl := in_t2 (List.mem_of_getElem? (i := 198) rfl)
set_option maxRecDepth 100000 in
theorem tw_439 : (Cond.instanceMethod ⟨"CarryShifts", "toldTogether", "(II)I"⟩) ∈ uw := tu (in_t2 (List.mem_of_getElem? (i := 199) rfl)) rfl
set_option maxRecDepth 100000 in
theorem tw_440 : (Cond.code ⟨"CarryShifts", "toldTogether", "(II)I"⟩ prog_1_method_51_code (5 : Nat) (Option.some FieldType.int)) ∈ uw := tu (in_t2 (List.mem_of_getElem? (i := 200) rfl)) rfl
set_option maxRecDepth 100000 in
theorem tw_441 : (Cond.methodLink "CarryShiftsLaw" (53 : Nat) ⟨"CarryShifts", "number", "(I)J"⟩) ∈ uw := tu (in_t2 (List.mem_of_getElem? (i := 201) rfl)) rfl
set_option maxRecDepth 100000 in
theorem tw_442 : (Cond.instanceMethod ⟨"CarryShifts", "number", "(I)J"⟩) ∈ uw := tu (in_t2 (List.mem_of_getElem? (i := 202) rfl)) rfl
set_option maxRecDepth 100000 in
theorem tw_443 : (Cond.selects "CarryShifts" ⟨"CarryShifts", "number", "(I)J"⟩ ⟨"CarryShifts", "number", "(I)J"⟩) ∈ uw := tu (in_t2 (List.mem_of_getElem? (i := 203) rfl)) rfl
set_option maxRecDepth 100000 in
theorem tw_444 : (Cond.code ⟨"CarryShifts", "number", "(I)J"⟩ prog_1_method_11_code (3 : Nat) (Option.some FieldType.long)) ∈ uw := tu (in_t2 (List.mem_of_getElem? (i := 204) rfl)) rfl
set_option maxRecDepth 100000 in
theorem tw_445 : (Cond.methodLink "CarryShifts" (134 : Nat) ⟨"CarryShifts$Sheet", "isMissing", "()Z"⟩) ∈ uw := tu (in_t2 (List.mem_of_getElem? (i := 205) rfl)) rfl
set_option maxRecDepth 100000 in
theorem tw_446 : (Cond.instanceMethod ⟨"CarryShifts$Sheet", "isMissing", "()Z"⟩) ∈ uw := tu (in_t2 (List.mem_of_getElem? (i := 206) rfl)) rfl
set_option maxRecDepth 100000 in
theorem tw_447 : (Cond.selects "CarryShifts$Sheet" ⟨"CarryShifts$Sheet", "isMissing", "()Z"⟩ ⟨"CarryShifts$Sheet", "isMissing", "()Z"⟩) ∈ uw := tu (in_t2 (List.mem_of_getElem? (i := 207) rfl)) rfl
set_option maxRecDepth 100000 in
theorem tw_448 : (Cond.code ⟨"CarryShifts$Sheet", "isMissing", "()Z"⟩ prog_10_method_2_code (1 : Nat) (Option.some FieldType.boolean)) ∈ uw := tu (in_t2 (List.mem_of_getElem? (i := 208) rfl)) rfl
set_option maxRecDepth 100000 in
theorem tw_449 : (Cond.constantLong "CarryShifts" (138 : Nat) (-9223372036854775808 : Int64)) ∈ uw := tu (in_t2 (List.mem_of_getElem? (i := 209) rfl)) rfl
set_option maxRecDepth 100000 in
theorem tw_450 : (Cond.methodLink "CarryShifts" (140 : Nat) ⟨"CarryShifts$Sheet", "bits", "()J"⟩) ∈ uw := tu (in_t2 (List.mem_of_getElem? (i := 210) rfl)) rfl
set_option maxRecDepth 100000 in
theorem tw_451 : (Cond.instanceMethod ⟨"CarryShifts$Sheet", "bits", "()J"⟩) ∈ uw := tu (in_t2 (List.mem_of_getElem? (i := 211) rfl)) rfl
set_option maxRecDepth 100000 in
theorem tw_452 : (Cond.selects "CarryShifts$Sheet" ⟨"CarryShifts$Sheet", "bits", "()J"⟩ ⟨"CarryShifts$Sheet", "bits", "()J"⟩) ∈ uw := tu (in_t2 (List.mem_of_getElem? (i := 212) rfl)) rfl
set_option maxRecDepth 100000 in
theorem tw_453 : (Cond.code ⟨"CarryShifts$Sheet", "bits", "()J"⟩ prog_10_method_6_code (4 : Nat) (Option.some FieldType.long)) ∈ uw := tu (in_t2 (List.mem_of_getElem? (i := 213) rfl)) rfl
set_option maxRecDepth 100000 in
theorem tw_454 : (Cond.methodLink "CarryShiftsLaw" (58 : Nat) ⟨"CarryShifts", "expand", "(IIII)I"⟩) ∈ uw := tu (in_t2 (List.mem_of_getElem? (i := 214) rfl)) rfl
set_option maxRecDepth 100000 in
theorem tw_455 : (Cond.instanceMethod ⟨"CarryShifts", "expand", "(IIII)I"⟩) ∈ uw := tu (in_t2 (List.mem_of_getElem? (i := 215) rfl)) rfl
set_option maxRecDepth 100000 in
theorem tw_456 : (Cond.selects "CarryShifts" ⟨"CarryShifts", "expand", "(IIII)I"⟩ ⟨"CarryShifts", "expand", "(IIII)I"⟩) ∈ uw := tu (in_t2 (List.mem_of_getElem? (i := 216) rfl)) rfl
set_option maxRecDepth 100000 in
theorem tw_457 : (Cond.code ⟨"CarryShifts", "expand", "(IIII)I"⟩ prog_1_method_12_code (6 : Nat) (Option.some FieldType.int)) ∈ uw := tu (in_t2 (List.mem_of_getElem? (i := 217) rfl)) rfl
set_option maxRecDepth 100000 in
theorem tw_458 : (Cond.methodLink "CarryShifts" (144 : Nat) ⟨"CarryShifts", "isFraction", "(II)Z"⟩) ∈ uw := tu (in_t2 (List.mem_of_getElem? (i := 218) rfl)) rfl
set_option maxRecDepth 100000 in
theorem tw_459 : (Cond.static ⟨"CarryShifts", "isFraction", "(II)Z"⟩) ∈ uw := tu (in_t2 (List.mem_of_getElem? (i := 219) rfl)) rfl
set_option maxRecDepth 100000 in
theorem tw_460 : (Cond.code ⟨"CarryShifts", "isFraction", "(II)Z"⟩ prog_1_method_60_code (2 : Nat) (Option.some FieldType.boolean)) ∈ uw := tu (in_t2 (List.mem_of_getElem? (i := 220) rfl)) rfl
set_option maxRecDepth 100000 in
theorem tw_461 : (Cond.methodLink "CarryShifts" (148 : Nat) ⟨"CarryShifts", "firstDigits", "(JJI)J"⟩) ∈ uw := tu (in_t2 (List.mem_of_getElem? (i := 221) rfl)) rfl
set_option maxRecDepth 100000 in
theorem tw_462 : (Cond.static ⟨"CarryShifts", "firstDigits", "(JJI)J"⟩) ∈ uw := tu (in_t2 (List.mem_of_getElem? (i := 222) rfl)) rfl
set_option maxRecDepth 100000 in
theorem tw_463 : (Cond.code ⟨"CarryShifts", "firstDigits", "(JJI)J"⟩ prog_1_method_62_code (10 : Nat) (Option.some FieldType.long)) ∈ uw := tu (in_t2 (List.mem_of_getElem? (i := 223) rfl)) rfl
set_option maxRecDepth 100000 in
theorem tw_464 : (Cond.methodLink "CarryShifts" (153 : Nat) ⟨"CarryShifts", "behindDigit", "(JJ)J"⟩) ∈ uw := tu (in_t2 (List.mem_of_getElem? (i := 224) rfl)) rfl
set_option maxRecDepth 100000 in
theorem tw_465 : (Cond.static ⟨"CarryShifts", "behindDigit", "(JJ)J"⟩) ∈ uw := tu (in_t2 (List.mem_of_getElem? (i := 225) rfl)) rfl
set_option maxRecDepth 100000 in
theorem tw_466 : (Cond.code ⟨"CarryShifts", "behindDigit", "(JJ)J"⟩ prog_1_method_61_code (4 : Nat) (Option.some FieldType.long)) ∈ uw := tu (in_t2 (List.mem_of_getElem? (i := 226) rfl)) rfl
set_option maxRecDepth 100000 in
theorem tw_467 : (Cond.methodLink "CarryShiftsLaw" (62 : Nat) ⟨"CarryShifts", "period", "(III)I"⟩) ∈ uw := tu (in_t2 (List.mem_of_getElem? (i := 227) rfl)) rfl
set_option maxRecDepth 100000 in
theorem tw_468 : (Cond.instanceMethod ⟨"CarryShifts", "period", "(III)I"⟩) ∈ uw := tu (in_t2 (List.mem_of_getElem? (i := 228) rfl)) rfl
set_option maxRecDepth 100000 in
theorem tw_469 : (Cond.selects "CarryShifts" ⟨"CarryShifts", "period", "(III)I"⟩ ⟨"CarryShifts", "period", "(III)I"⟩) ∈ uw := tu (in_t2 (List.mem_of_getElem? (i := 229) rfl)) rfl
set_option maxRecDepth 100000 in
theorem tw_470 : (Cond.code ⟨"CarryShifts", "period", "(III)I"⟩ prog_1_method_13_code (7 : Nat) (Option.some FieldType.int)) ∈ uw := tu (in_t2 (List.mem_of_getElem? (i := 230) rfl)) rfl
set_option maxRecDepth 100000 in
theorem tw_471 : (Cond.constant "CarryShifts" (152 : Nat) (1000000 : Int32)) ∈ uw := tu (in_t2 (List.mem_of_getElem? (i := 231) rfl)) rfl
set_option maxRecDepth 100000 in
theorem tw_472 : (Cond.methodLink "CarryShifts" (157 : Nat) ⟨"CarryShifts", "digitsRound", "(JJ)I"⟩) ∈ uw := tu (in_t2 (List.mem_of_getElem? (i := 232) rfl)) rfl
set_option maxRecDepth 100000 in
theorem tw_473 : (Cond.static ⟨"CarryShifts", "digitsRound", "(JJ)I"⟩) ∈ uw := tu (in_t2 (List.mem_of_getElem? (i := 233) rfl)) rfl
set_option maxRecDepth 100000 in
theorem tw_474 : (Cond.code ⟨"CarryShifts", "digitsRound", "(JJ)I"⟩ prog_1_method_63_code (7 : Nat) (Option.some FieldType.int)) ∈ uw := tu (in_t2 (List.mem_of_getElem? (i := 234) rfl)) rfl
set_option maxRecDepth 100000 in
theorem tw_475 : (Cond.methodLink "CarryShiftsLaw" (66 : Nat) ⟨"CarryShifts", "fraction", "(II)J"⟩) ∈ uw := tu (in_t2 (List.mem_of_getElem? (i := 235) rfl)) rfl
set_option maxRecDepth 100000 in
theorem tw_476 : (Cond.instanceMethod ⟨"CarryShifts", "fraction", "(II)J"⟩) ∈ uw := tu (in_t2 (List.mem_of_getElem? (i := 236) rfl)) rfl
set_option maxRecDepth 100000 in
theorem tw_477 : (Cond.selects "CarryShifts" ⟨"CarryShifts", "fraction", "(II)J"⟩ ⟨"CarryShifts", "fraction", "(II)J"⟩) ∈ uw := tu (in_t2 (List.mem_of_getElem? (i := 237) rfl)) rfl
set_option maxRecDepth 100000 in
theorem tw_478 : (Cond.code ⟨"CarryShifts", "fraction", "(II)J"⟩ prog_1_method_14_code (4 : Nat) (Option.some FieldType.long)) ∈ uw := tu (in_t2 (List.mem_of_getElem? (i := 238) rfl)) rfl
set_option maxRecDepth 100000 in
theorem tw_479 : (Cond.methodLink "CarryShifts" (164 : Nat) ⟨"CarryShifts$Least", "find", "(JI)V"⟩) ∈ uw := tu (in_t2 (List.mem_of_getElem? (i := 239) rfl)) rfl
set_option maxRecDepth 100000 in
theorem tw_480 : (Cond.instanceMethod ⟨"CarryShifts$Least", "find", "(JI)V"⟩) ∈ uw := tu (in_t3 (List.mem_of_getElem? (i := 0) rfl)) rfl
set_option maxRecDepth 100000 in
theorem tw_481 : (Cond.selects "CarryShifts$Least" ⟨"CarryShifts$Least", "find", "(JI)V"⟩ ⟨"CarryShifts$Least", "find", "(JI)V"⟩) ∈ uw := tu (in_t3 (List.mem_of_getElem? (i := 1) rfl)) rfl
set_option maxRecDepth 100000 in
theorem tw_482 : (Cond.code ⟨"CarryShifts$Least", "find", "(JI)V"⟩ prog_6_method_2_code (4 : Nat) (Option.none : Option FieldType)) ∈ uw := tu (in_t3 (List.mem_of_getElem? (i := 2) rfl)) rfl
set_option maxRecDepth 100000 in
theorem tw_483 : (Cond.methodLink "CarryShifts$Least" (18 : Nat) ⟨"CarryShifts$Least", "shorten", "(JJ)V"⟩) ∈ uw := tu (in_t3 (List.mem_of_getElem? (i := 3) rfl)) rfl
set_option maxRecDepth 100000 in
theorem tw_484 : (Cond.privateMethod ⟨"CarryShifts$Least", "shorten", "(JJ)V"⟩) ∈ lw_tbl := in_t3 (List.mem_of_getElem? (i := 4) rfl)
set_option maxRecDepth 100000 in
theorem tw_485 : (Cond.instanceMethod ⟨"CarryShifts$Least", "shorten", "(JJ)V"⟩) ∈ uw := tu (in_t3 (List.mem_of_getElem? (i := 5) rfl)) rfl
set_option maxRecDepth 100000 in
theorem tw_486 : (Cond.code ⟨"CarryShifts$Least", "shorten", "(JJ)V"⟩ prog_6_method_4_code (12 : Nat) (Option.none : Option FieldType)) ∈ uw := tu (in_t3 (List.mem_of_getElem? (i := 6) rfl)) rfl
set_option maxRecDepth 100000 in
theorem tw_487 : (Cond.methodLink "CarryShifts$Least" (54 : Nat) ⟨"CarryShifts$Least", "swapIfLonger", "()V"⟩) ∈ uw := tu (in_t3 (List.mem_of_getElem? (i := 7) rfl)) rfl
set_option maxRecDepth 100000 in
theorem tw_488 : (Cond.privateMethod ⟨"CarryShifts$Least", "swapIfLonger", "()V"⟩) ∈ lw_tbl := in_t3 (List.mem_of_getElem? (i := 8) rfl)
set_option maxRecDepth 100000 in
theorem tw_489 : (Cond.instanceMethod ⟨"CarryShifts$Least", "swapIfLonger", "()V"⟩) ∈ uw := tu (in_t3 (List.mem_of_getElem? (i := 9) rfl)) rfl
set_option maxRecDepth 100000 in
theorem tw_490 : (Cond.code ⟨"CarryShifts$Least", "swapIfLonger", "()V"⟩ prog_6_method_5_code (9 : Nat) (Option.none : Option FieldType)) ∈ uw := tu (in_t3 (List.mem_of_getElem? (i := 10) rfl)) rfl
set_option maxRecDepth 100000 in
theorem tw_491 : (Cond.constantLong "CarryShifts$Least" (57 : Nat) (2 : Int64)) ∈ uw := tu (in_t3 (List.mem_of_getElem? (i := 11) rfl)) rfl
set_option maxRecDepth 100000 in
theorem tw_492 : (Cond.methodLink "CarryShifts$Least" (59 : Nat) ⟨"java/lang/Math", "floorDiv", "(JJ)J"⟩) ∈ uw := tu (in_t3 (List.mem_of_getElem? (i := 12) rfl)) rfl
set_option maxRecDepth 100000 in
theorem tw_493 : (Cond.static ⟨"java/lang/Math", "floorDiv", "(JJ)J"⟩) ∈ uw := tu (in_t3 (List.mem_of_getElem? (i := 13) rfl)) rfl
set_option maxRecDepth 100000 in
theorem tw_494 : (Cond.code ⟨"java/lang/Math", "floorDiv", "(JJ)J"⟩ prog_16_method_49_code (6 : Nat) (Option.some FieldType.long)) ∈ uw := tu (in_t3 (List.mem_of_getElem? (i := 14) rfl)) rfl
set_option maxRecDepth 100000 in
theorem tw_495 : (Cond.methodLink "CarryShifts$Least" (28 : Nat) ⟨"CarryShifts$Least", "offer", "(JJ)V"⟩) ∈ uw := tu (in_t3 (List.mem_of_getElem? (i := 15) rfl)) rfl
set_option maxRecDepth 100000 in
theorem tw_496 : (Cond.privateMethod ⟨"CarryShifts$Least", "offer", "(JJ)V"⟩) ∈ lw_tbl := in_t3 (List.mem_of_getElem? (i := 16) rfl)
set_option maxRecDepth 100000 in
theorem tw_497 : (Cond.instanceMethod ⟨"CarryShifts$Least", "offer", "(JJ)V"⟩) ∈ uw := tu (in_t3 (List.mem_of_getElem? (i := 17) rfl)) rfl
set_option maxRecDepth 100000 in
theorem tw_498 : (Cond.code ⟨"CarryShifts$Least", "offer", "(JJ)V"⟩ prog_6_method_8_code (9 : Nat) (Option.none : Option FieldType)) ∈ uw := tu (in_t3 (List.mem_of_getElem? (i := 18) rfl)) rfl
set_option maxRecDepth 100000 in
theorem tw_499 : (Cond.methodLink "CarryShifts$Least" (62 : Nat) ⟨"CarryShifts$Least", "isLess", "(JJ)Z"⟩) ∈ uw := tu (in_t3 (List.mem_of_getElem? (i := 19) rfl)) rfl
set_option maxRecDepth 100000 in
theorem tw_500 : (Cond.privateMethod ⟨"CarryShifts$Least", "isLess", "(JJ)Z"⟩) ∈ lw_tbl := in_t3 (List.mem_of_getElem? (i := 20) rfl)
set_option maxRecDepth 100000 in
theorem tw_501 : (Cond.instanceMethod ⟨"CarryShifts$Least", "isLess", "(JJ)Z"⟩) ∈ uw := tu (in_t3 (List.mem_of_getElem? (i := 21) rfl)) rfl
set_option maxRecDepth 100000 in
theorem tw_502 : (Cond.code ⟨"CarryShifts$Least", "isLess", "(JJ)Z"⟩ prog_6_method_9_code (7 : Nat) (Option.some FieldType.boolean)) ∈ uw := tu (in_t3 (List.mem_of_getElem? (i := 22) rfl)) rfl
set_option maxRecDepth 100000 in
theorem tw_503 : (Cond.methodLink "CarryShifts$Least" (45 : Nat) ⟨"java/lang/Math", "abs", "(J)J"⟩) ∈ uw := tu (in_t3 (List.mem_of_getElem? (i := 23) rfl)) rfl
set_option maxRecDepth 100000 in
theorem tw_504 : (Cond.static ⟨"java/lang/Math", "abs", "(J)J"⟩) ∈ uw := tu (in_t3 (List.mem_of_getElem? (i := 24) rfl)) rfl
set_option maxRecDepth 100000 in
theorem tw_505 : (Cond.code ⟨"java/lang/Math", "abs", "(J)J"⟩ prog_16_method_61_code (2 : Nat) (Option.some FieldType.long)) ∈ uw := tu (in_t3 (List.mem_of_getElem? (i := 25) rfl)) rfl
set_option maxRecDepth 100000 in
theorem tw_506 : (Cond.methodLink "CarryShifts$Least" (51 : Nat) ⟨"java/lang/Math", "max", "(JJ)J"⟩) ∈ uw := tu (in_t3 (List.mem_of_getElem? (i := 26) rfl)) rfl
set_option maxRecDepth 100000 in
theorem tw_507 : (Cond.static ⟨"java/lang/Math", "max", "(JJ)J"⟩) ∈ uw := tu (in_t3 (List.mem_of_getElem? (i := 27) rfl)) rfl
set_option maxRecDepth 100000 in
theorem tw_508 : (Cond.code ⟨"java/lang/Math", "max", "(JJ)J"⟩ prog_16_method_66_code (4 : Nat) (Option.some FieldType.long)) ∈ uw := tu (in_t3 (List.mem_of_getElem? (i := 28) rfl)) rfl
set_option maxRecDepth 100000 in
theorem tw_509 : (Cond.methodLink "CarryShifts$Least" (66 : Nat) ⟨"CarryShifts$Least", "greater", "()J"⟩) ∈ uw := tu (in_t3 (List.mem_of_getElem? (i := 29) rfl)) rfl
set_option maxRecDepth 100000 in
theorem tw_510 : (Cond.instanceMethod ⟨"CarryShifts$Least", "greater", "()J"⟩) ∈ uw := tu (in_t3 (List.mem_of_getElem? (i := 30) rfl)) rfl
set_option maxRecDepth 100000 in
theorem tw_511 : (Cond.selects "CarryShifts$Least" ⟨"CarryShifts$Least", "greater", "()J"⟩ ⟨"CarryShifts$Least", "greater", "()J"⟩) ∈ uw := tu (in_t3 (List.mem_of_getElem? (i := 31) rfl)) rfl
set_option maxRecDepth 100000 in
theorem tw_512 : (Cond.code ⟨"CarryShifts$Least", "greater", "()J"⟩ prog_6_method_3_code (1 : Nat) (Option.some FieldType.long)) ∈ uw := tu (in_t3 (List.mem_of_getElem? (i := 32) rfl)) rfl
set_option maxRecDepth 100000 in
theorem tw_513 : (Cond.methodLink "CarryShifts$Least" (31 : Nat) ⟨"CarryShifts$Least", "offerAround", "(J)V"⟩) ∈ uw := tu (in_t3 (List.mem_of_getElem? (i := 33) rfl)) rfl
set_option maxRecDepth 100000 in
theorem tw_514 : (Cond.privateMethod ⟨"CarryShifts$Least", "offerAround", "(J)V"⟩) ∈ lw_tbl := in_t3 (List.mem_of_getElem? (i := 34) rfl)
set_option maxRecDepth 100000 in
theorem tw_515 : (Cond.instanceMethod ⟨"CarryShifts$Least", "offerAround", "(J)V"⟩) ∈ uw := tu (in_t3 (List.mem_of_getElem? (i := 35) rfl)) rfl
set_option maxRecDepth 100000 in
theorem tw_516 : (Cond.code ⟨"CarryShifts$Least", "offerAround", "(J)V"⟩ prog_6_method_7_code (3 : Nat) (Option.none : Option FieldType)) ∈ uw := tu (in_t3 (List.mem_of_getElem? (i := 36) rfl)) rfl
set_option maxRecDepth 100000 in
theorem tw_517 : (Cond.methodLink "CarryShifts$Least" (41 : Nat) ⟨"CarryShifts$Least", "crossing", "(JJ)J"⟩) ∈ uw := tu (in_t3 (List.mem_of_getElem? (i := 37) rfl)) rfl
set_option maxRecDepth 100000 in
theorem tw_518 : (Cond.static ⟨"CarryShifts$Least", "crossing", "(JJ)J"⟩) ∈ uw := tu (in_t3 (List.mem_of_getElem? (i := 38) rfl)) rfl
set_option maxRecDepth 100000 in
theorem tw_519 : (Cond.code ⟨"CarryShifts$Least", "crossing", "(JJ)J"⟩ prog_6_method_6_code (4 : Nat) (Option.some FieldType.long)) ∈ uw := tu (in_t3 (List.mem_of_getElem? (i := 39) rfl)) rfl
set_option maxRecDepth 100000 in
theorem tw_520 : (Cond.methodLink "CarryShifts" (174 : Nat) ⟨"CarryShifts$Least", "greater", "()J"⟩) ∈ uw := tu (in_t3 (List.mem_of_getElem? (i := 40) rfl)) rfl
set_option maxRecDepth 100000 in
theorem tw_521 : (Cond.methodLink "CarryShifts" (177 : Nat) ⟨"CarryShifts", "binaryDigits", "(J)I"⟩) ∈ uw := tu (in_t3 (List.mem_of_getElem? (i := 41) rfl)) rfl
set_option maxRecDepth 100000 in
theorem tw_522 : (Cond.static ⟨"CarryShifts", "binaryDigits", "(J)I"⟩) ∈ uw := tu (in_t3 (List.mem_of_getElem? (i := 42) rfl)) rfl
set_option maxRecDepth 100000 in
theorem tw_523 : (Cond.code ⟨"CarryShifts", "binaryDigits", "(J)I"⟩ prog_1_method_64_code (2 : Nat) (Option.some FieldType.int)) ∈ uw := tu (in_t3 (List.mem_of_getElem? (i := 43) rfl)) rfl
set_option maxRecDepth 100000 in
theorem tw_524 : (Cond.methodLink "CarryShifts" (327 : Nat) ⟨"java/lang/Long", "numberOfLeadingZeros", "(J)I"⟩) ∈ uw := tu (in_t3 (List.mem_of_getElem? (i := 44) rfl)) rfl
set_option maxRecDepth 100000 in
theorem tw_525 : (Cond.static ⟨"java/lang/Long", "numberOfLeadingZeros", "(J)I"⟩) ∈ uw := tu (in_t3 (List.mem_of_getElem? (i := 45) rfl)) rfl
set_option maxRecDepth 100000 in
theorem tw_526 : (Cond.code ⟨"java/lang/Long", "numberOfLeadingZeros", "(J)I"⟩ prog_15_method_48_code (3 : Nat) (Option.some FieldType.int)) ∈ uw := tu (in_t3 (List.mem_of_getElem? (i := 46) rfl)) rfl
set_option maxRecDepth 100000 in
theorem tw_527 : (Cond.methodLink "java/lang/Long" (308 : Nat) ⟨"java/lang/Integer", "numberOfLeadingZeros", "(I)I"⟩) ∈ uw := tu (in_t3 (List.mem_of_getElem? (i := 47) rfl)) rfl
set_option maxRecDepth 100000 in
theorem tw_528 : (Cond.static ⟨"java/lang/Integer", "numberOfLeadingZeros", "(I)I"⟩) ∈ uw := tu (in_t3 (List.mem_of_getElem? (i := 48) rfl)) rfl
set_option maxRecDepth 100000 in
theorem tw_529 : (Cond.code ⟨"java/lang/Integer", "numberOfLeadingZeros", "(I)I"⟩ prog_14_method_47_code (2 : Nat) (Option.some FieldType.int)) ∈ uw := tu (in_t3 (List.mem_of_getElem? (i := 49) rfl)) rfl
set_option maxRecDepth 100000 in
theorem tw_530 : (Cond.constant "java/lang/Integer" (264 : Nat) (65536 : Int32)) ∈ uw := tu (in_t3 (List.mem_of_getElem? (i := 50) rfl)) rfl
set_option maxRecDepth 100000 in
theorem tw_531 : (Cond.methodLink "CarryShiftsLaw" (71 : Nat) ⟨"CarryShifts", "told", "(II)J"⟩) ∈ uw := tu (in_t3 (List.mem_of_getElem? (i := 51) rfl)) rfl
set_option maxRecDepth 100000 in
theorem tw_532 : (Cond.instanceMethod ⟨"CarryShifts", "told", "(II)J"⟩) ∈ uw := tu (in_t3 (List.mem_of_getElem? (i := 52) rfl)) rfl
set_option maxRecDepth 100000 in
theorem tw_533 : (Cond.selects "CarryShifts" ⟨"CarryShifts", "told", "(II)J"⟩ ⟨"CarryShifts", "told", "(II)J"⟩) ∈ uw := tu (in_t3 (List.mem_of_getElem? (i := 53) rfl)) rfl
set_option maxRecDepth 100000 in
theorem tw_534 : (Cond.code ⟨"CarryShifts", "told", "(II)J"⟩ prog_1_method_15_code (6 : Nat) (Option.some FieldType.long)) ∈ uw := tu (in_t3 (List.mem_of_getElem? (i := 54) rfl)) rfl
set_option maxRecDepth 100000 in
theorem tw_535 : (Cond.methodLink "CarryShifts" (181 : Nat) ⟨"CarryShifts", "aboveWithoutCarry", "(III)J"⟩) ∈ uw := tu (in_t3 (List.mem_of_getElem? (i := 55) rfl)) rfl
set_option maxRecDepth 100000 in
theorem tw_536 : (Cond.static ⟨"CarryShifts", "aboveWithoutCarry", "(III)J"⟩) ∈ uw := tu (in_t3 (List.mem_of_getElem? (i := 56) rfl)) rfl
set_option maxRecDepth 100000 in
theorem tw_537 : (Cond.code ⟨"CarryShifts", "aboveWithoutCarry", "(III)J"⟩ prog_1_method_67_code (6 : Nat) (Option.some FieldType.long)) ∈ uw := tu (in_t3 (List.mem_of_getElem? (i := 57) rfl)) rfl
set_option maxRecDepth 100000 in
theorem tw_538 : (Cond.methodLink "CarryShifts" (185 : Nat) ⟨"CarryShifts", "inLowestTerms", "(JJI)J"⟩) ∈ uw := tu (in_t3 (List.mem_of_getElem? (i := 58) rfl)) rfl
set_option maxRecDepth 100000 in
theorem tw_539 : (Cond.static ⟨"CarryShifts", "inLowestTerms", "(JJI)J"⟩) ∈ uw := tu (in_t3 (List.mem_of_getElem? (i := 59) rfl)) rfl
set_option maxRecDepth 100000 in
theorem tw_540 : (Cond.code ⟨"CarryShifts", "inLowestTerms", "(JJI)J"⟩ prog_1_method_66_code (9 : Nat) (Option.some FieldType.long)) ∈ uw := tu (in_t3 (List.mem_of_getElem? (i := 60) rfl)) rfl
set_option maxRecDepth 100000 in
theorem tw_541 : (Cond.methodLink "CarryShifts" (330 : Nat) ⟨"java/lang/Math", "abs", "(J)J"⟩) ∈ uw := tu (in_t3 (List.mem_of_getElem? (i := 61) rfl)) rfl
set_option maxRecDepth 100000 in
theorem tw_542 : (Cond.methodLink "CarryShifts" (336 : Nat) ⟨"CarryShifts", "commonDivisor", "(JJ)J"⟩) ∈ uw := tu (in_t3 (List.mem_of_getElem? (i := 62) rfl)) rfl
set_option maxRecDepth 100000 in
theorem tw_543 : (Cond.static ⟨"CarryShifts", "commonDivisor", "(JJ)J"⟩) ∈ uw := tu (in_t3 (List.mem_of_getElem? (i := 63) rfl)) rfl
set_option maxRecDepth 100000 in
theorem tw_544 : (Cond.code ⟨"CarryShifts", "commonDivisor", "(JJ)J"⟩ prog_1_method_65_code (11 : Nat) (Option.some FieldType.long)) ∈ uw := tu (in_t3 (List.mem_of_getElem? (i := 64) rfl)) rfl
set_option maxRecDepth 100000 in
theorem tw_545 : (Cond.methodLink "CarryShiftsLaw" (75 : Nat) ⟨"CarryShifts", "build", "(I)I"⟩) ∈ uw := tu (in_t3 (List.mem_of_getElem? (i := 65) rfl)) rfl
set_option maxRecDepth 100000 in
theorem tw_546 : (Cond.instanceMethod ⟨"CarryShifts", "build", "(I)I"⟩) ∈ uw := tu (in_t3 (List.mem_of_getElem? (i := 66) rfl)) rfl
set_option maxRecDepth 100000 in
theorem tw_547 : (Cond.selects "CarryShifts" ⟨"CarryShifts", "build", "(I)I"⟩ ⟨"CarryShifts", "build", "(I)I"⟩) ∈ uw := tu (in_t3 (List.mem_of_getElem? (i := 67) rfl)) rfl
set_option maxRecDepth 100000 in
theorem tw_548 : (Cond.code ⟨"CarryShifts", "build", "(I)I"⟩ prog_1_method_16_code (3 : Nat) (Option.some FieldType.int)) ∈ uw := tu (in_t3 (List.mem_of_getElem? (i := 68) rfl)) rfl
set_option maxRecDepth 100000 in
theorem tw_549 : (Cond.methodLink "CarryShifts" (188 : Nat) ⟨"CarryShifts", "buildFrom", "(JJ)I"⟩) ∈ uw := tu (in_t3 (List.mem_of_getElem? (i := 69) rfl)) rfl
set_option maxRecDepth 100000 in
theorem tw_550 : (Cond.privateMethod ⟨"CarryShifts", "buildFrom", "(JJ)I"⟩) ∈ lw_tbl := in_t3 (List.mem_of_getElem? (i := 70) rfl)
set_option maxRecDepth 100000 in
theorem tw_551 : (Cond.instanceMethod ⟨"CarryShifts", "buildFrom", "(JJ)I"⟩) ∈ uw := tu (in_t3 (List.mem_of_getElem? (i := 71) rfl)) rfl
set_option maxRecDepth 100000 in
theorem tw_552 : (Cond.code ⟨"CarryShifts", "buildFrom", "(JJ)I"⟩ prog_1_method_68_code (10 : Nat) (Option.some FieldType.int)) ∈ uw := tu (in_t3 (List.mem_of_getElem? (i := 72) rfl)) rfl
set_option maxRecDepth 100000 in
theorem tw_553 : (Cond.constantLong "CarryShifts" (339 : Nat) (-9 : Int64)) ∈ uw := tu (in_t3 (List.mem_of_getElem? (i := 73) rfl)) rfl
set_option maxRecDepth 100000 in
theorem tw_554 : (Cond.constantLong "CarryShifts" (341 : Nat) (9 : Int64)) ∈ uw := tu (in_t3 (List.mem_of_getElem? (i := 74) rfl)) rfl
set_option maxRecDepth 100000 in
theorem tw_555 : (Cond.methodLink "CarryShiftsLaw" (80 : Nat) ⟨"CarryShifts", "cycle", "(II)I"⟩) ∈ uw := tu (in_t3 (List.mem_of_getElem? (i := 75) rfl)) rfl
set_option maxRecDepth 100000 in
theorem tw_556 : (Cond.instanceMethod ⟨"CarryShifts", "cycle", "(II)I"⟩) ∈ uw := tu (in_t3 (List.mem_of_getElem? (i := 76) rfl)) rfl
set_option maxRecDepth 100000 in
theorem tw_557 : (Cond.selects "CarryShifts" ⟨"CarryShifts", "cycle", "(II)I"⟩ ⟨"CarryShifts", "cycle", "(II)I"⟩) ∈ uw := tu (in_t3 (List.mem_of_getElem? (i := 77) rfl)) rfl
set_option maxRecDepth 100000 in
theorem tw_558 : (Cond.code ⟨"CarryShifts", "cycle", "(II)I"⟩ prog_1_method_17_code (5 : Nat) (Option.some FieldType.int)) ∈ uw := tu (in_t3 (List.mem_of_getElem? (i := 78) rfl)) rfl
set_option maxRecDepth 100000 in
theorem tw_559 : (Cond.methodLink "CarryShifts" (191 : Nat) ⟨"CarryShifts", "stepsRound", "(LCarryShifts$Carrying;)I"⟩) ∈ uw := tu (in_t3 (List.mem_of_getElem? (i := 79) rfl)) rfl
set_option maxRecDepth 100000 in
theorem tw_560 : (Cond.static ⟨"CarryShifts", "stepsRound", "(LCarryShifts$Carrying;)I"⟩) ∈ uw := tu (in_t3 (List.mem_of_getElem? (i := 80) rfl)) rfl
set_option maxRecDepth 100000 in
theorem tw_561 : (Cond.code ⟨"CarryShifts", "stepsRound", "(LCarryShifts$Carrying;)I"⟩ prog_1_method_52_code (6 : Nat) (Option.some FieldType.int)) ∈ uw := tu (in_t3 (List.mem_of_getElem? (i := 81) rfl)) rfl
set_option maxRecDepth 100000 in
theorem tw_562 : (Cond.methodLink "CarryShifts" (316 : Nat) ⟨"CarryShifts$Carrying", "standsAs", "(LCarryShifts$Carrying;)Z"⟩) ∈ uw := tu (in_t3 (List.mem_of_getElem? (i := 82) rfl)) rfl
set_option maxRecDepth 100000 in
theorem tw_563 : (Cond.instanceMethod ⟨"CarryShifts$Carrying", "standsAs", "(LCarryShifts$Carrying;)Z"⟩) ∈ uw := tu (in_t3 (List.mem_of_getElem? (i := 83) rfl)) rfl
set_option maxRecDepth 100000 in
theorem tw_564 : (Cond.selects "CarryShifts$Carrying" ⟨"CarryShifts$Carrying", "standsAs", "(LCarryShifts$Carrying;)Z"⟩ ⟨"CarryShifts$Carrying", "standsAs", "(LCarryShifts$Carrying;)Z"⟩) ∈ uw := tu (in_t3 (List.mem_of_getElem? (i := 84) rfl)) rfl
set_option maxRecDepth 100000 in
theorem tw_565 : (Cond.sameMethod "CarryShifts$Carrying" "CarryShifts$Carrying" "standsAs" "(LCarryShifts$Carrying;)Z") ∈ uw := tu (in_t3 (List.mem_of_getElem? (i := 85) rfl)) rfl
set_option maxRecDepth 100000 in
theorem tw_566 : (Cond.selects "CarryShifts$Borrowing" ⟨"CarryShifts$Carrying", "standsAs", "(LCarryShifts$Carrying;)Z"⟩ ⟨"CarryShifts$Carrying", "standsAs", "(LCarryShifts$Carrying;)Z"⟩) ∈ uw := tu (in_t3 (List.mem_of_getElem? (i := 86) rfl)) rfl
set_option maxRecDepth 100000 in
theorem tw_567 : (Cond.selects "CarryShifts$Held" ⟨"CarryShifts$Carrying", "standsAs", "(LCarryShifts$Carrying;)Z"⟩ ⟨"CarryShifts$Carrying", "standsAs", "(LCarryShifts$Carrying;)Z"⟩) ∈ uw := tu (in_t3 (List.mem_of_getElem? (i := 87) rfl)) rfl
set_option maxRecDepth 100000 in
theorem tw_568 : (Cond.selects "CarryShifts$Linear" ⟨"CarryShifts$Carrying", "standsAs", "(LCarryShifts$Carrying;)Z"⟩ ⟨"CarryShifts$Carrying", "standsAs", "(LCarryShifts$Carrying;)Z"⟩) ∈ uw := tu (in_t3 (List.mem_of_getElem? (i := 88) rfl)) rfl
set_option maxRecDepth 100000 in
theorem tw_569 : (Cond.selects "CarryShifts$Ring" ⟨"CarryShifts$Carrying", "standsAs", "(LCarryShifts$Carrying;)Z"⟩ ⟨"CarryShifts$Carrying", "standsAs", "(LCarryShifts$Carrying;)Z"⟩) ∈ uw := tu (in_t3 (List.mem_of_getElem? (i := 89) rfl)) rfl
set_option maxRecDepth 100000 in
theorem tw_570 : (Cond.selects "CarryShifts$Turned" ⟨"CarryShifts$Carrying", "standsAs", "(LCarryShifts$Carrying;)Z"⟩ ⟨"CarryShifts$Carrying", "standsAs", "(LCarryShifts$Carrying;)Z"⟩) ∈ uw := tu (in_t3 (List.mem_of_getElem? (i := 90) rfl)) rfl
set_option maxRecDepth 100000 in
theorem tw_571 : (Cond.code ⟨"CarryShifts$Carrying", "standsAs", "(LCarryShifts$Carrying;)Z"⟩ prog_3_method_4_code (2 : Nat) (Option.some FieldType.boolean)) ∈ uw := tu (in_t3 (List.mem_of_getElem? (i := 91) rfl)) rfl
set_option maxRecDepth 100000 in
theorem tw_572 : (Cond.methodLink "CarryShifts" (194 : Nat) ⟨"CarryShifts", "stepsAhead", "(LCarryShifts$Carrying;I)I"⟩) ∈ uw := tu (in_t3 (List.mem_of_getElem? (i := 92) rfl)) rfl
set_option maxRecDepth 100000 in
theorem tw_573 : (Cond.static ⟨"CarryShifts", "stepsAhead", "(LCarryShifts$Carrying;I)I"⟩) ∈ uw := tu (in_t3 (List.mem_of_getElem? (i := 93) rfl)) rfl
set_option maxRecDepth 100000 in
theorem tw_574 : (Cond.code ⟨"CarryShifts", "stepsAhead", "(LCarryShifts$Carrying;I)I"⟩ prog_1_method_53_code (5 : Nat) (Option.some FieldType.int)) ∈ uw := tu (in_t3 (List.mem_of_getElem? (i := 94) rfl)) rfl
set_option maxRecDepth 100000 in
theorem tw_575 : (Cond.methodLink "CarryShiftsLaw" (84 : Nat) ⟨"CarryShifts", "linear", "(II)J"⟩) ∈ uw := tu (in_t3 (List.mem_of_getElem? (i := 95) rfl)) rfl
set_option maxRecDepth 100000 in
theorem tw_576 : (Cond.instanceMethod ⟨"CarryShifts", "linear", "(II)J"⟩) ∈ uw := tu (in_t3 (List.mem_of_getElem? (i := 96) rfl)) rfl
set_option maxRecDepth 100000 in
theorem tw_577 : (Cond.selects "CarryShifts" ⟨"CarryShifts", "linear", "(II)J"⟩ ⟨"CarryShifts", "linear", "(II)J"⟩) ∈ uw := tu (in_t3 (List.mem_of_getElem? (i := 97) rfl)) rfl
set_option maxRecDepth 100000 in
theorem tw_578 : (Cond.code ⟨"CarryShifts", "linear", "(II)J"⟩ prog_1_method_18_code (4 : Nat) (Option.some FieldType.long)) ∈ uw := tu (in_t3 (List.mem_of_getElem? (i := 98) rfl)) rfl
set_option maxRecDepth 100000 in
theorem tw_579 : (Cond.methodLink "CarryShifts" (198 : Nat) ⟨"CarryShifts", "lawAnswer", "(JII)J"⟩) ∈ uw := tu (in_t3 (List.mem_of_getElem? (i := 99) rfl)) rfl
set_option maxRecDepth 100000 in
theorem tw_580 : (Cond.privateMethod ⟨"CarryShifts", "lawAnswer", "(JII)J"⟩) ∈ lw_tbl := in_t3 (List.mem_of_getElem? (i := 100) rfl)
set_option maxRecDepth 100000 in
theorem tw_581 : (Cond.instanceMethod ⟨"CarryShifts", "lawAnswer", "(JII)J"⟩) ∈ uw := tu (in_t3 (List.mem_of_getElem? (i := 101) rfl)) rfl
set_option maxRecDepth 100000 in
theorem tw_582 : (Cond.code ⟨"CarryShifts", "lawAnswer", "(JII)J"⟩ prog_1_method_69_code (5 : Nat) (Option.some FieldType.long)) ∈ uw := tu (in_t3 (List.mem_of_getElem? (i := 102) rfl)) rfl
set_option maxRecDepth 100000 in
theorem tw_583 : (Cond.methodLink "CarryShifts" (202 : Nat) ⟨"CarryShifts$Law", "find", "(JI)V"⟩) ∈ uw := tu (in_t3 (List.mem_of_getElem? (i := 103) rfl)) rfl
set_option maxRecDepth 100000 in
theorem tw_584 : (Cond.instanceMethod ⟨"CarryShifts$Law", "find", "(JI)V"⟩) ∈ uw := tu (in_t3 (List.mem_of_getElem? (i := 104) rfl)) rfl
set_option maxRecDepth 100000 in
theorem tw_585 : (Cond.selects "CarryShifts$Law" ⟨"CarryShifts$Law", "find", "(JI)V"⟩ ⟨"CarryShifts$Law", "find", "(JI)V"⟩) ∈ uw := tu (in_t3 (List.mem_of_getElem? (i := 105) rfl)) rfl
set_option maxRecDepth 100000 in
theorem tw_586 : (Cond.code ⟨"CarryShifts$Law", "find", "(JI)V"⟩ prog_5_method_2_code (14 : Nat) (Option.none : Option FieldType)) ∈ uw := tu (in_t3 (List.mem_of_getElem? (i := 106) rfl)) rfl
set_option maxRecDepth 100000 in
theorem tw_587 : (Cond.methodLink "CarryShifts$Law" (17 : Nat) ⟨"java/lang/Long", "bitCount", "(J)I"⟩) ∈ uw := tu (in_t3 (List.mem_of_getElem? (i := 107) rfl)) rfl
set_option maxRecDepth 100000 in
theorem tw_588 : (Cond.static ⟨"java/lang/Long", "bitCount", "(J)I"⟩) ∈ uw := tu (in_t3 (List.mem_of_getElem? (i := 108) rfl)) rfl
set_option maxRecDepth 100000 in
theorem tw_589 : (Cond.code ⟨"java/lang/Long", "bitCount", "(J)I"⟩ prog_15_method_50_code (2 : Nat) (Option.some FieldType.int)) ∈ uw := tu (in_t3 (List.mem_of_getElem? (i := 109) rfl)) rfl
set_option maxRecDepth 100000 in
theorem tw_590 : (Cond.constantLong "java/lang/Long" (314 : Nat) (6148914691236517205 : Int64)) ∈ uw := tu (in_t3 (List.mem_of_getElem? (i := 110) rfl)) rfl
set_option maxRecDepth 100000 in
theorem tw_591 : (Cond.constantLong "java/lang/Long" (316 : Nat) (3689348814741910323 : Int64)) ∈ uw := tu (in_t3 (List.mem_of_getElem? (i := 111) rfl)) rfl
set_option maxRecDepth 100000 in
theorem tw_592 : (Cond.constantLong "java/lang/Long" (318 : Nat) (1085102592571150095 : Int64)) ∈ uw := tu (in_t3 (List.mem_of_getElem? (i := 112) rfl)) rfl
set_option maxRecDepth 100000 in
theorem tw_593 : (Cond.constantLong "CarryShifts" (343 : Nat) (-1 : Int64)) ∈ uw := tu (in_t3 (List.mem_of_getElem? (i := 113) rfl)) rfl
set_option maxRecDepth 100000 in
theorem tw_594 : (Cond.methodLink "CarryShiftsLaw" (88 : Nat) ⟨"CarryShifts", "twin", "(III)J"⟩) ∈ uw := tu (in_t3 (List.mem_of_getElem? (i := 114) rfl)) rfl
set_option maxRecDepth 100000 in
theorem tw_595 : (Cond.instanceMethod ⟨"CarryShifts", "twin", "(III)J"⟩) ∈ uw := tu (in_t3 (List.mem_of_getElem? (i := 115) rfl)) rfl
set_option maxRecDepth 100000 in
theorem tw_596 : (Cond.selects "CarryShifts" ⟨"CarryShifts", "twin", "(III)J"⟩ ⟨"CarryShifts", "twin", "(III)J"⟩) ∈ uw := tu (in_t3 (List.mem_of_getElem? (i := 116) rfl)) rfl
set_option maxRecDepth 100000 in
theorem tw_597 : (Cond.code ⟨"CarryShifts", "twin", "(III)J"⟩ prog_1_method_19_code (5 : Nat) (Option.some FieldType.long)) ∈ uw := tu (in_t3 (List.mem_of_getElem? (i := 117) rfl)) rfl
set_option maxRecDepth 100000 in
theorem tw_598 : (Cond.methodLink "CarryShiftsLaw" (93 : Nat) ⟨"CarryShifts", "compare", "(I)I"⟩) ∈ uw := tu (in_t3 (List.mem_of_getElem? (i := 118) rfl)) rfl
set_option maxRecDepth 100000 in
theorem tw_599 : (Cond.instanceMethod ⟨"CarryShifts", "compare", "(I)I"⟩) ∈ uw := tu (in_t3 (List.mem_of_getElem? (i := 119) rfl)) rfl
set_option maxRecDepth 100000 in
theorem tw_600 : (Cond.selects "CarryShifts" ⟨"CarryShifts", "compare", "(I)I"⟩ ⟨"CarryShifts", "compare", "(I)I"⟩) ∈ uw := tu (in_t3 (List.mem_of_getElem? (i := 120) rfl)) rfl
set_option maxRecDepth 100000 in
theorem tw_601 : (Cond.code ⟨"CarryShifts", "compare", "(I)I"⟩ prog_1_method_20_code (3 : Nat) (Option.some FieldType.int)) ∈ uw := tu (in_t3 (List.mem_of_getElem? (i := 121) rfl)) rfl
set_option maxRecDepth 100000 in
theorem tw_602 : (Cond.methodLink "CarryShiftsLaw" (97 : Nat) ⟨"CarryShifts", "windows", "(III)I"⟩) ∈ uw := tu (in_t3 (List.mem_of_getElem? (i := 122) rfl)) rfl
set_option maxRecDepth 100000 in
theorem tw_603 : (Cond.instanceMethod ⟨"CarryShifts", "windows", "(III)I"⟩) ∈ uw := tu (in_t3 (List.mem_of_getElem? (i := 123) rfl)) rfl
set_option maxRecDepth 100000 in
theorem tw_604 : (Cond.selects "CarryShifts" ⟨"CarryShifts", "windows", "(III)I"⟩ ⟨"CarryShifts", "windows", "(III)I"⟩) ∈ uw := tu (in_t3 (List.mem_of_getElem? (i := 124) rfl)) rfl
set_option maxRecDepth 100000 in
theorem tw_605 : (Cond.code ⟨"CarryShifts", "windows", "(III)I"⟩ prog_1_method_21_code (5 : Nat) (Option.some FieldType.int)) ∈ uw := tu (in_t3 (List.mem_of_getElem? (i := 125) rfl)) rfl
set_option maxRecDepth 100000 in
theorem tw_606 : (Cond.methodLink "CarryShifts" (204 : Nat) ⟨"CarryShifts", "countWords", "(JIII)I"⟩) ∈ uw := tu (in_t3 (List.mem_of_getElem? (i := 126) rfl)) rfl
set_option maxRecDepth 100000 in
theorem tw_607 : (Cond.static ⟨"CarryShifts", "countWords", "(JIII)I"⟩) ∈ uw := tu (in_t3 (List.mem_of_getElem? (i := 127) rfl)) rfl
set_option maxRecDepth 100000 in
theorem tw_608 : (Cond.code ⟨"CarryShifts", "countWords", "(JIII)I"⟩ prog_1_method_70_code (11 : Nat) (Option.some FieldType.int)) ∈ uw := tu (in_t3 (List.mem_of_getElem? (i := 128) rfl)) rfl
set_option maxRecDepth 100000 in
theorem tw_609 : (Cond.methodLink "CarryShifts" (347 : Nat) ⟨"CarryShifts", "timesWord", "(JIII)I"⟩) ∈ uw := tu (in_t3 (List.mem_of_getElem? (i := 129) rfl)) rfl
set_option maxRecDepth 100000 in
theorem tw_610 : (Cond.static ⟨"CarryShifts", "timesWord", "(JIII)I"⟩) ∈ uw := tu (in_t3 (List.mem_of_getElem? (i := 130) rfl)) rfl
set_option maxRecDepth 100000 in
theorem tw_611 : (Cond.code ⟨"CarryShifts", "timesWord", "(JIII)I"⟩ prog_1_method_71_code (7 : Nat) (Option.some FieldType.int)) ∈ uw := tu (in_t3 (List.mem_of_getElem? (i := 131) rfl)) rfl
set_option maxRecDepth 100000 in
theorem tw_612 : (Cond.methodLink "CarryShiftsLaw" (101 : Nat) ⟨"CarryShifts", "runs", "(III)I"⟩) ∈ uw := tu (in_t3 (List.mem_of_getElem? (i := 132) rfl)) rfl
set_option maxRecDepth 100000 in
theorem tw_613 : (Cond.instanceMethod ⟨"CarryShifts", "runs", "(III)I"⟩) ∈ uw := tu (in_t3 (List.mem_of_getElem? (i := 133) rfl)) rfl
set_option maxRecDepth 100000 in
theorem tw_614 : (Cond.selects "CarryShifts" ⟨"CarryShifts", "runs", "(III)I"⟩ ⟨"CarryShifts", "runs", "(III)I"⟩) ∈ uw := tu (in_t3 (List.mem_of_getElem? (i := 134) rfl)) rfl
set_option maxRecDepth 100000 in
theorem tw_615 : (Cond.code ⟨"CarryShifts", "runs", "(III)I"⟩ prog_1_method_22_code (5 : Nat) (Option.some FieldType.int)) ∈ uw := tu (in_t3 (List.mem_of_getElem? (i := 135) rfl)) rfl
set_option maxRecDepth 100000 in
theorem tw_616 : (Cond.methodLink "CarryShifts" (208 : Nat) ⟨"CarryShifts", "unlikeRuns", "(JI)I"⟩) ∈ uw := tu (in_t3 (List.mem_of_getElem? (i := 136) rfl)) rfl
set_option maxRecDepth 100000 in
theorem tw_617 : (Cond.static ⟨"CarryShifts", "unlikeRuns", "(JI)I"⟩) ∈ uw := tu (in_t3 (List.mem_of_getElem? (i := 137) rfl)) rfl
set_option maxRecDepth 100000 in
theorem tw_618 : (Cond.code ⟨"CarryShifts", "unlikeRuns", "(JI)I"⟩ prog_1_method_74_code (10 : Nat) (Option.some FieldType.int)) ∈ uw := tu (in_t3 (List.mem_of_getElem? (i := 138) rfl)) rfl
set_option maxRecDepth 100000 in
theorem tw_619 : (Cond.methodLink "CarryShifts" (350 : Nat) ⟨"CarryShifts", "beginsRun", "(JI)Z"⟩) ∈ uw := tu (in_t3 (List.mem_of_getElem? (i := 139) rfl)) rfl
set_option maxRecDepth 100000 in
theorem tw_620 : (Cond.static ⟨"CarryShifts", "beginsRun", "(JI)Z"⟩) ∈ uw := tu (in_t3 (List.mem_of_getElem? (i := 140) rfl)) rfl
set_option maxRecDepth 100000 in
theorem tw_621 : (Cond.code ⟨"CarryShifts", "beginsRun", "(JI)Z"⟩ prog_1_method_75_code (3 : Nat) (Option.some FieldType.boolean)) ∈ uw := tu (in_t3 (List.mem_of_getElem? (i := 141) rfl)) rfl
set_option maxRecDepth 100000 in
theorem tw_622 : (Cond.methodLink "CarryShifts" (354 : Nat) ⟨"CarryShifts", "runLength", "(JII)I"⟩) ∈ uw := tu (in_t3 (List.mem_of_getElem? (i := 142) rfl)) rfl
set_option maxRecDepth 100000 in
theorem tw_623 : (Cond.static ⟨"CarryShifts", "runLength", "(JII)I"⟩) ∈ uw := tu (in_t3 (List.mem_of_getElem? (i := 143) rfl)) rfl
set_option maxRecDepth 100000 in
theorem tw_624 : (Cond.code ⟨"CarryShifts", "runLength", "(JII)I"⟩ prog_1_method_72_code (7 : Nat) (Option.some FieldType.int)) ∈ uw := tu (in_t3 (List.mem_of_getElem? (i := 144) rfl)) rfl
set_option maxRecDepth 100000 in
theorem tw_625 : (Cond.methodLink "CarryShifts" (358 : Nat) ⟨"java/lang/Long", "bitCount", "(J)I"⟩) ∈ uw := tu (in_t3 (List.mem_of_getElem? (i := 145) rfl)) rfl
set_option maxRecDepth 100000 in
theorem tw_626 : (Cond.methodLink "CarryShifts" (212 : Nat) ⟨"CarryShifts", "runsOf", "(JIII)I"⟩) ∈ uw := tu (in_t3 (List.mem_of_getElem? (i := 146) rfl)) rfl
set_option maxRecDepth 100000 in
theorem tw_627 : (Cond.static ⟨"CarryShifts", "runsOf", "(JIII)I"⟩) ∈ uw := tu (in_t3 (List.mem_of_getElem? (i := 147) rfl)) rfl
set_option maxRecDepth 100000 in
theorem tw_628 : (Cond.code ⟨"CarryShifts", "runsOf", "(JIII)I"⟩ prog_1_method_73_code (7 : Nat) (Option.some FieldType.int)) ∈ uw := tu (in_t3 (List.mem_of_getElem? (i := 148) rfl)) rfl
set_option maxRecDepth 100000 in
theorem tw_629 : (Cond.methodLink "CarryShiftsLaw" (105 : Nat) ⟨"CarryShifts", "replays", "(III)I"⟩) ∈ uw := tu (in_t3 (List.mem_of_getElem? (i := 149) rfl)) rfl
set_option maxRecDepth 100000 in
theorem tw_630 : (Cond.instanceMethod ⟨"CarryShifts", "replays", "(III)I"⟩) ∈ uw := tu (in_t3 (List.mem_of_getElem? (i := 150) rfl)) rfl
set_option maxRecDepth 100000 in
theorem tw_631 : (Cond.selects "CarryShifts" ⟨"CarryShifts", "replays", "(III)I"⟩ ⟨"CarryShifts", "replays", "(III)I"⟩) ∈ uw := tu (in_t3 (List.mem_of_getElem? (i := 151) rfl)) rfl
set_option maxRecDepth 100000 in
theorem tw_632 : (Cond.code ⟨"CarryShifts", "replays", "(III)I"⟩ prog_1_method_23_code (6 : Nat) (Option.some FieldType.int)) ∈ uw := tu (in_t3 (List.mem_of_getElem? (i := 152) rfl)) rfl
set_option maxRecDepth 100000 in
theorem tw_633 : (Cond.methodLink "CarryShifts" (215 : Nat) ⟨"CarryShifts", "firstOtherwise", "(LCarryShifts$Carrying;JI)I"⟩) ∈ uw := tu (in_t3 (List.mem_of_getElem? (i := 153) rfl)) rfl
set_option maxRecDepth 100000 in
theorem tw_634 : (Cond.static ⟨"CarryShifts", "firstOtherwise", "(LCarryShifts$Carrying;JI)I"⟩) ∈ uw := tu (in_t3 (List.mem_of_getElem? (i := 154) rfl)) rfl
set_option maxRecDepth 100000 in
theorem tw_635 : (Cond.code ⟨"CarryShifts", "firstOtherwise", "(LCarryShifts$Carrying;JI)I"⟩ prog_1_method_55_code (6 : Nat) (Option.some FieldType.int)) ∈ uw := tu (in_t3 (List.mem_of_getElem? (i := 155) rfl)) rfl
set_option maxRecDepth 100000 in
theorem tw_636 : (Cond.methodLink "CarryShifts" (320 : Nat) ⟨"java/lang/Long", "numberOfTrailingZeros", "(J)I"⟩) ∈ uw := tu (in_t3 (List.mem_of_getElem? (i := 156) rfl)) rfl
set_option maxRecDepth 100000 in
theorem tw_637 : (Cond.static ⟨"java/lang/Long", "numberOfTrailingZeros", "(J)I"⟩) ∈ uw := tu (in_t3 (List.mem_of_getElem? (i := 157) rfl)) rfl
set_option maxRecDepth 100000 in
theorem tw_638 : (Cond.code ⟨"java/lang/Long", "numberOfTrailingZeros", "(J)I"⟩ prog_15_method_49_code (3 : Nat) (Option.some FieldType.int)) ∈ uw := tu (in_t3 (List.mem_of_getElem? (i := 158) rfl)) rfl
set_option maxRecDepth 100000 in
theorem tw_639 : (Cond.methodLink "java/lang/Long" (311 : Nat) ⟨"java/lang/Integer", "numberOfTrailingZeros", "(I)I"⟩) ∈ uw := tu (in_t3 (List.mem_of_getElem? (i := 159) rfl)) rfl
set_option maxRecDepth 100000 in
theorem tw_640 : (Cond.static ⟨"java/lang/Integer", "numberOfTrailingZeros", "(I)I"⟩) ∈ uw := tu (in_t3 (List.mem_of_getElem? (i := 160) rfl)) rfl
set_option maxRecDepth 100000 in
theorem tw_641 : (Cond.code ⟨"java/lang/Integer", "numberOfTrailingZeros", "(I)I"⟩ prog_14_method_48_code (2 : Nat) (Option.some FieldType.int)) ∈ uw := tu (in_t3 (List.mem_of_getElem? (i := 161) rfl)) rfl
set_option maxRecDepth 100000 in
theorem tw_642 : (Cond.methodLink "CarryShifts" (219 : Nat) ⟨"CarryShifts", "replayingKinds", "(LCarryShifts$Carrying;JI)I"⟩) ∈ uw := tu (in_t3 (List.mem_of_getElem? (i := 162) rfl)) rfl
set_option maxRecDepth 100000 in
theorem tw_643 : (Cond.static ⟨"CarryShifts", "replayingKinds", "(LCarryShifts$Carrying;JI)I"⟩) ∈ uw := tu (in_t3 (List.mem_of_getElem? (i := 163) rfl)) rfl
set_option maxRecDepth 100000 in
theorem tw_644 : (Cond.code ⟨"CarryShifts", "replayingKinds", "(LCarryShifts$Carrying;JI)I"⟩ prog_1_method_56_code (6 : Nat) (Option.some FieldType.int)) ∈ uw := tu (in_t3 (List.mem_of_getElem? (i := 164) rfl)) rfl
set_option maxRecDepth 100000 in
theorem tw_645 : (Cond.methodLink "CarryShifts" (323 : Nat) ⟨"CarryShifts", "tellsRow", "(LCarryShifts$Carrying;JI)Z"⟩) ∈ uw := tu (in_t3 (List.mem_of_getElem? (i := 165) rfl)) rfl
set_option maxRecDepth 100000 in
theorem tw_646 : (Cond.static ⟨"CarryShifts", "tellsRow", "(LCarryShifts$Carrying;JI)Z"⟩) ∈ uw := tu (in_t3 (List.mem_of_getElem? (i := 166) rfl)) rfl
set_option maxRecDepth 100000 in
theorem tw_647 : (Cond.code ⟨"CarryShifts", "tellsRow", "(LCarryShifts$Carrying;JI)Z"⟩ prog_1_method_54_code (5 : Nat) (Option.some FieldType.boolean)) ∈ uw := tu (in_t3 (List.mem_of_getElem? (i := 167) rfl)) rfl
set_option maxRecDepth 100000 in
theorem tw_648 : (Cond.methodLink "CarryShifts" (222 : Nat) ⟨"CarryShifts", "replayingCarries", "(LCarryShifts$Carrying;JI)I"⟩) ∈ uw := tu (in_t3 (List.mem_of_getElem? (i := 168) rfl)) rfl
set_option maxRecDepth 100000 in
theorem tw_649 : (Cond.static ⟨"CarryShifts", "replayingCarries", "(LCarryShifts$Carrying;JI)I"⟩) ∈ uw := tu (in_t3 (List.mem_of_getElem? (i := 169) rfl)) rfl
set_option maxRecDepth 100000 in
theorem tw_650 : (Cond.code ⟨"CarryShifts", "replayingCarries", "(LCarryShifts$Carrying;JI)I"⟩ prog_1_method_57_code (7 : Nat) (Option.some FieldType.int)) ∈ uw := tu (in_t3 (List.mem_of_getElem? (i := 170) rfl)) rfl
set_option maxRecDepth 100000 in
theorem tw_651 : (Cond.methodLink "CarryShiftsLaw" (109 : Nat) ⟨"CarryShifts", "search", "(III)I"⟩) ∈ uw := tu (in_t3 (List.mem_of_getElem? (i := 171) rfl)) rfl
set_option maxRecDepth 100000 in
theorem tw_652 : (Cond.instanceMethod ⟨"CarryShifts", "search", "(III)I"⟩) ∈ uw := tu (in_t3 (List.mem_of_getElem? (i := 172) rfl)) rfl
set_option maxRecDepth 100000 in
theorem tw_653 : (Cond.selects "CarryShifts" ⟨"CarryShifts", "search", "(III)I"⟩ ⟨"CarryShifts", "search", "(III)I"⟩) ∈ uw := tu (in_t3 (List.mem_of_getElem? (i := 173) rfl)) rfl
set_option maxRecDepth 100000 in
theorem tw_654 : (Cond.code ⟨"CarryShifts", "search", "(III)I"⟩ prog_1_method_24_code (5 : Nat) (Option.some FieldType.int)) ∈ uw := tu (in_t3 (List.mem_of_getElem? (i := 174) rfl)) rfl
set_option maxRecDepth 100000 in
theorem tw_655 : (Cond.methodLink "CarryShifts" (225 : Nat) ⟨"CarryShifts", "firstReplaying", "(JIII)I"⟩) ∈ uw := tu (in_t3 (List.mem_of_getElem? (i := 175) rfl)) rfl
set_option maxRecDepth 100000 in
theorem tw_656 : (Cond.static ⟨"CarryShifts", "firstReplaying", "(JIII)I"⟩) ∈ uw := tu (in_t3 (List.mem_of_getElem? (i := 176) rfl)) rfl
set_option maxRecDepth 100000 in
theorem tw_657 : (Cond.code ⟨"CarryShifts", "firstReplaying", "(JIII)I"⟩ prog_1_method_58_code (9 : Nat) (Option.some FieldType.int)) ∈ uw := tu (in_t3 (List.mem_of_getElem? (i := 177) rfl)) rfl
set_option maxRecDepth 100000 in
theorem tw_658 : (Cond.methodLink "CarryShiftsLaw" (113 : Nat) ⟨"CarryShifts", "alike", "(II)I"⟩) ∈ uw := tu (in_t3 (List.mem_of_getElem? (i := 178) rfl)) rfl
set_option maxRecDepth 100000 in
theorem tw_659 : (Cond.instanceMethod ⟨"CarryShifts", "alike", "(II)I"⟩) ∈ uw := tu (in_t3 (List.mem_of_getElem? (i := 179) rfl)) rfl
set_option maxRecDepth 100000 in
theorem tw_660 : (Cond.selects "CarryShifts" ⟨"CarryShifts", "alike", "(II)I"⟩ ⟨"CarryShifts", "alike", "(II)I"⟩) ∈ uw := tu (in_t3 (List.mem_of_getElem? (i := 180) rfl)) rfl
set_option maxRecDepth 100000 in
theorem tw_661 : (Cond.code ⟨"CarryShifts", "alike", "(II)I"⟩ prog_1_method_25_code (8 : Nat) (Option.some FieldType.int)) ∈ uw := tu (in_t3 (List.mem_of_getElem? (i := 181) rfl)) rfl
set_option maxRecDepth 100000 in
theorem tw_662 : (Cond.methodLink "CarryShiftsLaw" (117 : Nat) ⟨"CarryShifts", "drawn", "(III)I"⟩) ∈ uw := tu (in_t3 (List.mem_of_getElem? (i := 182) rfl)) rfl
set_option maxRecDepth 100000 in
theorem tw_663 : (Cond.instanceMethod ⟨"CarryShifts", "drawn", "(III)I"⟩) ∈ uw := tu (in_t3 (List.mem_of_getElem? (i := 183) rfl)) rfl
set_option maxRecDepth 100000 in
theorem tw_664 : (Cond.selects "CarryShifts" ⟨"CarryShifts", "drawn", "(III)I"⟩ ⟨"CarryShifts", "drawn", "(III)I"⟩) ∈ uw := tu (in_t3 (List.mem_of_getElem? (i := 184) rfl)) rfl
set_option maxRecDepth 100000 in
theorem tw_665 : (Cond.code ⟨"CarryShifts", "drawn", "(III)I"⟩ prog_1_method_26_code (5 : Nat) (Option.some FieldType.int)) ∈ uw := tu (in_t3 (List.mem_of_getElem? (i := 185) rfl)) rfl
set_option maxRecDepth 100000 in
theorem tw_666 : (Cond.methodLink "CarryShifts" (228 : Nat) ⟨"CarryShifts", "spoilt", "(JIII)J"⟩) ∈ uw := tu (in_t3 (List.mem_of_getElem? (i := 186) rfl)) rfl
set_option maxRecDepth 100000 in
theorem tw_667 : (Cond.static ⟨"CarryShifts", "spoilt", "(JIII)J"⟩) ∈ uw := tu (in_t3 (List.mem_of_getElem? (i := 187) rfl)) rfl
set_option maxRecDepth 100000 in
theorem tw_668 : (Cond.code ⟨"CarryShifts", "spoilt", "(JIII)J"⟩ prog_1_method_76_code (9 : Nat) (Option.some FieldType.long)) ∈ uw := tu (in_t3 (List.mem_of_getElem? (i := 188) rfl)) rfl
set_option maxRecDepth 100000 in
theorem tw_669 : (Cond.constant "CarryShifts" (361 : Nat) (1103515245 : Int32)) ∈ uw := tu (in_t3 (List.mem_of_getElem? (i := 189) rfl)) rfl
set_option maxRecDepth 100000 in
theorem tw_670 : (Cond.methodLink "CarryShiftsLaw" (121 : Nat) ⟨"CarryShifts", "chance", "(IIIIII)I"⟩) ∈ uw := tu (in_t3 (List.mem_of_getElem? (i := 190) rfl)) rfl
set_option maxRecDepth 100000 in
theorem tw_671 : (Cond.instanceMethod ⟨"CarryShifts", "chance", "(IIIIII)I"⟩) ∈ uw := tu (in_t3 (List.mem_of_getElem? (i := 191) rfl)) rfl
set_option maxRecDepth 100000 in
theorem tw_672 : (Cond.selects "CarryShifts" ⟨"CarryShifts", "chance", "(IIIIII)I"⟩ ⟨"CarryShifts", "chance", "(IIIIII)I"⟩) ∈ uw := tu (in_t3 (List.mem_of_getElem? (i := 192) rfl)) rfl
set_option maxRecDepth 100000 in
theorem tw_673 : (Cond.code ⟨"CarryShifts", "chance", "(IIIIII)I"⟩ prog_1_method_27_code (10 : Nat) (Option.some FieldType.int)) ∈ uw := tu (in_t3 (List.mem_of_getElem? (i := 193) rfl)) rfl
set_option maxRecDepth 100000 in
theorem tw_674 : (Cond.methodLink "CarryShiftsLaw" (126 : Nat) ⟨"CarryShifts", "feed", "(IIIIII)I"⟩) ∈ uw := tu (in_t3 (List.mem_of_getElem? (i := 194) rfl)) rfl
set_option maxRecDepth 100000 in
theorem tw_675 : (Cond.instanceMethod ⟨"CarryShifts", "feed", "(IIIIII)I"⟩) ∈ uw := tu (in_t3 (List.mem_of_getElem? (i := 195) rfl)) rfl
set_option maxRecDepth 100000 in
theorem tw_676 : (Cond.selects "CarryShifts" ⟨"CarryShifts", "feed", "(IIIIII)I"⟩ ⟨"CarryShifts", "feed", "(IIIIII)I"⟩) ∈ uw := tu (in_t3 (List.mem_of_getElem? (i := 196) rfl)) rfl
set_option maxRecDepth 100000 in
theorem tw_677 : (Cond.code ⟨"CarryShifts", "feed", "(IIIIII)I"⟩ prog_1_method_28_code (7 : Nat) (Option.some FieldType.int)) ∈ uw := tu (in_t3 (List.mem_of_getElem? (i := 197) rfl)) rfl
set_option maxRecDepth 100000 in
theorem tw_678 : (Cond.methodLink "CarryShifts" (232 : Nat) ⟨"CarryShifts", "isByte", "(I)Z"⟩) ∈ uw := tu (in_t3 (List.mem_of_getElem? (i := 198) rfl)) rfl
set_option maxRecDepth 100000 in
theorem tw_679 : (Cond.static ⟨"CarryShifts", "isByte", "(I)Z"⟩) ∈ uw := tu (in_t3 (List.mem_of_getElem? (i := 199) rfl)) rfl
set_option maxRecDepth 100000 in
theorem tw_680 : (Cond.code ⟨"CarryShifts", "isByte", "(I)Z"⟩ prog_1_method_77_code (1 : Nat) (Option.some FieldType.boolean)) ∈ uw := tu (in_t3 (List.mem_of_getElem? (i := 200) rfl)) rfl
set_option maxRecDepth 100000 in
theorem tw_681 : (Cond.methodLink "CarryShifts" (236 : Nat) ⟨"CarryShifts$Script", "hasRoom", "(I)Z"⟩) ∈ uw := tu (in_t3 (List.mem_of_getElem? (i := 201) rfl)) rfl
set_option maxRecDepth 100000 in
theorem tw_682 : (Cond.instanceMethod ⟨"CarryShifts$Script", "hasRoom", "(I)Z"⟩) ∈ uw := tu (in_t3 (List.mem_of_getElem? (i := 202) rfl)) rfl
set_option maxRecDepth 100000 in
theorem tw_683 : (Cond.selects "CarryShifts$Script" ⟨"CarryShifts$Script", "hasRoom", "(I)Z"⟩ ⟨"CarryShifts$Script", "hasRoom", "(I)Z"⟩) ∈ uw := tu (in_t3 (List.mem_of_getElem? (i := 203) rfl)) rfl
set_option maxRecDepth 100000 in
theorem tw_684 : (Cond.code ⟨"CarryShifts$Script", "hasRoom", "(I)Z"⟩ prog_9_method_2_code (2 : Nat) (Option.some FieldType.boolean)) ∈ uw := tu (in_t3 (List.mem_of_getElem? (i := 204) rfl)) rfl
set_option maxRecDepth 100000 in
theorem tw_685 : (Cond.methodLink "CarryShifts" (239 : Nat) ⟨"CarryShifts$Script", "add", "(I)V"⟩) ∈ uw := tu (in_t3 (List.mem_of_getElem? (i := 205) rfl)) rfl
set_option maxRecDepth 100000 in
theorem tw_686 : (Cond.instanceMethod ⟨"CarryShifts$Script", "add", "(I)V"⟩) ∈ uw := tu (in_t3 (List.mem_of_getElem? (i := 206) rfl)) rfl
set_option maxRecDepth 100000 in
theorem tw_687 : (Cond.selects "CarryShifts$Script" ⟨"CarryShifts$Script", "add", "(I)V"⟩ ⟨"CarryShifts$Script", "add", "(I)V"⟩) ∈ uw := tu (in_t3 (List.mem_of_getElem? (i := 207) rfl)) rfl
set_option maxRecDepth 100000 in
theorem tw_688 : (Cond.code ⟨"CarryShifts$Script", "add", "(I)V"⟩ prog_9_method_3_code (2 : Nat) (Option.none : Option FieldType)) ∈ uw := tu (in_t3 (List.mem_of_getElem? (i := 208) rfl)) rfl
set_option maxRecDepth 100000 in
theorem tw_689 : (Cond.methodLink "CarryShiftsLaw" (130 : Nat) ⟨"CarryShifts", "text", "()I"⟩) ∈ uw := tu (in_t3 (List.mem_of_getElem? (i := 209) rfl)) rfl
set_option maxRecDepth 100000 in
theorem tw_690 : (Cond.instanceMethod ⟨"CarryShifts", "text", "()I"⟩) ∈ uw := tu (in_t3 (List.mem_of_getElem? (i := 210) rfl)) rfl
set_option maxRecDepth 100000 in
theorem tw_691 : (Cond.selects "CarryShifts" ⟨"CarryShifts", "text", "()I"⟩ ⟨"CarryShifts", "text", "()I"⟩) ∈ uw := tu (in_t3 (List.mem_of_getElem? (i := 211) rfl)) rfl
set_option maxRecDepth 100000 in
theorem tw_692 : (Cond.code ⟨"CarryShifts", "text", "()I"⟩ prog_1_method_29_code (4 : Nat) (Option.some FieldType.int)) ∈ uw := tu (in_t3 (List.mem_of_getElem? (i := 212) rfl)) rfl
set_option maxRecDepth 100000 in
theorem tw_693 : (Cond.methodLink "CarryShifts" (243 : Nat) ⟨"CarryShifts$Script", "read", "()I"⟩) ∈ uw := tu (in_t3 (List.mem_of_getElem? (i := 213) rfl)) rfl
set_option maxRecDepth 100000 in
theorem tw_694 : (Cond.instanceMethod ⟨"CarryShifts$Script", "read", "()I"⟩) ∈ uw := tu (in_t3 (List.mem_of_getElem? (i := 214) rfl)) rfl
set_option maxRecDepth 100000 in
theorem tw_695 : (Cond.selects "CarryShifts$Script" ⟨"CarryShifts$Script", "read", "()I"⟩ ⟨"CarryShifts$Script", "read", "()I"⟩) ∈ uw := tu (in_t3 (List.mem_of_getElem? (i := 215) rfl)) rfl
set_option maxRecDepth 100000 in
theorem tw_696 : (Cond.code ⟨"CarryShifts$Script", "read", "()I"⟩ prog_9_method_6_code (2 : Nat) (Option.some FieldType.int)) ∈ uw := tu (in_t3 (List.mem_of_getElem? (i := 216) rfl)) rfl
set_option maxRecDepth 100000 in
theorem tw_697 : (Cond.methodLink "CarryShifts$Script" (40 : Nat) ⟨"CarryShifts$Script", "readClause", "(I)Z"⟩) ∈ uw := tu (in_t3 (List.mem_of_getElem? (i := 217) rfl)) rfl
set_option maxRecDepth 100000 in
theorem tw_698 : (Cond.privateMethod ⟨"CarryShifts$Script", "readClause", "(I)Z"⟩) ∈ lw_tbl := in_t3 (List.mem_of_getElem? (i := 218) rfl)
set_option maxRecDepth 100000 in
theorem tw_699 : (Cond.instanceMethod ⟨"CarryShifts$Script", "readClause", "(I)Z"⟩) ∈ uw := tu (in_t3 (List.mem_of_getElem? (i := 219) rfl)) rfl
set_option maxRecDepth 100000 in
theorem tw_700 : (Cond.code ⟨"CarryShifts$Script", "readClause", "(I)Z"⟩ prog_9_method_7_code (5 : Nat) (Option.some FieldType.boolean)) ∈ uw := tu (in_t3 (List.mem_of_getElem? (i := 220) rfl)) rfl
set_option maxRecDepth 100000 in
theorem tw_701 : (Cond.methodLink "CarryShifts$Script" (44 : Nat) ⟨"CarryShifts$Script", "readToken", "()V"⟩) ∈ uw := tu (in_t3 (List.mem_of_getElem? (i := 221) rfl)) rfl
set_option maxRecDepth 100000 in
theorem tw_702 : (Cond.privateMethod ⟨"CarryShifts$Script", "readToken", "()V"⟩) ∈ lw_tbl := in_t3 (List.mem_of_getElem? (i := 222) rfl)
set_option maxRecDepth 100000 in
theorem tw_703 : (Cond.instanceMethod ⟨"CarryShifts$Script", "readToken", "()V"⟩) ∈ uw := tu (in_t3 (List.mem_of_getElem? (i := 223) rfl)) rfl
set_option maxRecDepth 100000 in
theorem tw_704 : (Cond.code ⟨"CarryShifts$Script", "readToken", "()V"⟩ prog_9_method_12_code (2 : Nat) (Option.none : Option FieldType)) ∈ uw := tu (in_t3 (List.mem_of_getElem? (i := 224) rfl)) rfl
set_option maxRecDepth 100000 in
theorem tw_705 : (Cond.methodLink "CarryShifts$Script" (51 : Nat) ⟨"CarryShifts$Script", "byteAt", "(I)I"⟩) ∈ uw := tu (in_t3 (List.mem_of_getElem? (i := 225) rfl)) rfl
set_option maxRecDepth 100000 in
theorem tw_706 : (Cond.privateMethod ⟨"CarryShifts$Script", "byteAt", "(I)I"⟩) ∈ lw_tbl := in_t3 (List.mem_of_getElem? (i := 226) rfl)
set_option maxRecDepth 100000 in
theorem tw_707 : (Cond.instanceMethod ⟨"CarryShifts$Script", "byteAt", "(I)I"⟩) ∈ uw := tu (in_t3 (List.mem_of_getElem? (i := 227) rfl)) rfl
set_option maxRecDepth 100000 in
theorem tw_708 : (Cond.code ⟨"CarryShifts$Script", "byteAt", "(I)I"⟩ prog_9_method_9_code (2 : Nat) (Option.some FieldType.int)) ∈ uw := tu (in_t3 (List.mem_of_getElem? (i := 228) rfl)) rfl
set_option maxRecDepth 100000 in
theorem tw_709 : (Cond.methodLink "CarryShifts$Script" (54 : Nat) ⟨"CarryShifts$Script", "isLetter", "(I)Z"⟩) ∈ uw := tu (in_t3 (List.mem_of_getElem? (i := 229) rfl)) rfl
set_option maxRecDepth 100000 in
theorem tw_710 : (Cond.static ⟨"CarryShifts$Script", "isLetter", "(I)Z"⟩) ∈ uw := tu (in_t3 (List.mem_of_getElem? (i := 230) rfl)) rfl
set_option maxRecDepth 100000 in
theorem tw_711 : (Cond.code ⟨"CarryShifts$Script", "isLetter", "(I)Z"⟩ prog_9_method_10_code (1 : Nat) (Option.some FieldType.boolean)) ∈ uw := tu (in_t3 (List.mem_of_getElem? (i := 231) rfl)) rfl
set_option maxRecDepth 100000 in
theorem tw_712 : (Cond.methodLink "CarryShifts$Script" (57 : Nat) ⟨"CarryShifts$Script", "readWord", "()V"⟩) ∈ uw := tu (in_t3 (List.mem_of_getElem? (i := 232) rfl)) rfl
set_option maxRecDepth 100000 in
theorem tw_713 : (Cond.privateMethod ⟨"CarryShifts$Script", "readWord", "()V"⟩) ∈ lw_tbl := in_t3 (List.mem_of_getElem? (i := 233) rfl)
set_option maxRecDepth 100000 in
theorem tw_714 : (Cond.instanceMethod ⟨"CarryShifts$Script", "readWord", "()V"⟩) ∈ uw := tu (in_t3 (List.mem_of_getElem? (i := 234) rfl)) rfl
set_option maxRecDepth 100000 in
theorem tw_715 : (Cond.code ⟨"CarryShifts$Script", "readWord", "()V"⟩ prog_9_method_13_code (2 : Nat) (Option.none : Option FieldType)) ∈ uw := tu (in_t3 (List.mem_of_getElem? (i := 235) rfl)) rfl
set_option maxRecDepth 100000 in
theorem tw_716 : (Cond.methodLink "CarryShifts$Script" (66 : Nat) ⟨"CarryShifts$Script", "nameOf", "(I)Ljava/lang/String;"⟩) ∈ uw := tu (in_t3 (List.mem_of_getElem? (i := 236) rfl)) rfl
set_option maxRecDepth 100000 in
theorem tw_717 : (Cond.static ⟨"CarryShifts$Script", "nameOf", "(I)Ljava/lang/String;"⟩) ∈ uw := tu (in_t3 (List.mem_of_getElem? (i := 237) rfl)) rfl
set_option maxRecDepth 100000 in
theorem tw_718 : (Cond.code ⟨"CarryShifts$Script", "nameOf", "(I)Ljava/lang/String;"⟩ prog_9_method_15_code (1 : Nat) (Option.some (FieldType.object "java/lang/String"))) ∈ uw := tu (in_t3 (List.mem_of_getElem? (i := 238) rfl)) rfl
set_option maxRecDepth 100000 in
theorem tw_719 : (Cond.stringRef "CarryShifts$Script" (84 : Nat) "machine") ∈ lw_tbl := in_t3 (List.mem_of_getElem? (i := 239) rfl)
set_option maxRecDepth 100000 in
theorem tw_720 : (Cond.stringRef "CarryShifts$Script" (86 : Nat) "state") ∈ lw_tbl := in_t4 (List.mem_of_getElem? (i := 0) rfl)
set_option maxRecDepth 100000 in
theorem tw_721 : (Cond.stringRef "CarryShifts$Script" (88 : Nat) "carry") ∈ lw_tbl := in_t4 (List.mem_of_getElem? (i := 1) rfl)
set_option maxRecDepth 100000 in
theorem tw_722 : (Cond.stringRef "CarryShifts$Script" (90 : Nat) "taps") ∈ lw_tbl := in_t4 (List.mem_of_getElem? (i := 2) rfl)
set_option maxRecDepth 100000 in
theorem tw_723 : (Cond.stringRef "CarryShifts$Script" (92 : Nat) "step") ∈ lw_tbl := in_t4 (List.mem_of_getElem? (i := 3) rfl)
set_option maxRecDepth 100000 in
theorem tw_724 : (Cond.stringRef "CarryShifts$Script" (94 : Nat) "drop") ∈ lw_tbl := in_t4 (List.mem_of_getElem? (i := 4) rfl)
set_option maxRecDepth 100000 in
theorem tw_725 : (Cond.methodLink "CarryShifts$Script" (70 : Nat) ⟨"CarryShifts$Script", "isNamed", "(Ljava/lang/String;)Z"⟩) ∈ uw := tu (in_t4 (List.mem_of_getElem? (i := 5) rfl)) rfl
set_option maxRecDepth 100000 in
theorem tw_726 : (Cond.privateMethod ⟨"CarryShifts$Script", "isNamed", "(Ljava/lang/String;)Z"⟩) ∈ lw_tbl := in_t4 (List.mem_of_getElem? (i := 6) rfl)
set_option maxRecDepth 100000 in
theorem tw_727 : (Cond.instanceMethod ⟨"CarryShifts$Script", "isNamed", "(Ljava/lang/String;)Z"⟩) ∈ uw := tu (in_t4 (List.mem_of_getElem? (i := 7) rfl)) rfl
set_option maxRecDepth 100000 in
theorem tw_728 : (Cond.code ⟨"CarryShifts$Script", "isNamed", "(Ljava/lang/String;)Z"⟩ prog_9_method_14_code (3 : Nat) (Option.some FieldType.boolean)) ∈ uw := tu (in_t4 (List.mem_of_getElem? (i := 8) rfl)) rfl
set_option maxRecDepth 100000 in
theorem tw_729 : (Cond.methodLink "CarryShifts$Script" (74 : Nat) ⟨"java/lang/String", "length", "()I"⟩) ∈ uw := tu (in_t4 (List.mem_of_getElem? (i := 9) rfl)) rfl
set_option maxRecDepth 100000 in
theorem tw_730 : (Cond.instanceMethod ⟨"java/lang/String", "length", "()I"⟩) ∈ uw := tu (in_t4 (List.mem_of_getElem? (i := 10) rfl)) rfl
set_option maxRecDepth 100000 in
theorem tw_731 : (Cond.selects "java/lang/String" ⟨"java/lang/String", "length", "()I"⟩ ⟨"java/lang/String", "length", "()I"⟩) ∈ uw := tu (in_t4 (List.mem_of_getElem? (i := 11) rfl)) rfl
set_option maxRecDepth 100000 in
theorem tw_732 : (Cond.code ⟨"java/lang/String", "length", "()I"⟩ prog_17_method_54_code (1 : Nat) (Option.some FieldType.int)) ∈ uw := tu (in_t4 (List.mem_of_getElem? (i := 12) rfl)) rfl
set_option maxRecDepth 100000 in
theorem tw_733 : (Cond.methodLink "java/lang/String" (335 : Nat) ⟨"java/lang/String", "coder", "()B"⟩) ∈ uw := tu (in_t4 (List.mem_of_getElem? (i := 13) rfl)) rfl
set_option maxRecDepth 100000 in
theorem tw_734 : (Cond.instanceMethod ⟨"java/lang/String", "coder", "()B"⟩) ∈ uw := tu (in_t4 (List.mem_of_getElem? (i := 14) rfl)) rfl
set_option maxRecDepth 100000 in
theorem tw_735 : (Cond.selects "java/lang/String" ⟨"java/lang/String", "coder", "()B"⟩ ⟨"java/lang/String", "coder", "()B"⟩) ∈ uw := tu (in_t4 (List.mem_of_getElem? (i := 15) rfl)) rfl
set_option maxRecDepth 100000 in
theorem tw_736 : (Cond.code ⟨"java/lang/String", "coder", "()B"⟩ prog_17_method_152_code (1 : Nat) (Option.some FieldType.byte)) ∈ uw := tu (in_t4 (List.mem_of_getElem? (i := 16) rfl)) rfl
set_option maxRecDepth 100000 in
theorem tw_737 : (Cond.fieldLink "java/lang/String" (38 : Nat) "java/lang/String" "COMPACT_STRINGS" "Z") ∈ uw := tu (in_t4 (List.mem_of_getElem? (i := 17) rfl)) rfl
set_option maxRecDepth 100000 in
theorem tw_738 : (Cond.laysStatic "java/lang/String" "COMPACT_STRINGS" "Z") ∈ lw_tbl := in_t4 (List.mem_of_getElem? (i := 18) rfl)
set_option maxRecDepth 100000 in
theorem tw_739 : (Cond.methodLink "CarryShifts$Script" (80 : Nat) ⟨"java/lang/String", "charAt", "(I)C"⟩) ∈ uw := tu (in_t4 (List.mem_of_getElem? (i := 19) rfl)) rfl
set_option maxRecDepth 100000 in
theorem tw_740 : (Cond.instanceMethod ⟨"java/lang/String", "charAt", "(I)C"⟩) ∈ uw := tu (in_t4 (List.mem_of_getElem? (i := 20) rfl)) rfl
set_option maxRecDepth 100000 in
theorem tw_741 : (Cond.selects "java/lang/String" ⟨"java/lang/String", "charAt", "(I)C"⟩ ⟨"java/lang/String", "charAt", "(I)C"⟩) ∈ uw := tu (in_t4 (List.mem_of_getElem? (i := 21) rfl)) rfl
set_option maxRecDepth 100000 in
theorem tw_742 : (Cond.code ⟨"java/lang/String", "charAt", "(I)C"⟩ prog_17_method_56_code (2 : Nat) (Option.some FieldType.char)) ∈ uw := tu (in_t4 (List.mem_of_getElem? (i := 22) rfl)) rfl
set_option maxRecDepth 100000 in
theorem tw_743 : (Cond.methodLink "java/lang/String" (492 : Nat) ⟨"java/lang/String", "isLatin1", "()Z"⟩) ∈ uw := tu (in_t4 (List.mem_of_getElem? (i := 23) rfl)) rfl
set_option maxRecDepth 100000 in
theorem tw_744 : (Cond.instanceMethod ⟨"java/lang/String", "isLatin1", "()Z"⟩) ∈ uw := tu (in_t4 (List.mem_of_getElem? (i := 24) rfl)) rfl
set_option maxRecDepth 100000 in
theorem tw_745 : (Cond.selects "java/lang/String" ⟨"java/lang/String", "isLatin1", "()Z"⟩ ⟨"java/lang/String", "isLatin1", "()Z"⟩) ∈ uw := tu (in_t4 (List.mem_of_getElem? (i := 25) rfl)) rfl
set_option maxRecDepth 100000 in
theorem tw_746 : (Cond.code ⟨"java/lang/String", "isLatin1", "()Z"⟩ prog_17_method_154_code (1 : Nat) (Option.some FieldType.boolean)) ∈ uw := tu (in_t4 (List.mem_of_getElem? (i := 26) rfl)) rfl
set_option maxRecDepth 100000 in
theorem tw_747 : (Cond.methodLink "java/lang/String" (495 : Nat) ⟨"java/lang/StringLatin1", "charAt", "([BI)C"⟩) ∈ uw := tu (in_t4 (List.mem_of_getElem? (i := 27) rfl)) rfl
set_option maxRecDepth 100000 in
theorem tw_748 : (Cond.static ⟨"java/lang/StringLatin1", "charAt", "([BI)C"⟩) ∈ uw := tu (in_t4 (List.mem_of_getElem? (i := 28) rfl)) rfl
set_option maxRecDepth 100000 in
theorem tw_749 : (Cond.code ⟨"java/lang/StringLatin1", "charAt", "([BI)C"⟩ prog_18_method_2_code (2 : Nat) (Option.some FieldType.char)) ∈ uw := tu (in_t4 (List.mem_of_getElem? (i := 29) rfl)) rfl
set_option maxRecDepth 100000 in
theorem tw_750 : (Cond.methodLink "java/lang/StringLatin1" (9 : Nat) ⟨"java/lang/String", "checkIndex", "(II)V"⟩) ∈ uw := tu (in_t4 (List.mem_of_getElem? (i := 30) rfl)) rfl
set_option maxRecDepth 100000 in
theorem tw_751 : (Cond.static ⟨"java/lang/String", "checkIndex", "(II)V"⟩) ∈ uw := tu (in_t4 (List.mem_of_getElem? (i := 31) rfl)) rfl
set_option maxRecDepth 100000 in
theorem tw_752 : (Cond.code ⟨"java/lang/String", "checkIndex", "(II)V"⟩ prog_17_method_155_code (2 : Nat) (Option.none : Option FieldType)) ∈ uw := tu (in_t4 (List.mem_of_getElem? (i := 32) rfl)) rfl
set_option maxRecDepth 100000 in
theorem tw_753 : (Cond.fieldLink "java/lang/String" (1053 : Nat) "jdk/internal/util/Preconditions" "SIOOBE_FORMATTER" "Ljava/util/function/BiFunction;") ∈ uw := tu (in_t4 (List.mem_of_getElem? (i := 33) rfl)) rfl
set_option maxRecDepth 100000 in
theorem tw_754 : (Cond.laysStatic "jdk/internal/util/Preconditions" "SIOOBE_FORMATTER" "Ljava/util/function/BiFunction;") ∈ lw_tbl := in_t4 (List.mem_of_getElem? (i := 34) rfl)
set_option maxRecDepth 100000 in
theorem tw_755 : (Cond.methodLink "java/lang/String" (1059 : Nat) ⟨"jdk/internal/util/Preconditions", "checkIndex", "(IILjava/util/function/BiFunction;)I"⟩) ∈ uw := tu (in_t4 (List.mem_of_getElem? (i := 35) rfl)) rfl
set_option maxRecDepth 100000 in
theorem tw_756 : (Cond.static ⟨"jdk/internal/util/Preconditions", "checkIndex", "(IILjava/util/function/BiFunction;)I"⟩) ∈ uw := tu (in_t4 (List.mem_of_getElem? (i := 36) rfl)) rfl
set_option maxRecDepth 100000 in
theorem tw_757 : (Cond.code ⟨"jdk/internal/util/Preconditions", "checkIndex", "(IILjava/util/function/BiFunction;)I"⟩ prog_21_method_11_code (3 : Nat) (Option.some FieldType.int)) ∈ uw := tu (in_t4 (List.mem_of_getElem? (i := 37) rfl)) rfl
set_option maxRecDepth 100000 in
theorem tw_758 : (Cond.methodLink "java/lang/String" (498 : Nat) ⟨"java/lang/StringUTF16", "charAt", "([BI)C"⟩) ∈ uw := tu (in_t4 (List.mem_of_getElem? (i := 38) rfl)) rfl
set_option maxRecDepth 100000 in
theorem tw_759 : (Cond.static ⟨"java/lang/StringUTF16", "charAt", "([BI)C"⟩) ∈ uw := tu (in_t4 (List.mem_of_getElem? (i := 39) rfl)) rfl
set_option maxRecDepth 100000 in
theorem tw_760 : (Cond.code ⟨"java/lang/StringUTF16", "charAt", "([BI)C"⟩ prog_19_method_83_code (2 : Nat) (Option.some FieldType.char)) ∈ uw := tu (in_t4 (List.mem_of_getElem? (i := 40) rfl)) rfl
set_option maxRecDepth 100000 in
theorem tw_761 : (Cond.methodLink "java/lang/StringUTF16" (67 : Nat) ⟨"java/lang/StringUTF16", "checkIndex", "(I[B)V"⟩) ∈ uw := tu (in_t4 (List.mem_of_getElem? (i := 41) rfl)) rfl
set_option maxRecDepth 100000 in
theorem tw_762 : (Cond.static ⟨"java/lang/StringUTF16", "checkIndex", "(I[B)V"⟩) ∈ uw := tu (in_t4 (List.mem_of_getElem? (i := 42) rfl)) rfl
set_option maxRecDepth 100000 in
theorem tw_763 : (Cond.code ⟨"java/lang/StringUTF16", "checkIndex", "(I[B)V"⟩ prog_19_method_91_code (2 : Nat) (Option.none : Option FieldType)) ∈ uw := tu (in_t4 (List.mem_of_getElem? (i := 43) rfl)) rfl
set_option maxRecDepth 100000 in
theorem tw_764 : (Cond.methodLink "java/lang/StringUTF16" (48 : Nat) ⟨"java/lang/StringUTF16", "length", "([B)I"⟩) ∈ uw := tu (in_t4 (List.mem_of_getElem? (i := 44) rfl)) rfl
set_option maxRecDepth 100000 in
theorem tw_765 : (Cond.static ⟨"java/lang/StringUTF16", "length", "([B)I"⟩) ∈ uw := tu (in_t4 (List.mem_of_getElem? (i := 45) rfl)) rfl
set_option maxRecDepth 100000 in
theorem tw_766 : (Cond.code ⟨"java/lang/StringUTF16", "length", "([B)I"⟩ prog_19_method_6_code (1 : Nat) (Option.some FieldType.int)) ∈ uw := tu (in_t4 (List.mem_of_getElem? (i := 46) rfl)) rfl
set_option maxRecDepth 100000 in
theorem tw_767 : (Cond.methodLink "java/lang/StringUTF16" (414 : Nat) ⟨"java/lang/String", "checkIndex", "(II)V"⟩) ∈ uw := tu (in_t4 (List.mem_of_getElem? (i := 47) rfl)) rfl
set_option maxRecDepth 100000 in
theorem tw_768 : (Cond.methodLink "java/lang/StringUTF16" (71 : Nat) ⟨"java/lang/StringUTF16", "getChar", "([BI)C"⟩) ∈ uw := tu (in_t4 (List.mem_of_getElem? (i := 48) rfl)) rfl
set_option maxRecDepth 100000 in
theorem tw_769 : (Cond.static ⟨"java/lang/StringUTF16", "getChar", "([BI)C"⟩) ∈ uw := tu (in_t4 (List.mem_of_getElem? (i := 49) rfl)) rfl
set_option maxRecDepth 100000 in
theorem tw_770 : (Cond.code ⟨"java/lang/StringUTF16", "getChar", "([BI)C"⟩ prog_19_method_5_code (2 : Nat) (Option.some FieldType.char)) ∈ uw := tu (in_t4 (List.mem_of_getElem? (i := 50) rfl)) rfl
set_option maxRecDepth 100000 in
theorem tw_771 : (Cond.fieldLink "java/lang/StringUTF16" (44 : Nat) "java/lang/StringUTF16" "$assertionsDisabled" "Z") ∈ uw := tu (in_t4 (List.mem_of_getElem? (i := 51) rfl)) rfl
set_option maxRecDepth 100000 in
theorem tw_772 : (Cond.laysStatic "java/lang/StringUTF16" "$assertionsDisabled" "Z") ∈ lw_tbl := in_t4 (List.mem_of_getElem? (i := 52) rfl)
set_option maxRecDepth 100000 in
theorem tw_773 : (Cond.fieldLink "java/lang/StringUTF16" (59 : Nat) "java/lang/StringUTF16" "HI_BYTE_SHIFT" "I") ∈ uw := tu (in_t4 (List.mem_of_getElem? (i := 53) rfl)) rfl
set_option maxRecDepth 100000 in
theorem tw_774 : (Cond.laysStatic "java/lang/StringUTF16" "HI_BYTE_SHIFT" "I") ∈ lw_tbl := in_t4 (List.mem_of_getElem? (i := 54) rfl)
set_option maxRecDepth 100000 in
theorem tw_775 : (Cond.fieldLink "java/lang/StringUTF16" (63 : Nat) "java/lang/StringUTF16" "LO_BYTE_SHIFT" "I") ∈ uw := tu (in_t4 (List.mem_of_getElem? (i := 55) rfl)) rfl
set_option maxRecDepth 100000 in
theorem tw_776 : (Cond.laysStatic "java/lang/StringUTF16" "LO_BYTE_SHIFT" "I") ∈ lw_tbl := in_t4 (List.mem_of_getElem? (i := 56) rfl)
set_option maxRecDepth 100000 in
theorem tw_777 : (Cond.methodLink "CarryShifts$Script" (60 : Nat) ⟨"CarryShifts$Script", "isDigit", "(I)Z"⟩) ∈ uw := tu (in_t4 (List.mem_of_getElem? (i := 57) rfl)) rfl
set_option maxRecDepth 100000 in
theorem tw_778 : (Cond.static ⟨"CarryShifts$Script", "isDigit", "(I)Z"⟩) ∈ uw := tu (in_t4 (List.mem_of_getElem? (i := 58) rfl)) rfl
set_option maxRecDepth 100000 in
theorem tw_779 : (Cond.code ⟨"CarryShifts$Script", "isDigit", "(I)Z"⟩ prog_9_method_11_code (1 : Nat) (Option.some FieldType.boolean)) ∈ uw := tu (in_t4 (List.mem_of_getElem? (i := 59) rfl)) rfl
set_option maxRecDepth 100000 in
theorem tw_780 : (Cond.methodLink "CarryShifts$Script" (63 : Nat) ⟨"CarryShifts$Script", "readNumber", "()V"⟩) ∈ uw := tu (in_t4 (List.mem_of_getElem? (i := 60) rfl)) rfl
set_option maxRecDepth 100000 in
theorem tw_781 : (Cond.privateMethod ⟨"CarryShifts$Script", "readNumber", "()V"⟩) ∈ lw_tbl := in_t4 (List.mem_of_getElem? (i := 61) rfl)
set_option maxRecDepth 100000 in
theorem tw_782 : (Cond.instanceMethod ⟨"CarryShifts$Script", "readNumber", "()V"⟩) ∈ uw := tu (in_t4 (List.mem_of_getElem? (i := 62) rfl)) rfl
set_option maxRecDepth 100000 in
theorem tw_783 : (Cond.code ⟨"CarryShifts$Script", "readNumber", "()V"⟩ prog_9_method_16_code (4 : Nat) (Option.none : Option FieldType)) ∈ uw := tu (in_t4 (List.mem_of_getElem? (i := 63) rfl)) rfl
set_option maxRecDepth 100000 in
theorem tw_784 : (Cond.methodLink "CarryShifts$Script" (47 : Nat) ⟨"CarryShifts$Script", "numbersOf", "(I)I"⟩) ∈ uw := tu (in_t4 (List.mem_of_getElem? (i := 64) rfl)) rfl
set_option maxRecDepth 100000 in
theorem tw_785 : (Cond.static ⟨"CarryShifts$Script", "numbersOf", "(I)I"⟩) ∈ uw := tu (in_t4 (List.mem_of_getElem? (i := 65) rfl)) rfl
set_option maxRecDepth 100000 in
theorem tw_786 : (Cond.code ⟨"CarryShifts$Script", "numbersOf", "(I)I"⟩ prog_9_method_8_code (1 : Nat) (Option.some FieldType.int)) ∈ uw := tu (in_t4 (List.mem_of_getElem? (i := 66) rfl)) rfl
set_option maxRecDepth 100000 in
theorem tw_787 : (Cond.methodLink "CarryShifts" (249 : Nat) ⟨"CarryShifts$Script", "wordOf", "(I)I"⟩) ∈ uw := tu (in_t4 (List.mem_of_getElem? (i := 67) rfl)) rfl
set_option maxRecDepth 100000 in
theorem tw_788 : (Cond.instanceMethod ⟨"CarryShifts$Script", "wordOf", "(I)I"⟩) ∈ uw := tu (in_t4 (List.mem_of_getElem? (i := 68) rfl)) rfl
set_option maxRecDepth 100000 in
theorem tw_789 : (Cond.selects "CarryShifts$Script" ⟨"CarryShifts$Script", "wordOf", "(I)I"⟩ ⟨"CarryShifts$Script", "wordOf", "(I)I"⟩) ∈ uw := tu (in_t4 (List.mem_of_getElem? (i := 69) rfl)) rfl
set_option maxRecDepth 100000 in
theorem tw_790 : (Cond.code ⟨"CarryShifts$Script", "wordOf", "(I)I"⟩ prog_9_method_4_code (2 : Nat) (Option.some FieldType.int)) ∈ uw := tu (in_t4 (List.mem_of_getElem? (i := 70) rfl)) rfl
set_option maxRecDepth 100000 in
theorem tw_791 : (Cond.methodLink "CarryShifts" (252 : Nat) ⟨"CarryShifts", "doClause", "(II)Z"⟩) ∈ uw := tu (in_t4 (List.mem_of_getElem? (i := 71) rfl)) rfl
set_option maxRecDepth 100000 in
theorem tw_792 : (Cond.privateMethod ⟨"CarryShifts", "doClause", "(II)Z"⟩) ∈ lw_tbl := in_t4 (List.mem_of_getElem? (i := 72) rfl)
set_option maxRecDepth 100000 in
theorem tw_793 : (Cond.instanceMethod ⟨"CarryShifts", "doClause", "(II)Z"⟩) ∈ uw := tu (in_t4 (List.mem_of_getElem? (i := 73) rfl)) rfl
set_option maxRecDepth 100000 in
theorem tw_794 : (Cond.code ⟨"CarryShifts", "doClause", "(II)Z"⟩ prog_1_method_78_code (5 : Nat) (Option.some FieldType.boolean)) ∈ uw := tu (in_t4 (List.mem_of_getElem? (i := 74) rfl)) rfl
set_option maxRecDepth 100000 in
theorem tw_795 : (Cond.methodLink "CarryShifts" (362 : Nat) ⟨"CarryShifts$Script", "numberOf", "(II)I"⟩) ∈ uw := tu (in_t4 (List.mem_of_getElem? (i := 75) rfl)) rfl
set_option maxRecDepth 100000 in
theorem tw_796 : (Cond.instanceMethod ⟨"CarryShifts$Script", "numberOf", "(II)I"⟩) ∈ uw := tu (in_t4 (List.mem_of_getElem? (i := 76) rfl)) rfl
set_option maxRecDepth 100000 in
theorem tw_797 : (Cond.selects "CarryShifts$Script" ⟨"CarryShifts$Script", "numberOf", "(II)I"⟩ ⟨"CarryShifts$Script", "numberOf", "(II)I"⟩) ∈ uw := tu (in_t4 (List.mem_of_getElem? (i := 77) rfl)) rfl
set_option maxRecDepth 100000 in
theorem tw_798 : (Cond.code ⟨"CarryShifts$Script", "numberOf", "(II)I"⟩ prog_9_method_5_code (4 : Nat) (Option.some FieldType.int)) ∈ uw := tu (in_t4 (List.mem_of_getElem? (i := 78) rfl)) rfl
set_option maxRecDepth 100000 in
theorem tw_799 : (Cond.methodLink "CarryShifts" (274 : Nat) ⟨"CarryShifts", "machine", "(IIII)I"⟩) ∈ uw := tu (in_t4 (List.mem_of_getElem? (i := 79) rfl)) rfl
set_option maxRecDepth 100000 in
theorem tw_800 : (Cond.methodLink "CarryShifts" (365 : Nat) ⟨"CarryShifts", "set", "(III)I"⟩) ∈ uw := tu (in_t4 (List.mem_of_getElem? (i := 80) rfl)) rfl
set_option maxRecDepth 100000 in
theorem tw_801 : (Cond.methodLink "CarryShifts" (369 : Nat) ⟨"CarryShifts", "step", "(II)I"⟩) ∈ uw := tu (in_t4 (List.mem_of_getElem? (i := 81) rfl)) rfl
set_option maxRecDepth 100000 in
theorem tw_802 : (Cond.methodLink "CarryShifts" (372 : Nat) ⟨"CarryShifts", "drop", "()I"⟩) ∈ uw := tu (in_t4 (List.mem_of_getElem? (i := 82) rfl)) rfl
set_option maxRecDepth 100000 in
theorem tw_803 : (Cond.arrayClass FieldType.byte) ∈ uw := tu (in_t4 (List.mem_of_getElem? (i := 83) rfl)) rfl
set_option maxRecDepth 100000 in
theorem tw_804 : (Cond.methodLink "CarryShiftsLaw" (134 : Nat) ⟨"CarryShifts", "image", "()I"⟩) ∈ uw := tu (in_t4 (List.mem_of_getElem? (i := 84) rfl)) rfl
set_option maxRecDepth 100000 in
theorem tw_805 : (Cond.instanceMethod ⟨"CarryShifts", "image", "()I"⟩) ∈ uw := tu (in_t4 (List.mem_of_getElem? (i := 85) rfl)) rfl
set_option maxRecDepth 100000 in
theorem tw_806 : (Cond.selects "CarryShifts" ⟨"CarryShifts", "image", "()I"⟩ ⟨"CarryShifts", "image", "()I"⟩) ∈ uw := tu (in_t4 (List.mem_of_getElem? (i := 86) rfl)) rfl
set_option maxRecDepth 100000 in
theorem tw_807 : (Cond.code ⟨"CarryShifts", "image", "()I"⟩ prog_1_method_30_code (2 : Nat) (Option.some FieldType.int)) ∈ uw := tu (in_t4 (List.mem_of_getElem? (i := 87) rfl)) rfl
set_option maxRecDepth 100000 in
theorem tw_808 : (Cond.methodLink "CarryShifts" (255 : Nat) ⟨"CarryShifts", "imageOne", "(LCarryShifts$Carrying;I)V"⟩) ∈ uw := tu (in_t4 (List.mem_of_getElem? (i := 88) rfl)) rfl
set_option maxRecDepth 100000 in
theorem tw_809 : (Cond.privateMethod ⟨"CarryShifts", "imageOne", "(LCarryShifts$Carrying;I)V"⟩) ∈ lw_tbl := in_t4 (List.mem_of_getElem? (i := 89) rfl)
set_option maxRecDepth 100000 in
theorem tw_810 : (Cond.instanceMethod ⟨"CarryShifts", "imageOne", "(LCarryShifts$Carrying;I)V"⟩) ∈ uw := tu (in_t4 (List.mem_of_getElem? (i := 90) rfl)) rfl
set_option maxRecDepth 100000 in
theorem tw_811 : (Cond.code ⟨"CarryShifts", "imageOne", "(LCarryShifts$Carrying;I)V"⟩ prog_1_method_47_code (3 : Nat) (Option.none : Option FieldType)) ∈ uw := tu (in_t4 (List.mem_of_getElem? (i := 91) rfl)) rfl
set_option maxRecDepth 100000 in
theorem tw_812 : (Cond.methodLink "CarryShiftsLaw" (138 : Nat) ⟨"CarryShifts", "back", "()I"⟩) ∈ uw := tu (in_t4 (List.mem_of_getElem? (i := 92) rfl)) rfl
set_option maxRecDepth 100000 in
theorem tw_813 : (Cond.instanceMethod ⟨"CarryShifts", "back", "()I"⟩) ∈ uw := tu (in_t4 (List.mem_of_getElem? (i := 93) rfl)) rfl
set_option maxRecDepth 100000 in
theorem tw_814 : (Cond.selects "CarryShifts" ⟨"CarryShifts", "back", "()I"⟩ ⟨"CarryShifts", "back", "()I"⟩) ∈ uw := tu (in_t4 (List.mem_of_getElem? (i := 94) rfl)) rfl
set_option maxRecDepth 100000 in
theorem tw_815 : (Cond.code ⟨"CarryShifts", "back", "()I"⟩ prog_1_method_31_code (2 : Nat) (Option.some FieldType.int)) ∈ uw := tu (in_t4 (List.mem_of_getElem? (i := 95) rfl)) rfl
set_option maxRecDepth 100000 in
theorem tw_816 : (Cond.methodLink "CarryShifts" (259 : Nat) ⟨"CarryShifts", "imagedAt", "(I)LCarryShifts$Carrying;"⟩) ∈ uw := tu (in_t4 (List.mem_of_getElem? (i := 96) rfl)) rfl
set_option maxRecDepth 100000 in
theorem tw_817 : (Cond.privateMethod ⟨"CarryShifts", "imagedAt", "(I)LCarryShifts$Carrying;"⟩) ∈ lw_tbl := in_t4 (List.mem_of_getElem? (i := 97) rfl)
set_option maxRecDepth 100000 in
theorem tw_818 : (Cond.instanceMethod ⟨"CarryShifts", "imagedAt", "(I)LCarryShifts$Carrying;"⟩) ∈ uw := tu (in_t4 (List.mem_of_getElem? (i := 98) rfl)) rfl
set_option maxRecDepth 100000 in
theorem tw_819 : (Cond.code ⟨"CarryShifts", "imagedAt", "(I)LCarryShifts$Carrying;"⟩ prog_1_method_48_code (2 : Nat) (Option.some (FieldType.object "CarryShifts$Carrying"))) ∈ uw := tu (in_t4 (List.mem_of_getElem? (i := 99) rfl)) rfl
set_option maxRecDepth 100000 in
theorem tw_820 : (Cond.methodLink "CarryShiftsLaw" (142 : Nat) ⟨"CarryShifts", "load", "(IIII)I"⟩) ∈ uw := tu (in_t4 (List.mem_of_getElem? (i := 100) rfl)) rfl
set_option maxRecDepth 100000 in
theorem tw_821 : (Cond.instanceMethod ⟨"CarryShifts", "load", "(IIII)I"⟩) ∈ uw := tu (in_t4 (List.mem_of_getElem? (i := 101) rfl)) rfl
set_option maxRecDepth 100000 in
theorem tw_822 : (Cond.selects "CarryShifts" ⟨"CarryShifts", "load", "(IIII)I"⟩ ⟨"CarryShifts", "load", "(IIII)I"⟩) ∈ uw := tu (in_t4 (List.mem_of_getElem? (i := 102) rfl)) rfl
set_option maxRecDepth 100000 in
theorem tw_823 : (Cond.code ⟨"CarryShifts", "load", "(IIII)I"⟩ prog_1_method_32_code (11 : Nat) (Option.some FieldType.int)) ∈ uw := tu (in_t4 (List.mem_of_getElem? (i := 103) rfl)) rfl
set_option maxRecDepth 100000 in
theorem tw_824 : (Cond.constantLong "CarryShifts" (265 : Nat) (4 : Int64)) ∈ uw := tu (in_t4 (List.mem_of_getElem? (i := 104) rfl)) rfl
set_option maxRecDepth 100000 in
theorem tw_825 : (Cond.methodLink "CarryShifts" (267 : Nat) ⟨"CarryShifts$Sheet", "has", "(JJ)Z"⟩) ∈ uw := tu (in_t4 (List.mem_of_getElem? (i := 105) rfl)) rfl
set_option maxRecDepth 100000 in
theorem tw_826 : (Cond.instanceMethod ⟨"CarryShifts$Sheet", "has", "(JJ)Z"⟩) ∈ uw := tu (in_t4 (List.mem_of_getElem? (i := 106) rfl)) rfl
set_option maxRecDepth 100000 in
theorem tw_827 : (Cond.selects "CarryShifts$Sheet" ⟨"CarryShifts$Sheet", "has", "(JJ)Z"⟩ ⟨"CarryShifts$Sheet", "has", "(JJ)Z"⟩) ∈ uw := tu (in_t4 (List.mem_of_getElem? (i := 107) rfl)) rfl
set_option maxRecDepth 100000 in
theorem tw_828 : (Cond.code ⟨"CarryShifts$Sheet", "has", "(JJ)Z"⟩ prog_10_method_3_code (5 : Nat) (Option.some FieldType.boolean)) ∈ uw := tu (in_t4 (List.mem_of_getElem? (i := 108) rfl)) rfl
set_option maxRecDepth 100000 in
theorem tw_829 : (Cond.methodLink "CarryShiftsLaw" (146 : Nat) ⟨"CarryShifts", "count", "(I)I"⟩) ∈ uw := tu (in_t4 (List.mem_of_getElem? (i := 109) rfl)) rfl
set_option maxRecDepth 100000 in
theorem tw_830 : (Cond.instanceMethod ⟨"CarryShifts", "count", "(I)I"⟩) ∈ uw := tu (in_t4 (List.mem_of_getElem? (i := 110) rfl)) rfl
set_option maxRecDepth 100000 in
theorem tw_831 : (Cond.selects "CarryShifts" ⟨"CarryShifts", "count", "(I)I"⟩ ⟨"CarryShifts", "count", "(I)I"⟩) ∈ uw := tu (in_t4 (List.mem_of_getElem? (i := 111) rfl)) rfl
set_option maxRecDepth 100000 in
theorem tw_832 : (Cond.code ⟨"CarryShifts", "count", "(I)I"⟩ prog_1_method_33_code (2 : Nat) (Option.some FieldType.int)) ∈ uw := tu (in_t4 (List.mem_of_getElem? (i := 112) rfl)) rfl
set_option maxRecDepth 100000 in
theorem tw_833 : (Cond.methodLink "CarryShifts" (278 : Nat) ⟨"CarryShifts", "cellsOf", "(I)I"⟩) ∈ uw := tu (in_t4 (List.mem_of_getElem? (i := 113) rfl)) rfl
set_option maxRecDepth 100000 in
theorem tw_834 : (Cond.privateMethod ⟨"CarryShifts", "cellsOf", "(I)I"⟩) ∈ lw_tbl := in_t4 (List.mem_of_getElem? (i := 114) rfl)
set_option maxRecDepth 100000 in
theorem tw_835 : (Cond.instanceMethod ⟨"CarryShifts", "cellsOf", "(I)I"⟩) ∈ uw := tu (in_t4 (List.mem_of_getElem? (i := 115) rfl)) rfl
set_option maxRecDepth 100000 in
theorem tw_836 : (Cond.code ⟨"CarryShifts", "cellsOf", "(I)I"⟩ prog_1_method_45_code (5 : Nat) (Option.some FieldType.int)) ∈ uw := tu (in_t4 (List.mem_of_getElem? (i := 116) rfl)) rfl
set_option maxRecDepth 100000 in
theorem tw_837 : (Cond.methodLink "CarryShifts" (281 : Nat) ⟨"CarryShifts", "numbersOf", "(I)I"⟩) ∈ uw := tu (in_t4 (List.mem_of_getElem? (i := 117) rfl)) rfl
set_option maxRecDepth 100000 in
theorem tw_838 : (Cond.privateMethod ⟨"CarryShifts", "numbersOf", "(I)I"⟩) ∈ lw_tbl := in_t4 (List.mem_of_getElem? (i := 118) rfl)
set_option maxRecDepth 100000 in
theorem tw_839 : (Cond.instanceMethod ⟨"CarryShifts", "numbersOf", "(I)I"⟩) ∈ uw := tu (in_t4 (List.mem_of_getElem? (i := 119) rfl)) rfl
set_option maxRecDepth 100000 in
theorem tw_840 : (Cond.code ⟨"CarryShifts", "numbersOf", "(I)I"⟩ prog_1_method_46_code (5 : Nat) (Option.some FieldType.int)) ∈ uw := tu (in_t4 (List.mem_of_getElem? (i := 120) rfl)) rfl
set_option maxRecDepth 100000 in
theorem tw_841 : (Cond.methodLink "CarryShiftsLaw" (150 : Nat) ⟨"CarryShifts", "sheet", "(III)I"⟩) ∈ uw := tu (in_t4 (List.mem_of_getElem? (i := 121) rfl)) rfl
set_option maxRecDepth 100000 in
theorem tw_842 : (Cond.instanceMethod ⟨"CarryShifts", "sheet", "(III)I"⟩) ∈ uw := tu (in_t4 (List.mem_of_getElem? (i := 122) rfl)) rfl
set_option maxRecDepth 100000 in
theorem tw_843 : (Cond.selects "CarryShifts" ⟨"CarryShifts", "sheet", "(III)I"⟩ ⟨"CarryShifts", "sheet", "(III)I"⟩) ∈ uw := tu (in_t4 (List.mem_of_getElem? (i := 123) rfl)) rfl
set_option maxRecDepth 100000 in
theorem tw_844 : (Cond.code ⟨"CarryShifts", "sheet", "(III)I"⟩ prog_1_method_34_code (5 : Nat) (Option.some FieldType.int)) ∈ uw := tu (in_t4 (List.mem_of_getElem? (i := 124) rfl)) rfl
set_option maxRecDepth 100000 in
theorem tw_845 : (Cond.methodLink "CarryShifts" (284 : Nat) ⟨"CarryShifts$Sheet", "become", "(II)V"⟩) ∈ uw := tu (in_t4 (List.mem_of_getElem? (i := 125) rfl)) rfl
set_option maxRecDepth 100000 in
theorem tw_846 : (Cond.methodLink "CarryShiftsLaw" (154 : Nat) ⟨"CarryShifts", "put", "(III)I"⟩) ∈ uw := tu (in_t4 (List.mem_of_getElem? (i := 126) rfl)) rfl
set_option maxRecDepth 100000 in
theorem tw_847 : (Cond.instanceMethod ⟨"CarryShifts", "put", "(III)I"⟩) ∈ uw := tu (in_t4 (List.mem_of_getElem? (i := 127) rfl)) rfl
set_option maxRecDepth 100000 in
theorem tw_848 : (Cond.selects "CarryShifts" ⟨"CarryShifts", "put", "(III)I"⟩ ⟨"CarryShifts", "put", "(III)I"⟩) ∈ uw := tu (in_t4 (List.mem_of_getElem? (i := 128) rfl)) rfl
set_option maxRecDepth 100000 in
theorem tw_849 : (Cond.code ⟨"CarryShifts", "put", "(III)I"⟩ prog_1_method_35_code (5 : Nat) (Option.some FieldType.int)) ∈ uw := tu (in_t4 (List.mem_of_getElem? (i := 129) rfl)) rfl
set_option maxRecDepth 100000 in
theorem tw_850 : (Cond.methodLink "CarryShiftsLaw" (158 : Nat) ⟨"CarryShifts", "copy", "(IIIII)I"⟩) ∈ uw := tu (in_t4 (List.mem_of_getElem? (i := 130) rfl)) rfl
set_option maxRecDepth 100000 in
theorem tw_851 : (Cond.instanceMethod ⟨"CarryShifts", "copy", "(IIIII)I"⟩) ∈ uw := tu (in_t4 (List.mem_of_getElem? (i := 131) rfl)) rfl
set_option maxRecDepth 100000 in
theorem tw_852 : (Cond.selects "CarryShifts" ⟨"CarryShifts", "copy", "(IIIII)I"⟩ ⟨"CarryShifts", "copy", "(IIIII)I"⟩) ∈ uw := tu (in_t4 (List.mem_of_getElem? (i := 132) rfl)) rfl
set_option maxRecDepth 100000 in
theorem tw_853 : (Cond.code ⟨"CarryShifts", "copy", "(IIIII)I"⟩ prog_1_method_36_code (8 : Nat) (Option.some FieldType.int)) ∈ uw := tu (in_t4 (List.mem_of_getElem? (i := 133) rfl)) rfl
set_option maxRecDepth 100000 in
theorem tw_854 : (Cond.methodLink "CarryShifts" (288 : Nat) ⟨"java/lang/System", "arraycopy", "(Ljava/lang/Object;ILjava/lang/Object;II)V"⟩) ∈ uw := tu (in_t4 (List.mem_of_getElem? (i := 134) rfl)) rfl
set_option maxRecDepth 100000 in
theorem tw_855 : (Cond.static ⟨"java/lang/System", "arraycopy", "(Ljava/lang/Object;ILjava/lang/Object;II)V"⟩) ∈ uw := tu (in_t4 (List.mem_of_getElem? (i := 135) rfl)) rfl
set_option maxRecDepth 100000 in
theorem tw_856 : (Cond.native ⟨"java/lang/System", "arraycopy", "(Ljava/lang/Object;ILjava/lang/Object;II)V"⟩) ∈ lw_tbl := in_t4 (List.mem_of_getElem? (i := 136) rfl)
set_option maxRecDepth 100000 in
theorem tw_857 : (Cond.classLink "CarryShiftsLaw" (10 : Nat) "CarryShiftsModel") ∈ uw := tu (in_t4 (List.mem_of_getElem? (i := 137) rfl)) rfl
set_option maxRecDepth 100000 in
theorem tw_858 : (Cond.instantiable "CarryShiftsModel" (35 : Nat)) ∈ uw := tu (in_t4 (List.mem_of_getElem? (i := 138) rfl)) rfl
set_option maxRecDepth 100000 in
theorem tw_859 : (Cond.methodLink "CarryShiftsLaw" (12 : Nat) ⟨"CarryShiftsModel", "<init>", "()V"⟩) ∈ uw := tu (in_t4 (List.mem_of_getElem? (i := 139) rfl)) rfl
set_option maxRecDepth 100000 in
theorem tw_860 : (Cond.instanceMethod ⟨"CarryShiftsModel", "<init>", "()V"⟩) ∈ uw := tu (in_t4 (List.mem_of_getElem? (i := 140) rfl)) rfl
set_option maxRecDepth 100000 in
theorem tw_861 : (Cond.code ⟨"CarryShiftsModel", "<init>", "()V"⟩ prog_13_method_2_code (2 : Nat) (Option.none : Option FieldType)) ∈ uw := tu (in_t4 (List.mem_of_getElem? (i := 141) rfl)) rfl
set_option maxRecDepth 100000 in
theorem tw_862 : (Cond.methodLink "CarryShiftsModel" (3 : Nat) ⟨"java/lang/Object", "<init>", "()V"⟩) ∈ uw := tu (in_t4 (List.mem_of_getElem? (i := 142) rfl)) rfl
set_option maxRecDepth 100000 in
theorem tw_863 : (Cond.fieldLink "CarryShiftsModel" (66 : Nat) "CarryShiftsModel" "many" "I") ∈ uw := tu (in_t4 (List.mem_of_getElem? (i := 143) rfl)) rfl
set_option maxRecDepth 100000 in
theorem tw_864 : (Cond.fieldLink "CarryShiftsModel" (11 : Nat) "CarryShiftsModel" "kinds" "[I") ∈ uw := tu (in_t4 (List.mem_of_getElem? (i := 144) rfl)) rfl
set_option maxRecDepth 100000 in
theorem tw_865 : (Cond.fieldLink "CarryShiftsModel" (15 : Nat) "CarryShiftsModel" "cells" "[I") ∈ uw := tu (in_t4 (List.mem_of_getElem? (i := 145) rfl)) rfl
set_option maxRecDepth 100000 in
theorem tw_866 : (Cond.fieldLink "CarryShiftsModel" (18 : Nat) "CarryShiftsModel" "taps" "[I") ∈ uw := tu (in_t4 (List.mem_of_getElem? (i := 146) rfl)) rfl
set_option maxRecDepth 100000 in
theorem tw_867 : (Cond.fieldLink "CarryShiftsModel" (21 : Nat) "CarryShiftsModel" "states" "[I") ∈ uw := tu (in_t4 (List.mem_of_getElem? (i := 147) rfl)) rfl
set_option maxRecDepth 100000 in
theorem tw_868 : (Cond.fieldLink "CarryShiftsModel" (24 : Nat) "CarryShiftsModel" "carries" "[I") ∈ uw := tu (in_t4 (List.mem_of_getElem? (i := 148) rfl)) rfl
set_option maxRecDepth 100000 in
theorem tw_869 : (Cond.fieldLink "CarryShiftsModel" (109 : Nat) "CarryShiftsModel" "kind" "I") ∈ uw := tu (in_t4 (List.mem_of_getElem? (i := 149) rfl)) rfl
set_option maxRecDepth 100000 in
theorem tw_870 : (Cond.fieldLink "CarryShiftsModel" (112 : Nat) "CarryShiftsModel" "size" "I") ∈ uw := tu (in_t4 (List.mem_of_getElem? (i := 150) rfl)) rfl
set_option maxRecDepth 100000 in
theorem tw_871 : (Cond.fieldLink "CarryShiftsModel" (115 : Nat) "CarryShiftsModel" "tapped" "I") ∈ uw := tu (in_t4 (List.mem_of_getElem? (i := 151) rfl)) rfl
set_option maxRecDepth 100000 in
theorem tw_872 : (Cond.fieldLink "CarryShiftsModel" (118 : Nat) "CarryShiftsModel" "state" "I") ∈ uw := tu (in_t4 (List.mem_of_getElem? (i := 152) rfl)) rfl
set_option maxRecDepth 100000 in
theorem tw_873 : (Cond.fieldLink "CarryShiftsModel" (121 : Nat) "CarryShiftsModel" "carry" "I") ∈ uw := tu (in_t4 (List.mem_of_getElem? (i := 153) rfl)) rfl
set_option maxRecDepth 100000 in
theorem tw_874 : (Cond.fieldLink "CarryShiftsModel" (27 : Nat) "CarryShiftsModel" "row" "[I") ∈ uw := tu (in_t4 (List.mem_of_getElem? (i := 154) rfl)) rfl
set_option maxRecDepth 100000 in
theorem tw_875 : (Cond.fieldLink "CarryShiftsModel" (147 : Nat) "CarryShiftsModel" "length" "I") ∈ uw := tu (in_t4 (List.mem_of_getElem? (i := 155) rfl)) rfl
set_option maxRecDepth 100000 in
theorem tw_876 : (Cond.fieldLink "CarryShiftsModel" (30 : Nat) "CarryShiftsModel" "sums" "[I") ∈ uw := tu (in_t4 (List.mem_of_getElem? (i := 156) rfl)) rfl
set_option maxRecDepth 100000 in
theorem tw_877 : (Cond.fieldLink "CarryShiftsModel" (188 : Nat) "CarryShiftsModel" "above" "J") ∈ uw := tu (in_t4 (List.mem_of_getElem? (i := 157) rfl)) rfl
set_option maxRecDepth 100000 in
theorem tw_878 : (Cond.fieldLink "CarryShiftsModel" (192 : Nat) "CarryShiftsModel" "below" "J") ∈ uw := tu (in_t4 (List.mem_of_getElem? (i := 158) rfl)) rfl
set_option maxRecDepth 100000 in
theorem tw_879 : (Cond.fieldLink "CarryShiftsModel" (33 : Nat) "CarryShiftsModel" "law" "[I") ∈ uw := tu (in_t4 (List.mem_of_getElem? (i := 159) rfl)) rfl
set_option maxRecDepth 100000 in
theorem tw_880 : (Cond.fieldLink "CarryShiftsModel" (36 : Nat) "CarryShiftsModel" "lawWas" "[I") ∈ uw := tu (in_t4 (List.mem_of_getElem? (i := 160) rfl)) rfl
set_option maxRecDepth 100000 in
theorem tw_881 : (Cond.fieldLink "CarryShiftsModel" (39 : Nat) "CarryShiftsModel" "lawKept" "[I") ∈ uw := tu (in_t4 (List.mem_of_getElem? (i := 161) rfl)) rfl
set_option maxRecDepth 100000 in
theorem tw_882 : (Cond.fieldLink "CarryShiftsModel" (42 : Nat) "CarryShiftsModel" "counts" "[I") ∈ uw := tu (in_t4 (List.mem_of_getElem? (i := 162) rfl)) rfl
set_option maxRecDepth 100000 in
theorem tw_883 : (Cond.fieldLink "CarryShiftsModel" (45 : Nat) "CarryShiftsModel" "tape" "[I") ∈ uw := tu (in_t4 (List.mem_of_getElem? (i := 163) rfl)) rfl
set_option maxRecDepth 100000 in
theorem tw_884 : (Cond.fieldLink "CarryShiftsModel" (253 : Nat) "CarryShiftsModel" "taped" "I") ∈ uw := tu (in_t4 (List.mem_of_getElem? (i := 164) rfl)) rfl
set_option maxRecDepth 100000 in
theorem tw_885 : (Cond.fieldLink "CarryShiftsModel" (256 : Nat) "CarryShiftsModel" "at" "I") ∈ uw := tu (in_t4 (List.mem_of_getElem? (i := 165) rfl)) rfl
set_option maxRecDepth 100000 in
theorem tw_886 : (Cond.fieldLink "CarryShiftsModel" (272 : Nat) "CarryShiftsModel" "begun" "I") ∈ uw := tu (in_t4 (List.mem_of_getElem? (i := 166) rfl)) rfl
set_option maxRecDepth 100000 in
theorem tw_887 : (Cond.fieldLink "CarryShiftsModel" (286 : Nat) "CarryShiftsModel" "token" "I") ∈ uw := tu (in_t4 (List.mem_of_getElem? (i := 167) rfl)) rfl
set_option maxRecDepth 100000 in
theorem tw_888 : (Cond.fieldLink "CarryShiftsModel" (289 : Nat) "CarryShiftsModel" "value" "I") ∈ uw := tu (in_t4 (List.mem_of_getElem? (i := 168) rfl)) rfl
set_option maxRecDepth 100000 in
theorem tw_889 : (Cond.fieldLink "CarryShiftsModel" (298 : Nat) "CarryShiftsModel" "clauses" "I") ∈ uw := tu (in_t4 (List.mem_of_getElem? (i := 169) rfl)) rfl
set_option maxRecDepth 100000 in
theorem tw_890 : (Cond.fieldLink "CarryShiftsModel" (48 : Nat) "CarryShiftsModel" "words" "[I") ∈ uw := tu (in_t4 (List.mem_of_getElem? (i := 170) rfl)) rfl
set_option maxRecDepth 100000 in
theorem tw_891 : (Cond.fieldLink "CarryShiftsModel" (51 : Nat) "CarryShiftsModel" "numbers" "[I") ∈ uw := tu (in_t4 (List.mem_of_getElem? (i := 171) rfl)) rfl
set_option maxRecDepth 100000 in
theorem tw_892 : (Cond.fieldLink "CarryShiftsModel" (327 : Nat) "CarryShiftsModel" "isKept" "Z") ∈ uw := tu (in_t4 (List.mem_of_getElem? (i := 172) rfl)) rfl
set_option maxRecDepth 100000 in
theorem tw_893 : (Cond.fieldLink "CarryShiftsModel" (331 : Nat) "CarryShiftsModel" "manyKept" "I") ∈ uw := tu (in_t4 (List.mem_of_getElem? (i := 173) rfl)) rfl
set_option maxRecDepth 100000 in
theorem tw_894 : (Cond.fieldLink "CarryShiftsModel" (54 : Nat) "CarryShiftsModel" "kept" "[I") ∈ uw := tu (in_t4 (List.mem_of_getElem? (i := 174) rfl)) rfl
set_option maxRecDepth 100000 in
theorem tw_895 : (Cond.fieldLink "CarryShiftsModel" (57 : Nat) "CarryShiftsModel" "sorts" "[I") ∈ uw := tu (in_t4 (List.mem_of_getElem? (i := 175) rfl)) rfl
set_option maxRecDepth 100000 in
theorem tw_896 : (Cond.fieldLink "CarryShiftsModel" (60 : Nat) "CarryShiftsModel" "sizes" "[I") ∈ uw := tu (in_t4 (List.mem_of_getElem? (i := 176) rfl)) rfl
set_option maxRecDepth 100000 in
theorem tw_897 : (Cond.fieldLink "CarryShiftsModel" (63 : Nat) "CarryShiftsModel" "items" "[I") ∈ uw := tu (in_t4 (List.mem_of_getElem? (i := 177) rfl)) rfl
set_option maxRecDepth 100000 in
theorem tw_898 : (Cond.lays "CarryShiftsModel" "CarryShiftsModel" "many" "I") ∈ uw := tu (in_t4 (List.mem_of_getElem? (i := 178) rfl)) rfl
set_option maxRecDepth 100000 in
theorem tw_899 : (Cond.soleField "CarryShiftsModel" "many") ∈ uw := tu (in_t4 (List.mem_of_getElem? (i := 179) rfl)) rfl
set_option maxRecDepth 100000 in
theorem tw_900 : (Cond.laysFinal "CarryShiftsModel" "CarryShiftsModel" "kinds" "[I") ∈ uw := tu (in_t4 (List.mem_of_getElem? (i := 180) rfl)) rfl
set_option maxRecDepth 100000 in
theorem tw_901 : (Cond.soleField "CarryShiftsModel" "kinds") ∈ uw := tu (in_t4 (List.mem_of_getElem? (i := 181) rfl)) rfl
set_option maxRecDepth 100000 in
theorem tw_902 : (Cond.laysFinal "CarryShiftsModel" "CarryShiftsModel" "cells" "[I") ∈ uw := tu (in_t4 (List.mem_of_getElem? (i := 182) rfl)) rfl
set_option maxRecDepth 100000 in
theorem tw_903 : (Cond.soleField "CarryShiftsModel" "cells") ∈ uw := tu (in_t4 (List.mem_of_getElem? (i := 183) rfl)) rfl
set_option maxRecDepth 100000 in
theorem tw_904 : (Cond.laysFinal "CarryShiftsModel" "CarryShiftsModel" "taps" "[I") ∈ uw := tu (in_t4 (List.mem_of_getElem? (i := 184) rfl)) rfl
set_option maxRecDepth 100000 in
theorem tw_905 : (Cond.soleField "CarryShiftsModel" "taps") ∈ uw := tu (in_t4 (List.mem_of_getElem? (i := 185) rfl)) rfl
set_option maxRecDepth 100000 in
theorem tw_906 : (Cond.laysFinal "CarryShiftsModel" "CarryShiftsModel" "states" "[I") ∈ uw := tu (in_t4 (List.mem_of_getElem? (i := 186) rfl)) rfl
set_option maxRecDepth 100000 in
theorem tw_907 : (Cond.soleField "CarryShiftsModel" "states") ∈ uw := tu (in_t4 (List.mem_of_getElem? (i := 187) rfl)) rfl
set_option maxRecDepth 100000 in
theorem tw_908 : (Cond.laysFinal "CarryShiftsModel" "CarryShiftsModel" "carries" "[I") ∈ uw := tu (in_t4 (List.mem_of_getElem? (i := 188) rfl)) rfl
set_option maxRecDepth 100000 in
theorem tw_909 : (Cond.soleField "CarryShiftsModel" "carries") ∈ uw := tu (in_t4 (List.mem_of_getElem? (i := 189) rfl)) rfl
set_option maxRecDepth 100000 in
theorem tw_910 : (Cond.lays "CarryShiftsModel" "CarryShiftsModel" "kind" "I") ∈ uw := tu (in_t4 (List.mem_of_getElem? (i := 190) rfl)) rfl
set_option maxRecDepth 100000 in
theorem tw_911 : (Cond.soleField "CarryShiftsModel" "kind") ∈ uw := tu (in_t4 (List.mem_of_getElem? (i := 191) rfl)) rfl
set_option maxRecDepth 100000 in
theorem tw_912 : (Cond.lays "CarryShiftsModel" "CarryShiftsModel" "size" "I") ∈ uw := tu (in_t4 (List.mem_of_getElem? (i := 192) rfl)) rfl
set_option maxRecDepth 100000 in
theorem tw_913 : (Cond.soleField "CarryShiftsModel" "size") ∈ uw := tu (in_t4 (List.mem_of_getElem? (i := 193) rfl)) rfl
set_option maxRecDepth 100000 in
theorem tw_914 : (Cond.lays "CarryShiftsModel" "CarryShiftsModel" "tapped" "I") ∈ uw := tu (in_t4 (List.mem_of_getElem? (i := 194) rfl)) rfl
set_option maxRecDepth 100000 in
theorem tw_915 : (Cond.soleField "CarryShiftsModel" "tapped") ∈ uw := tu (in_t4 (List.mem_of_getElem? (i := 195) rfl)) rfl
set_option maxRecDepth 100000 in
theorem tw_916 : (Cond.lays "CarryShiftsModel" "CarryShiftsModel" "state" "I") ∈ uw := tu (in_t4 (List.mem_of_getElem? (i := 196) rfl)) rfl
set_option maxRecDepth 100000 in
theorem tw_917 : (Cond.soleField "CarryShiftsModel" "state") ∈ uw := tu (in_t4 (List.mem_of_getElem? (i := 197) rfl)) rfl
set_option maxRecDepth 100000 in
theorem tw_918 : (Cond.lays "CarryShiftsModel" "CarryShiftsModel" "carry" "I") ∈ uw := tu (in_t4 (List.mem_of_getElem? (i := 198) rfl)) rfl
set_option maxRecDepth 100000 in
theorem tw_919 : (Cond.soleField "CarryShiftsModel" "carry") ∈ uw := tu (in_t4 (List.mem_of_getElem? (i := 199) rfl)) rfl
set_option maxRecDepth 100000 in
theorem tw_920 : (Cond.laysFinal "CarryShiftsModel" "CarryShiftsModel" "row" "[I") ∈ uw := tu (in_t4 (List.mem_of_getElem? (i := 200) rfl)) rfl
set_option maxRecDepth 100000 in
theorem tw_921 : (Cond.soleField "CarryShiftsModel" "row") ∈ uw := tu (in_t4 (List.mem_of_getElem? (i := 201) rfl)) rfl
set_option maxRecDepth 100000 in
theorem tw_922 : (Cond.lays "CarryShiftsModel" "CarryShiftsModel" "length" "I") ∈ uw := tu (in_t4 (List.mem_of_getElem? (i := 202) rfl)) rfl
set_option maxRecDepth 100000 in
theorem tw_923 : (Cond.soleField "CarryShiftsModel" "length") ∈ uw := tu (in_t4 (List.mem_of_getElem? (i := 203) rfl)) rfl
set_option maxRecDepth 100000 in
theorem tw_924 : (Cond.laysFinal "CarryShiftsModel" "CarryShiftsModel" "sums" "[I") ∈ uw := tu (in_t4 (List.mem_of_getElem? (i := 204) rfl)) rfl
set_option maxRecDepth 100000 in
theorem tw_925 : (Cond.soleField "CarryShiftsModel" "sums") ∈ uw := tu (in_t4 (List.mem_of_getElem? (i := 205) rfl)) rfl
set_option maxRecDepth 100000 in
theorem tw_926 : (Cond.lays "CarryShiftsModel" "CarryShiftsModel" "above" "J") ∈ uw := tu (in_t4 (List.mem_of_getElem? (i := 206) rfl)) rfl
set_option maxRecDepth 100000 in
theorem tw_927 : (Cond.soleField "CarryShiftsModel" "above") ∈ uw := tu (in_t4 (List.mem_of_getElem? (i := 207) rfl)) rfl
set_option maxRecDepth 100000 in
theorem tw_928 : (Cond.lays "CarryShiftsModel" "CarryShiftsModel" "below" "J") ∈ uw := tu (in_t4 (List.mem_of_getElem? (i := 208) rfl)) rfl
set_option maxRecDepth 100000 in
theorem tw_929 : (Cond.soleField "CarryShiftsModel" "below") ∈ uw := tu (in_t4 (List.mem_of_getElem? (i := 209) rfl)) rfl
set_option maxRecDepth 100000 in
theorem tw_930 : (Cond.laysFinal "CarryShiftsModel" "CarryShiftsModel" "law" "[I") ∈ uw := tu (in_t4 (List.mem_of_getElem? (i := 210) rfl)) rfl
set_option maxRecDepth 100000 in
theorem tw_931 : (Cond.soleField "CarryShiftsModel" "law") ∈ uw := tu (in_t4 (List.mem_of_getElem? (i := 211) rfl)) rfl
set_option maxRecDepth 100000 in
theorem tw_932 : (Cond.laysFinal "CarryShiftsModel" "CarryShiftsModel" "lawWas" "[I") ∈ uw := tu (in_t4 (List.mem_of_getElem? (i := 212) rfl)) rfl
set_option maxRecDepth 100000 in
theorem tw_933 : (Cond.soleField "CarryShiftsModel" "lawWas") ∈ uw := tu (in_t4 (List.mem_of_getElem? (i := 213) rfl)) rfl
set_option maxRecDepth 100000 in
theorem tw_934 : (Cond.laysFinal "CarryShiftsModel" "CarryShiftsModel" "lawKept" "[I") ∈ uw := tu (in_t4 (List.mem_of_getElem? (i := 214) rfl)) rfl
set_option maxRecDepth 100000 in
theorem tw_935 : (Cond.soleField "CarryShiftsModel" "lawKept") ∈ uw := tu (in_t4 (List.mem_of_getElem? (i := 215) rfl)) rfl
set_option maxRecDepth 100000 in
theorem tw_936 : (Cond.laysFinal "CarryShiftsModel" "CarryShiftsModel" "counts" "[I") ∈ uw := tu (in_t4 (List.mem_of_getElem? (i := 216) rfl)) rfl
set_option maxRecDepth 100000 in
theorem tw_937 : (Cond.soleField "CarryShiftsModel" "counts") ∈ uw := tu (in_t4 (List.mem_of_getElem? (i := 217) rfl)) rfl
set_option maxRecDepth 100000 in
theorem tw_938 : (Cond.laysFinal "CarryShiftsModel" "CarryShiftsModel" "tape" "[I") ∈ uw := tu (in_t4 (List.mem_of_getElem? (i := 218) rfl)) rfl
set_option maxRecDepth 100000 in
theorem tw_939 : (Cond.soleField "CarryShiftsModel" "tape") ∈ uw := tu (in_t4 (List.mem_of_getElem? (i := 219) rfl)) rfl
set_option maxRecDepth 100000 in
theorem tw_940 : (Cond.lays "CarryShiftsModel" "CarryShiftsModel" "taped" "I") ∈ uw := tu (in_t4 (List.mem_of_getElem? (i := 220) rfl)) rfl
set_option maxRecDepth 100000 in
theorem tw_941 : (Cond.soleField "CarryShiftsModel" "taped") ∈ uw := tu (in_t4 (List.mem_of_getElem? (i := 221) rfl)) rfl
set_option maxRecDepth 100000 in
theorem tw_942 : (Cond.lays "CarryShiftsModel" "CarryShiftsModel" "at" "I") ∈ uw := tu (in_t4 (List.mem_of_getElem? (i := 222) rfl)) rfl
set_option maxRecDepth 100000 in
theorem tw_943 : (Cond.soleField "CarryShiftsModel" "at") ∈ uw := tu (in_t4 (List.mem_of_getElem? (i := 223) rfl)) rfl
set_option maxRecDepth 100000 in
theorem tw_944 : (Cond.lays "CarryShiftsModel" "CarryShiftsModel" "begun" "I") ∈ uw := tu (in_t4 (List.mem_of_getElem? (i := 224) rfl)) rfl
set_option maxRecDepth 100000 in
theorem tw_945 : (Cond.soleField "CarryShiftsModel" "begun") ∈ uw := tu (in_t4 (List.mem_of_getElem? (i := 225) rfl)) rfl
set_option maxRecDepth 100000 in
theorem tw_946 : (Cond.lays "CarryShiftsModel" "CarryShiftsModel" "token" "I") ∈ uw := tu (in_t4 (List.mem_of_getElem? (i := 226) rfl)) rfl
set_option maxRecDepth 100000 in
theorem tw_947 : (Cond.soleField "CarryShiftsModel" "token") ∈ uw := tu (in_t4 (List.mem_of_getElem? (i := 227) rfl)) rfl
set_option maxRecDepth 100000 in
theorem tw_948 : (Cond.lays "CarryShiftsModel" "CarryShiftsModel" "value" "I") ∈ uw := tu (in_t4 (List.mem_of_getElem? (i := 228) rfl)) rfl
set_option maxRecDepth 100000 in
theorem tw_949 : (Cond.soleField "CarryShiftsModel" "value") ∈ uw := tu (in_t4 (List.mem_of_getElem? (i := 229) rfl)) rfl
set_option maxRecDepth 100000 in
theorem tw_950 : (Cond.lays "CarryShiftsModel" "CarryShiftsModel" "clauses" "I") ∈ uw := tu (in_t4 (List.mem_of_getElem? (i := 230) rfl)) rfl
set_option maxRecDepth 100000 in
theorem tw_951 : (Cond.soleField "CarryShiftsModel" "clauses") ∈ uw := tu (in_t4 (List.mem_of_getElem? (i := 231) rfl)) rfl
set_option maxRecDepth 100000 in
theorem tw_952 : (Cond.laysFinal "CarryShiftsModel" "CarryShiftsModel" "words" "[I") ∈ uw := tu (in_t4 (List.mem_of_getElem? (i := 232) rfl)) rfl
set_option maxRecDepth 100000 in
theorem tw_953 : (Cond.soleField "CarryShiftsModel" "words") ∈ uw := tu (in_t4 (List.mem_of_getElem? (i := 233) rfl)) rfl
set_option maxRecDepth 100000 in
theorem tw_954 : (Cond.laysFinal "CarryShiftsModel" "CarryShiftsModel" "numbers" "[I") ∈ uw := tu (in_t4 (List.mem_of_getElem? (i := 234) rfl)) rfl
set_option maxRecDepth 100000 in
theorem tw_955 : (Cond.soleField "CarryShiftsModel" "numbers") ∈ uw := tu (in_t4 (List.mem_of_getElem? (i := 235) rfl)) rfl
set_option maxRecDepth 100000 in
theorem tw_956 : (Cond.lays "CarryShiftsModel" "CarryShiftsModel" "isKept" "Z") ∈ uw := tu (in_t4 (List.mem_of_getElem? (i := 236) rfl)) rfl
set_option maxRecDepth 100000 in
theorem tw_957 : (Cond.soleField "CarryShiftsModel" "isKept") ∈ uw := tu (in_t4 (List.mem_of_getElem? (i := 237) rfl)) rfl
set_option maxRecDepth 100000 in
theorem tw_958 : (Cond.lays "CarryShiftsModel" "CarryShiftsModel" "manyKept" "I") ∈ uw := tu (in_t4 (List.mem_of_getElem? (i := 238) rfl)) rfl
set_option maxRecDepth 100000 in
theorem tw_959 : (Cond.soleField "CarryShiftsModel" "manyKept") ∈ uw := tu (in_t4 (List.mem_of_getElem? (i := 239) rfl)) rfl
set_option maxRecDepth 100000 in
theorem tw_960 : (Cond.laysFinal "CarryShiftsModel" "CarryShiftsModel" "kept" "[I") ∈ uw := tu (in_t5 (List.mem_of_getElem? (i := 0) rfl)) rfl
set_option maxRecDepth 100000 in
theorem tw_961 : (Cond.soleField "CarryShiftsModel" "kept") ∈ uw := tu (in_t5 (List.mem_of_getElem? (i := 1) rfl)) rfl
set_option maxRecDepth 100000 in
theorem tw_962 : (Cond.laysFinal "CarryShiftsModel" "CarryShiftsModel" "sorts" "[I") ∈ uw := tu (in_t5 (List.mem_of_getElem? (i := 2) rfl)) rfl
set_option maxRecDepth 100000 in
theorem tw_963 : (Cond.soleField "CarryShiftsModel" "sorts") ∈ uw := tu (in_t5 (List.mem_of_getElem? (i := 3) rfl)) rfl
set_option maxRecDepth 100000 in
theorem tw_964 : (Cond.laysFinal "CarryShiftsModel" "CarryShiftsModel" "sizes" "[I") ∈ uw := tu (in_t5 (List.mem_of_getElem? (i := 4) rfl)) rfl
set_option maxRecDepth 100000 in
theorem tw_965 : (Cond.soleField "CarryShiftsModel" "sizes") ∈ uw := tu (in_t5 (List.mem_of_getElem? (i := 5) rfl)) rfl
set_option maxRecDepth 100000 in
theorem tw_966 : (Cond.laysFinal "CarryShiftsModel" "CarryShiftsModel" "items" "[I") ∈ uw := tu (in_t5 (List.mem_of_getElem? (i := 6) rfl)) rfl
set_option maxRecDepth 100000 in
theorem tw_967 : (Cond.soleField "CarryShiftsModel" "items") ∈ uw := tu (in_t5 (List.mem_of_getElem? (i := 7) rfl)) rfl
set_option maxRecDepth 100000 in
theorem tw_968 : (Cond.superclass "CarryShiftsModel" "java/lang/Object") ∈ uw := tu (in_t5 (List.mem_of_getElem? (i := 8) rfl)) rfl
set_option maxRecDepth 100000 in
theorem tw_969 : (Cond.methodLink "CarryShiftsLaw" (17 : Nat) ⟨"CarryShiftsModel", "machine", "(IIII)I"⟩) ∈ uw := tu (in_t5 (List.mem_of_getElem? (i := 9) rfl)) rfl
set_option maxRecDepth 100000 in
theorem tw_970 : (Cond.instanceMethod ⟨"CarryShiftsModel", "machine", "(IIII)I"⟩) ∈ uw := tu (in_t5 (List.mem_of_getElem? (i := 10) rfl)) rfl
set_option maxRecDepth 100000 in
theorem tw_971 : (Cond.selects "CarryShiftsModel" ⟨"CarryShiftsModel", "machine", "(IIII)I"⟩ ⟨"CarryShiftsModel", "machine", "(IIII)I"⟩) ∈ uw := tu (in_t5 (List.mem_of_getElem? (i := 11) rfl)) rfl
set_option maxRecDepth 100000 in
theorem tw_972 : (Cond.code ⟨"CarryShiftsModel", "machine", "(IIII)I"⟩ prog_13_method_7_code (5 : Nat) (Option.some FieldType.int)) ∈ uw := tu (in_t5 (List.mem_of_getElem? (i := 12) rfl)) rfl
set_option maxRecDepth 100000 in
theorem tw_973 : (Cond.methodLink "CarryShiftsModel" (74 : Nat) ⟨"CarryShiftsModel", "isKind", "(I)Z"⟩) ∈ uw := tu (in_t5 (List.mem_of_getElem? (i := 13) rfl)) rfl
set_option maxRecDepth 100000 in
theorem tw_974 : (Cond.static ⟨"CarryShiftsModel", "isKind", "(I)Z"⟩) ∈ uw := tu (in_t5 (List.mem_of_getElem? (i := 14) rfl)) rfl
set_option maxRecDepth 100000 in
theorem tw_975 : (Cond.code ⟨"CarryShiftsModel", "isKind", "(I)Z"⟩ prog_13_method_5_code (1 : Nat) (Option.some FieldType.boolean)) ∈ uw := tu (in_t5 (List.mem_of_getElem? (i := 15) rfl)) rfl
set_option maxRecDepth 100000 in
theorem tw_976 : (Cond.methodLink "CarryShiftsModel" (70 : Nat) ⟨"CarryShiftsModel", "in", "(III)Z"⟩) ∈ uw := tu (in_t5 (List.mem_of_getElem? (i := 16) rfl)) rfl
set_option maxRecDepth 100000 in
theorem tw_977 : (Cond.static ⟨"CarryShiftsModel", "in", "(III)Z"⟩) ∈ uw := tu (in_t5 (List.mem_of_getElem? (i := 17) rfl)) rfl
set_option maxRecDepth 100000 in
theorem tw_978 : (Cond.code ⟨"CarryShiftsModel", "in", "(III)Z"⟩ prog_13_method_1_code (3 : Nat) (Option.some FieldType.boolean)) ∈ uw := tu (in_t5 (List.mem_of_getElem? (i := 18) rfl)) rfl
set_option maxRecDepth 100000 in
theorem tw_979 : (Cond.methodLink "CarryShiftsModel" (78 : Nat) ⟨"CarryShiftsModel", "isState", "(II)Z"⟩) ∈ uw := tu (in_t5 (List.mem_of_getElem? (i := 19) rfl)) rfl
set_option maxRecDepth 100000 in
theorem tw_980 : (Cond.static ⟨"CarryShiftsModel", "isState", "(II)Z"⟩) ∈ uw := tu (in_t5 (List.mem_of_getElem? (i := 20) rfl)) rfl
set_option maxRecDepth 100000 in
theorem tw_981 : (Cond.code ⟨"CarryShiftsModel", "isState", "(II)Z"⟩ prog_13_method_4_code (2 : Nat) (Option.some FieldType.boolean)) ∈ uw := tu (in_t5 (List.mem_of_getElem? (i := 21) rfl)) rfl
set_option maxRecDepth 100000 in
theorem tw_982 : (Cond.methodLink "CarryShiftsModel" (82 : Nat) ⟨"CarryShiftsModel", "lay", "(IIIIII)V"⟩) ∈ uw := tu (in_t5 (List.mem_of_getElem? (i := 22) rfl)) rfl
set_option maxRecDepth 100000 in
theorem tw_983 : (Cond.privateMethod ⟨"CarryShiftsModel", "lay", "(IIIIII)V"⟩) ∈ lw_tbl := in_t5 (List.mem_of_getElem? (i := 23) rfl)
set_option maxRecDepth 100000 in
theorem tw_984 : (Cond.instanceMethod ⟨"CarryShiftsModel", "lay", "(IIIIII)V"⟩) ∈ uw := tu (in_t5 (List.mem_of_getElem? (i := 24) rfl)) rfl
set_option maxRecDepth 100000 in
theorem tw_985 : (Cond.code ⟨"CarryShiftsModel", "lay", "(IIIIII)V"⟩ prog_13_method_6_code (7 : Nat) (Option.none : Option FieldType)) ∈ uw := tu (in_t5 (List.mem_of_getElem? (i := 25) rfl)) rfl
set_option maxRecDepth 100000 in
theorem tw_986 : (Cond.methodLink "CarryShiftsLaw" (22 : Nat) ⟨"CarryShiftsModel", "drop", "()I"⟩) ∈ uw := tu (in_t5 (List.mem_of_getElem? (i := 26) rfl)) rfl
set_option maxRecDepth 100000 in
theorem tw_987 : (Cond.instanceMethod ⟨"CarryShiftsModel", "drop", "()I"⟩) ∈ uw := tu (in_t5 (List.mem_of_getElem? (i := 27) rfl)) rfl
set_option maxRecDepth 100000 in
theorem tw_988 : (Cond.selects "CarryShiftsModel" ⟨"CarryShiftsModel", "drop", "()I"⟩ ⟨"CarryShiftsModel", "drop", "()I"⟩) ∈ uw := tu (in_t5 (List.mem_of_getElem? (i := 28) rfl)) rfl
set_option maxRecDepth 100000 in
theorem tw_989 : (Cond.code ⟨"CarryShiftsModel", "drop", "()I"⟩ prog_13_method_8_code (1 : Nat) (Option.some FieldType.int)) ∈ uw := tu (in_t5 (List.mem_of_getElem? (i := 29) rfl)) rfl
set_option maxRecDepth 100000 in
theorem tw_990 : (Cond.methodLink "CarryShiftsLaw" (27 : Nat) ⟨"CarryShiftsModel", "set", "(III)I"⟩) ∈ uw := tu (in_t5 (List.mem_of_getElem? (i := 30) rfl)) rfl
set_option maxRecDepth 100000 in
theorem tw_991 : (Cond.instanceMethod ⟨"CarryShiftsModel", "set", "(III)I"⟩) ∈ uw := tu (in_t5 (List.mem_of_getElem? (i := 31) rfl)) rfl
set_option maxRecDepth 100000 in
theorem tw_992 : (Cond.selects "CarryShiftsModel" ⟨"CarryShiftsModel", "set", "(III)I"⟩ ⟨"CarryShiftsModel", "set", "(III)I"⟩) ∈ uw := tu (in_t5 (List.mem_of_getElem? (i := 32) rfl)) rfl
set_option maxRecDepth 100000 in
theorem tw_993 : (Cond.code ⟨"CarryShiftsModel", "set", "(III)I"⟩ prog_13_method_11_code (5 : Nat) (Option.some FieldType.int)) ∈ uw := tu (in_t5 (List.mem_of_getElem? (i := 33) rfl)) rfl
set_option maxRecDepth 100000 in
theorem tw_994 : (Cond.methodLink "CarryShiftsModel" (86 : Nat) ⟨"CarryShiftsModel", "isMachine", "(I)Z"⟩) ∈ uw := tu (in_t5 (List.mem_of_getElem? (i := 34) rfl)) rfl
set_option maxRecDepth 100000 in
theorem tw_995 : (Cond.privateMethod ⟨"CarryShiftsModel", "isMachine", "(I)Z"⟩) ∈ lw_tbl := in_t5 (List.mem_of_getElem? (i := 35) rfl)
set_option maxRecDepth 100000 in
theorem tw_996 : (Cond.instanceMethod ⟨"CarryShiftsModel", "isMachine", "(I)Z"⟩) ∈ uw := tu (in_t5 (List.mem_of_getElem? (i := 36) rfl)) rfl
set_option maxRecDepth 100000 in
theorem tw_997 : (Cond.code ⟨"CarryShiftsModel", "isMachine", "(I)Z"⟩ prog_13_method_3_code (2 : Nat) (Option.some FieldType.boolean)) ∈ uw := tu (in_t5 (List.mem_of_getElem? (i := 37) rfl)) rfl
set_option maxRecDepth 100000 in
theorem tw_998 : (Cond.methodLink "CarryShiftsModel" (89 : Nat) ⟨"CarryShiftsModel", "isSettable", "(III)Z"⟩) ∈ uw := tu (in_t5 (List.mem_of_getElem? (i := 38) rfl)) rfl
set_option maxRecDepth 100000 in
theorem tw_999 : (Cond.privateMethod ⟨"CarryShiftsModel", "isSettable", "(III)Z"⟩) ∈ lw_tbl := in_t5 (List.mem_of_getElem? (i := 39) rfl)
set_option maxRecDepth 100000 in
theorem tw_1000 : (Cond.instanceMethod ⟨"CarryShiftsModel", "isSettable", "(III)Z"⟩) ∈ uw := tu (in_t5 (List.mem_of_getElem? (i := 40) rfl)) rfl
set_option maxRecDepth 100000 in
theorem tw_1001 : (Cond.code ⟨"CarryShiftsModel", "isSettable", "(III)Z"⟩ prog_13_method_9_code (4 : Nat) (Option.some FieldType.boolean)) ∈ uw := tu (in_t5 (List.mem_of_getElem? (i := 41) rfl)) rfl
set_option maxRecDepth 100000 in
theorem tw_1002 : (Cond.methodLink "CarryShiftsModel" (92 : Nat) ⟨"CarryShiftsModel", "rowOf", "(I)[I"⟩) ∈ uw := tu (in_t5 (List.mem_of_getElem? (i := 42) rfl)) rfl
set_option maxRecDepth 100000 in
theorem tw_1003 : (Cond.privateMethod ⟨"CarryShiftsModel", "rowOf", "(I)[I"⟩) ∈ lw_tbl := in_t5 (List.mem_of_getElem? (i := 43) rfl)
set_option maxRecDepth 100000 in
theorem tw_1004 : (Cond.instanceMethod ⟨"CarryShiftsModel", "rowOf", "(I)[I"⟩) ∈ uw := tu (in_t5 (List.mem_of_getElem? (i := 44) rfl)) rfl
set_option maxRecDepth 100000 in
theorem tw_1005 : (Cond.code ⟨"CarryShiftsModel", "rowOf", "(I)[I"⟩ prog_13_method_10_code (2 : Nat) (Option.some (FieldType.array FieldType.int))) ∈ uw := tu (in_t5 (List.mem_of_getElem? (i := 45) rfl)) rfl
set_option maxRecDepth 100000 in
theorem tw_1006 : (Cond.methodLink "CarryShiftsLaw" (32 : Nat) ⟨"CarryShiftsModel", "of", "(II)I"⟩) ∈ uw := tu (in_t5 (List.mem_of_getElem? (i := 46) rfl)) rfl
set_option maxRecDepth 100000 in
theorem tw_1007 : (Cond.instanceMethod ⟨"CarryShiftsModel", "of", "(II)I"⟩) ∈ uw := tu (in_t5 (List.mem_of_getElem? (i := 47) rfl)) rfl
set_option maxRecDepth 100000 in
theorem tw_1008 : (Cond.selects "CarryShiftsModel" ⟨"CarryShiftsModel", "of", "(II)I"⟩ ⟨"CarryShiftsModel", "of", "(II)I"⟩) ∈ uw := tu (in_t5 (List.mem_of_getElem? (i := 48) rfl)) rfl
set_option maxRecDepth 100000 in
theorem tw_1009 : (Cond.code ⟨"CarryShiftsModel", "of", "(II)I"⟩ prog_13_method_14_code (3 : Nat) (Option.some FieldType.int)) ∈ uw := tu (in_t5 (List.mem_of_getElem? (i := 49) rfl)) rfl
set_option maxRecDepth 100000 in
theorem tw_1010 : (Cond.methodLink "CarryShiftsModel" (99 : Nat) ⟨"CarryShiftsModel", "made", "(I)I"⟩) ∈ uw := tu (in_t5 (List.mem_of_getElem? (i := 50) rfl)) rfl
set_option maxRecDepth 100000 in
theorem tw_1011 : (Cond.privateMethod ⟨"CarryShiftsModel", "made", "(I)I"⟩) ∈ lw_tbl := in_t5 (List.mem_of_getElem? (i := 51) rfl)
set_option maxRecDepth 100000 in
theorem tw_1012 : (Cond.instanceMethod ⟨"CarryShiftsModel", "made", "(I)I"⟩) ∈ uw := tu (in_t5 (List.mem_of_getElem? (i := 52) rfl)) rfl
set_option maxRecDepth 100000 in
theorem tw_1013 : (Cond.code ⟨"CarryShiftsModel", "made", "(I)I"⟩ prog_13_method_13_code (3 : Nat) (Option.some FieldType.int)) ∈ uw := tu (in_t5 (List.mem_of_getElem? (i := 53) rfl)) rfl
set_option maxRecDepth 100000 in
theorem tw_1014 : (Cond.methodLink "CarryShiftsModel" (103 : Nat) ⟨"CarryShiftsModel", "links", "(I)I"⟩) ∈ uw := tu (in_t5 (List.mem_of_getElem? (i := 54) rfl)) rfl
set_option maxRecDepth 100000 in
theorem tw_1015 : (Cond.privateMethod ⟨"CarryShiftsModel", "links", "(I)I"⟩) ∈ lw_tbl := in_t5 (List.mem_of_getElem? (i := 55) rfl)
set_option maxRecDepth 100000 in
theorem tw_1016 : (Cond.instanceMethod ⟨"CarryShiftsModel", "links", "(I)I"⟩) ∈ uw := tu (in_t5 (List.mem_of_getElem? (i := 56) rfl)) rfl
set_option maxRecDepth 100000 in
theorem tw_1017 : (Cond.code ⟨"CarryShiftsModel", "links", "(I)I"⟩ prog_13_method_12_code (4 : Nat) (Option.some FieldType.int)) ∈ uw := tu (in_t5 (List.mem_of_getElem? (i := 57) rfl)) rfl
set_option maxRecDepth 100000 in
theorem tw_1018 : (Cond.methodLink "CarryShiftsModel" (96 : Nat) ⟨"CarryShiftsModel", "has", "(II)Z"⟩) ∈ uw := tu (in_t5 (List.mem_of_getElem? (i := 58) rfl)) rfl
set_option maxRecDepth 100000 in
theorem tw_1019 : (Cond.static ⟨"CarryShiftsModel", "has", "(II)Z"⟩) ∈ uw := tu (in_t5 (List.mem_of_getElem? (i := 59) rfl)) rfl
set_option maxRecDepth 100000 in
theorem tw_1020 : (Cond.code ⟨"CarryShiftsModel", "has", "(II)Z"⟩ prog_13_method_17_code (2 : Nat) (Option.some FieldType.boolean)) ∈ uw := tu (in_t5 (List.mem_of_getElem? (i := 60) rfl)) rfl
set_option maxRecDepth 100000 in
theorem tw_1021 : (Cond.methodLink "CarryShiftsLaw" (36 : Nat) ⟨"CarryShiftsModel", "taken", "(II)I"⟩) ∈ uw := tu (in_t5 (List.mem_of_getElem? (i := 61) rfl)) rfl
set_option maxRecDepth 100000 in
theorem tw_1022 : (Cond.instanceMethod ⟨"CarryShiftsModel", "taken", "(II)I"⟩) ∈ uw := tu (in_t5 (List.mem_of_getElem? (i := 62) rfl)) rfl
set_option maxRecDepth 100000 in
theorem tw_1023 : (Cond.selects "CarryShiftsModel" ⟨"CarryShiftsModel", "taken", "(II)I"⟩ ⟨"CarryShiftsModel", "taken", "(II)I"⟩) ∈ uw := tu (in_t5 (List.mem_of_getElem? (i := 63) rfl)) rfl
set_option maxRecDepth 100000 in
theorem tw_1024 : (Cond.code ⟨"CarryShiftsModel", "taken", "(II)I"⟩ prog_13_method_16_code (3 : Nat) (Option.some FieldType.int)) ∈ uw := tu (in_t5 (List.mem_of_getElem? (i := 64) rfl)) rfl
set_option maxRecDepth 100000 in
theorem tw_1025 : (Cond.methodLink "CarryShiftsModel" (106 : Nat) ⟨"CarryShiftsModel", "isUnder", "(II)Z"⟩) ∈ uw := tu (in_t5 (List.mem_of_getElem? (i := 65) rfl)) rfl
set_option maxRecDepth 100000 in
theorem tw_1026 : (Cond.static ⟨"CarryShiftsModel", "isUnder", "(II)Z"⟩) ∈ uw := tu (in_t5 (List.mem_of_getElem? (i := 66) rfl)) rfl
set_option maxRecDepth 100000 in
theorem tw_1027 : (Cond.code ⟨"CarryShiftsModel", "isUnder", "(II)Z"⟩ prog_13_method_15_code (2 : Nat) (Option.some FieldType.boolean)) ∈ uw := tu (in_t5 (List.mem_of_getElem? (i := 67) rfl)) rfl
set_option maxRecDepth 100000 in
theorem tw_1028 : (Cond.methodLink "CarryShiftsLaw" (40 : Nat) ⟨"CarryShiftsModel", "step", "(II)I"⟩) ∈ uw := tu (in_t5 (List.mem_of_getElem? (i := 68) rfl)) rfl
set_option maxRecDepth 100000 in
theorem tw_1029 : (Cond.instanceMethod ⟨"CarryShiftsModel", "step", "(II)I"⟩) ∈ uw := tu (in_t5 (List.mem_of_getElem? (i := 69) rfl)) rfl
set_option maxRecDepth 100000 in
theorem tw_1030 : (Cond.selects "CarryShiftsModel" ⟨"CarryShiftsModel", "step", "(II)I"⟩ ⟨"CarryShiftsModel", "step", "(II)I"⟩) ∈ uw := tu (in_t5 (List.mem_of_getElem? (i := 70) rfl)) rfl
set_option maxRecDepth 100000 in
theorem tw_1031 : (Cond.code ⟨"CarryShiftsModel", "step", "(II)I"⟩ prog_13_method_23_code (5 : Nat) (Option.some FieldType.int)) ∈ uw := tu (in_t5 (List.mem_of_getElem? (i := 71) rfl)) rfl
set_option maxRecDepth 100000 in
theorem tw_1032 : (Cond.methodLink "CarryShiftsModel" (140 : Nat) ⟨"CarryShiftsModel", "thinks", "(I)V"⟩) ∈ uw := tu (in_t5 (List.mem_of_getElem? (i := 72) rfl)) rfl
set_option maxRecDepth 100000 in
theorem tw_1033 : (Cond.privateMethod ⟨"CarryShiftsModel", "thinks", "(I)V"⟩) ∈ lw_tbl := in_t5 (List.mem_of_getElem? (i := 73) rfl)
set_option maxRecDepth 100000 in
theorem tw_1034 : (Cond.instanceMethod ⟨"CarryShiftsModel", "thinks", "(I)V"⟩) ∈ uw := tu (in_t5 (List.mem_of_getElem? (i := 74) rfl)) rfl
set_option maxRecDepth 100000 in
theorem tw_1035 : (Cond.code ⟨"CarryShiftsModel", "thinks", "(I)V"⟩ prog_13_method_18_code (2 : Nat) (Option.none : Option FieldType)) ∈ uw := tu (in_t5 (List.mem_of_getElem? (i := 75) rfl)) rfl
set_option maxRecDepth 100000 in
theorem tw_1036 : (Cond.methodLink "CarryShiftsModel" (144 : Nat) ⟨"CarryShiftsModel", "steps", "()I"⟩) ∈ uw := tu (in_t5 (List.mem_of_getElem? (i := 76) rfl)) rfl
set_option maxRecDepth 100000 in
theorem tw_1037 : (Cond.privateMethod ⟨"CarryShiftsModel", "steps", "()I"⟩) ∈ lw_tbl := in_t5 (List.mem_of_getElem? (i := 77) rfl)
set_option maxRecDepth 100000 in
theorem tw_1038 : (Cond.instanceMethod ⟨"CarryShiftsModel", "steps", "()I"⟩) ∈ uw := tu (in_t5 (List.mem_of_getElem? (i := 78) rfl)) rfl
set_option maxRecDepth 100000 in
theorem tw_1039 : (Cond.code ⟨"CarryShiftsModel", "steps", "()I"⟩ prog_13_method_22_code (4 : Nat) (Option.some FieldType.int)) ∈ uw := tu (in_t5 (List.mem_of_getElem? (i := 79) rfl)) rfl
set_option maxRecDepth 100000 in
theorem tw_1040 : (Cond.methodLink "CarryShiftsModel" (127 : Nat) ⟨"CarryShiftsModel", "goesRound", "()I"⟩) ∈ uw := tu (in_t5 (List.mem_of_getElem? (i := 80) rfl)) rfl
set_option maxRecDepth 100000 in
theorem tw_1041 : (Cond.privateMethod ⟨"CarryShiftsModel", "goesRound", "()I"⟩) ∈ lw_tbl := in_t5 (List.mem_of_getElem? (i := 81) rfl)
set_option maxRecDepth 100000 in
theorem tw_1042 : (Cond.instanceMethod ⟨"CarryShiftsModel", "goesRound", "()I"⟩) ∈ uw := tu (in_t5 (List.mem_of_getElem? (i := 82) rfl)) rfl
set_option maxRecDepth 100000 in
theorem tw_1043 : (Cond.code ⟨"CarryShiftsModel", "goesRound", "()I"⟩ prog_13_method_21_code (6 : Nat) (Option.some FieldType.int)) ∈ uw := tu (in_t5 (List.mem_of_getElem? (i := 83) rfl)) rfl
set_option maxRecDepth 100000 in
theorem tw_1044 : (Cond.methodLink "CarryShiftsModel" (131 : Nat) ⟨"CarryShiftsModel", "sum", "()I"⟩) ∈ uw := tu (in_t5 (List.mem_of_getElem? (i := 84) rfl)) rfl
set_option maxRecDepth 100000 in
theorem tw_1045 : (Cond.privateMethod ⟨"CarryShiftsModel", "sum", "()I"⟩) ∈ lw_tbl := in_t5 (List.mem_of_getElem? (i := 85) rfl)
set_option maxRecDepth 100000 in
theorem tw_1046 : (Cond.instanceMethod ⟨"CarryShiftsModel", "sum", "()I"⟩) ∈ uw := tu (in_t5 (List.mem_of_getElem? (i := 86) rfl)) rfl
set_option maxRecDepth 100000 in
theorem tw_1047 : (Cond.code ⟨"CarryShiftsModel", "sum", "()I"⟩ prog_13_method_20_code (2 : Nat) (Option.some FieldType.int)) ∈ uw := tu (in_t5 (List.mem_of_getElem? (i := 87) rfl)) rfl
set_option maxRecDepth 100000 in
theorem tw_1048 : (Cond.methodLink "CarryShiftsModel" (124 : Nat) ⟨"CarryShiftsModel", "bitsOf", "(I)I"⟩) ∈ uw := tu (in_t5 (List.mem_of_getElem? (i := 88) rfl)) rfl
set_option maxRecDepth 100000 in
theorem tw_1049 : (Cond.static ⟨"CarryShiftsModel", "bitsOf", "(I)I"⟩) ∈ uw := tu (in_t5 (List.mem_of_getElem? (i := 89) rfl)) rfl
set_option maxRecDepth 100000 in
theorem tw_1050 : (Cond.code ⟨"CarryShiftsModel", "bitsOf", "(I)I"⟩ prog_13_method_19_code (3 : Nat) (Option.some FieldType.int)) ∈ uw := tu (in_t5 (List.mem_of_getElem? (i := 90) rfl)) rfl
set_option maxRecDepth 100000 in
theorem tw_1051 : (Cond.methodLink "CarryShiftsModel" (134 : Nat) ⟨"java/lang/Math", "min", "(II)I"⟩) ∈ uw := tu (in_t5 (List.mem_of_getElem? (i := 91) rfl)) rfl
set_option maxRecDepth 100000 in
theorem tw_1052 : (Cond.methodLink "CarryShiftsLaw" (44 : Nat) ⟨"CarryShiftsModel", "then", "(III)I"⟩) ∈ uw := tu (in_t5 (List.mem_of_getElem? (i := 92) rfl)) rfl
set_option maxRecDepth 100000 in
theorem tw_1053 : (Cond.instanceMethod ⟨"CarryShiftsModel", "then", "(III)I"⟩) ∈ uw := tu (in_t5 (List.mem_of_getElem? (i := 93) rfl)) rfl
set_option maxRecDepth 100000 in
theorem tw_1054 : (Cond.selects "CarryShiftsModel" ⟨"CarryShiftsModel", "then", "(III)I"⟩ ⟨"CarryShiftsModel", "then", "(III)I"⟩) ∈ uw := tu (in_t5 (List.mem_of_getElem? (i := 94) rfl)) rfl
set_option maxRecDepth 100000 in
theorem tw_1055 : (Cond.code ⟨"CarryShiftsModel", "then", "(III)I"⟩ prog_13_method_24_code (6 : Nat) (Option.some FieldType.int)) ∈ uw := tu (in_t5 (List.mem_of_getElem? (i := 95) rfl)) rfl
set_option maxRecDepth 100000 in
theorem tw_1056 : (Cond.methodLink "CarryShiftsLaw" (48 : Nat) ⟨"CarryShiftsModel", "film", "(III)I"⟩) ∈ uw := tu (in_t5 (List.mem_of_getElem? (i := 96) rfl)) rfl
set_option maxRecDepth 100000 in
theorem tw_1057 : (Cond.instanceMethod ⟨"CarryShiftsModel", "film", "(III)I"⟩) ∈ uw := tu (in_t5 (List.mem_of_getElem? (i := 97) rfl)) rfl
set_option maxRecDepth 100000 in
theorem tw_1058 : (Cond.selects "CarryShiftsModel" ⟨"CarryShiftsModel", "film", "(III)I"⟩ ⟨"CarryShiftsModel", "film", "(III)I"⟩) ∈ uw := tu (in_t5 (List.mem_of_getElem? (i := 98) rfl)) rfl
set_option maxRecDepth 100000 in
theorem tw_1059 : (Cond.code ⟨"CarryShiftsModel", "film", "(III)I"⟩ prog_13_method_28_code (4 : Nat) (Option.some FieldType.int)) ∈ uw := tu (in_t5 (List.mem_of_getElem? (i := 99) rfl)) rfl
set_option maxRecDepth 100000 in
theorem tw_1060 : (Cond.methodLink "CarryShiftsModel" (150 : Nat) ⟨"CarryShiftsModel", "isSheet", "(I)Z"⟩) ∈ uw := tu (in_t5 (List.mem_of_getElem? (i := 100) rfl)) rfl
set_option maxRecDepth 100000 in
theorem tw_1061 : (Cond.static ⟨"CarryShiftsModel", "isSheet", "(I)Z"⟩) ∈ uw := tu (in_t5 (List.mem_of_getElem? (i := 101) rfl)) rfl
set_option maxRecDepth 100000 in
theorem tw_1062 : (Cond.code ⟨"CarryShiftsModel", "isSheet", "(I)Z"⟩ prog_13_method_30_code (1 : Nat) (Option.some FieldType.boolean)) ∈ uw := tu (in_t5 (List.mem_of_getElem? (i := 102) rfl)) rfl
set_option maxRecDepth 100000 in
theorem tw_1063 : (Cond.methodLink "CarryShiftsModel" (153 : Nat) ⟨"CarryShiftsModel", "tells", "(II)V"⟩) ∈ uw := tu (in_t5 (List.mem_of_getElem? (i := 103) rfl)) rfl
set_option maxRecDepth 100000 in
theorem tw_1064 : (Cond.privateMethod ⟨"CarryShiftsModel", "tells", "(II)V"⟩) ∈ lw_tbl := in_t5 (List.mem_of_getElem? (i := 104) rfl)
set_option maxRecDepth 100000 in
theorem tw_1065 : (Cond.instanceMethod ⟨"CarryShiftsModel", "tells", "(II)V"⟩) ∈ uw := tu (in_t5 (List.mem_of_getElem? (i := 105) rfl)) rfl
set_option maxRecDepth 100000 in
theorem tw_1066 : (Cond.code ⟨"CarryShiftsModel", "tells", "(II)V"⟩ prog_13_method_25_code (4 : Nat) (Option.none : Option FieldType)) ∈ uw := tu (in_t5 (List.mem_of_getElem? (i := 106) rfl)) rfl
set_option maxRecDepth 100000 in
theorem tw_1067 : (Cond.methodLink "CarryShiftsModel" (157 : Nat) ⟨"CarryShiftsModel", "comesTo", "(I)I"⟩) ∈ uw := tu (in_t5 (List.mem_of_getElem? (i := 107) rfl)) rfl
set_option maxRecDepth 100000 in
theorem tw_1068 : (Cond.privateMethod ⟨"CarryShiftsModel", "comesTo", "(I)I"⟩) ∈ lw_tbl := in_t5 (List.mem_of_getElem? (i := 108) rfl)
set_option maxRecDepth 100000 in
theorem tw_1069 : (Cond.instanceMethod ⟨"CarryShiftsModel", "comesTo", "(I)I"⟩) ∈ uw := tu (in_t5 (List.mem_of_getElem? (i := 109) rfl)) rfl
set_option maxRecDepth 100000 in
theorem tw_1070 : (Cond.code ⟨"CarryShiftsModel", "comesTo", "(I)I"⟩ prog_13_method_26_code (3 : Nat) (Option.some FieldType.int)) ∈ uw := tu (in_t5 (List.mem_of_getElem? (i := 110) rfl)) rfl
set_option maxRecDepth 100000 in
theorem tw_1071 : (Cond.methodLink "CarryShiftsLaw" (52 : Nat) ⟨"CarryShiftsModel", "mix", "(IIII)I"⟩) ∈ uw := tu (in_t5 (List.mem_of_getElem? (i := 111) rfl)) rfl
set_option maxRecDepth 100000 in
theorem tw_1072 : (Cond.instanceMethod ⟨"CarryShiftsModel", "mix", "(IIII)I"⟩) ∈ uw := tu (in_t5 (List.mem_of_getElem? (i := 112) rfl)) rfl
set_option maxRecDepth 100000 in
theorem tw_1073 : (Cond.selects "CarryShiftsModel" ⟨"CarryShiftsModel", "mix", "(IIII)I"⟩ ⟨"CarryShiftsModel", "mix", "(IIII)I"⟩) ∈ uw := tu (in_t5 (List.mem_of_getElem? (i := 113) rfl)) rfl
set_option maxRecDepth 100000 in
theorem tw_1074 : (Cond.code ⟨"CarryShiftsModel", "mix", "(IIII)I"⟩ prog_13_method_29_code (8 : Nat) (Option.some FieldType.int)) ∈ uw := tu (in_t5 (List.mem_of_getElem? (i := 114) rfl)) rfl
set_option maxRecDepth 100000 in
theorem tw_1075 : (Cond.methodLink "CarryShiftsLaw" (57 : Nat) ⟨"CarryShiftsModel", "number", "(I)J"⟩) ∈ uw := tu (in_t5 (List.mem_of_getElem? (i := 115) rfl)) rfl
set_option maxRecDepth 100000 in
theorem tw_1076 : (Cond.instanceMethod ⟨"CarryShiftsModel", "number", "(I)J"⟩) ∈ uw := tu (in_t5 (List.mem_of_getElem? (i := 116) rfl)) rfl
set_option maxRecDepth 100000 in
theorem tw_1077 : (Cond.selects "CarryShiftsModel" ⟨"CarryShiftsModel", "number", "(I)J"⟩ ⟨"CarryShiftsModel", "number", "(I)J"⟩) ∈ uw := tu (in_t5 (List.mem_of_getElem? (i := 117) rfl)) rfl
set_option maxRecDepth 100000 in
theorem tw_1078 : (Cond.code ⟨"CarryShiftsModel", "number", "(I)J"⟩ prog_13_method_33_code (2 : Nat) (Option.some FieldType.long)) ∈ uw := tu (in_t5 (List.mem_of_getElem? (i := 118) rfl)) rfl
set_option maxRecDepth 100000 in
theorem tw_1079 : (Cond.methodLink "CarryShiftsModel" (160 : Nat) ⟨"CarryShiftsModel", "isThere", "(I)Z"⟩) ∈ uw := tu (in_t5 (List.mem_of_getElem? (i := 119) rfl)) rfl
set_option maxRecDepth 100000 in
theorem tw_1080 : (Cond.privateMethod ⟨"CarryShiftsModel", "isThere", "(I)Z"⟩) ∈ lw_tbl := in_t5 (List.mem_of_getElem? (i := 120) rfl)
set_option maxRecDepth 100000 in
theorem tw_1081 : (Cond.instanceMethod ⟨"CarryShiftsModel", "isThere", "(I)Z"⟩) ∈ uw := tu (in_t5 (List.mem_of_getElem? (i := 121) rfl)) rfl
set_option maxRecDepth 100000 in
theorem tw_1082 : (Cond.code ⟨"CarryShiftsModel", "isThere", "(I)Z"⟩ prog_13_method_31_code (2 : Nat) (Option.some FieldType.boolean)) ∈ uw := tu (in_t5 (List.mem_of_getElem? (i := 122) rfl)) rfl
set_option maxRecDepth 100000 in
theorem tw_1083 : (Cond.constantLong "CarryShiftsModel" (163 : Nat) (-9223372036854775808 : Int64)) ∈ uw := tu (in_t5 (List.mem_of_getElem? (i := 123) rfl)) rfl
set_option maxRecDepth 100000 in
theorem tw_1084 : (Cond.methodLink "CarryShiftsModel" (165 : Nat) ⟨"CarryShiftsModel", "reads", "(I)V"⟩) ∈ uw := tu (in_t5 (List.mem_of_getElem? (i := 124) rfl)) rfl
set_option maxRecDepth 100000 in
theorem tw_1085 : (Cond.privateMethod ⟨"CarryShiftsModel", "reads", "(I)V"⟩) ∈ lw_tbl := in_t5 (List.mem_of_getElem? (i := 125) rfl)
set_option maxRecDepth 100000 in
theorem tw_1086 : (Cond.instanceMethod ⟨"CarryShiftsModel", "reads", "(I)V"⟩) ∈ uw := tu (in_t5 (List.mem_of_getElem? (i := 126) rfl)) rfl
set_option maxRecDepth 100000 in
theorem tw_1087 : (Cond.code ⟨"CarryShiftsModel", "reads", "(I)V"⟩ prog_13_method_27_code (3 : Nat) (Option.none : Option FieldType)) ∈ uw := tu (in_t5 (List.mem_of_getElem? (i := 127) rfl)) rfl
set_option maxRecDepth 100000 in
theorem tw_1088 : (Cond.methodLink "CarryShiftsModel" (168 : Nat) ⟨"CarryShiftsModel", "numberNow", "()J"⟩) ∈ uw := tu (in_t5 (List.mem_of_getElem? (i := 128) rfl)) rfl
set_option maxRecDepth 100000 in
theorem tw_1089 : (Cond.privateMethod ⟨"CarryShiftsModel", "numberNow", "()J"⟩) ∈ lw_tbl := in_t5 (List.mem_of_getElem? (i := 129) rfl)
set_option maxRecDepth 100000 in
theorem tw_1090 : (Cond.instanceMethod ⟨"CarryShiftsModel", "numberNow", "()J"⟩) ∈ uw := tu (in_t5 (List.mem_of_getElem? (i := 130) rfl)) rfl
set_option maxRecDepth 100000 in
theorem tw_1091 : (Cond.code ⟨"CarryShiftsModel", "numberNow", "()J"⟩ prog_13_method_32_code (4 : Nat) (Option.some FieldType.long)) ∈ uw := tu (in_t5 (List.mem_of_getElem? (i := 131) rfl)) rfl
set_option maxRecDepth 100000 in
theorem tw_1092 : (Cond.methodLink "CarryShiftsLaw" (61 : Nat) ⟨"CarryShiftsModel", "expand", "(IIII)I"⟩) ∈ uw := tu (in_t5 (List.mem_of_getElem? (i := 132) rfl)) rfl
set_option maxRecDepth 100000 in
theorem tw_1093 : (Cond.instanceMethod ⟨"CarryShiftsModel", "expand", "(IIII)I"⟩) ∈ uw := tu (in_t5 (List.mem_of_getElem? (i := 133) rfl)) rfl
set_option maxRecDepth 100000 in
theorem tw_1094 : (Cond.selects "CarryShiftsModel" ⟨"CarryShiftsModel", "expand", "(IIII)I"⟩ ⟨"CarryShiftsModel", "expand", "(IIII)I"⟩) ∈ uw := tu (in_t5 (List.mem_of_getElem? (i := 134) rfl)) rfl
set_option maxRecDepth 100000 in
theorem tw_1095 : (Cond.code ⟨"CarryShiftsModel", "expand", "(IIII)I"⟩ prog_13_method_36_code (7 : Nat) (Option.some FieldType.int)) ∈ uw := tu (in_t5 (List.mem_of_getElem? (i := 135) rfl)) rfl
set_option maxRecDepth 100000 in
theorem tw_1096 : (Cond.methodLink "CarryShiftsModel" (172 : Nat) ⟨"CarryShiftsModel", "isFraction", "(II)Z"⟩) ∈ uw := tu (in_t5 (List.mem_of_getElem? (i := 136) rfl)) rfl
set_option maxRecDepth 100000 in
theorem tw_1097 : (Cond.static ⟨"CarryShiftsModel", "isFraction", "(II)Z"⟩) ∈ uw := tu (in_t5 (List.mem_of_getElem? (i := 137) rfl)) rfl
set_option maxRecDepth 100000 in
theorem tw_1098 : (Cond.code ⟨"CarryShiftsModel", "isFraction", "(II)Z"⟩ prog_13_method_34_code (2 : Nat) (Option.some FieldType.boolean)) ∈ uw := tu (in_t5 (List.mem_of_getElem? (i := 138) rfl)) rfl
set_option maxRecDepth 100000 in
theorem tw_1099 : (Cond.methodLink "CarryShiftsModel" (175 : Nat) ⟨"CarryShiftsModel", "behind", "(II)I"⟩) ∈ uw := tu (in_t5 (List.mem_of_getElem? (i := 139) rfl)) rfl
set_option maxRecDepth 100000 in
theorem tw_1100 : (Cond.static ⟨"CarryShiftsModel", "behind", "(II)I"⟩) ∈ uw := tu (in_t5 (List.mem_of_getElem? (i := 140) rfl)) rfl
set_option maxRecDepth 100000 in
theorem tw_1101 : (Cond.code ⟨"CarryShiftsModel", "behind", "(II)I"⟩ prog_13_method_35_code (2 : Nat) (Option.some FieldType.int)) ∈ uw := tu (in_t5 (List.mem_of_getElem? (i := 141) rfl)) rfl
set_option maxRecDepth 100000 in
theorem tw_1102 : (Cond.methodLink "CarryShiftsLaw" (65 : Nat) ⟨"CarryShiftsModel", "period", "(III)I"⟩) ∈ uw := tu (in_t5 (List.mem_of_getElem? (i := 142) rfl)) rfl
set_option maxRecDepth 100000 in
theorem tw_1103 : (Cond.instanceMethod ⟨"CarryShiftsModel", "period", "(III)I"⟩) ∈ uw := tu (in_t5 (List.mem_of_getElem? (i := 143) rfl)) rfl
set_option maxRecDepth 100000 in
theorem tw_1104 : (Cond.selects "CarryShiftsModel" ⟨"CarryShiftsModel", "period", "(III)I"⟩ ⟨"CarryShiftsModel", "period", "(III)I"⟩) ∈ uw := tu (in_t5 (List.mem_of_getElem? (i := 144) rfl)) rfl
set_option maxRecDepth 100000 in
theorem tw_1105 : (Cond.code ⟨"CarryShiftsModel", "period", "(III)I"⟩ prog_13_method_37_code (8 : Nat) (Option.some FieldType.int)) ∈ uw := tu (in_t5 (List.mem_of_getElem? (i := 145) rfl)) rfl
set_option maxRecDepth 100000 in
theorem tw_1106 : (Cond.methodLink "CarryShiftsLaw" (70 : Nat) ⟨"CarryShiftsModel", "fraction", "(II)J"⟩) ∈ uw := tu (in_t5 (List.mem_of_getElem? (i := 146) rfl)) rfl
set_option maxRecDepth 100000 in
theorem tw_1107 : (Cond.instanceMethod ⟨"CarryShiftsModel", "fraction", "(II)J"⟩) ∈ uw := tu (in_t5 (List.mem_of_getElem? (i := 147) rfl)) rfl
set_option maxRecDepth 100000 in
theorem tw_1108 : (Cond.selects "CarryShiftsModel" ⟨"CarryShiftsModel", "fraction", "(II)J"⟩ ⟨"CarryShiftsModel", "fraction", "(II)J"⟩) ∈ uw := tu (in_t5 (List.mem_of_getElem? (i := 148) rfl)) rfl
set_option maxRecDepth 100000 in
theorem tw_1109 : (Cond.code ⟨"CarryShiftsModel", "fraction", "(II)J"⟩ prog_13_method_41_code (3 : Nat) (Option.some FieldType.long)) ∈ uw := tu (in_t5 (List.mem_of_getElem? (i := 149) rfl)) rfl
set_option maxRecDepth 100000 in
theorem tw_1110 : (Cond.methodLink "CarryShiftsModel" (200 : Nat) ⟨"CarryShiftsModel", "layLeast", "()V"⟩) ∈ uw := tu (in_t5 (List.mem_of_getElem? (i := 150) rfl)) rfl
set_option maxRecDepth 100000 in
theorem tw_1111 : (Cond.privateMethod ⟨"CarryShiftsModel", "layLeast", "()V"⟩) ∈ lw_tbl := in_t5 (List.mem_of_getElem? (i := 151) rfl)
set_option maxRecDepth 100000 in
theorem tw_1112 : (Cond.instanceMethod ⟨"CarryShiftsModel", "layLeast", "()V"⟩) ∈ uw := tu (in_t5 (List.mem_of_getElem? (i := 152) rfl)) rfl
set_option maxRecDepth 100000 in
theorem tw_1113 : (Cond.code ⟨"CarryShiftsModel", "layLeast", "()V"⟩ prog_13_method_39_code (11 : Nat) (Option.none : Option FieldType)) ∈ uw := tu (in_t5 (List.mem_of_getElem? (i := 153) rfl)) rfl
set_option maxRecDepth 100000 in
theorem tw_1114 : (Cond.constantLong "CarryShiftsModel" (186 : Nat) (-1 : Int64)) ∈ uw := tu (in_t5 (List.mem_of_getElem? (i := 154) rfl)) rfl
set_option maxRecDepth 100000 in
theorem tw_1115 : (Cond.constantLong "CarryShiftsModel" (195 : Nat) (2 : Int64)) ∈ uw := tu (in_t5 (List.mem_of_getElem? (i := 155) rfl)) rfl
set_option maxRecDepth 100000 in
theorem tw_1116 : (Cond.methodLink "CarryShiftsModel" (197 : Nat) ⟨"CarryShiftsModel", "sizeOf", "(JJ)J"⟩) ∈ uw := tu (in_t5 (List.mem_of_getElem? (i := 156) rfl)) rfl
set_option maxRecDepth 100000 in
theorem tw_1117 : (Cond.privateMethod ⟨"CarryShiftsModel", "sizeOf", "(JJ)J"⟩) ∈ lw_tbl := in_t5 (List.mem_of_getElem? (i := 157) rfl)
set_option maxRecDepth 100000 in
theorem tw_1118 : (Cond.instanceMethod ⟨"CarryShiftsModel", "sizeOf", "(JJ)J"⟩) ∈ uw := tu (in_t5 (List.mem_of_getElem? (i := 158) rfl)) rfl
set_option maxRecDepth 100000 in
theorem tw_1119 : (Cond.code ⟨"CarryShiftsModel", "sizeOf", "(JJ)J"⟩ prog_13_method_38_code (5 : Nat) (Option.some FieldType.long)) ∈ uw := tu (in_t5 (List.mem_of_getElem? (i := 159) rfl)) rfl
set_option maxRecDepth 100000 in
theorem tw_1120 : (Cond.methodLink "CarryShiftsModel" (178 : Nat) ⟨"java/lang/Math", "abs", "(J)J"⟩) ∈ uw := tu (in_t5 (List.mem_of_getElem? (i := 160) rfl)) rfl
set_option maxRecDepth 100000 in
theorem tw_1121 : (Cond.methodLink "CarryShiftsModel" (182 : Nat) ⟨"java/lang/Math", "max", "(JJ)J"⟩) ∈ uw := tu (in_t5 (List.mem_of_getElem? (i := 161) rfl)) rfl
set_option maxRecDepth 100000 in
theorem tw_1122 : (Cond.methodLink "CarryShiftsModel" (203 : Nat) ⟨"CarryShiftsModel", "digitsOf", "(J)I"⟩) ∈ uw := tu (in_t5 (List.mem_of_getElem? (i := 162) rfl)) rfl
set_option maxRecDepth 100000 in
theorem tw_1123 : (Cond.static ⟨"CarryShiftsModel", "digitsOf", "(J)I"⟩) ∈ uw := tu (in_t5 (List.mem_of_getElem? (i := 163) rfl)) rfl
set_option maxRecDepth 100000 in
theorem tw_1124 : (Cond.code ⟨"CarryShiftsModel", "digitsOf", "(J)I"⟩ prog_13_method_40_code (5 : Nat) (Option.some FieldType.int)) ∈ uw := tu (in_t5 (List.mem_of_getElem? (i := 164) rfl)) rfl
set_option maxRecDepth 100000 in
theorem tw_1125 : (Cond.methodLink "CarryShiftsLaw" (74 : Nat) ⟨"CarryShiftsModel", "told", "(II)J"⟩) ∈ uw := tu (in_t5 (List.mem_of_getElem? (i := 165) rfl)) rfl
set_option maxRecDepth 100000 in
theorem tw_1126 : (Cond.instanceMethod ⟨"CarryShiftsModel", "told", "(II)J"⟩) ∈ uw := tu (in_t5 (List.mem_of_getElem? (i := 166) rfl)) rfl
set_option maxRecDepth 100000 in
theorem tw_1127 : (Cond.selects "CarryShiftsModel" ⟨"CarryShiftsModel", "told", "(II)J"⟩ ⟨"CarryShiftsModel", "told", "(II)J"⟩) ∈ uw := tu (in_t5 (List.mem_of_getElem? (i := 167) rfl)) rfl
set_option maxRecDepth 100000 in
theorem tw_1128 : (Cond.code ⟨"CarryShiftsModel", "told", "(II)J"⟩ prog_13_method_44_code (6 : Nat) (Option.some FieldType.long)) ∈ uw := tu (in_t5 (List.mem_of_getElem? (i := 168) rfl)) rfl
set_option maxRecDepth 100000 in
theorem tw_1129 : (Cond.methodLink "CarryShiftsModel" (210 : Nat) ⟨"CarryShiftsModel", "restOf", "(III)I"⟩) ∈ uw := tu (in_t5 (List.mem_of_getElem? (i := 169) rfl)) rfl
set_option maxRecDepth 100000 in
theorem tw_1130 : (Cond.static ⟨"CarryShiftsModel", "restOf", "(III)I"⟩) ∈ uw := tu (in_t5 (List.mem_of_getElem? (i := 170) rfl)) rfl
set_option maxRecDepth 100000 in
theorem tw_1131 : (Cond.code ⟨"CarryShiftsModel", "restOf", "(III)I"⟩ prog_13_method_43_code (5 : Nat) (Option.some FieldType.int)) ∈ uw := tu (in_t5 (List.mem_of_getElem? (i := 171) rfl)) rfl
set_option maxRecDepth 100000 in
theorem tw_1132 : (Cond.methodLink "CarryShiftsModel" (214 : Nat) ⟨"java/lang/Math", "abs", "(I)I"⟩) ∈ uw := tu (in_t5 (List.mem_of_getElem? (i := 172) rfl)) rfl
set_option maxRecDepth 100000 in
theorem tw_1133 : (Cond.static ⟨"java/lang/Math", "abs", "(I)I"⟩) ∈ uw := tu (in_t5 (List.mem_of_getElem? (i := 173) rfl)) rfl
set_option maxRecDepth 100000 in
theorem tw_1134 : (Cond.code ⟨"java/lang/Math", "abs", "(I)I"⟩ prog_16_method_59_code (1 : Nat) (Option.some FieldType.int)) ∈ uw := tu (in_t5 (List.mem_of_getElem? (i := 174) rfl)) rfl
set_option maxRecDepth 100000 in
theorem tw_1135 : (Cond.methodLink "CarryShiftsModel" (207 : Nat) ⟨"CarryShiftsModel", "common", "(II)I"⟩) ∈ uw := tu (in_t5 (List.mem_of_getElem? (i := 175) rfl)) rfl
set_option maxRecDepth 100000 in
theorem tw_1136 : (Cond.static ⟨"CarryShiftsModel", "common", "(II)I"⟩) ∈ uw := tu (in_t5 (List.mem_of_getElem? (i := 176) rfl)) rfl
set_option maxRecDepth 100000 in
theorem tw_1137 : (Cond.code ⟨"CarryShiftsModel", "common", "(II)I"⟩ prog_13_method_42_code (2 : Nat) (Option.some FieldType.int)) ∈ uw := tu (in_t5 (List.mem_of_getElem? (i := 177) rfl)) rfl
set_option maxRecDepth 100000 in
theorem tw_1138 : (Cond.methodLink "CarryShiftsLaw" (79 : Nat) ⟨"CarryShiftsModel", "build", "(I)I"⟩) ∈ uw := tu (in_t5 (List.mem_of_getElem? (i := 178) rfl)) rfl
set_option maxRecDepth 100000 in
theorem tw_1139 : (Cond.instanceMethod ⟨"CarryShiftsModel", "build", "(I)I"⟩) ∈ uw := tu (in_t5 (List.mem_of_getElem? (i := 179) rfl)) rfl
set_option maxRecDepth 100000 in
theorem tw_1140 : (Cond.selects "CarryShiftsModel" ⟨"CarryShiftsModel", "build", "(I)I"⟩ ⟨"CarryShiftsModel", "build", "(I)I"⟩) ∈ uw := tu (in_t5 (List.mem_of_getElem? (i := 180) rfl)) rfl
set_option maxRecDepth 100000 in
theorem tw_1141 : (Cond.code ⟨"CarryShiftsModel", "build", "(I)I"⟩ prog_13_method_45_code (9 : Nat) (Option.some FieldType.int)) ∈ uw := tu (in_t5 (List.mem_of_getElem? (i := 181) rfl)) rfl
set_option maxRecDepth 100000 in
theorem tw_1142 : (Cond.constantLong "CarryShiftsModel" (216 : Nat) (-9 : Int64)) ∈ uw := tu (in_t5 (List.mem_of_getElem? (i := 182) rfl)) rfl
set_option maxRecDepth 100000 in
theorem tw_1143 : (Cond.constantLong "CarryShiftsModel" (218 : Nat) (9 : Int64)) ∈ uw := tu (in_t5 (List.mem_of_getElem? (i := 183) rfl)) rfl
set_option maxRecDepth 100000 in
theorem tw_1144 : (Cond.methodLink "CarryShiftsLaw" (83 : Nat) ⟨"CarryShiftsModel", "cycle", "(II)I"⟩) ∈ uw := tu (in_t5 (List.mem_of_getElem? (i := 184) rfl)) rfl
set_option maxRecDepth 100000 in
theorem tw_1145 : (Cond.instanceMethod ⟨"CarryShiftsModel", "cycle", "(II)I"⟩) ∈ uw := tu (in_t5 (List.mem_of_getElem? (i := 185) rfl)) rfl
set_option maxRecDepth 100000 in
theorem tw_1146 : (Cond.selects "CarryShiftsModel" ⟨"CarryShiftsModel", "cycle", "(II)I"⟩ ⟨"CarryShiftsModel", "cycle", "(II)I"⟩) ∈ uw := tu (in_t5 (List.mem_of_getElem? (i := 186) rfl)) rfl
set_option maxRecDepth 100000 in
theorem tw_1147 : (Cond.code ⟨"CarryShiftsModel", "cycle", "(II)I"⟩ prog_13_method_46_code (7 : Nat) (Option.some FieldType.int)) ∈ uw := tu (in_t5 (List.mem_of_getElem? (i := 187) rfl)) rfl
set_option maxRecDepth 100000 in
theorem tw_1148 : (Cond.methodLink "CarryShiftsModel" (220 : Nat) ⟨"CarryShiftsModel", "isAgain", "(III)Z"⟩) ∈ uw := tu (in_t5 (List.mem_of_getElem? (i := 188) rfl)) rfl
set_option maxRecDepth 100000 in
theorem tw_1149 : (Cond.privateMethod ⟨"CarryShiftsModel", "isAgain", "(III)Z"⟩) ∈ lw_tbl := in_t5 (List.mem_of_getElem? (i := 189) rfl)
set_option maxRecDepth 100000 in
theorem tw_1150 : (Cond.instanceMethod ⟨"CarryShiftsModel", "isAgain", "(III)Z"⟩) ∈ uw := tu (in_t5 (List.mem_of_getElem? (i := 190) rfl)) rfl
set_option maxRecDepth 100000 in
theorem tw_1151 : (Cond.code ⟨"CarryShiftsModel", "isAgain", "(III)Z"⟩ prog_13_method_47_code (8 : Nat) (Option.some FieldType.boolean)) ∈ uw := tu (in_t5 (List.mem_of_getElem? (i := 191) rfl)) rfl
set_option maxRecDepth 100000 in
theorem tw_1152 : (Cond.methodLink "CarryShiftsLaw" (87 : Nat) ⟨"CarryShiftsModel", "linear", "(II)J"⟩) ∈ uw := tu (in_t5 (List.mem_of_getElem? (i := 192) rfl)) rfl
set_option maxRecDepth 100000 in
theorem tw_1153 : (Cond.instanceMethod ⟨"CarryShiftsModel", "linear", "(II)J"⟩) ∈ uw := tu (in_t5 (List.mem_of_getElem? (i := 193) rfl)) rfl
set_option maxRecDepth 100000 in
theorem tw_1154 : (Cond.selects "CarryShiftsModel" ⟨"CarryShiftsModel", "linear", "(II)J"⟩ ⟨"CarryShiftsModel", "linear", "(II)J"⟩) ∈ uw := tu (in_t5 (List.mem_of_getElem? (i := 194) rfl)) rfl
set_option maxRecDepth 100000 in
theorem tw_1155 : (Cond.code ⟨"CarryShiftsModel", "linear", "(II)J"⟩ prog_13_method_50_code (3 : Nat) (Option.some FieldType.long)) ∈ uw := tu (in_t5 (List.mem_of_getElem? (i := 195) rfl)) rfl
set_option maxRecDepth 100000 in
theorem tw_1156 : (Cond.methodLink "CarryShiftsModel" (232 : Nat) ⟨"CarryShiftsModel", "lawNow", "(I)J"⟩) ∈ uw := tu (in_t5 (List.mem_of_getElem? (i := 196) rfl)) rfl
set_option maxRecDepth 100000 in
theorem tw_1157 : (Cond.privateMethod ⟨"CarryShiftsModel", "lawNow", "(I)J"⟩) ∈ lw_tbl := in_t5 (List.mem_of_getElem? (i := 197) rfl)
set_option maxRecDepth 100000 in
theorem tw_1158 : (Cond.instanceMethod ⟨"CarryShiftsModel", "lawNow", "(I)J"⟩) ∈ uw := tu (in_t5 (List.mem_of_getElem? (i := 198) rfl)) rfl
set_option maxRecDepth 100000 in
theorem tw_1159 : (Cond.code ⟨"CarryShiftsModel", "lawNow", "(I)J"⟩ prog_13_method_49_code (6 : Nat) (Option.some FieldType.long)) ∈ uw := tu (in_t5 (List.mem_of_getElem? (i := 199) rfl)) rfl
set_option maxRecDepth 100000 in
theorem tw_1160 : (Cond.methodLink "CarryShiftsModel" (229 : Nat) ⟨"CarryShiftsModel", "layLaw", "()I"⟩) ∈ uw := tu (in_t5 (List.mem_of_getElem? (i := 200) rfl)) rfl
set_option maxRecDepth 100000 in
theorem tw_1161 : (Cond.privateMethod ⟨"CarryShiftsModel", "layLaw", "()I"⟩) ∈ lw_tbl := in_t5 (List.mem_of_getElem? (i := 201) rfl)
set_option maxRecDepth 100000 in
theorem tw_1162 : (Cond.instanceMethod ⟨"CarryShiftsModel", "layLaw", "()I"⟩) ∈ uw := tu (in_t5 (List.mem_of_getElem? (i := 202) rfl)) rfl
set_option maxRecDepth 100000 in
theorem tw_1163 : (Cond.code ⟨"CarryShiftsModel", "layLaw", "()I"⟩ prog_13_method_48_code (7 : Nat) (Option.some FieldType.int)) ∈ uw := tu (in_t5 (List.mem_of_getElem? (i := 203) rfl)) rfl
set_option maxRecDepth 100000 in
theorem tw_1164 : (Cond.methodLink "CarryShiftsModel" (223 : Nat) ⟨"java/lang/System", "arraycopy", "(Ljava/lang/Object;ILjava/lang/Object;II)V"⟩) ∈ uw := tu (in_t5 (List.mem_of_getElem? (i := 204) rfl)) rfl
set_option maxRecDepth 100000 in
theorem tw_1165 : (Cond.methodLink "CarryShiftsLaw" (92 : Nat) ⟨"CarryShiftsModel", "twin", "(III)J"⟩) ∈ uw := tu (in_t5 (List.mem_of_getElem? (i := 205) rfl)) rfl
set_option maxRecDepth 100000 in
theorem tw_1166 : (Cond.instanceMethod ⟨"CarryShiftsModel", "twin", "(III)J"⟩) ∈ uw := tu (in_t5 (List.mem_of_getElem? (i := 206) rfl)) rfl
set_option maxRecDepth 100000 in
theorem tw_1167 : (Cond.selects "CarryShiftsModel" ⟨"CarryShiftsModel", "twin", "(III)J"⟩ ⟨"CarryShiftsModel", "twin", "(III)J"⟩) ∈ uw := tu (in_t5 (List.mem_of_getElem? (i := 207) rfl)) rfl
set_option maxRecDepth 100000 in
theorem tw_1168 : (Cond.code ⟨"CarryShiftsModel", "twin", "(III)J"⟩ prog_13_method_51_code (4 : Nat) (Option.some FieldType.long)) ∈ uw := tu (in_t5 (List.mem_of_getElem? (i := 208) rfl)) rfl
set_option maxRecDepth 100000 in
theorem tw_1169 : (Cond.methodLink "CarryShiftsLaw" (96 : Nat) ⟨"CarryShiftsModel", "compare", "(I)I"⟩) ∈ uw := tu (in_t5 (List.mem_of_getElem? (i := 209) rfl)) rfl
set_option maxRecDepth 100000 in
theorem tw_1170 : (Cond.instanceMethod ⟨"CarryShiftsModel", "compare", "(I)I"⟩) ∈ uw := tu (in_t5 (List.mem_of_getElem? (i := 210) rfl)) rfl
set_option maxRecDepth 100000 in
theorem tw_1171 : (Cond.selects "CarryShiftsModel" ⟨"CarryShiftsModel", "compare", "(I)I"⟩ ⟨"CarryShiftsModel", "compare", "(I)I"⟩) ∈ uw := tu (in_t5 (List.mem_of_getElem? (i := 211) rfl)) rfl
set_option maxRecDepth 100000 in
theorem tw_1172 : (Cond.code ⟨"CarryShiftsModel", "compare", "(I)I"⟩ prog_13_method_52_code (2 : Nat) (Option.some FieldType.int)) ∈ uw := tu (in_t5 (List.mem_of_getElem? (i := 212) rfl)) rfl
set_option maxRecDepth 100000 in
theorem tw_1173 : (Cond.methodLink "CarryShiftsLaw" (100 : Nat) ⟨"CarryShiftsModel", "windows", "(III)I"⟩) ∈ uw := tu (in_t5 (List.mem_of_getElem? (i := 213) rfl)) rfl
set_option maxRecDepth 100000 in
theorem tw_1174 : (Cond.instanceMethod ⟨"CarryShiftsModel", "windows", "(III)I"⟩) ∈ uw := tu (in_t5 (List.mem_of_getElem? (i := 214) rfl)) rfl
set_option maxRecDepth 100000 in
theorem tw_1175 : (Cond.selects "CarryShiftsModel" ⟨"CarryShiftsModel", "windows", "(III)I"⟩ ⟨"CarryShiftsModel", "windows", "(III)I"⟩) ∈ uw := tu (in_t5 (List.mem_of_getElem? (i := 215) rfl)) rfl
set_option maxRecDepth 100000 in
theorem tw_1176 : (Cond.code ⟨"CarryShiftsModel", "windows", "(III)I"⟩ prog_13_method_54_code (8 : Nat) (Option.some FieldType.int)) ∈ uw := tu (in_t5 (List.mem_of_getElem? (i := 216) rfl)) rfl
set_option maxRecDepth 100000 in
theorem tw_1177 : (Cond.methodLink "CarryShiftsModel" (236 : Nat) ⟨"CarryShiftsModel", "wordAt", "(II)I"⟩) ∈ uw := tu (in_t5 (List.mem_of_getElem? (i := 217) rfl)) rfl
set_option maxRecDepth 100000 in
theorem tw_1178 : (Cond.privateMethod ⟨"CarryShiftsModel", "wordAt", "(II)I"⟩) ∈ lw_tbl := in_t5 (List.mem_of_getElem? (i := 218) rfl)
set_option maxRecDepth 100000 in
theorem tw_1179 : (Cond.instanceMethod ⟨"CarryShiftsModel", "wordAt", "(II)I"⟩) ∈ uw := tu (in_t5 (List.mem_of_getElem? (i := 219) rfl)) rfl
set_option maxRecDepth 100000 in
theorem tw_1180 : (Cond.code ⟨"CarryShiftsModel", "wordAt", "(II)I"⟩ prog_13_method_53_code (5 : Nat) (Option.some FieldType.int)) ∈ uw := tu (in_t5 (List.mem_of_getElem? (i := 220) rfl)) rfl
set_option maxRecDepth 100000 in
theorem tw_1181 : (Cond.methodLink "CarryShiftsLaw" (104 : Nat) ⟨"CarryShiftsModel", "runs", "(III)I"⟩) ∈ uw := tu (in_t5 (List.mem_of_getElem? (i := 221) rfl)) rfl
set_option maxRecDepth 100000 in
theorem tw_1182 : (Cond.instanceMethod ⟨"CarryShiftsModel", "runs", "(III)I"⟩) ∈ uw := tu (in_t5 (List.mem_of_getElem? (i := 222) rfl)) rfl
set_option maxRecDepth 100000 in
theorem tw_1183 : (Cond.selects "CarryShiftsModel" ⟨"CarryShiftsModel", "runs", "(III)I"⟩ ⟨"CarryShiftsModel", "runs", "(III)I"⟩) ∈ uw := tu (in_t5 (List.mem_of_getElem? (i := 223) rfl)) rfl
set_option maxRecDepth 100000 in
theorem tw_1184 : (Cond.code ⟨"CarryShiftsModel", "runs", "(III)I"⟩ prog_13_method_57_code (7 : Nat) (Option.some FieldType.int)) ∈ uw := tu (in_t5 (List.mem_of_getElem? (i := 224) rfl)) rfl
set_option maxRecDepth 100000 in
theorem tw_1185 : (Cond.methodLink "CarryShiftsModel" (242 : Nat) ⟨"CarryShiftsModel", "isRunAhead", "(I)Z"⟩) ∈ uw := tu (in_t5 (List.mem_of_getElem? (i := 225) rfl)) rfl
set_option maxRecDepth 100000 in
theorem tw_1186 : (Cond.privateMethod ⟨"CarryShiftsModel", "isRunAhead", "(I)Z"⟩) ∈ lw_tbl := in_t5 (List.mem_of_getElem? (i := 226) rfl)
set_option maxRecDepth 100000 in
theorem tw_1187 : (Cond.instanceMethod ⟨"CarryShiftsModel", "isRunAhead", "(I)Z"⟩) ∈ uw := tu (in_t5 (List.mem_of_getElem? (i := 227) rfl)) rfl
set_option maxRecDepth 100000 in
theorem tw_1188 : (Cond.code ⟨"CarryShiftsModel", "isRunAhead", "(I)Z"⟩ prog_13_method_56_code (3 : Nat) (Option.some FieldType.boolean)) ∈ uw := tu (in_t5 (List.mem_of_getElem? (i := 228) rfl)) rfl
set_option maxRecDepth 100000 in
theorem tw_1189 : (Cond.methodLink "CarryShiftsModel" (239 : Nat) ⟨"CarryShiftsModel", "runAt", "(I)I"⟩) ∈ uw := tu (in_t5 (List.mem_of_getElem? (i := 229) rfl)) rfl
set_option maxRecDepth 100000 in
theorem tw_1190 : (Cond.privateMethod ⟨"CarryShiftsModel", "runAt", "(I)I"⟩) ∈ lw_tbl := in_t5 (List.mem_of_getElem? (i := 230) rfl)
set_option maxRecDepth 100000 in
theorem tw_1191 : (Cond.instanceMethod ⟨"CarryShiftsModel", "runAt", "(I)I"⟩) ∈ uw := tu (in_t5 (List.mem_of_getElem? (i := 231) rfl)) rfl
set_option maxRecDepth 100000 in
theorem tw_1192 : (Cond.code ⟨"CarryShiftsModel", "runAt", "(I)I"⟩ prog_13_method_55_code (3 : Nat) (Option.some FieldType.int)) ∈ uw := tu (in_t5 (List.mem_of_getElem? (i := 232) rfl)) rfl
set_option maxRecDepth 100000 in
theorem tw_1193 : (Cond.methodLink "CarryShiftsLaw" (108 : Nat) ⟨"CarryShiftsModel", "replays", "(III)I"⟩) ∈ uw := tu (in_t5 (List.mem_of_getElem? (i := 233) rfl)) rfl
set_option maxRecDepth 100000 in
theorem tw_1194 : (Cond.instanceMethod ⟨"CarryShiftsModel", "replays", "(III)I"⟩) ∈ uw := tu (in_t5 (List.mem_of_getElem? (i := 234) rfl)) rfl
set_option maxRecDepth 100000 in
theorem tw_1195 : (Cond.selects "CarryShiftsModel" ⟨"CarryShiftsModel", "replays", "(III)I"⟩ ⟨"CarryShiftsModel", "replays", "(III)I"⟩) ∈ uw := tu (in_t5 (List.mem_of_getElem? (i := 235) rfl)) rfl
set_option maxRecDepth 100000 in
theorem tw_1196 : (Cond.code ⟨"CarryShiftsModel", "replays", "(III)I"⟩ prog_13_method_59_code (7 : Nat) (Option.some FieldType.int)) ∈ uw := tu (in_t5 (List.mem_of_getElem? (i := 236) rfl)) rfl
set_option maxRecDepth 100000 in
theorem tw_1197 : (Cond.methodLink "CarryShiftsModel" (245 : Nat) ⟨"CarryShiftsModel", "otherwise", "()I"⟩) ∈ uw := tu (in_t5 (List.mem_of_getElem? (i := 237) rfl)) rfl
set_option maxRecDepth 100000 in
theorem tw_1198 : (Cond.privateMethod ⟨"CarryShiftsModel", "otherwise", "()I"⟩) ∈ lw_tbl := in_t5 (List.mem_of_getElem? (i := 238) rfl)
set_option maxRecDepth 100000 in
theorem tw_1199 : (Cond.instanceMethod ⟨"CarryShiftsModel", "otherwise", "()I"⟩) ∈ uw := tu (in_t5 (List.mem_of_getElem? (i := 239) rfl)) rfl
set_option maxRecDepth 100000 in
theorem tw_1200 : (Cond.code ⟨"CarryShiftsModel", "otherwise", "()I"⟩ prog_13_method_58_code (2 : Nat) (Option.some FieldType.int)) ∈ uw := tu (in_t6 (List.mem_of_getElem? (i := 0) rfl)) rfl
set_option maxRecDepth 100000 in
theorem tw_1201 : (Cond.methodLink "CarryShiftsLaw" (112 : Nat) ⟨"CarryShiftsModel", "search", "(III)I"⟩) ∈ uw := tu (in_t6 (List.mem_of_getElem? (i := 1) rfl)) rfl
set_option maxRecDepth 100000 in
theorem tw_1202 : (Cond.instanceMethod ⟨"CarryShiftsModel", "search", "(III)I"⟩) ∈ uw := tu (in_t6 (List.mem_of_getElem? (i := 2) rfl)) rfl
set_option maxRecDepth 100000 in
theorem tw_1203 : (Cond.selects "CarryShiftsModel" ⟨"CarryShiftsModel", "search", "(III)I"⟩ ⟨"CarryShiftsModel", "search", "(III)I"⟩) ∈ uw := tu (in_t6 (List.mem_of_getElem? (i := 3) rfl)) rfl
set_option maxRecDepth 100000 in
theorem tw_1204 : (Cond.code ⟨"CarryShiftsModel", "search", "(III)I"⟩ prog_13_method_60_code (7 : Nat) (Option.some FieldType.int)) ∈ uw := tu (in_t6 (List.mem_of_getElem? (i := 4) rfl)) rfl
set_option maxRecDepth 100000 in
theorem tw_1205 : (Cond.methodLink "CarryShiftsLaw" (116 : Nat) ⟨"CarryShiftsModel", "alike", "(II)I"⟩) ∈ uw := tu (in_t6 (List.mem_of_getElem? (i := 5) rfl)) rfl
set_option maxRecDepth 100000 in
theorem tw_1206 : (Cond.instanceMethod ⟨"CarryShiftsModel", "alike", "(II)I"⟩) ∈ uw := tu (in_t6 (List.mem_of_getElem? (i := 6) rfl)) rfl
set_option maxRecDepth 100000 in
theorem tw_1207 : (Cond.selects "CarryShiftsModel" ⟨"CarryShiftsModel", "alike", "(II)I"⟩ ⟨"CarryShiftsModel", "alike", "(II)I"⟩) ∈ uw := tu (in_t6 (List.mem_of_getElem? (i := 7) rfl)) rfl
set_option maxRecDepth 100000 in
theorem tw_1208 : (Cond.code ⟨"CarryShiftsModel", "alike", "(II)I"⟩ prog_13_method_61_code (5 : Nat) (Option.some FieldType.int)) ∈ uw := tu (in_t6 (List.mem_of_getElem? (i := 8) rfl)) rfl
set_option maxRecDepth 100000 in
theorem tw_1209 : (Cond.methodLink "CarryShiftsLaw" (120 : Nat) ⟨"CarryShiftsModel", "drawn", "(III)I"⟩) ∈ uw := tu (in_t6 (List.mem_of_getElem? (i := 9) rfl)) rfl
set_option maxRecDepth 100000 in
theorem tw_1210 : (Cond.instanceMethod ⟨"CarryShiftsModel", "drawn", "(III)I"⟩) ∈ uw := tu (in_t6 (List.mem_of_getElem? (i := 10) rfl)) rfl
set_option maxRecDepth 100000 in
theorem tw_1211 : (Cond.selects "CarryShiftsModel" ⟨"CarryShiftsModel", "drawn", "(III)I"⟩ ⟨"CarryShiftsModel", "drawn", "(III)I"⟩) ∈ uw := tu (in_t6 (List.mem_of_getElem? (i := 11) rfl)) rfl
set_option maxRecDepth 100000 in
theorem tw_1212 : (Cond.code ⟨"CarryShiftsModel", "drawn", "(III)I"⟩ prog_13_method_63_code (4 : Nat) (Option.some FieldType.int)) ∈ uw := tu (in_t6 (List.mem_of_getElem? (i := 12) rfl)) rfl
set_option maxRecDepth 100000 in
theorem tw_1213 : (Cond.methodLink "CarryShiftsModel" (249 : Nat) ⟨"CarryShiftsModel", "spoils", "(III)V"⟩) ∈ uw := tu (in_t6 (List.mem_of_getElem? (i := 13) rfl)) rfl
set_option maxRecDepth 100000 in
theorem tw_1214 : (Cond.privateMethod ⟨"CarryShiftsModel", "spoils", "(III)V"⟩) ∈ lw_tbl := in_t6 (List.mem_of_getElem? (i := 14) rfl)
set_option maxRecDepth 100000 in
theorem tw_1215 : (Cond.instanceMethod ⟨"CarryShiftsModel", "spoils", "(III)V"⟩) ∈ uw := tu (in_t6 (List.mem_of_getElem? (i := 15) rfl)) rfl
set_option maxRecDepth 100000 in
theorem tw_1216 : (Cond.code ⟨"CarryShiftsModel", "spoils", "(III)V"⟩ prog_13_method_62_code (6 : Nat) (Option.none : Option FieldType)) ∈ uw := tu (in_t6 (List.mem_of_getElem? (i := 16) rfl)) rfl
set_option maxRecDepth 100000 in
theorem tw_1217 : (Cond.constant "CarryShiftsModel" (248 : Nat) (1103515245 : Int32)) ∈ uw := tu (in_t6 (List.mem_of_getElem? (i := 17) rfl)) rfl
set_option maxRecDepth 100000 in
theorem tw_1218 : (Cond.methodLink "CarryShiftsLaw" (125 : Nat) ⟨"CarryShiftsModel", "chance", "(IIIIII)I"⟩) ∈ uw := tu (in_t6 (List.mem_of_getElem? (i := 18) rfl)) rfl
set_option maxRecDepth 100000 in
theorem tw_1219 : (Cond.instanceMethod ⟨"CarryShiftsModel", "chance", "(IIIIII)I"⟩) ∈ uw := tu (in_t6 (List.mem_of_getElem? (i := 19) rfl)) rfl
set_option maxRecDepth 100000 in
theorem tw_1220 : (Cond.selects "CarryShiftsModel" ⟨"CarryShiftsModel", "chance", "(IIIIII)I"⟩ ⟨"CarryShiftsModel", "chance", "(IIIIII)I"⟩) ∈ uw := tu (in_t6 (List.mem_of_getElem? (i := 20) rfl)) rfl
set_option maxRecDepth 100000 in
theorem tw_1221 : (Cond.code ⟨"CarryShiftsModel", "chance", "(IIIIII)I"⟩ prog_13_method_64_code (9 : Nat) (Option.some FieldType.int)) ∈ uw := tu (in_t6 (List.mem_of_getElem? (i := 21) rfl)) rfl
set_option maxRecDepth 100000 in
theorem tw_1222 : (Cond.methodLink "CarryShiftsLaw" (129 : Nat) ⟨"CarryShiftsModel", "feed", "(IIIIII)I"⟩) ∈ uw := tu (in_t6 (List.mem_of_getElem? (i := 22) rfl)) rfl
set_option maxRecDepth 100000 in
theorem tw_1223 : (Cond.instanceMethod ⟨"CarryShiftsModel", "feed", "(IIIIII)I"⟩) ∈ uw := tu (in_t6 (List.mem_of_getElem? (i := 23) rfl)) rfl
set_option maxRecDepth 100000 in
theorem tw_1224 : (Cond.selects "CarryShiftsModel" ⟨"CarryShiftsModel", "feed", "(IIIIII)I"⟩ ⟨"CarryShiftsModel", "feed", "(IIIIII)I"⟩) ∈ uw := tu (in_t6 (List.mem_of_getElem? (i := 24) rfl)) rfl
set_option maxRecDepth 100000 in
theorem tw_1225 : (Cond.code ⟨"CarryShiftsModel", "feed", "(IIIIII)I"⟩ prog_13_method_65_code (8 : Nat) (Option.some FieldType.int)) ∈ uw := tu (in_t6 (List.mem_of_getElem? (i := 25) rfl)) rfl
set_option maxRecDepth 100000 in
theorem tw_1226 : (Cond.methodLink "CarryShiftsLaw" (133 : Nat) ⟨"CarryShiftsModel", "text", "()I"⟩) ∈ uw := tu (in_t6 (List.mem_of_getElem? (i := 26) rfl)) rfl
set_option maxRecDepth 100000 in
theorem tw_1227 : (Cond.instanceMethod ⟨"CarryShiftsModel", "text", "()I"⟩) ∈ uw := tu (in_t6 (List.mem_of_getElem? (i := 27) rfl)) rfl
set_option maxRecDepth 100000 in
theorem tw_1228 : (Cond.selects "CarryShiftsModel" ⟨"CarryShiftsModel", "text", "()I"⟩ ⟨"CarryShiftsModel", "text", "()I"⟩) ∈ uw := tu (in_t6 (List.mem_of_getElem? (i := 28) rfl)) rfl
set_option maxRecDepth 100000 in
theorem tw_1229 : (Cond.code ⟨"CarryShiftsModel", "text", "()I"⟩ prog_13_method_75_code (5 : Nat) (Option.some FieldType.int)) ∈ uw := tu (in_t6 (List.mem_of_getElem? (i := 29) rfl)) rfl
set_option maxRecDepth 100000 in
theorem tw_1230 : (Cond.methodLink "CarryShiftsModel" (321 : Nat) ⟨"CarryShiftsModel", "takesAll", "()Z"⟩) ∈ uw := tu (in_t6 (List.mem_of_getElem? (i := 30) rfl)) rfl
set_option maxRecDepth 100000 in
theorem tw_1231 : (Cond.privateMethod ⟨"CarryShiftsModel", "takesAll", "()Z"⟩) ∈ lw_tbl := in_t6 (List.mem_of_getElem? (i := 31) rfl)
set_option maxRecDepth 100000 in
theorem tw_1232 : (Cond.instanceMethod ⟨"CarryShiftsModel", "takesAll", "()Z"⟩) ∈ uw := tu (in_t6 (List.mem_of_getElem? (i := 32) rfl)) rfl
set_option maxRecDepth 100000 in
theorem tw_1233 : (Cond.code ⟨"CarryShiftsModel", "takesAll", "()Z"⟩ prog_13_method_73_code (1 : Nat) (Option.some FieldType.boolean)) ∈ uw := tu (in_t6 (List.mem_of_getElem? (i := 33) rfl)) rfl
set_option maxRecDepth 100000 in
theorem tw_1234 : (Cond.methodLink "CarryShiftsModel" (304 : Nat) ⟨"CarryShiftsModel", "look", "()V"⟩) ∈ uw := tu (in_t6 (List.mem_of_getElem? (i := 34) rfl)) rfl
set_option maxRecDepth 100000 in
theorem tw_1235 : (Cond.privateMethod ⟨"CarryShiftsModel", "look", "()V"⟩) ∈ lw_tbl := in_t6 (List.mem_of_getElem? (i := 35) rfl)
set_option maxRecDepth 100000 in
theorem tw_1236 : (Cond.instanceMethod ⟨"CarryShiftsModel", "look", "()V"⟩) ∈ uw := tu (in_t6 (List.mem_of_getElem? (i := 36) rfl)) rfl
set_option maxRecDepth 100000 in
theorem tw_1237 : (Cond.code ⟨"CarryShiftsModel", "look", "()V"⟩ prog_13_method_71_code (1 : Nat) (Option.none : Option FieldType)) ∈ uw := tu (in_t6 (List.mem_of_getElem? (i := 37) rfl)) rfl
set_option maxRecDepth 100000 in
theorem tw_1238 : (Cond.methodLink "CarryShiftsModel" (283 : Nat) ⟨"CarryShiftsModel", "isAt", "(II)Z"⟩) ∈ uw := tu (in_t6 (List.mem_of_getElem? (i := 38) rfl)) rfl
set_option maxRecDepth 100000 in
theorem tw_1239 : (Cond.privateMethod ⟨"CarryShiftsModel", "isAt", "(II)Z"⟩) ∈ lw_tbl := in_t6 (List.mem_of_getElem? (i := 39) rfl)
set_option maxRecDepth 100000 in
theorem tw_1240 : (Cond.instanceMethod ⟨"CarryShiftsModel", "isAt", "(II)Z"⟩) ∈ uw := tu (in_t6 (List.mem_of_getElem? (i := 40) rfl)) rfl
set_option maxRecDepth 100000 in
theorem tw_1241 : (Cond.code ⟨"CarryShiftsModel", "isAt", "(II)Z"⟩ prog_13_method_66_code (3 : Nat) (Option.some FieldType.boolean)) ∈ uw := tu (in_t6 (List.mem_of_getElem? (i := 41) rfl)) rfl
set_option maxRecDepth 100000 in
theorem tw_1242 : (Cond.methodLink "CarryShiftsModel" (292 : Nat) ⟨"CarryShiftsModel", "isWord", "(I)Z"⟩) ∈ uw := tu (in_t6 (List.mem_of_getElem? (i := 42) rfl)) rfl
set_option maxRecDepth 100000 in
theorem tw_1243 : (Cond.privateMethod ⟨"CarryShiftsModel", "isWord", "(I)Z"⟩) ∈ lw_tbl := in_t6 (List.mem_of_getElem? (i := 43) rfl)
set_option maxRecDepth 100000 in
theorem tw_1244 : (Cond.instanceMethod ⟨"CarryShiftsModel", "isWord", "(I)Z"⟩) ∈ uw := tu (in_t6 (List.mem_of_getElem? (i := 44) rfl)) rfl
set_option maxRecDepth 100000 in
theorem tw_1245 : (Cond.code ⟨"CarryShiftsModel", "isWord", "(I)Z"⟩ prog_13_method_69_code (5 : Nat) (Option.some FieldType.boolean)) ∈ uw := tu (in_t6 (List.mem_of_getElem? (i := 45) rfl)) rfl
set_option maxRecDepth 100000 in
theorem tw_1246 : (Cond.methodLink "CarryShiftsModel" (268 : Nat) ⟨"CarryShiftsModel", "wordOf", "(I)Ljava/lang/String;"⟩) ∈ uw := tu (in_t6 (List.mem_of_getElem? (i := 46) rfl)) rfl
set_option maxRecDepth 100000 in
theorem tw_1247 : (Cond.static ⟨"CarryShiftsModel", "wordOf", "(I)Ljava/lang/String;"⟩) ∈ uw := tu (in_t6 (List.mem_of_getElem? (i := 47) rfl)) rfl
set_option maxRecDepth 100000 in
theorem tw_1248 : (Cond.code ⟨"CarryShiftsModel", "wordOf", "(I)Ljava/lang/String;"⟩ prog_13_method_67_code (1 : Nat) (Option.some (FieldType.object "java/lang/String"))) ∈ uw := tu (in_t6 (List.mem_of_getElem? (i := 48) rfl)) rfl
set_option maxRecDepth 100000 in
theorem tw_1249 : (Cond.stringRef "CarryShiftsModel" (259 : Nat) "machine") ∈ lw_tbl := in_t6 (List.mem_of_getElem? (i := 49) rfl)
set_option maxRecDepth 100000 in
theorem tw_1250 : (Cond.stringRef "CarryShiftsModel" (261 : Nat) "state") ∈ lw_tbl := in_t6 (List.mem_of_getElem? (i := 50) rfl)
set_option maxRecDepth 100000 in
theorem tw_1251 : (Cond.stringRef "CarryShiftsModel" (262 : Nat) "carry") ∈ lw_tbl := in_t6 (List.mem_of_getElem? (i := 51) rfl)
set_option maxRecDepth 100000 in
theorem tw_1252 : (Cond.stringRef "CarryShiftsModel" (263 : Nat) "taps") ∈ lw_tbl := in_t6 (List.mem_of_getElem? (i := 52) rfl)
set_option maxRecDepth 100000 in
theorem tw_1253 : (Cond.stringRef "CarryShiftsModel" (264 : Nat) "step") ∈ lw_tbl := in_t6 (List.mem_of_getElem? (i := 53) rfl)
set_option maxRecDepth 100000 in
theorem tw_1254 : (Cond.stringRef "CarryShiftsModel" (266 : Nat) "drop") ∈ lw_tbl := in_t6 (List.mem_of_getElem? (i := 54) rfl)
set_option maxRecDepth 100000 in
theorem tw_1255 : (Cond.methodLink "CarryShiftsModel" (275 : Nat) ⟨"java/lang/String", "length", "()I"⟩) ∈ uw := tu (in_t6 (List.mem_of_getElem? (i := 55) rfl)) rfl
set_option maxRecDepth 100000 in
theorem tw_1256 : (Cond.methodLink "CarryShiftsModel" (279 : Nat) ⟨"java/lang/String", "charAt", "(I)C"⟩) ∈ uw := tu (in_t6 (List.mem_of_getElem? (i := 56) rfl)) rfl
set_option maxRecDepth 100000 in
theorem tw_1257 : (Cond.methodLink "CarryShiftsModel" (295 : Nat) ⟨"CarryShiftsModel", "takesNumber", "()V"⟩) ∈ uw := tu (in_t6 (List.mem_of_getElem? (i := 57) rfl)) rfl
set_option maxRecDepth 100000 in
theorem tw_1258 : (Cond.privateMethod ⟨"CarryShiftsModel", "takesNumber", "()V"⟩) ∈ lw_tbl := in_t6 (List.mem_of_getElem? (i := 58) rfl)
set_option maxRecDepth 100000 in
theorem tw_1259 : (Cond.instanceMethod ⟨"CarryShiftsModel", "takesNumber", "()V"⟩) ∈ uw := tu (in_t6 (List.mem_of_getElem? (i := 59) rfl)) rfl
set_option maxRecDepth 100000 in
theorem tw_1260 : (Cond.code ⟨"CarryShiftsModel", "takesNumber", "()V"⟩ prog_13_method_70_code (4 : Nat) (Option.none : Option FieldType)) ∈ uw := tu (in_t6 (List.mem_of_getElem? (i := 60) rfl)) rfl
set_option maxRecDepth 100000 in
theorem tw_1261 : (Cond.methodLink "CarryShiftsModel" (307 : Nat) ⟨"CarryShiftsModel", "takesClause", "()Z"⟩) ∈ uw := tu (in_t6 (List.mem_of_getElem? (i := 61) rfl)) rfl
set_option maxRecDepth 100000 in
theorem tw_1262 : (Cond.privateMethod ⟨"CarryShiftsModel", "takesClause", "()Z"⟩) ∈ lw_tbl := in_t6 (List.mem_of_getElem? (i := 62) rfl)
set_option maxRecDepth 100000 in
theorem tw_1263 : (Cond.instanceMethod ⟨"CarryShiftsModel", "takesClause", "()Z"⟩) ∈ uw := tu (in_t6 (List.mem_of_getElem? (i := 63) rfl)) rfl
set_option maxRecDepth 100000 in
theorem tw_1264 : (Cond.code ⟨"CarryShiftsModel", "takesClause", "()Z"⟩ prog_13_method_72_code (3 : Nat) (Option.some FieldType.boolean)) ∈ uw := tu (in_t6 (List.mem_of_getElem? (i := 64) rfl)) rfl
set_option maxRecDepth 100000 in
theorem tw_1265 : (Cond.methodLink "CarryShiftsModel" (301 : Nat) ⟨"CarryShiftsModel", "manyOf", "(I)I"⟩) ∈ uw := tu (in_t6 (List.mem_of_getElem? (i := 65) rfl)) rfl
set_option maxRecDepth 100000 in
theorem tw_1266 : (Cond.static ⟨"CarryShiftsModel", "manyOf", "(I)I"⟩) ∈ uw := tu (in_t6 (List.mem_of_getElem? (i := 66) rfl)) rfl
set_option maxRecDepth 100000 in
theorem tw_1267 : (Cond.code ⟨"CarryShiftsModel", "manyOf", "(I)I"⟩ prog_13_method_68_code (1 : Nat) (Option.some FieldType.int)) ∈ uw := tu (in_t6 (List.mem_of_getElem? (i := 67) rfl)) rfl
set_option maxRecDepth 100000 in
theorem tw_1268 : (Cond.methodLink "CarryShiftsModel" (324 : Nat) ⟨"CarryShiftsModel", "isDone", "(I)Z"⟩) ∈ uw := tu (in_t6 (List.mem_of_getElem? (i := 68) rfl)) rfl
set_option maxRecDepth 100000 in
theorem tw_1269 : (Cond.privateMethod ⟨"CarryShiftsModel", "isDone", "(I)Z"⟩) ∈ lw_tbl := in_t6 (List.mem_of_getElem? (i := 69) rfl)
set_option maxRecDepth 100000 in
theorem tw_1270 : (Cond.instanceMethod ⟨"CarryShiftsModel", "isDone", "(I)Z"⟩) ∈ uw := tu (in_t6 (List.mem_of_getElem? (i := 70) rfl)) rfl
set_option maxRecDepth 100000 in
theorem tw_1271 : (Cond.code ⟨"CarryShiftsModel", "isDone", "(I)Z"⟩ prog_13_method_74_code (4 : Nat) (Option.some FieldType.boolean)) ∈ uw := tu (in_t6 (List.mem_of_getElem? (i := 71) rfl)) rfl
set_option maxRecDepth 100000 in
theorem tw_1272 : (Cond.methodLink "CarryShiftsModel" (311 : Nat) ⟨"CarryShiftsModel", "machine", "(IIII)I"⟩) ∈ uw := tu (in_t6 (List.mem_of_getElem? (i := 72) rfl)) rfl
set_option maxRecDepth 100000 in
theorem tw_1273 : (Cond.methodLink "CarryShiftsModel" (314 : Nat) ⟨"CarryShiftsModel", "set", "(III)I"⟩) ∈ uw := tu (in_t6 (List.mem_of_getElem? (i := 73) rfl)) rfl
set_option maxRecDepth 100000 in
theorem tw_1274 : (Cond.methodLink "CarryShiftsModel" (317 : Nat) ⟨"CarryShiftsModel", "step", "(II)I"⟩) ∈ uw := tu (in_t6 (List.mem_of_getElem? (i := 74) rfl)) rfl
set_option maxRecDepth 100000 in
theorem tw_1275 : (Cond.methodLink "CarryShiftsModel" (319 : Nat) ⟨"CarryShiftsModel", "drop", "()I"⟩) ∈ uw := tu (in_t6 (List.mem_of_getElem? (i := 75) rfl)) rfl
set_option maxRecDepth 100000 in
theorem tw_1276 : (Cond.methodLink "CarryShiftsLaw" (137 : Nat) ⟨"CarryShiftsModel", "image", "()I"⟩) ∈ uw := tu (in_t6 (List.mem_of_getElem? (i := 76) rfl)) rfl
set_option maxRecDepth 100000 in
theorem tw_1277 : (Cond.instanceMethod ⟨"CarryShiftsModel", "image", "()I"⟩) ∈ uw := tu (in_t6 (List.mem_of_getElem? (i := 77) rfl)) rfl
set_option maxRecDepth 100000 in
theorem tw_1278 : (Cond.selects "CarryShiftsModel" ⟨"CarryShiftsModel", "image", "()I"⟩ ⟨"CarryShiftsModel", "image", "()I"⟩) ∈ uw := tu (in_t6 (List.mem_of_getElem? (i := 78) rfl)) rfl
set_option maxRecDepth 100000 in
theorem tw_1279 : (Cond.code ⟨"CarryShiftsModel", "image", "()I"⟩ prog_13_method_77_code (2 : Nat) (Option.some FieldType.int)) ∈ uw := tu (in_t6 (List.mem_of_getElem? (i := 79) rfl)) rfl
set_option maxRecDepth 100000 in
theorem tw_1280 : (Cond.methodLink "CarryShiftsModel" (334 : Nat) ⟨"CarryShiftsModel", "rowAt", "(I)[I"⟩) ∈ uw := tu (in_t6 (List.mem_of_getElem? (i := 80) rfl)) rfl
set_option maxRecDepth 100000 in
theorem tw_1281 : (Cond.privateMethod ⟨"CarryShiftsModel", "rowAt", "(I)[I"⟩) ∈ lw_tbl := in_t6 (List.mem_of_getElem? (i := 81) rfl)
set_option maxRecDepth 100000 in
theorem tw_1282 : (Cond.instanceMethod ⟨"CarryShiftsModel", "rowAt", "(I)[I"⟩) ∈ uw := tu (in_t6 (List.mem_of_getElem? (i := 82) rfl)) rfl
set_option maxRecDepth 100000 in
theorem tw_1283 : (Cond.code ⟨"CarryShiftsModel", "rowAt", "(I)[I"⟩ prog_13_method_76_code (2 : Nat) (Option.some (FieldType.array FieldType.int))) ∈ uw := tu (in_t6 (List.mem_of_getElem? (i := 83) rfl)) rfl
set_option maxRecDepth 100000 in
theorem tw_1284 : (Cond.methodLink "CarryShiftsLaw" (141 : Nat) ⟨"CarryShiftsModel", "back", "()I"⟩) ∈ uw := tu (in_t6 (List.mem_of_getElem? (i := 84) rfl)) rfl
set_option maxRecDepth 100000 in
theorem tw_1285 : (Cond.instanceMethod ⟨"CarryShiftsModel", "back", "()I"⟩) ∈ uw := tu (in_t6 (List.mem_of_getElem? (i := 85) rfl)) rfl
set_option maxRecDepth 100000 in
theorem tw_1286 : (Cond.selects "CarryShiftsModel" ⟨"CarryShiftsModel", "back", "()I"⟩ ⟨"CarryShiftsModel", "back", "()I"⟩) ∈ uw := tu (in_t6 (List.mem_of_getElem? (i := 86) rfl)) rfl
set_option maxRecDepth 100000 in
theorem tw_1287 : (Cond.code ⟨"CarryShiftsModel", "back", "()I"⟩ prog_13_method_78_code (2 : Nat) (Option.some FieldType.int)) ∈ uw := tu (in_t6 (List.mem_of_getElem? (i := 87) rfl)) rfl
set_option maxRecDepth 100000 in
theorem tw_1288 : (Cond.methodLink "CarryShiftsLaw" (145 : Nat) ⟨"CarryShiftsModel", "load", "(IIII)I"⟩) ∈ uw := tu (in_t6 (List.mem_of_getElem? (i := 88) rfl)) rfl
set_option maxRecDepth 100000 in
theorem tw_1289 : (Cond.instanceMethod ⟨"CarryShiftsModel", "load", "(IIII)I"⟩) ∈ uw := tu (in_t6 (List.mem_of_getElem? (i := 89) rfl)) rfl
set_option maxRecDepth 100000 in
theorem tw_1290 : (Cond.selects "CarryShiftsModel" ⟨"CarryShiftsModel", "load", "(IIII)I"⟩ ⟨"CarryShiftsModel", "load", "(IIII)I"⟩) ∈ uw := tu (in_t6 (List.mem_of_getElem? (i := 90) rfl)) rfl
set_option maxRecDepth 100000 in
theorem tw_1291 : (Cond.code ⟨"CarryShiftsModel", "load", "(IIII)I"⟩ prog_13_method_80_code (8 : Nat) (Option.some FieldType.int)) ∈ uw := tu (in_t6 (List.mem_of_getElem? (i := 91) rfl)) rfl
set_option maxRecDepth 100000 in
theorem tw_1292 : (Cond.methodLink "CarryShiftsModel" (337 : Nat) ⟨"CarryShiftsModel", "isWithin", "(III)Z"⟩) ∈ uw := tu (in_t6 (List.mem_of_getElem? (i := 92) rfl)) rfl
set_option maxRecDepth 100000 in
theorem tw_1293 : (Cond.privateMethod ⟨"CarryShiftsModel", "isWithin", "(III)Z"⟩) ∈ lw_tbl := in_t6 (List.mem_of_getElem? (i := 93) rfl)
set_option maxRecDepth 100000 in
theorem tw_1294 : (Cond.instanceMethod ⟨"CarryShiftsModel", "isWithin", "(III)Z"⟩) ∈ uw := tu (in_t6 (List.mem_of_getElem? (i := 94) rfl)) rfl
set_option maxRecDepth 100000 in
theorem tw_1295 : (Cond.code ⟨"CarryShiftsModel", "isWithin", "(III)Z"⟩ prog_13_method_79_code (4 : Nat) (Option.some FieldType.boolean)) ∈ uw := tu (in_t6 (List.mem_of_getElem? (i := 95) rfl)) rfl
set_option maxRecDepth 100000 in
theorem tw_1296 : (Cond.methodLink "CarryShiftsLaw" (149 : Nat) ⟨"CarryShiftsModel", "count", "(I)I"⟩) ∈ uw := tu (in_t6 (List.mem_of_getElem? (i := 96) rfl)) rfl
set_option maxRecDepth 100000 in
theorem tw_1297 : (Cond.instanceMethod ⟨"CarryShiftsModel", "count", "(I)I"⟩) ∈ uw := tu (in_t6 (List.mem_of_getElem? (i := 97) rfl)) rfl
set_option maxRecDepth 100000 in
theorem tw_1298 : (Cond.selects "CarryShiftsModel" ⟨"CarryShiftsModel", "count", "(I)I"⟩ ⟨"CarryShiftsModel", "count", "(I)I"⟩) ∈ uw := tu (in_t6 (List.mem_of_getElem? (i := 98) rfl)) rfl
set_option maxRecDepth 100000 in
theorem tw_1299 : (Cond.code ⟨"CarryShiftsModel", "count", "(I)I"⟩ prog_13_method_81_code (4 : Nat) (Option.some FieldType.int)) ∈ uw := tu (in_t6 (List.mem_of_getElem? (i := 99) rfl)) rfl
set_option maxRecDepth 100000 in
theorem tw_1300 : (Cond.methodLink "CarryShiftsLaw" (153 : Nat) ⟨"CarryShiftsModel", "sheet", "(III)I"⟩) ∈ uw := tu (in_t6 (List.mem_of_getElem? (i := 100) rfl)) rfl
set_option maxRecDepth 100000 in
theorem tw_1301 : (Cond.instanceMethod ⟨"CarryShiftsModel", "sheet", "(III)I"⟩) ∈ uw := tu (in_t6 (List.mem_of_getElem? (i := 101) rfl)) rfl
set_option maxRecDepth 100000 in
theorem tw_1302 : (Cond.selects "CarryShiftsModel" ⟨"CarryShiftsModel", "sheet", "(III)I"⟩ ⟨"CarryShiftsModel", "sheet", "(III)I"⟩) ∈ uw := tu (in_t6 (List.mem_of_getElem? (i := 102) rfl)) rfl
set_option maxRecDepth 100000 in
theorem tw_1303 : (Cond.code ⟨"CarryShiftsModel", "sheet", "(III)I"⟩ prog_13_method_82_code (5 : Nat) (Option.some FieldType.int)) ∈ uw := tu (in_t6 (List.mem_of_getElem? (i := 103) rfl)) rfl
set_option maxRecDepth 100000 in
theorem tw_1304 : (Cond.methodLink "CarryShiftsLaw" (157 : Nat) ⟨"CarryShiftsModel", "put", "(III)I"⟩) ∈ uw := tu (in_t6 (List.mem_of_getElem? (i := 104) rfl)) rfl
set_option maxRecDepth 100000 in
theorem tw_1305 : (Cond.instanceMethod ⟨"CarryShiftsModel", "put", "(III)I"⟩) ∈ uw := tu (in_t6 (List.mem_of_getElem? (i := 105) rfl)) rfl
set_option maxRecDepth 100000 in
theorem tw_1306 : (Cond.selects "CarryShiftsModel" ⟨"CarryShiftsModel", "put", "(III)I"⟩ ⟨"CarryShiftsModel", "put", "(III)I"⟩) ∈ uw := tu (in_t6 (List.mem_of_getElem? (i := 106) rfl)) rfl
set_option maxRecDepth 100000 in
theorem tw_1307 : (Cond.code ⟨"CarryShiftsModel", "put", "(III)I"⟩ prog_13_method_83_code (4 : Nat) (Option.some FieldType.int)) ∈ uw := tu (in_t6 (List.mem_of_getElem? (i := 107) rfl)) rfl
set_option maxRecDepth 100000 in
theorem tw_1308 : (Cond.methodLink "CarryShiftsLaw" (162 : Nat) ⟨"CarryShiftsModel", "copy", "(IIIII)I"⟩) ∈ uw := tu (in_t6 (List.mem_of_getElem? (i := 108) rfl)) rfl
set_option maxRecDepth 100000 in
theorem tw_1309 : (Cond.instanceMethod ⟨"CarryShiftsModel", "copy", "(IIIII)I"⟩) ∈ uw := tu (in_t6 (List.mem_of_getElem? (i := 109) rfl)) rfl
set_option maxRecDepth 100000 in
theorem tw_1310 : (Cond.selects "CarryShiftsModel" ⟨"CarryShiftsModel", "copy", "(IIIII)I"⟩ ⟨"CarryShiftsModel", "copy", "(IIIII)I"⟩) ∈ uw := tu (in_t6 (List.mem_of_getElem? (i := 110) rfl)) rfl
set_option maxRecDepth 100000 in
theorem tw_1311 : (Cond.code ⟨"CarryShiftsModel", "copy", "(IIIII)I"⟩ prog_13_method_84_code (6 : Nat) (Option.some FieldType.int)) ∈ uw := tu (in_t6 (List.mem_of_getElem? (i := 111) rfl)) rfl
set_option maxRecDepth 100000 in
theorem tw_1312 : (Cond.castable "CarryShifts$Turned" "CarryShifts$Linear") ∈ lw_tbl := in_t6 (List.mem_of_getElem? (i := 112) rfl)
set_option maxRecDepth 100000 in
theorem tw_1313 : (Cond.castable "CarryShifts$Linear" "CarryShifts$Carrying") ∈ lw_tbl := in_t6 (List.mem_of_getElem? (i := 113) rfl)
set_option maxRecDepth 100000 in
theorem tw_1314 : (Cond.castable "CarryShifts$Turned" "CarryShifts$Carrying") ∈ lw_tbl := in_t6 (List.mem_of_getElem? (i := 114) rfl)
set_option maxRecDepth 100000 in
theorem tw_1315 : (Cond.castable "CarryShifts$Borrowing" "CarryShifts$Carrying") ∈ lw_tbl := in_t6 (List.mem_of_getElem? (i := 115) rfl)
set_option maxRecDepth 100000 in
theorem tw_1316 : (Cond.castable "CarryShifts$Held" "CarryShifts$Carrying") ∈ lw_tbl := in_t6 (List.mem_of_getElem? (i := 116) rfl)
set_option maxRecDepth 100000 in
theorem tw_1317 : (Cond.castable "CarryShifts$Ring" "CarryShifts$Carrying") ∈ lw_tbl := in_t6 (List.mem_of_getElem? (i := 117) rfl)
set_option maxRecDepth 100000 in
theorem tw_1318 : (Cond.fieldLink "java/lang/String" (9 : Nat) "java/lang/String" "value" "[B") ∈ uw := tu (in_t6 (List.mem_of_getElem? (i := 118) rfl)) rfl
set_option maxRecDepth 100000 in
theorem tw_1319 : (Cond.fieldLink "java/lang/String" (15 : Nat) "java/lang/String" "coder" "B") ∈ uw := tu (in_t6 (List.mem_of_getElem? (i := 119) rfl)) rfl
set_option maxRecDepth 100000 in
theorem tp_0 : (Cond.selects "CarryShifts" ⟨"CarryShifts", "join", "(LCarryShifts$Carrying;)I"⟩ ⟨"CarryShifts", "join", "(LCarryShifts$Carrying;)I"⟩) ∈ uw := tu (in_p (List.mem_of_getElem? (i := 0) rfl)) rfl
set_option maxRecDepth 100000 in
theorem tp_1 : (Cond.selects "CarryShifts" ⟨"CarryShifts", "machineAt", "(I)LCarryShifts$Carrying;"⟩ ⟨"CarryShifts", "machineAt", "(I)LCarryShifts$Carrying;"⟩) ∈ uw := tu (in_p (List.mem_of_getElem? (i := 1) rfl)) rfl
set_option maxRecDepth 100000 in
theorem tp_2 : (Cond.selects "CarryShifts" ⟨"CarryShifts", "sheetAt", "(I)LCarryShifts$Sheet;"⟩ ⟨"CarryShifts", "sheetAt", "(I)LCarryShifts$Sheet;"⟩) ∈ uw := tu (in_p (List.mem_of_getElem? (i := 2) rfl)) rfl
set_option maxRecDepth 100000 in
theorem tp_3 : (Cond.selects "CarryShifts" ⟨"CarryShifts", "tellAll", "(I)V"⟩ ⟨"CarryShifts", "tellAll", "(I)V"⟩) ∈ uw := tu (in_p (List.mem_of_getElem? (i := 3) rfl)) rfl
set_option maxRecDepth 100000 in
theorem tp_4 : (Cond.selects "CarryShifts" ⟨"CarryShifts", "toldTogether", "(II)I"⟩ ⟨"CarryShifts", "toldTogether", "(II)I"⟩) ∈ uw := tu (in_p (List.mem_of_getElem? (i := 4) rfl)) rfl
set_option maxRecDepth 100000 in
theorem tp_5 : (Cond.selects "CarryShifts$Least" ⟨"CarryShifts$Least", "shorten", "(JJ)V"⟩ ⟨"CarryShifts$Least", "shorten", "(JJ)V"⟩) ∈ uw := tu (in_p (List.mem_of_getElem? (i := 5) rfl)) rfl
set_option maxRecDepth 100000 in
theorem tp_6 : (Cond.selects "CarryShifts$Least" ⟨"CarryShifts$Least", "swapIfLonger", "()V"⟩ ⟨"CarryShifts$Least", "swapIfLonger", "()V"⟩) ∈ uw := tu (in_p (List.mem_of_getElem? (i := 6) rfl)) rfl
set_option maxRecDepth 100000 in
theorem tp_7 : (Cond.selects "CarryShifts$Least" ⟨"CarryShifts$Least", "offer", "(JJ)V"⟩ ⟨"CarryShifts$Least", "offer", "(JJ)V"⟩) ∈ uw := tu (in_p (List.mem_of_getElem? (i := 7) rfl)) rfl
set_option maxRecDepth 100000 in
theorem tp_8 : (Cond.selects "CarryShifts$Least" ⟨"CarryShifts$Least", "isLess", "(JJ)Z"⟩ ⟨"CarryShifts$Least", "isLess", "(JJ)Z"⟩) ∈ uw := tu (in_p (List.mem_of_getElem? (i := 8) rfl)) rfl
set_option maxRecDepth 100000 in
theorem tp_9 : (Cond.selects "CarryShifts$Least" ⟨"CarryShifts$Least", "offerAround", "(J)V"⟩ ⟨"CarryShifts$Least", "offerAround", "(J)V"⟩) ∈ uw := tu (in_p (List.mem_of_getElem? (i := 9) rfl)) rfl
set_option maxRecDepth 100000 in
theorem tp_10 : (Cond.selects "CarryShifts" ⟨"CarryShifts", "buildFrom", "(JJ)I"⟩ ⟨"CarryShifts", "buildFrom", "(JJ)I"⟩) ∈ uw := tu (in_p (List.mem_of_getElem? (i := 10) rfl)) rfl
set_option maxRecDepth 100000 in
theorem tp_11 : (Cond.selects "CarryShifts" ⟨"CarryShifts", "lawAnswer", "(JII)J"⟩ ⟨"CarryShifts", "lawAnswer", "(JII)J"⟩) ∈ uw := tu (in_p (List.mem_of_getElem? (i := 11) rfl)) rfl
set_option maxRecDepth 100000 in
theorem tp_12 : (Cond.selects "CarryShifts$Script" ⟨"CarryShifts$Script", "readClause", "(I)Z"⟩ ⟨"CarryShifts$Script", "readClause", "(I)Z"⟩) ∈ uw := tu (in_p (List.mem_of_getElem? (i := 12) rfl)) rfl
set_option maxRecDepth 100000 in
theorem tp_13 : (Cond.selects "CarryShifts$Script" ⟨"CarryShifts$Script", "readToken", "()V"⟩ ⟨"CarryShifts$Script", "readToken", "()V"⟩) ∈ uw := tu (in_p (List.mem_of_getElem? (i := 13) rfl)) rfl
set_option maxRecDepth 100000 in
theorem tp_14 : (Cond.selects "CarryShifts$Script" ⟨"CarryShifts$Script", "byteAt", "(I)I"⟩ ⟨"CarryShifts$Script", "byteAt", "(I)I"⟩) ∈ uw := tu (in_p (List.mem_of_getElem? (i := 14) rfl)) rfl
set_option maxRecDepth 100000 in
theorem tp_15 : (Cond.selects "CarryShifts$Script" ⟨"CarryShifts$Script", "readWord", "()V"⟩ ⟨"CarryShifts$Script", "readWord", "()V"⟩) ∈ uw := tu (in_p (List.mem_of_getElem? (i := 15) rfl)) rfl
set_option maxRecDepth 100000 in
theorem tp_16 : (Cond.selects "CarryShifts$Script" ⟨"CarryShifts$Script", "isNamed", "(Ljava/lang/String;)Z"⟩ ⟨"CarryShifts$Script", "isNamed", "(Ljava/lang/String;)Z"⟩) ∈ uw := tu (in_p (List.mem_of_getElem? (i := 16) rfl)) rfl
set_option maxRecDepth 100000 in
theorem tp_17 : (Cond.selects "CarryShifts$Script" ⟨"CarryShifts$Script", "readNumber", "()V"⟩ ⟨"CarryShifts$Script", "readNumber", "()V"⟩) ∈ uw := tu (in_p (List.mem_of_getElem? (i := 17) rfl)) rfl
set_option maxRecDepth 100000 in
theorem tp_18 : (Cond.selects "CarryShifts" ⟨"CarryShifts", "doClause", "(II)Z"⟩ ⟨"CarryShifts", "doClause", "(II)Z"⟩) ∈ uw := tu (in_p (List.mem_of_getElem? (i := 18) rfl)) rfl
set_option maxRecDepth 100000 in
theorem tp_19 : (Cond.selects "CarryShifts" ⟨"CarryShifts", "imageOne", "(LCarryShifts$Carrying;I)V"⟩ ⟨"CarryShifts", "imageOne", "(LCarryShifts$Carrying;I)V"⟩) ∈ uw := tu (in_p (List.mem_of_getElem? (i := 19) rfl)) rfl
set_option maxRecDepth 100000 in
theorem tp_20 : (Cond.selects "CarryShifts" ⟨"CarryShifts", "imagedAt", "(I)LCarryShifts$Carrying;"⟩ ⟨"CarryShifts", "imagedAt", "(I)LCarryShifts$Carrying;"⟩) ∈ uw := tu (in_p (List.mem_of_getElem? (i := 20) rfl)) rfl
set_option maxRecDepth 100000 in
theorem tp_21 : (Cond.selects "CarryShifts" ⟨"CarryShifts", "cellsOf", "(I)I"⟩ ⟨"CarryShifts", "cellsOf", "(I)I"⟩) ∈ uw := tu (in_p (List.mem_of_getElem? (i := 21) rfl)) rfl
set_option maxRecDepth 100000 in
theorem tp_22 : (Cond.selects "CarryShifts" ⟨"CarryShifts", "numbersOf", "(I)I"⟩ ⟨"CarryShifts", "numbersOf", "(I)I"⟩) ∈ uw := tu (in_p (List.mem_of_getElem? (i := 22) rfl)) rfl
set_option maxRecDepth 100000 in
theorem tp_23 : (Cond.selects "CarryShiftsModel" ⟨"CarryShiftsModel", "lay", "(IIIIII)V"⟩ ⟨"CarryShiftsModel", "lay", "(IIIIII)V"⟩) ∈ uw := tu (in_p (List.mem_of_getElem? (i := 23) rfl)) rfl
set_option maxRecDepth 100000 in
theorem tp_24 : (Cond.selects "CarryShiftsModel" ⟨"CarryShiftsModel", "isMachine", "(I)Z"⟩ ⟨"CarryShiftsModel", "isMachine", "(I)Z"⟩) ∈ uw := tu (in_p (List.mem_of_getElem? (i := 24) rfl)) rfl
set_option maxRecDepth 100000 in
theorem tp_25 : (Cond.selects "CarryShiftsModel" ⟨"CarryShiftsModel", "isSettable", "(III)Z"⟩ ⟨"CarryShiftsModel", "isSettable", "(III)Z"⟩) ∈ uw := tu (in_p (List.mem_of_getElem? (i := 25) rfl)) rfl
set_option maxRecDepth 100000 in
theorem tp_26 : (Cond.selects "CarryShiftsModel" ⟨"CarryShiftsModel", "rowOf", "(I)[I"⟩ ⟨"CarryShiftsModel", "rowOf", "(I)[I"⟩) ∈ uw := tu (in_p (List.mem_of_getElem? (i := 26) rfl)) rfl
set_option maxRecDepth 100000 in
theorem tp_27 : (Cond.selects "CarryShiftsModel" ⟨"CarryShiftsModel", "made", "(I)I"⟩ ⟨"CarryShiftsModel", "made", "(I)I"⟩) ∈ uw := tu (in_p (List.mem_of_getElem? (i := 27) rfl)) rfl
set_option maxRecDepth 100000 in
theorem tp_28 : (Cond.selects "CarryShiftsModel" ⟨"CarryShiftsModel", "links", "(I)I"⟩ ⟨"CarryShiftsModel", "links", "(I)I"⟩) ∈ uw := tu (in_p (List.mem_of_getElem? (i := 28) rfl)) rfl
set_option maxRecDepth 100000 in
theorem tp_29 : (Cond.selects "CarryShiftsModel" ⟨"CarryShiftsModel", "thinks", "(I)V"⟩ ⟨"CarryShiftsModel", "thinks", "(I)V"⟩) ∈ uw := tu (in_p (List.mem_of_getElem? (i := 29) rfl)) rfl
set_option maxRecDepth 100000 in
theorem tp_30 : (Cond.selects "CarryShiftsModel" ⟨"CarryShiftsModel", "steps", "()I"⟩ ⟨"CarryShiftsModel", "steps", "()I"⟩) ∈ uw := tu (in_p (List.mem_of_getElem? (i := 30) rfl)) rfl
set_option maxRecDepth 100000 in
theorem tp_31 : (Cond.selects "CarryShiftsModel" ⟨"CarryShiftsModel", "goesRound", "()I"⟩ ⟨"CarryShiftsModel", "goesRound", "()I"⟩) ∈ uw := tu (in_p (List.mem_of_getElem? (i := 31) rfl)) rfl
set_option maxRecDepth 100000 in
theorem tp_32 : (Cond.selects "CarryShiftsModel" ⟨"CarryShiftsModel", "sum", "()I"⟩ ⟨"CarryShiftsModel", "sum", "()I"⟩) ∈ uw := tu (in_p (List.mem_of_getElem? (i := 32) rfl)) rfl
set_option maxRecDepth 100000 in
theorem tp_33 : (Cond.selects "CarryShiftsModel" ⟨"CarryShiftsModel", "tells", "(II)V"⟩ ⟨"CarryShiftsModel", "tells", "(II)V"⟩) ∈ uw := tu (in_p (List.mem_of_getElem? (i := 33) rfl)) rfl
set_option maxRecDepth 100000 in
theorem tp_34 : (Cond.selects "CarryShiftsModel" ⟨"CarryShiftsModel", "comesTo", "(I)I"⟩ ⟨"CarryShiftsModel", "comesTo", "(I)I"⟩) ∈ uw := tu (in_p (List.mem_of_getElem? (i := 34) rfl)) rfl
set_option maxRecDepth 100000 in
theorem tp_35 : (Cond.selects "CarryShiftsModel" ⟨"CarryShiftsModel", "isThere", "(I)Z"⟩ ⟨"CarryShiftsModel", "isThere", "(I)Z"⟩) ∈ uw := tu (in_p (List.mem_of_getElem? (i := 35) rfl)) rfl
set_option maxRecDepth 100000 in
theorem tp_36 : (Cond.selects "CarryShiftsModel" ⟨"CarryShiftsModel", "reads", "(I)V"⟩ ⟨"CarryShiftsModel", "reads", "(I)V"⟩) ∈ uw := tu (in_p (List.mem_of_getElem? (i := 36) rfl)) rfl
set_option maxRecDepth 100000 in
theorem tp_37 : (Cond.selects "CarryShiftsModel" ⟨"CarryShiftsModel", "numberNow", "()J"⟩ ⟨"CarryShiftsModel", "numberNow", "()J"⟩) ∈ uw := tu (in_p (List.mem_of_getElem? (i := 37) rfl)) rfl
set_option maxRecDepth 100000 in
theorem tp_38 : (Cond.selects "CarryShiftsModel" ⟨"CarryShiftsModel", "layLeast", "()V"⟩ ⟨"CarryShiftsModel", "layLeast", "()V"⟩) ∈ uw := tu (in_p (List.mem_of_getElem? (i := 38) rfl)) rfl
set_option maxRecDepth 100000 in
theorem tp_39 : (Cond.selects "CarryShiftsModel" ⟨"CarryShiftsModel", "sizeOf", "(JJ)J"⟩ ⟨"CarryShiftsModel", "sizeOf", "(JJ)J"⟩) ∈ uw := tu (in_p (List.mem_of_getElem? (i := 39) rfl)) rfl
set_option maxRecDepth 100000 in
theorem tp_40 : (Cond.selects "CarryShiftsModel" ⟨"CarryShiftsModel", "isAgain", "(III)Z"⟩ ⟨"CarryShiftsModel", "isAgain", "(III)Z"⟩) ∈ uw := tu (in_p (List.mem_of_getElem? (i := 40) rfl)) rfl
set_option maxRecDepth 100000 in
theorem tp_41 : (Cond.selects "CarryShiftsModel" ⟨"CarryShiftsModel", "lawNow", "(I)J"⟩ ⟨"CarryShiftsModel", "lawNow", "(I)J"⟩) ∈ uw := tu (in_p (List.mem_of_getElem? (i := 41) rfl)) rfl
set_option maxRecDepth 100000 in
theorem tp_42 : (Cond.selects "CarryShiftsModel" ⟨"CarryShiftsModel", "layLaw", "()I"⟩ ⟨"CarryShiftsModel", "layLaw", "()I"⟩) ∈ uw := tu (in_p (List.mem_of_getElem? (i := 42) rfl)) rfl
set_option maxRecDepth 100000 in
theorem tp_43 : (Cond.selects "CarryShiftsModel" ⟨"CarryShiftsModel", "wordAt", "(II)I"⟩ ⟨"CarryShiftsModel", "wordAt", "(II)I"⟩) ∈ uw := tu (in_p (List.mem_of_getElem? (i := 43) rfl)) rfl
set_option maxRecDepth 100000 in
theorem tp_44 : (Cond.selects "CarryShiftsModel" ⟨"CarryShiftsModel", "isRunAhead", "(I)Z"⟩ ⟨"CarryShiftsModel", "isRunAhead", "(I)Z"⟩) ∈ uw := tu (in_p (List.mem_of_getElem? (i := 44) rfl)) rfl
set_option maxRecDepth 100000 in
theorem tp_45 : (Cond.selects "CarryShiftsModel" ⟨"CarryShiftsModel", "runAt", "(I)I"⟩ ⟨"CarryShiftsModel", "runAt", "(I)I"⟩) ∈ uw := tu (in_p (List.mem_of_getElem? (i := 45) rfl)) rfl
set_option maxRecDepth 100000 in
theorem tp_46 : (Cond.selects "CarryShiftsModel" ⟨"CarryShiftsModel", "otherwise", "()I"⟩ ⟨"CarryShiftsModel", "otherwise", "()I"⟩) ∈ uw := tu (in_p (List.mem_of_getElem? (i := 46) rfl)) rfl
set_option maxRecDepth 100000 in
theorem tp_47 : (Cond.selects "CarryShiftsModel" ⟨"CarryShiftsModel", "spoils", "(III)V"⟩ ⟨"CarryShiftsModel", "spoils", "(III)V"⟩) ∈ uw := tu (in_p (List.mem_of_getElem? (i := 47) rfl)) rfl
set_option maxRecDepth 100000 in
theorem tp_48 : (Cond.selects "CarryShiftsModel" ⟨"CarryShiftsModel", "takesAll", "()Z"⟩ ⟨"CarryShiftsModel", "takesAll", "()Z"⟩) ∈ uw := tu (in_p (List.mem_of_getElem? (i := 48) rfl)) rfl
set_option maxRecDepth 100000 in
theorem tp_49 : (Cond.selects "CarryShiftsModel" ⟨"CarryShiftsModel", "look", "()V"⟩ ⟨"CarryShiftsModel", "look", "()V"⟩) ∈ uw := tu (in_p (List.mem_of_getElem? (i := 49) rfl)) rfl
set_option maxRecDepth 100000 in
theorem tp_50 : (Cond.selects "CarryShiftsModel" ⟨"CarryShiftsModel", "isAt", "(II)Z"⟩ ⟨"CarryShiftsModel", "isAt", "(II)Z"⟩) ∈ uw := tu (in_p (List.mem_of_getElem? (i := 50) rfl)) rfl
set_option maxRecDepth 100000 in
theorem tp_51 : (Cond.selects "CarryShiftsModel" ⟨"CarryShiftsModel", "isWord", "(I)Z"⟩ ⟨"CarryShiftsModel", "isWord", "(I)Z"⟩) ∈ uw := tu (in_p (List.mem_of_getElem? (i := 51) rfl)) rfl
set_option maxRecDepth 100000 in
theorem tp_52 : (Cond.selects "CarryShiftsModel" ⟨"CarryShiftsModel", "takesNumber", "()V"⟩ ⟨"CarryShiftsModel", "takesNumber", "()V"⟩) ∈ uw := tu (in_p (List.mem_of_getElem? (i := 52) rfl)) rfl
set_option maxRecDepth 100000 in
theorem tp_53 : (Cond.selects "CarryShiftsModel" ⟨"CarryShiftsModel", "takesClause", "()Z"⟩ ⟨"CarryShiftsModel", "takesClause", "()Z"⟩) ∈ uw := tu (in_p (List.mem_of_getElem? (i := 53) rfl)) rfl
set_option maxRecDepth 100000 in
theorem tp_54 : (Cond.selects "CarryShiftsModel" ⟨"CarryShiftsModel", "isDone", "(I)Z"⟩ ⟨"CarryShiftsModel", "isDone", "(I)Z"⟩) ∈ uw := tu (in_p (List.mem_of_getElem? (i := 54) rfl)) rfl
set_option maxRecDepth 100000 in
theorem tp_55 : (Cond.selects "CarryShiftsModel" ⟨"CarryShiftsModel", "rowAt", "(I)[I"⟩ ⟨"CarryShiftsModel", "rowAt", "(I)[I"⟩) ∈ uw := tu (in_p (List.mem_of_getElem? (i := 55) rfl)) rfl
set_option maxRecDepth 100000 in
theorem tp_56 : (Cond.selects "CarryShiftsModel" ⟨"CarryShiftsModel", "isWithin", "(III)Z"⟩ ⟨"CarryShiftsModel", "isWithin", "(III)Z"⟩) ∈ uw := tu (in_p (List.mem_of_getElem? (i := 56) rfl)) rfl
