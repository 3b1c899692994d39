-- ===== PART A: goes FIRST, ahead of the names: the tables' words, and 'selects' of the private methods out of them =====
/-- a private method of a class that the tables say can be made, by its rows of tables_1 -/
def lw_okq (q : MethodName × Nat) : Prop := (q.1.cls ≠ "java/lang/invoke/MethodHandle" ∧ q.1.cls ≠ "java/lang/invoke/VarHandle") ∧ Cond.instantiable q.1.cls q.2 ∈ tables_1 ∧ Cond.privateMethod q.1 ∈ tables_1 ∧ Cond.instanceMethod q.1 ∈ tables_1
theorem lw_p0 : lw_okq (⟨"CarryShifts", "join", "(LCarryShifts$Carrying;)I"⟩, 9) := ⟨⟨by decide +kernel, by decide +kernel⟩, List.mem_of_getElem? (i := 22) (by decide +kernel), List.mem_of_getElem? (i := 308) (by decide +kernel), List.mem_of_getElem? (i := 309) (by decide +kernel)⟩
theorem lw_p1 : lw_okq (⟨"CarryShifts", "machineAt", "(I)LCarryShifts$Carrying;"⟩, 9) := ⟨⟨by decide +kernel, by decide +kernel⟩, List.mem_of_getElem? (i := 22) (by decide +kernel), List.mem_of_getElem? (i := 320) (by decide +kernel), List.mem_of_getElem? (i := 321) (by decide +kernel)⟩
theorem lw_p2 : lw_okq (⟨"CarryShifts", "sheetAt", "(I)LCarryShifts$Sheet;"⟩, 9) := ⟨⟨by decide +kernel, by decide +kernel⟩, List.mem_of_getElem? (i := 22) (by decide +kernel), List.mem_of_getElem? (i := 417) (by decide +kernel), List.mem_of_getElem? (i := 418) (by decide +kernel)⟩
theorem lw_p3 : lw_okq (⟨"CarryShifts", "tellAll", "(I)V"⟩, 9) := ⟨⟨by decide +kernel, by decide +kernel⟩, List.mem_of_getElem? (i := 22) (by decide +kernel), List.mem_of_getElem? (i := 434) (by decide +kernel), List.mem_of_getElem? (i := 435) (by decide +kernel)⟩
theorem lw_p4 : lw_okq (⟨"CarryShifts", "toldTogether", "(II)I"⟩, 9) := ⟨⟨by decide +kernel, by decide +kernel⟩, List.mem_of_getElem? (i := 22) (by decide +kernel), List.mem_of_getElem? (i := 438) (by decide +kernel), List.mem_of_getElem? (i := 439) (by decide +kernel)⟩
theorem lw_p5 : lw_okq (⟨"CarryShifts$Least", "shorten", "(JJ)V"⟩, 6) := ⟨⟨by decide +kernel, by decide +kernel⟩, List.mem_of_getElem? (i := 71) (by decide +kernel), List.mem_of_getElem? (i := 484) (by decide +kernel), List.mem_of_getElem? (i := 485) (by decide +kernel)⟩
theorem lw_p6 : lw_okq (⟨"CarryShifts$Least", "swapIfLonger", "()V"⟩, 6) := ⟨⟨by decide +kernel, by decide +kernel⟩, List.mem_of_getElem? (i := 71) (by decide +kernel), List.mem_of_getElem? (i := 488) (by decide +kernel), List.mem_of_getElem? (i := 489) (by decide +kernel)⟩
theorem lw_p7 : lw_okq (⟨"CarryShifts$Least", "offer", "(JJ)V"⟩, 6) := ⟨⟨by decide +kernel, by decide +kernel⟩, List.mem_of_getElem? (i := 71) (by decide +kernel), List.mem_of_getElem? (i := 496) (by decide +kernel), List.mem_of_getElem? (i := 497) (by decide +kernel)⟩
theorem lw_p8 : lw_okq (⟨"CarryShifts$Least", "isLess", "(JJ)Z"⟩, 6) := ⟨⟨by decide +kernel, by decide +kernel⟩, List.mem_of_getElem? (i := 71) (by decide +kernel), List.mem_of_getElem? (i := 500) (by decide +kernel), List.mem_of_getElem? (i := 501) (by decide +kernel)⟩
theorem lw_p9 : lw_okq (⟨"CarryShifts$Least", "offerAround", "(J)V"⟩, 6) := ⟨⟨by decide +kernel, by decide +kernel⟩, List.mem_of_getElem? (i := 71) (by decide +kernel), List.mem_of_getElem? (i := 514) (by decide +kernel), List.mem_of_getElem? (i := 515) (by decide +kernel)⟩
theorem lw_p10 : lw_okq (⟨"CarryShifts", "buildFrom", "(JJ)I"⟩, 9) := ⟨⟨by decide +kernel, by decide +kernel⟩, List.mem_of_getElem? (i := 22) (by decide +kernel), List.mem_of_getElem? (i := 550) (by decide +kernel), List.mem_of_getElem? (i := 551) (by decide +kernel)⟩
theorem lw_p11 : lw_okq (⟨"CarryShifts", "lawAnswer", "(JII)J"⟩, 9) := ⟨⟨by decide +kernel, by decide +kernel⟩, List.mem_of_getElem? (i := 22) (by decide +kernel), List.mem_of_getElem? (i := 580) (by decide +kernel), List.mem_of_getElem? (i := 581) (by decide +kernel)⟩
theorem lw_p12 : lw_okq (⟨"CarryShifts$Script", "readClause", "(I)Z"⟩, 9) := ⟨⟨by decide +kernel, by decide +kernel⟩, List.mem_of_getElem? (i := 34) (by decide +kernel), List.mem_of_getElem? (i := 698) (by decide +kernel), List.mem_of_getElem? (i := 699) (by decide +kernel)⟩
theorem lw_p13 : lw_okq (⟨"CarryShifts$Script", "readToken", "()V"⟩, 9) := ⟨⟨by decide +kernel, by decide +kernel⟩, List.mem_of_getElem? (i := 34) (by decide +kernel), List.mem_of_getElem? (i := 702) (by decide +kernel), List.mem_of_getElem? (i := 703) (by decide +kernel)⟩
theorem lw_p14 : lw_okq (⟨"CarryShifts$Script", "byteAt", "(I)I"⟩, 9) := ⟨⟨by decide +kernel, by decide +kernel⟩, List.mem_of_getElem? (i := 34) (by decide +kernel), List.mem_of_getElem? (i := 706) (by decide +kernel), List.mem_of_getElem? (i := 707) (by decide +kernel)⟩
theorem lw_p15 : lw_okq (⟨"CarryShifts$Script", "readWord", "()V"⟩, 9) := ⟨⟨by decide +kernel, by decide +kernel⟩, List.mem_of_getElem? (i := 34) (by decide +kernel), List.mem_of_getElem? (i := 713) (by decide +kernel), List.mem_of_getElem? (i := 714) (by decide +kernel)⟩
def lw_privs_1 : List (MethodName × Nat) := [(⟨"CarryShifts", "join", "(LCarryShifts$Carrying;)I"⟩, 9), (⟨"CarryShifts", "machineAt", "(I)LCarryShifts$Carrying;"⟩, 9), (⟨"CarryShifts", "sheetAt", "(I)LCarryShifts$Sheet;"⟩, 9), (⟨"CarryShifts", "tellAll", "(I)V"⟩, 9), (⟨"CarryShifts", "toldTogether", "(II)I"⟩, 9), (⟨"CarryShifts$Least", "shorten", "(JJ)V"⟩, 6), (⟨"CarryShifts$Least", "swapIfLonger", "()V"⟩, 6), (⟨"CarryShifts$Least", "offer", "(JJ)V"⟩, 6), (⟨"CarryShifts$Least", "isLess", "(JJ)Z"⟩, 6), (⟨"CarryShifts$Least", "offerAround", "(J)V"⟩, 6), (⟨"CarryShifts", "buildFrom", "(JJ)I"⟩, 9), (⟨"CarryShifts", "lawAnswer", "(JII)J"⟩, 9), (⟨"CarryShifts$Script", "readClause", "(I)Z"⟩, 9), (⟨"CarryShifts$Script", "readToken", "()V"⟩, 9), (⟨"CarryShifts$Script", "byteAt", "(I)I"⟩, 9), (⟨"CarryShifts$Script", "readWord", "()V"⟩, 9)]
theorem lw_r1 : ∀ q ∈ lw_privs_1, lw_okq q := List.forall_mem_cons.mpr ⟨lw_p0, List.forall_mem_cons.mpr ⟨lw_p1, List.forall_mem_cons.mpr ⟨lw_p2, List.forall_mem_cons.mpr ⟨lw_p3, List.forall_mem_cons.mpr ⟨lw_p4, List.forall_mem_cons.mpr ⟨lw_p5, List.forall_mem_cons.mpr ⟨lw_p6, List.forall_mem_cons.mpr ⟨lw_p7, List.forall_mem_cons.mpr ⟨lw_p8, List.forall_mem_cons.mpr ⟨lw_p9, List.forall_mem_cons.mpr ⟨lw_p10, List.forall_mem_cons.mpr ⟨lw_p11, List.forall_mem_cons.mpr ⟨lw_p12, List.forall_mem_cons.mpr ⟨lw_p13, List.forall_mem_cons.mpr ⟨lw_p14, List.forall_mem_cons.mpr ⟨lw_p15, fun _ h => absurd h List.not_mem_nil⟩⟩⟩⟩⟩⟩⟩⟩⟩⟩⟩⟩⟩⟩⟩⟩
theorem lw_p16 : lw_okq (⟨"CarryShifts$Script", "isNamed", "(Ljava/lang/String;)Z"⟩, 9) := ⟨⟨by decide +kernel, by decide +kernel⟩, List.mem_of_getElem? (i := 34) (by decide +kernel), List.mem_of_getElem? (i := 726) (by decide +kernel), List.mem_of_getElem? (i := 727) (by decide +kernel)⟩
theorem lw_p17 : lw_okq (⟨"CarryShifts$Script", "readNumber", "()V"⟩, 9) := ⟨⟨by decide +kernel, by decide +kernel⟩, List.mem_of_getElem? (i := 34) (by decide +kernel), List.mem_of_getElem? (i := 781) (by decide +kernel), List.mem_of_getElem? (i := 782) (by decide +kernel)⟩
theorem lw_p18 : lw_okq (⟨"CarryShifts", "doClause", "(II)Z"⟩, 9) := ⟨⟨by decide +kernel, by decide +kernel⟩, List.mem_of_getElem? (i := 22) (by decide +kernel), List.mem_of_getElem? (i := 792) (by decide +kernel), List.mem_of_getElem? (i := 793) (by decide +kernel)⟩
theorem lw_p19 : lw_okq (⟨"CarryShifts", "imageOne", "(LCarryShifts$Carrying;I)V"⟩, 9) := ⟨⟨by decide +kernel, by decide +kernel⟩, List.mem_of_getElem? (i := 22) (by decide +kernel), List.mem_of_getElem? (i := 809) (by decide +kernel), List.mem_of_getElem? (i := 810) (by decide +kernel)⟩
theorem lw_p20 : lw_okq (⟨"CarryShifts", "imagedAt", "(I)LCarryShifts$Carrying;"⟩, 9) := ⟨⟨by decide +kernel, by decide +kernel⟩, List.mem_of_getElem? (i := 22) (by decide +kernel), List.mem_of_getElem? (i := 817) (by decide +kernel), List.mem_of_getElem? (i := 818) (by decide +kernel)⟩
theorem lw_p21 : lw_okq (⟨"CarryShifts", "cellsOf", "(I)I"⟩, 9) := ⟨⟨by decide +kernel, by decide +kernel⟩, List.mem_of_getElem? (i := 22) (by decide +kernel), List.mem_of_getElem? (i := 834) (by decide +kernel), List.mem_of_getElem? (i := 835) (by decide +kernel)⟩
theorem lw_p22 : lw_okq (⟨"CarryShifts", "numbersOf", "(I)I"⟩, 9) := ⟨⟨by decide +kernel, by decide +kernel⟩, List.mem_of_getElem? (i := 22) (by decide +kernel), List.mem_of_getElem? (i := 838) (by decide +kernel), List.mem_of_getElem? (i := 839) (by decide +kernel)⟩
theorem lw_p23 : lw_okq (⟨"CarryShiftsModel", "lay", "(IIIIII)V"⟩, 35) := ⟨⟨by decide +kernel, by decide +kernel⟩, List.mem_of_getElem? (i := 858) (by decide +kernel), List.mem_of_getElem? (i := 983) (by decide +kernel), List.mem_of_getElem? (i := 984) (by decide +kernel)⟩
theorem lw_p24 : lw_okq (⟨"CarryShiftsModel", "isMachine", "(I)Z"⟩, 35) := ⟨⟨by decide +kernel, by decide +kernel⟩, List.mem_of_getElem? (i := 858) (by decide +kernel), List.mem_of_getElem? (i := 995) (by decide +kernel), List.mem_of_getElem? (i := 996) (by decide +kernel)⟩
theorem lw_p25 : lw_okq (⟨"CarryShiftsModel", "isSettable", "(III)Z"⟩, 35) := ⟨⟨by decide +kernel, by decide +kernel⟩, List.mem_of_getElem? (i := 858) (by decide +kernel), List.mem_of_getElem? (i := 999) (by decide +kernel), List.mem_of_getElem? (i := 1000) (by decide +kernel)⟩
theorem lw_p26 : lw_okq (⟨"CarryShiftsModel", "rowOf", "(I)[I"⟩, 35) := ⟨⟨by decide +kernel, by decide +kernel⟩, List.mem_of_getElem? (i := 858) (by decide +kernel), List.mem_of_getElem? (i := 1003) (by decide +kernel), List.mem_of_getElem? (i := 1004) (by decide +kernel)⟩
theorem lw_p27 : lw_okq (⟨"CarryShiftsModel", "made", "(I)I"⟩, 35) := ⟨⟨by decide +kernel, by decide +kernel⟩, List.mem_of_getElem? (i := 858) (by decide +kernel), List.mem_of_getElem? (i := 1011) (by decide +kernel), List.mem_of_getElem? (i := 1012) (by decide +kernel)⟩
theorem lw_p28 : lw_okq (⟨"CarryShiftsModel", "links", "(I)I"⟩, 35) := ⟨⟨by decide +kernel, by decide +kernel⟩, List.mem_of_getElem? (i := 858) (by decide +kernel), List.mem_of_getElem? (i := 1015) (by decide +kernel), List.mem_of_getElem? (i := 1016) (by decide +kernel)⟩
theorem lw_p29 : lw_okq (⟨"CarryShiftsModel", "thinks", "(I)V"⟩, 35) := ⟨⟨by decide +kernel, by decide +kernel⟩, List.mem_of_getElem? (i := 858) (by decide +kernel), List.mem_of_getElem? (i := 1033) (by decide +kernel), List.mem_of_getElem? (i := 1034) (by decide +kernel)⟩
theorem lw_p30 : lw_okq (⟨"CarryShiftsModel", "steps", "()I"⟩, 35) := ⟨⟨by decide +kernel, by decide +kernel⟩, List.mem_of_getElem? (i := 858) (by decide +kernel), List.mem_of_getElem? (i := 1037) (by decide +kernel), List.mem_of_getElem? (i := 1038) (by decide +kernel)⟩
theorem lw_p31 : lw_okq (⟨"CarryShiftsModel", "goesRound", "()I"⟩, 35) := ⟨⟨by decide +kernel, by decide +kernel⟩, List.mem_of_getElem? (i := 858) (by decide +kernel), List.mem_of_getElem? (i := 1041) (by decide +kernel), List.mem_of_getElem? (i := 1042) (by decide +kernel)⟩
def lw_privs_2 : List (MethodName × Nat) := [(⟨"CarryShifts$Script", "isNamed", "(Ljava/lang/String;)Z"⟩, 9), (⟨"CarryShifts$Script", "readNumber", "()V"⟩, 9), (⟨"CarryShifts", "doClause", "(II)Z"⟩, 9), (⟨"CarryShifts", "imageOne", "(LCarryShifts$Carrying;I)V"⟩, 9), (⟨"CarryShifts", "imagedAt", "(I)LCarryShifts$Carrying;"⟩, 9), (⟨"CarryShifts", "cellsOf", "(I)I"⟩, 9), (⟨"CarryShifts", "numbersOf", "(I)I"⟩, 9), (⟨"CarryShiftsModel", "lay", "(IIIIII)V"⟩, 35), (⟨"CarryShiftsModel", "isMachine", "(I)Z"⟩, 35), (⟨"CarryShiftsModel", "isSettable", "(III)Z"⟩, 35), (⟨"CarryShiftsModel", "rowOf", "(I)[I"⟩, 35), (⟨"CarryShiftsModel", "made", "(I)I"⟩, 35), (⟨"CarryShiftsModel", "links", "(I)I"⟩, 35), (⟨"CarryShiftsModel", "thinks", "(I)V"⟩, 35), (⟨"CarryShiftsModel", "steps", "()I"⟩, 35), (⟨"CarryShiftsModel", "goesRound", "()I"⟩, 35)]
theorem lw_r2 : ∀ q ∈ lw_privs_2, lw_okq q := List.forall_mem_cons.mpr ⟨lw_p16, List.forall_mem_cons.mpr ⟨lw_p17, List.forall_mem_cons.mpr ⟨lw_p18, List.forall_mem_cons.mpr ⟨lw_p19, List.forall_mem_cons.mpr ⟨lw_p20, List.forall_mem_cons.mpr ⟨lw_p21, List.forall_mem_cons.mpr ⟨lw_p22, List.forall_mem_cons.mpr ⟨lw_p23, List.forall_mem_cons.mpr ⟨lw_p24, List.forall_mem_cons.mpr ⟨lw_p25, List.forall_mem_cons.mpr ⟨lw_p26, List.forall_mem_cons.mpr ⟨lw_p27, List.forall_mem_cons.mpr ⟨lw_p28, List.forall_mem_cons.mpr ⟨lw_p29, List.forall_mem_cons.mpr ⟨lw_p30, List.forall_mem_cons.mpr ⟨lw_p31, fun _ h => absurd h List.not_mem_nil⟩⟩⟩⟩⟩⟩⟩⟩⟩⟩⟩⟩⟩⟩⟩⟩
theorem lw_p32 : lw_okq (⟨"CarryShiftsModel", "sum", "()I"⟩, 35) := ⟨⟨by decide +kernel, by decide +kernel⟩, List.mem_of_getElem? (i := 858) (by decide +kernel), List.mem_of_getElem? (i := 1045) (by decide +kernel), List.mem_of_getElem? (i := 1046) (by decide +kernel)⟩
theorem lw_p33 : lw_okq (⟨"CarryShiftsModel", "tells", "(II)V"⟩, 35) := ⟨⟨by decide +kernel, by decide +kernel⟩, List.mem_of_getElem? (i := 858) (by decide +kernel), List.mem_of_getElem? (i := 1064) (by decide +kernel), List.mem_of_getElem? (i := 1065) (by decide +kernel)⟩
theorem lw_p34 : lw_okq (⟨"CarryShiftsModel", "comesTo", "(I)I"⟩, 35) := ⟨⟨by decide +kernel, by decide +kernel⟩, List.mem_of_getElem? (i := 858) (by decide +kernel), List.mem_of_getElem? (i := 1068) (by decide +kernel), List.mem_of_getElem? (i := 1069) (by decide +kernel)⟩
theorem lw_p35 : lw_okq (⟨"CarryShiftsModel", "isThere", "(I)Z"⟩, 35) := ⟨⟨by decide +kernel, by decide +kernel⟩, List.mem_of_getElem? (i := 858) (by decide +kernel), List.mem_of_getElem? (i := 1080) (by decide +kernel), List.mem_of_getElem? (i := 1081) (by decide +kernel)⟩
theorem lw_p36 : lw_okq (⟨"CarryShiftsModel", "reads", "(I)V"⟩, 35) := ⟨⟨by decide +kernel, by decide +kernel⟩, List.mem_of_getElem? (i := 858) (by decide +kernel), List.mem_of_getElem? (i := 1085) (by decide +kernel), List.mem_of_getElem? (i := 1086) (by decide +kernel)⟩
theorem lw_p37 : lw_okq (⟨"CarryShiftsModel", "numberNow", "()J"⟩, 35) := ⟨⟨by decide +kernel, by decide +kernel⟩, List.mem_of_getElem? (i := 858) (by decide +kernel), List.mem_of_getElem? (i := 1089) (by decide +kernel), List.mem_of_getElem? (i := 1090) (by decide +kernel)⟩
theorem lw_p38 : lw_okq (⟨"CarryShiftsModel", "layLeast", "()V"⟩, 35) := ⟨⟨by decide +kernel, by decide +kernel⟩, List.mem_of_getElem? (i := 858) (by decide +kernel), List.mem_of_getElem? (i := 1111) (by decide +kernel), List.mem_of_getElem? (i := 1112) (by decide +kernel)⟩
theorem lw_p39 : lw_okq (⟨"CarryShiftsModel", "sizeOf", "(JJ)J"⟩, 35) := ⟨⟨by decide +kernel, by decide +kernel⟩, List.mem_of_getElem? (i := 858) (by decide +kernel), List.mem_of_getElem? (i := 1117) (by decide +kernel), List.mem_of_getElem? (i := 1118) (by decide +kernel)⟩
theorem lw_p40 : lw_okq (⟨"CarryShiftsModel", "isAgain", "(III)Z"⟩, 35) := ⟨⟨by decide +kernel, by decide +kernel⟩, List.mem_of_getElem? (i := 858) (by decide +kernel), List.mem_of_getElem? (i := 1149) (by decide +kernel), List.mem_of_getElem? (i := 1150) (by decide +kernel)⟩
theorem lw_p41 : lw_okq (⟨"CarryShiftsModel", "lawNow", "(I)J"⟩, 35) := ⟨⟨by decide +kernel, by decide +kernel⟩, List.mem_of_getElem? (i := 858) (by decide +kernel), List.mem_of_getElem? (i := 1157) (by decide +kernel), List.mem_of_getElem? (i := 1158) (by decide +kernel)⟩
theorem lw_p42 : lw_okq (⟨"CarryShiftsModel", "layLaw", "()I"⟩, 35) := ⟨⟨by decide +kernel, by decide +kernel⟩, List.mem_of_getElem? (i := 858) (by decide +kernel), List.mem_of_getElem? (i := 1161) (by decide +kernel), List.mem_of_getElem? (i := 1162) (by decide +kernel)⟩
theorem lw_p43 : lw_okq (⟨"CarryShiftsModel", "wordAt", "(II)I"⟩, 35) := ⟨⟨by decide +kernel, by decide +kernel⟩, List.mem_of_getElem? (i := 858) (by decide +kernel), List.mem_of_getElem? (i := 1178) (by decide +kernel), List.mem_of_getElem? (i := 1179) (by decide +kernel)⟩
theorem lw_p44 : lw_okq (⟨"CarryShiftsModel", "isRunAhead", "(I)Z"⟩, 35) := ⟨⟨by decide +kernel, by decide +kernel⟩, List.mem_of_getElem? (i := 858) (by decide +kernel), List.mem_of_getElem? (i := 1186) (by decide +kernel), List.mem_of_getElem? (i := 1187) (by decide +kernel)⟩
theorem lw_p45 : lw_okq (⟨"CarryShiftsModel", "runAt", "(I)I"⟩, 35) := ⟨⟨by decide +kernel, by decide +kernel⟩, List.mem_of_getElem? (i := 858) (by decide +kernel), List.mem_of_getElem? (i := 1190) (by decide +kernel), List.mem_of_getElem? (i := 1191) (by decide +kernel)⟩
theorem lw_p46 : lw_okq (⟨"CarryShiftsModel", "otherwise", "()I"⟩, 35) := ⟨⟨by decide +kernel, by decide +kernel⟩, List.mem_of_getElem? (i := 858) (by decide +kernel), List.mem_of_getElem? (i := 1198) (by decide +kernel), List.mem_of_getElem? (i := 1199) (by decide +kernel)⟩
theorem lw_p47 : lw_okq (⟨"CarryShiftsModel", "spoils", "(III)V"⟩, 35) := ⟨⟨by decide +kernel, by decide +kernel⟩, List.mem_of_getElem? (i := 858) (by decide +kernel), List.mem_of_getElem? (i := 1214) (by decide +kernel), List.mem_of_getElem? (i := 1215) (by decide +kernel)⟩
def lw_privs_3 : List (MethodName × Nat) := [(⟨"CarryShiftsModel", "sum", "()I"⟩, 35), (⟨"CarryShiftsModel", "tells", "(II)V"⟩, 35), (⟨"CarryShiftsModel", "comesTo", "(I)I"⟩, 35), (⟨"CarryShiftsModel", "isThere", "(I)Z"⟩, 35), (⟨"CarryShiftsModel", "reads", "(I)V"⟩, 35), (⟨"CarryShiftsModel", "numberNow", "()J"⟩, 35), (⟨"CarryShiftsModel", "layLeast", "()V"⟩, 35), (⟨"CarryShiftsModel", "sizeOf", "(JJ)J"⟩, 35), (⟨"CarryShiftsModel", "isAgain", "(III)Z"⟩, 35), (⟨"CarryShiftsModel", "lawNow", "(I)J"⟩, 35), (⟨"CarryShiftsModel", "layLaw", "()I"⟩, 35), (⟨"CarryShiftsModel", "wordAt", "(II)I"⟩, 35), (⟨"CarryShiftsModel", "isRunAhead", "(I)Z"⟩, 35), (⟨"CarryShiftsModel", "runAt", "(I)I"⟩, 35), (⟨"CarryShiftsModel", "otherwise", "()I"⟩, 35), (⟨"CarryShiftsModel", "spoils", "(III)V"⟩, 35)]
theorem lw_r3 : ∀ q ∈ lw_privs_3, lw_okq q := List.forall_mem_cons.mpr ⟨lw_p32, List.forall_mem_cons.mpr ⟨lw_p33, List.forall_mem_cons.mpr ⟨lw_p34, List.forall_mem_cons.mpr ⟨lw_p35, List.forall_mem_cons.mpr ⟨lw_p36, List.forall_mem_cons.mpr ⟨lw_p37, List.forall_mem_cons.mpr ⟨lw_p38, List.forall_mem_cons.mpr ⟨lw_p39, List.forall_mem_cons.mpr ⟨lw_p40, List.forall_mem_cons.mpr ⟨lw_p41, List.forall_mem_cons.mpr ⟨lw_p42, List.forall_mem_cons.mpr ⟨lw_p43, List.forall_mem_cons.mpr ⟨lw_p44, List.forall_mem_cons.mpr ⟨lw_p45, List.forall_mem_cons.mpr ⟨lw_p46, List.forall_mem_cons.mpr ⟨lw_p47, fun _ h => absurd h List.not_mem_nil⟩⟩⟩⟩⟩⟩⟩⟩⟩⟩⟩⟩⟩⟩⟩⟩
theorem lw_p48 : lw_okq (⟨"CarryShiftsModel", "takesAll", "()Z"⟩, 35) := ⟨⟨by decide +kernel, by decide +kernel⟩, List.mem_of_getElem? (i := 858) (by decide +kernel), List.mem_of_getElem? (i := 1231) (by decide +kernel), List.mem_of_getElem? (i := 1232) (by decide +kernel)⟩
theorem lw_p49 : lw_okq (⟨"CarryShiftsModel", "look", "()V"⟩, 35) := ⟨⟨by decide +kernel, by decide +kernel⟩, List.mem_of_getElem? (i := 858) (by decide +kernel), List.mem_of_getElem? (i := 1235) (by decide +kernel), List.mem_of_getElem? (i := 1236) (by decide +kernel)⟩
theorem lw_p50 : lw_okq (⟨"CarryShiftsModel", "isAt", "(II)Z"⟩, 35) := ⟨⟨by decide +kernel, by decide +kernel⟩, List.mem_of_getElem? (i := 858) (by decide +kernel), List.mem_of_getElem? (i := 1239) (by decide +kernel), List.mem_of_getElem? (i := 1240) (by decide +kernel)⟩
theorem lw_p51 : lw_okq (⟨"CarryShiftsModel", "isWord", "(I)Z"⟩, 35) := ⟨⟨by decide +kernel, by decide +kernel⟩, List.mem_of_getElem? (i := 858) (by decide +kernel), List.mem_of_getElem? (i := 1243) (by decide +kernel), List.mem_of_getElem? (i := 1244) (by decide +kernel)⟩
theorem lw_p52 : lw_okq (⟨"CarryShiftsModel", "takesNumber", "()V"⟩, 35) := ⟨⟨by decide +kernel, by decide +kernel⟩, List.mem_of_getElem? (i := 858) (by decide +kernel), List.mem_of_getElem? (i := 1258) (by decide +kernel), List.mem_of_getElem? (i := 1259) (by decide +kernel)⟩
theorem lw_p53 : lw_okq (⟨"CarryShiftsModel", "takesClause", "()Z"⟩, 35) := ⟨⟨by decide +kernel, by decide +kernel⟩, List.mem_of_getElem? (i := 858) (by decide +kernel), List.mem_of_getElem? (i := 1262) (by decide +kernel), List.mem_of_getElem? (i := 1263) (by decide +kernel)⟩
theorem lw_p54 : lw_okq (⟨"CarryShiftsModel", "isDone", "(I)Z"⟩, 35) := ⟨⟨by decide +kernel, by decide +kernel⟩, List.mem_of_getElem? (i := 858) (by decide +kernel), List.mem_of_getElem? (i := 1269) (by decide +kernel), List.mem_of_getElem? (i := 1270) (by decide +kernel)⟩
theorem lw_p55 : lw_okq (⟨"CarryShiftsModel", "rowAt", "(I)[I"⟩, 35) := ⟨⟨by decide +kernel, by decide +kernel⟩, List.mem_of_getElem? (i := 858) (by decide +kernel), List.mem_of_getElem? (i := 1281) (by decide +kernel), List.mem_of_getElem? (i := 1282) (by decide +kernel)⟩
theorem lw_p56 : lw_okq (⟨"CarryShiftsModel", "isWithin", "(III)Z"⟩, 35) := ⟨⟨by decide +kernel, by decide +kernel⟩, List.mem_of_getElem? (i := 858) (by decide +kernel), List.mem_of_getElem? (i := 1293) (by decide +kernel), List.mem_of_getElem? (i := 1294) (by decide +kernel)⟩
def lw_privs_4 : List (MethodName × Nat) := [(⟨"CarryShiftsModel", "takesAll", "()Z"⟩, 35), (⟨"CarryShiftsModel", "look", "()V"⟩, 35), (⟨"CarryShiftsModel", "isAt", "(II)Z"⟩, 35), (⟨"CarryShiftsModel", "isWord", "(I)Z"⟩, 35), (⟨"CarryShiftsModel", "takesNumber", "()V"⟩, 35), (⟨"CarryShiftsModel", "takesClause", "()Z"⟩, 35), (⟨"CarryShiftsModel", "isDone", "(I)Z"⟩, 35), (⟨"CarryShiftsModel", "rowAt", "(I)[I"⟩, 35), (⟨"CarryShiftsModel", "isWithin", "(III)Z"⟩, 35)]
theorem lw_r4 : ∀ q ∈ lw_privs_4, lw_okq q := List.forall_mem_cons.mpr ⟨lw_p48, List.forall_mem_cons.mpr ⟨lw_p49, List.forall_mem_cons.mpr ⟨lw_p50, List.forall_mem_cons.mpr ⟨lw_p51, List.forall_mem_cons.mpr ⟨lw_p52, List.forall_mem_cons.mpr ⟨lw_p53, List.forall_mem_cons.mpr ⟨lw_p54, List.forall_mem_cons.mpr ⟨lw_p55, List.forall_mem_cons.mpr ⟨lw_p56, fun _ h => absurd h List.not_mem_nil⟩⟩⟩⟩⟩⟩⟩⟩⟩
def lw_privs : List (MethodName × Nat) := lw_privs_1 ++ (lw_privs_2 ++ (lw_privs_3 ++ (lw_privs_4)))
def lw_tbl : List Cond := k2_sels lw_privs ++ tables_1
theorem lw_privs_ok : ∀ q ∈ lw_privs, lw_okq q := by
  show ∀ q ∈ lw_privs_1 ++ (lw_privs_2 ++ (lw_privs_3 ++ (lw_privs_4))), lw_okq q
  exact List.forall_mem_append.mpr ⟨lw_r1, List.forall_mem_append.mpr ⟨lw_r2, List.forall_mem_append.mpr ⟨lw_r3, lw_r4⟩⟩⟩
-- ===== end of PART A; then your names; then what follows =====
def RX0 : String := "CarryShifts$Borrowing"
def TX0 : u_T := fun k => match k with
  | 0 => ("CarryShifts$Carrying", "kind", "I", true)
  | 1 => ("CarryShifts$Carrying", "cells", "I", true)
  | 2 => ("CarryShifts$Carrying", "taps", "I", false)
  | 3 => ("CarryShifts$Carrying", "state", "I", false)
  | 4 => ("CarryShifts$Carrying", "carry", "I", false)
  | _ => ("CarryShifts$Carrying", "digits", "I", false)
def tyX0 : Nat → FieldType := fun k => match k with
  | 0 => .int
  | 1 => .int
  | 2 => .int
  | 3 => .int
  | 4 => .int
  | _ => .int
abbrev wsX00 : List Cond := u_ws RX0 TX0 6
theorem nmX0 : ∀ a, a < 6 → ∀ b, b < 6 → a ≠ b → (TX0 a).2.1 ≠ (TX0 b).2.1 := by decide +kernel
theorem tyX0_ok : ∀ k, k < 6 → parseFieldDescriptor (TX0 k).2.2.1 = some (tyX0 k) := by decide +kernel
abbrev cX0_init : ByteArray := prog_2_method_1_code
def yX0_init : MethodName := ⟨RX0, "<init>", "(II)V"⟩
abbrev cX0_sumOf : ByteArray := prog_2_method_2_code
def yX0_sumOf : MethodName := ⟨RX0, "sumOf", "(I)I"⟩
def RX1 : String := "CarryShifts$Carrying"
def TX1 : u_T := fun k => match k with
  | 0 => ("CarryShifts$Carrying", "kind", "I", true)
  | 1 => ("CarryShifts$Carrying", "cells", "I", true)
  | 2 => ("CarryShifts$Carrying", "taps", "I", false)
  | 3 => ("CarryShifts$Carrying", "state", "I", false)
  | 4 => ("CarryShifts$Carrying", "carry", "I", false)
  | _ => ("CarryShifts$Carrying", "digits", "I", false)
def tyX1 : Nat → FieldType := fun k => match k with
  | 0 => .int
  | 1 => .int
  | 2 => .int
  | 3 => .int
  | 4 => .int
  | _ => .int
abbrev wsX10 : List Cond := u_ws RX1 TX1 6
theorem nmX1 : ∀ a, a < 6 → ∀ b, b < 6 → a ≠ b → (TX1 a).2.1 ≠ (TX1 b).2.1 := by decide +kernel
theorem tyX1_ok : ∀ k, k < 6 → parseFieldDescriptor (TX1 k).2.2.1 = some (tyX1 k) := by decide +kernel
abbrev cX1_init : ByteArray := prog_3_method_1_code
def yX1_init : MethodName := ⟨RX1, "<init>", "(III)V"⟩
abbrev cX1_leave : ByteArray := prog_3_method_2_code
def yX1_leave : MethodName := ⟨RX1, "leave", "(I)V"⟩
abbrev cX1_links : ByteArray := prog_3_method_3_code
def yX1_links : MethodName := ⟨RX1, "links", "()I"⟩
abbrev cX1_standsAs : ByteArray := prog_3_method_4_code
def yX1_standsAs : MethodName := ⟨RX1, "standsAs", "(LCarryShifts$Carrying;)Z"⟩
abbrev cX1_advance : ByteArray := prog_3_method_5_code
def yX1_advance : MethodName := ⟨RX1, "advance", "()I"⟩
abbrev cX1_sumOf : ByteArray := prog_3_method_6_code
def yX1_sumOf : MethodName := ⟨RX1, "sumOf", "(I)I"⟩
abbrev cX1_carriedOf : ByteArray := prog_3_method_7_code
def yX1_carriedOf : MethodName := ⟨RX1, "carriedOf", "(I)I"⟩
def RX2 : String := "CarryShifts$Held"
def TX2 : u_T := fun k => match k with
  | 0 => ("CarryShifts$Carrying", "kind", "I", true)
  | 1 => ("CarryShifts$Carrying", "cells", "I", true)
  | 2 => ("CarryShifts$Carrying", "taps", "I", false)
  | 3 => ("CarryShifts$Carrying", "state", "I", false)
  | 4 => ("CarryShifts$Carrying", "carry", "I", false)
  | _ => ("CarryShifts$Carrying", "digits", "I", false)
def tyX2 : Nat → FieldType := fun k => match k with
  | 0 => .int
  | 1 => .int
  | 2 => .int
  | 3 => .int
  | 4 => .int
  | _ => .int
abbrev wsX20 : List Cond := u_ws RX2 TX2 6
theorem nmX2 : ∀ a, a < 6 → ∀ b, b < 6 → a ≠ b → (TX2 a).2.1 ≠ (TX2 b).2.1 := by decide +kernel
theorem tyX2_ok : ∀ k, k < 6 → parseFieldDescriptor (TX2 k).2.2.1 = some (tyX2 k) := by decide +kernel
abbrev cX2_init : ByteArray := prog_4_method_1_code
def yX2_init : MethodName := ⟨RX2, "<init>", "(II)V"⟩
abbrev cX2_carriedOf : ByteArray := prog_4_method_2_code
def yX2_carriedOf : MethodName := ⟨RX2, "carriedOf", "(I)I"⟩
def RX3 : String := "CarryShifts$Law"
def TX3 : u_T := fun k => match k with
  | 0 => ("CarryShifts$Law", "cells", "I", false)
  | _ => ("CarryShifts$Law", "taps", "J", false)
def tyX3 : Nat → FieldType := fun k => match k with
  | 0 => .int
  | _ => .long
abbrev wsX30 : List Cond := u_ws RX3 TX3 2
theorem nmX3 : ∀ a, a < 2 → ∀ b, b < 2 → a ≠ b → (TX3 a).2.1 ≠ (TX3 b).2.1 := by decide +kernel
theorem tyX3_ok : ∀ k, k < 2 → parseFieldDescriptor (TX3 k).2.2.1 = some (tyX3 k) := by decide +kernel
abbrev cX3_init : ByteArray := prog_5_method_1_code
def yX3_init : MethodName := ⟨RX3, "<init>", "()V"⟩
abbrev cX3_find : ByteArray := prog_5_method_2_code
def yX3_find : MethodName := ⟨RX3, "find", "(JI)V"⟩
def RX4 : String := "CarryShifts$Least"
def TX4 : u_T := fun k => match k with
  | 0 => ("CarryShifts$Least", "above", "J", false)
  | 1 => ("CarryShifts$Least", "below", "J", false)
  | 2 => ("CarryShifts$Least", "shortAbove", "J", false)
  | 3 => ("CarryShifts$Least", "shortBelow", "J", false)
  | 4 => ("CarryShifts$Least", "longAbove", "J", false)
  | _ => ("CarryShifts$Least", "longBelow", "J", false)
def tyX4 : Nat → FieldType := fun k => match k with
  | 0 => .long
  | 1 => .long
  | 2 => .long
  | 3 => .long
  | 4 => .long
  | _ => .long
abbrev wsX40 : List Cond := u_ws RX4 TX4 6
theorem nmX4 : ∀ a, a < 6 → ∀ b, b < 6 → a ≠ b → (TX4 a).2.1 ≠ (TX4 b).2.1 := by decide +kernel
theorem tyX4_ok : ∀ k, k < 6 → parseFieldDescriptor (TX4 k).2.2.1 = some (tyX4 k) := by decide +kernel
abbrev cX4_init : ByteArray := prog_6_method_1_code
def yX4_init : MethodName := ⟨RX4, "<init>", "()V"⟩
abbrev cX4_find : ByteArray := prog_6_method_2_code
def yX4_find : MethodName := ⟨RX4, "find", "(JI)V"⟩
abbrev cX4_greater : ByteArray := prog_6_method_3_code
def yX4_greater : MethodName := ⟨RX4, "greater", "()J"⟩
abbrev cX4_shorten : ByteArray := prog_6_method_4_code
def yX4_shorten : MethodName := ⟨RX4, "shorten", "(JJ)V"⟩
abbrev cX4_swapIfLonger : ByteArray := prog_6_method_5_code
def yX4_swapIfLonger : MethodName := ⟨RX4, "swapIfLonger", "()V"⟩
abbrev cX4_crossing : ByteArray := prog_6_method_6_code
def yX4_crossing : MethodName := ⟨RX4, "crossing", "(JJ)J"⟩
abbrev cX4_offerAround : ByteArray := prog_6_method_7_code
def yX4_offerAround : MethodName := ⟨RX4, "offerAround", "(J)V"⟩
abbrev cX4_offer : ByteArray := prog_6_method_8_code
def yX4_offer : MethodName := ⟨RX4, "offer", "(JJ)V"⟩
abbrev cX4_isLess : ByteArray := prog_6_method_9_code
def yX4_isLess : MethodName := ⟨RX4, "isLess", "(JJ)Z"⟩
def RX5 : String := "CarryShifts$Linear"
def TX5 : u_T := fun k => match k with
  | 0 => ("CarryShifts$Carrying", "kind", "I", true)
  | 1 => ("CarryShifts$Carrying", "cells", "I", true)
  | 2 => ("CarryShifts$Carrying", "taps", "I", false)
  | 3 => ("CarryShifts$Carrying", "state", "I", false)
  | 4 => ("CarryShifts$Carrying", "carry", "I", false)
  | _ => ("CarryShifts$Carrying", "digits", "I", false)
def tyX5 : Nat → FieldType := fun k => match k with
  | 0 => .int
  | 1 => .int
  | 2 => .int
  | 3 => .int
  | 4 => .int
  | _ => .int
abbrev wsX50 : List Cond := u_ws RX5 TX5 6
theorem nmX5 : ∀ a, a < 6 → ∀ b, b < 6 → a ≠ b → (TX5 a).2.1 ≠ (TX5 b).2.1 := by decide +kernel
theorem tyX5_ok : ∀ k, k < 6 → parseFieldDescriptor (TX5 k).2.2.1 = some (tyX5 k) := by decide +kernel
abbrev cX5_init : ByteArray := prog_7_method_1_code
def yX5_init : MethodName := ⟨RX5, "<init>", "(III)V"⟩
abbrev cX5_sumOf : ByteArray := prog_7_method_2_code
def yX5_sumOf : MethodName := ⟨RX5, "sumOf", "(I)I"⟩
abbrev cX5_carriedOf : ByteArray := prog_7_method_3_code
def yX5_carriedOf : MethodName := ⟨RX5, "carriedOf", "(I)I"⟩
def RX6 : String := "CarryShifts$Ring"
def TX6 : u_T := fun k => match k with
  | 0 => ("CarryShifts$Carrying", "kind", "I", true)
  | 1 => ("CarryShifts$Carrying", "cells", "I", true)
  | 2 => ("CarryShifts$Carrying", "taps", "I", false)
  | 3 => ("CarryShifts$Carrying", "state", "I", false)
  | 4 => ("CarryShifts$Carrying", "carry", "I", false)
  | _ => ("CarryShifts$Carrying", "digits", "I", false)
def tyX6 : Nat → FieldType := fun k => match k with
  | 0 => .int
  | 1 => .int
  | 2 => .int
  | 3 => .int
  | 4 => .int
  | _ => .int
abbrev wsX60 : List Cond := u_ws RX6 TX6 6
theorem nmX6 : ∀ a, a < 6 → ∀ b, b < 6 → a ≠ b → (TX6 a).2.1 ≠ (TX6 b).2.1 := by decide +kernel
theorem tyX6_ok : ∀ k, k < 6 → parseFieldDescriptor (TX6 k).2.2.1 = some (tyX6 k) := by decide +kernel
abbrev cX6_init : ByteArray := prog_8_method_1_code
def yX6_init : MethodName := ⟨RX6, "<init>", "(II)V"⟩
abbrev cX6_advance : ByteArray := prog_8_method_2_code
def yX6_advance : MethodName := ⟨RX6, "advance", "()I"⟩
def RX7 : String := "CarryShifts$Script"
def TX7 : u_T := fun k => match k with
  | 0 => ("CarryShifts$Script", "bytes", "[I", true)
  | 1 => ("CarryShifts$Script", "size", "I", false)
  | 2 => ("CarryShifts$Script", "clauses", "I", false)
  | 3 => ("CarryShifts$Script", "words", "[I", true)
  | 4 => ("CarryShifts$Script", "numbers", "[I", true)
  | 5 => ("CarryShifts$Script", "at", "I", false)
  | 6 => ("CarryShifts$Script", "token", "I", false)
  | 7 => ("CarryShifts$Script", "tokenStart", "I", false)
  | _ => ("CarryShifts$Script", "tokenValue", "I", false)
def tyX7 : Nat → FieldType := fun k => match k with
  | 0 => .array .int
  | 1 => .int
  | 2 => .int
  | 3 => .array .int
  | 4 => .array .int
  | 5 => .int
  | 6 => .int
  | 7 => .int
  | _ => .int
abbrev wsX70 : List Cond := u_ws RX7 TX7 9
theorem nmX7 : ∀ a, a < 9 → ∀ b, b < 9 → a ≠ b → (TX7 a).2.1 ≠ (TX7 b).2.1 := by decide +kernel
theorem tyX7_ok : ∀ k, k < 9 → parseFieldDescriptor (TX7 k).2.2.1 = some (tyX7 k) := by decide +kernel
abbrev cX7_init : ByteArray := prog_9_method_1_code
def yX7_init : MethodName := ⟨RX7, "<init>", "()V"⟩
abbrev cX7_hasRoom : ByteArray := prog_9_method_2_code
def yX7_hasRoom : MethodName := ⟨RX7, "hasRoom", "(I)Z"⟩
abbrev cX7_add : ByteArray := prog_9_method_3_code
def yX7_add : MethodName := ⟨RX7, "add", "(I)V"⟩
abbrev cX7_wordOf : ByteArray := prog_9_method_4_code
def yX7_wordOf : MethodName := ⟨RX7, "wordOf", "(I)I"⟩
abbrev cX7_numberOf : ByteArray := prog_9_method_5_code
def yX7_numberOf : MethodName := ⟨RX7, "numberOf", "(II)I"⟩
abbrev cX7_read : ByteArray := prog_9_method_6_code
def yX7_read : MethodName := ⟨RX7, "read", "()I"⟩
abbrev cX7_readClause : ByteArray := prog_9_method_7_code
def yX7_readClause : MethodName := ⟨RX7, "readClause", "(I)Z"⟩
abbrev cX7_numbersOf : ByteArray := prog_9_method_8_code
def yX7_numbersOf : MethodName := ⟨RX7, "numbersOf", "(I)I"⟩
abbrev cX7_byteAt : ByteArray := prog_9_method_9_code
def yX7_byteAt : MethodName := ⟨RX7, "byteAt", "(I)I"⟩
abbrev cX7_isLetter : ByteArray := prog_9_method_10_code
def yX7_isLetter : MethodName := ⟨RX7, "isLetter", "(I)Z"⟩
abbrev cX7_isDigit : ByteArray := prog_9_method_11_code
def yX7_isDigit : MethodName := ⟨RX7, "isDigit", "(I)Z"⟩
abbrev cX7_readToken : ByteArray := prog_9_method_12_code
def yX7_readToken : MethodName := ⟨RX7, "readToken", "()V"⟩
abbrev cX7_readWord : ByteArray := prog_9_method_13_code
def yX7_readWord : MethodName := ⟨RX7, "readWord", "()V"⟩
abbrev cX7_isNamed : ByteArray := prog_9_method_14_code
def yX7_isNamed : MethodName := ⟨RX7, "isNamed", "(Ljava/lang/String;)Z"⟩
abbrev cX7_nameOf : ByteArray := prog_9_method_15_code
def yX7_nameOf : MethodName := ⟨RX7, "nameOf", "(I)Ljava/lang/String;"⟩
abbrev cX7_readNumber : ByteArray := prog_9_method_16_code
def yX7_readNumber : MethodName := ⟨RX7, "readNumber", "()V"⟩
def RX8 : String := "CarryShifts$Sheet"
def TX8 : u_T := fun k => match k with
  | 0 => ("CarryShifts$Sheet", "items", "[I", true)
  | 1 => ("CarryShifts$Sheet", "sort", "I", false)
  | _ => ("CarryShifts$Sheet", "size", "I", false)
def tyX8 : Nat → FieldType := fun k => match k with
  | 0 => .array .int
  | 1 => .int
  | _ => .int
abbrev wsX80 : List Cond := u_ws RX8 TX8 3
theorem nmX8 : ∀ a, a < 3 → ∀ b, b < 3 → a ≠ b → (TX8 a).2.1 ≠ (TX8 b).2.1 := by decide +kernel
theorem tyX8_ok : ∀ k, k < 3 → parseFieldDescriptor (TX8 k).2.2.1 = some (tyX8 k) := by decide +kernel
abbrev cX8_init : ByteArray := prog_10_method_1_code
def yX8_init : MethodName := ⟨RX8, "<init>", "()V"⟩
abbrev cX8_isMissing : ByteArray := prog_10_method_2_code
def yX8_isMissing : MethodName := ⟨RX8, "isMissing", "()Z"⟩
abbrev cX8_has : ByteArray := prog_10_method_3_code
def yX8_has : MethodName := ⟨RX8, "has", "(JJ)Z"⟩
abbrev cX8_become : ByteArray := prog_10_method_4_code
def yX8_become : MethodName := ⟨RX8, "become", "(II)V"⟩
abbrev cX8_becomeRow : ByteArray := prog_10_method_5_code
def yX8_becomeRow : MethodName := ⟨RX8, "becomeRow", "(JI)V"⟩
abbrev cX8_bits : ByteArray := prog_10_method_6_code
def yX8_bits : MethodName := ⟨RX8, "bits", "()J"⟩
def RX9 : String := "CarryShifts$Turned"
def TX9 : u_T := fun k => match k with
  | 0 => ("CarryShifts$Carrying", "kind", "I", true)
  | 1 => ("CarryShifts$Carrying", "cells", "I", true)
  | 2 => ("CarryShifts$Carrying", "taps", "I", false)
  | 3 => ("CarryShifts$Carrying", "state", "I", false)
  | 4 => ("CarryShifts$Carrying", "carry", "I", false)
  | _ => ("CarryShifts$Carrying", "digits", "I", false)
def tyX9 : Nat → FieldType := fun k => match k with
  | 0 => .int
  | 1 => .int
  | 2 => .int
  | 3 => .int
  | 4 => .int
  | _ => .int
abbrev wsX90 : List Cond := u_ws RX9 TX9 6
theorem nmX9 : ∀ a, a < 6 → ∀ b, b < 6 → a ≠ b → (TX9 a).2.1 ≠ (TX9 b).2.1 := by decide +kernel
theorem tyX9_ok : ∀ k, k < 6 → parseFieldDescriptor (TX9 k).2.2.1 = some (tyX9 k) := by decide +kernel
abbrev cX9_init : ByteArray := prog_11_method_1_code
def yX9_init : MethodName := ⟨RX9, "<init>", "(II)V"⟩
abbrev cX9_sumOf : ByteArray := prog_11_method_2_code
def yX9_sumOf : MethodName := ⟨RX9, "sumOf", "(I)I"⟩
def RX10 : String := "CarryShifts"
def TX10 : u_T := fun k => match k with
  | 0 => ("CarryShifts", "machines", "[LCarryShifts$Carrying;", true)
  | 1 => ("CarryShifts", "machineCount", "I", false)
  | 2 => ("CarryShifts", "imaged", "[I", true)
  | 3 => ("CarryShifts", "imagedCount", "I", false)
  | 4 => ("CarryShifts", "sheets", "[LCarryShifts$Sheet;", true)
  | 5 => ("CarryShifts", "tape", "LCarryShifts$Script;", true)
  | 6 => ("CarryShifts", "least", "LCarryShifts$Least;", true)
  | 7 => ("CarryShifts", "law", "LCarryShifts$Law;", true)
  | _ => ("CarryShifts", "tellings", "[J", true)
def tyX10 : Nat → FieldType := fun k => match k with
  | 0 => .array (.object "CarryShifts$Carrying")
  | 1 => .int
  | 2 => .array .int
  | 3 => .int
  | 4 => .array (.object "CarryShifts$Sheet")
  | 5 => .object "CarryShifts$Script"
  | 6 => .object "CarryShifts$Least"
  | 7 => .object "CarryShifts$Law"
  | _ => .array .long
abbrev wsX100 : List Cond := u_ws RX10 TX10 9
theorem nmX10 : ∀ a, a < 9 → ∀ b, b < 9 → a ≠ b → (TX10 a).2.1 ≠ (TX10 b).2.1 := by decide +kernel
theorem tyX10_ok : ∀ k, k < 9 → parseFieldDescriptor (TX10 k).2.2.1 = some (tyX10 k) := by decide +kernel
abbrev cX10_init : ByteArray := prog_1_method_1_code
def yX10_init : MethodName := ⟨RX10, "<init>", "()V"⟩
abbrev cX10_machine : ByteArray := prog_1_method_2_code
def yX10_machine : MethodName := ⟨RX10, "machine", "(IIII)I"⟩
abbrev cX10_drop : ByteArray := prog_1_method_3_code
def yX10_drop : MethodName := ⟨RX10, "drop", "()I"⟩
abbrev cX10_set : ByteArray := prog_1_method_4_code
def yX10_set : MethodName := ⟨RX10, "set", "(III)I"⟩
abbrev cX10_of : ByteArray := prog_1_method_5_code
def yX10_of : MethodName := ⟨RX10, "of", "(II)I"⟩
abbrev cX10_taken : ByteArray := prog_1_method_6_code
def yX10_taken : MethodName := ⟨RX10, "taken", "(II)I"⟩
abbrev cX10_step : ByteArray := prog_1_method_7_code
def yX10_step : MethodName := ⟨RX10, "step", "(II)I"⟩
abbrev cX10_then : ByteArray := prog_1_method_8_code
def yX10_then : MethodName := ⟨RX10, "then", "(III)I"⟩
abbrev cX10_film : ByteArray := prog_1_method_9_code
def yX10_film : MethodName := ⟨RX10, "film", "(III)I"⟩
abbrev cX10_mix : ByteArray := prog_1_method_10_code
def yX10_mix : MethodName := ⟨RX10, "mix", "(IIII)I"⟩
abbrev cX10_number : ByteArray := prog_1_method_11_code
def yX10_number : MethodName := ⟨RX10, "number", "(I)J"⟩
abbrev cX10_expand : ByteArray := prog_1_method_12_code
def yX10_expand : MethodName := ⟨RX10, "expand", "(IIII)I"⟩
abbrev cX10_period : ByteArray := prog_1_method_13_code
def yX10_period : MethodName := ⟨RX10, "period", "(III)I"⟩
abbrev cX10_fraction : ByteArray := prog_1_method_14_code
def yX10_fraction : MethodName := ⟨RX10, "fraction", "(II)J"⟩
abbrev cX10_told : ByteArray := prog_1_method_15_code
def yX10_told : MethodName := ⟨RX10, "told", "(II)J"⟩
abbrev cX10_build : ByteArray := prog_1_method_16_code
def yX10_build : MethodName := ⟨RX10, "build", "(I)I"⟩
abbrev cX10_cycle : ByteArray := prog_1_method_17_code
def yX10_cycle : MethodName := ⟨RX10, "cycle", "(II)I"⟩
abbrev cX10_linear : ByteArray := prog_1_method_18_code
def yX10_linear : MethodName := ⟨RX10, "linear", "(II)J"⟩
abbrev cX10_twin : ByteArray := prog_1_method_19_code
def yX10_twin : MethodName := ⟨RX10, "twin", "(III)J"⟩
abbrev cX10_compare : ByteArray := prog_1_method_20_code
def yX10_compare : MethodName := ⟨RX10, "compare", "(I)I"⟩
abbrev cX10_windows : ByteArray := prog_1_method_21_code
def yX10_windows : MethodName := ⟨RX10, "windows", "(III)I"⟩
abbrev cX10_runs : ByteArray := prog_1_method_22_code
def yX10_runs : MethodName := ⟨RX10, "runs", "(III)I"⟩
abbrev cX10_replays : ByteArray := prog_1_method_23_code
def yX10_replays : MethodName := ⟨RX10, "replays", "(III)I"⟩
abbrev cX10_search : ByteArray := prog_1_method_24_code
def yX10_search : MethodName := ⟨RX10, "search", "(III)I"⟩
abbrev cX10_alike : ByteArray := prog_1_method_25_code
def yX10_alike : MethodName := ⟨RX10, "alike", "(II)I"⟩
abbrev cX10_drawn : ByteArray := prog_1_method_26_code
def yX10_drawn : MethodName := ⟨RX10, "drawn", "(III)I"⟩
abbrev cX10_chance : ByteArray := prog_1_method_27_code
def yX10_chance : MethodName := ⟨RX10, "chance", "(IIIIII)I"⟩
abbrev cX10_feed : ByteArray := prog_1_method_28_code
def yX10_feed : MethodName := ⟨RX10, "feed", "(IIIIII)I"⟩
abbrev cX10_text : ByteArray := prog_1_method_29_code
def yX10_text : MethodName := ⟨RX10, "text", "()I"⟩
abbrev cX10_image : ByteArray := prog_1_method_30_code
def yX10_image : MethodName := ⟨RX10, "image", "()I"⟩
abbrev cX10_back : ByteArray := prog_1_method_31_code
def yX10_back : MethodName := ⟨RX10, "back", "()I"⟩
abbrev cX10_load : ByteArray := prog_1_method_32_code
def yX10_load : MethodName := ⟨RX10, "load", "(IIII)I"⟩
abbrev cX10_count : ByteArray := prog_1_method_33_code
def yX10_count : MethodName := ⟨RX10, "count", "(I)I"⟩
abbrev cX10_sheet : ByteArray := prog_1_method_34_code
def yX10_sheet : MethodName := ⟨RX10, "sheet", "(III)I"⟩
abbrev cX10_put : ByteArray := prog_1_method_35_code
def yX10_put : MethodName := ⟨RX10, "put", "(III)I"⟩
abbrev cX10_copy : ByteArray := prog_1_method_36_code
def yX10_copy : MethodName := ⟨RX10, "copy", "(IIIII)I"⟩
abbrev cX10_between : ByteArray := prog_1_method_37_code
def yX10_between : MethodName := ⟨RX10, "between", "(III)Z"⟩
abbrev cX10_allCells : ByteArray := prog_1_method_38_code
def yX10_allCells : MethodName := ⟨RX10, "allCells", "(I)I"⟩
abbrev cX10_made : ByteArray := prog_1_method_39_code
def yX10_made : MethodName := ⟨RX10, "made", "(IIIII)LCarryShifts$Carrying;"⟩
abbrev cX10_thoughtOf : ByteArray := prog_1_method_40_code
def yX10_thoughtOf : MethodName := ⟨RX10, "thoughtOf", "(LCarryShifts$Carrying;)LCarryShifts$Carrying;"⟩
abbrev cX10_isUnder : ByteArray := prog_1_method_41_code
def yX10_isUnder : MethodName := ⟨RX10, "isUnder", "(LCarryShifts$Carrying;I)Z"⟩
abbrev cX10_join : ByteArray := prog_1_method_42_code
def yX10_join : MethodName := ⟨RX10, "join", "(LCarryShifts$Carrying;)I"⟩
abbrev cX10_machineAt : ByteArray := prog_1_method_43_code
def yX10_machineAt : MethodName := ⟨RX10, "machineAt", "(I)LCarryShifts$Carrying;"⟩
abbrev cX10_canBecome : ByteArray := prog_1_method_44_code
def yX10_canBecome : MethodName := ⟨RX10, "canBecome", "(LCarryShifts$Carrying;II)Z"⟩
abbrev cX10_cellsOf : ByteArray := prog_1_method_45_code
def yX10_cellsOf : MethodName := ⟨RX10, "cellsOf", "(I)I"⟩
abbrev cX10_numbersOf : ByteArray := prog_1_method_46_code
def yX10_numbersOf : MethodName := ⟨RX10, "numbersOf", "(I)I"⟩
abbrev cX10_imageOne : ByteArray := prog_1_method_47_code
def yX10_imageOne : MethodName := ⟨RX10, "imageOne", "(LCarryShifts$Carrying;I)V"⟩
abbrev cX10_imagedAt : ByteArray := prog_1_method_48_code
def yX10_imagedAt : MethodName := ⟨RX10, "imagedAt", "(I)LCarryShifts$Carrying;"⟩
abbrev cX10_tell : ByteArray := prog_1_method_49_code
def yX10_tell : MethodName := ⟨RX10, "tell", "(LCarryShifts$Carrying;I)J"⟩
abbrev cX10_tellAll : ByteArray := prog_1_method_50_code
def yX10_tellAll : MethodName := ⟨RX10, "tellAll", "(I)V"⟩
abbrev cX10_toldTogether : ByteArray := prog_1_method_51_code
def yX10_toldTogether : MethodName := ⟨RX10, "toldTogether", "(II)I"⟩
abbrev cX10_stepsRound : ByteArray := prog_1_method_52_code
def yX10_stepsRound : MethodName := ⟨RX10, "stepsRound", "(LCarryShifts$Carrying;)I"⟩
abbrev cX10_stepsAhead : ByteArray := prog_1_method_53_code
def yX10_stepsAhead : MethodName := ⟨RX10, "stepsAhead", "(LCarryShifts$Carrying;I)I"⟩
abbrev cX10_tellsRow : ByteArray := prog_1_method_54_code
def yX10_tellsRow : MethodName := ⟨RX10, "tellsRow", "(LCarryShifts$Carrying;JI)Z"⟩
abbrev cX10_firstOtherwise : ByteArray := prog_1_method_55_code
def yX10_firstOtherwise : MethodName := ⟨RX10, "firstOtherwise", "(LCarryShifts$Carrying;JI)I"⟩
abbrev cX10_replayingKinds : ByteArray := prog_1_method_56_code
def yX10_replayingKinds : MethodName := ⟨RX10, "replayingKinds", "(LCarryShifts$Carrying;JI)I"⟩
abbrev cX10_replayingCarries : ByteArray := prog_1_method_57_code
def yX10_replayingCarries : MethodName := ⟨RX10, "replayingCarries", "(LCarryShifts$Carrying;JI)I"⟩
abbrev cX10_firstReplaying : ByteArray := prog_1_method_58_code
def yX10_firstReplaying : MethodName := ⟨RX10, "firstReplaying", "(JIII)I"⟩
abbrev cX10_sheetAt : ByteArray := prog_1_method_59_code
def yX10_sheetAt : MethodName := ⟨RX10, "sheetAt", "(I)LCarryShifts$Sheet;"⟩
abbrev cX10_isFraction : ByteArray := prog_1_method_60_code
def yX10_isFraction : MethodName := ⟨RX10, "isFraction", "(II)Z"⟩
abbrev cX10_behindDigit : ByteArray := prog_1_method_61_code
def yX10_behindDigit : MethodName := ⟨RX10, "behindDigit", "(JJ)J"⟩
abbrev cX10_firstDigits : ByteArray := prog_1_method_62_code
def yX10_firstDigits : MethodName := ⟨RX10, "firstDigits", "(JJI)J"⟩
abbrev cX10_digitsRound : ByteArray := prog_1_method_63_code
def yX10_digitsRound : MethodName := ⟨RX10, "digitsRound", "(JJ)I"⟩
abbrev cX10_binaryDigits : ByteArray := prog_1_method_64_code
def yX10_binaryDigits : MethodName := ⟨RX10, "binaryDigits", "(J)I"⟩
abbrev cX10_commonDivisor : ByteArray := prog_1_method_65_code
def yX10_commonDivisor : MethodName := ⟨RX10, "commonDivisor", "(JJ)J"⟩
abbrev cX10_inLowestTerms : ByteArray := prog_1_method_66_code
def yX10_inLowestTerms : MethodName := ⟨RX10, "inLowestTerms", "(JJI)J"⟩
abbrev cX10_aboveWithoutCarry : ByteArray := prog_1_method_67_code
def yX10_aboveWithoutCarry : MethodName := ⟨RX10, "aboveWithoutCarry", "(III)J"⟩
abbrev cX10_buildFrom : ByteArray := prog_1_method_68_code
def yX10_buildFrom : MethodName := ⟨RX10, "buildFrom", "(JJ)I"⟩
abbrev cX10_lawAnswer : ByteArray := prog_1_method_69_code
def yX10_lawAnswer : MethodName := ⟨RX10, "lawAnswer", "(JII)J"⟩
abbrev cX10_countWords : ByteArray := prog_1_method_70_code
def yX10_countWords : MethodName := ⟨RX10, "countWords", "(JIII)I"⟩
abbrev cX10_timesWord : ByteArray := prog_1_method_71_code
def yX10_timesWord : MethodName := ⟨RX10, "timesWord", "(JIII)I"⟩
abbrev cX10_runLength : ByteArray := prog_1_method_72_code
def yX10_runLength : MethodName := ⟨RX10, "runLength", "(JII)I"⟩
abbrev cX10_runsOf : ByteArray := prog_1_method_73_code
def yX10_runsOf : MethodName := ⟨RX10, "runsOf", "(JIII)I"⟩
abbrev cX10_unlikeRuns : ByteArray := prog_1_method_74_code
def yX10_unlikeRuns : MethodName := ⟨RX10, "unlikeRuns", "(JI)I"⟩
abbrev cX10_beginsRun : ByteArray := prog_1_method_75_code
def yX10_beginsRun : MethodName := ⟨RX10, "beginsRun", "(JI)Z"⟩
abbrev cX10_spoilt : ByteArray := prog_1_method_76_code
def yX10_spoilt : MethodName := ⟨RX10, "spoilt", "(JIII)J"⟩
abbrev cX10_isByte : ByteArray := prog_1_method_77_code
def yX10_isByte : MethodName := ⟨RX10, "isByte", "(I)Z"⟩
abbrev cX10_doClause : ByteArray := prog_1_method_78_code
def yX10_doClause : MethodName := ⟨RX10, "doClause", "(II)Z"⟩
def RX11 : String := "CarryShiftsModel"
def TX11 : u_T := fun k => match k with
  | 0 => ("CarryShiftsModel", "many", "I", false)
  | 1 => ("CarryShiftsModel", "kinds", "[I", true)
  | 2 => ("CarryShiftsModel", "cells", "[I", true)
  | 3 => ("CarryShiftsModel", "taps", "[I", true)
  | 4 => ("CarryShiftsModel", "states", "[I", true)
  | 5 => ("CarryShiftsModel", "carries", "[I", true)
  | 6 => ("CarryShiftsModel", "kind", "I", false)
  | 7 => ("CarryShiftsModel", "size", "I", false)
  | 8 => ("CarryShiftsModel", "tapped", "I", false)
  | 9 => ("CarryShiftsModel", "state", "I", false)
  | 10 => ("CarryShiftsModel", "carry", "I", false)
  | 11 => ("CarryShiftsModel", "row", "[I", true)
  | 12 => ("CarryShiftsModel", "length", "I", false)
  | 13 => ("CarryShiftsModel", "sums", "[I", true)
  | 14 => ("CarryShiftsModel", "above", "J", false)
  | 15 => ("CarryShiftsModel", "below", "J", false)
  | 16 => ("CarryShiftsModel", "law", "[I", true)
  | 17 => ("CarryShiftsModel", "lawWas", "[I", true)
  | 18 => ("CarryShiftsModel", "lawKept", "[I", true)
  | 19 => ("CarryShiftsModel", "counts", "[I", true)
  | 20 => ("CarryShiftsModel", "tape", "[I", true)
  | 21 => ("CarryShiftsModel", "taped", "I", false)
  | 22 => ("CarryShiftsModel", "at", "I", false)
  | 23 => ("CarryShiftsModel", "begun", "I", false)
  | 24 => ("CarryShiftsModel", "token", "I", false)
  | 25 => ("CarryShiftsModel", "value", "I", false)
  | 26 => ("CarryShiftsModel", "clauses", "I", false)
  | 27 => ("CarryShiftsModel", "words", "[I", true)
  | 28 => ("CarryShiftsModel", "numbers", "[I", true)
  | 29 => ("CarryShiftsModel", "isKept", "Z", false)
  | 30 => ("CarryShiftsModel", "manyKept", "I", false)
  | 31 => ("CarryShiftsModel", "kept", "[I", true)
  | 32 => ("CarryShiftsModel", "sorts", "[I", true)
  | 33 => ("CarryShiftsModel", "sizes", "[I", true)
  | _ => ("CarryShiftsModel", "items", "[I", true)
def tyX11 : Nat → FieldType := fun k => match k with
  | 0 => .int
  | 1 => .array .int
  | 2 => .array .int
  | 3 => .array .int
  | 4 => .array .int
  | 5 => .array .int
  | 6 => .int
  | 7 => .int
  | 8 => .int
  | 9 => .int
  | 10 => .int
  | 11 => .array .int
  | 12 => .int
  | 13 => .array .int
  | 14 => .long
  | 15 => .long
  | 16 => .array .int
  | 17 => .array .int
  | 18 => .array .int
  | 19 => .array .int
  | 20 => .array .int
  | 21 => .int
  | 22 => .int
  | 23 => .int
  | 24 => .int
  | 25 => .int
  | 26 => .int
  | 27 => .array .int
  | 28 => .array .int
  | 29 => .boolean
  | 30 => .int
  | 31 => .array .int
  | 32 => .array .int
  | 33 => .array .int
  | _ => .array .int
abbrev wsX110 : List Cond := u_ws RX11 TX11 35
theorem nmX11 : ∀ a, a < 35 → ∀ b, b < 35 → a ≠ b → (TX11 a).2.1 ≠ (TX11 b).2.1 := by decide +kernel
theorem tyX11_ok : ∀ k, k < 35 → parseFieldDescriptor (TX11 k).2.2.1 = some (tyX11 k) := by decide +kernel
abbrev cX11_in : ByteArray := prog_13_method_1_code
def yX11_in : MethodName := ⟨RX11, "in", "(III)Z"⟩
abbrev cX11_init : ByteArray := prog_13_method_2_code
def yX11_init : MethodName := ⟨RX11, "<init>", "()V"⟩
abbrev cX11_isMachine : ByteArray := prog_13_method_3_code
def yX11_isMachine : MethodName := ⟨RX11, "isMachine", "(I)Z"⟩
abbrev cX11_isState : ByteArray := prog_13_method_4_code
def yX11_isState : MethodName := ⟨RX11, "isState", "(II)Z"⟩
abbrev cX11_isKind : ByteArray := prog_13_method_5_code
def yX11_isKind : MethodName := ⟨RX11, "isKind", "(I)Z"⟩
abbrev cX11_lay : ByteArray := prog_13_method_6_code
def yX11_lay : MethodName := ⟨RX11, "lay", "(IIIIII)V"⟩
abbrev cX11_machine : ByteArray := prog_13_method_7_code
def yX11_machine : MethodName := ⟨RX11, "machine", "(IIII)I"⟩
abbrev cX11_drop : ByteArray := prog_13_method_8_code
def yX11_drop : MethodName := ⟨RX11, "drop", "()I"⟩
abbrev cX11_isSettable : ByteArray := prog_13_method_9_code
def yX11_isSettable : MethodName := ⟨RX11, "isSettable", "(III)Z"⟩
abbrev cX11_rowOf : ByteArray := prog_13_method_10_code
def yX11_rowOf : MethodName := ⟨RX11, "rowOf", "(I)[I"⟩
abbrev cX11_set : ByteArray := prog_13_method_11_code
def yX11_set : MethodName := ⟨RX11, "set", "(III)I"⟩
abbrev cX11_links : ByteArray := prog_13_method_12_code
def yX11_links : MethodName := ⟨RX11, "links", "(I)I"⟩
abbrev cX11_made : ByteArray := prog_13_method_13_code
def yX11_made : MethodName := ⟨RX11, "made", "(I)I"⟩
abbrev cX11_of : ByteArray := prog_13_method_14_code
def yX11_of : MethodName := ⟨RX11, "of", "(II)I"⟩
abbrev cX11_isUnder : ByteArray := prog_13_method_15_code
def yX11_isUnder : MethodName := ⟨RX11, "isUnder", "(II)Z"⟩
abbrev cX11_taken : ByteArray := prog_13_method_16_code
def yX11_taken : MethodName := ⟨RX11, "taken", "(II)I"⟩
abbrev cX11_has : ByteArray := prog_13_method_17_code
def yX11_has : MethodName := ⟨RX11, "has", "(II)Z"⟩
abbrev cX11_thinks : ByteArray := prog_13_method_18_code
def yX11_thinks : MethodName := ⟨RX11, "thinks", "(I)V"⟩
abbrev cX11_bitsOf : ByteArray := prog_13_method_19_code
def yX11_bitsOf : MethodName := ⟨RX11, "bitsOf", "(I)I"⟩
abbrev cX11_sum : ByteArray := prog_13_method_20_code
def yX11_sum : MethodName := ⟨RX11, "sum", "()I"⟩
abbrev cX11_goesRound : ByteArray := prog_13_method_21_code
def yX11_goesRound : MethodName := ⟨RX11, "goesRound", "()I"⟩
abbrev cX11_steps : ByteArray := prog_13_method_22_code
def yX11_steps : MethodName := ⟨RX11, "steps", "()I"⟩
abbrev cX11_step : ByteArray := prog_13_method_23_code
def yX11_step : MethodName := ⟨RX11, "step", "(II)I"⟩
abbrev cX11_then : ByteArray := prog_13_method_24_code
def yX11_then : MethodName := ⟨RX11, "then", "(III)I"⟩
abbrev cX11_tells : ByteArray := prog_13_method_25_code
def yX11_tells : MethodName := ⟨RX11, "tells", "(II)V"⟩
abbrev cX11_comesTo : ByteArray := prog_13_method_26_code
def yX11_comesTo : MethodName := ⟨RX11, "comesTo", "(I)I"⟩
abbrev cX11_reads : ByteArray := prog_13_method_27_code
def yX11_reads : MethodName := ⟨RX11, "reads", "(I)V"⟩
abbrev cX11_film : ByteArray := prog_13_method_28_code
def yX11_film : MethodName := ⟨RX11, "film", "(III)I"⟩
abbrev cX11_mix : ByteArray := prog_13_method_29_code
def yX11_mix : MethodName := ⟨RX11, "mix", "(IIII)I"⟩
abbrev cX11_isSheet : ByteArray := prog_13_method_30_code
def yX11_isSheet : MethodName := ⟨RX11, "isSheet", "(I)Z"⟩
abbrev cX11_isThere : ByteArray := prog_13_method_31_code
def yX11_isThere : MethodName := ⟨RX11, "isThere", "(I)Z"⟩
abbrev cX11_numberNow : ByteArray := prog_13_method_32_code
def yX11_numberNow : MethodName := ⟨RX11, "numberNow", "()J"⟩
abbrev cX11_number : ByteArray := prog_13_method_33_code
def yX11_number : MethodName := ⟨RX11, "number", "(I)J"⟩
abbrev cX11_isFraction : ByteArray := prog_13_method_34_code
def yX11_isFraction : MethodName := ⟨RX11, "isFraction", "(II)Z"⟩
abbrev cX11_behind : ByteArray := prog_13_method_35_code
def yX11_behind : MethodName := ⟨RX11, "behind", "(II)I"⟩
abbrev cX11_expand : ByteArray := prog_13_method_36_code
def yX11_expand : MethodName := ⟨RX11, "expand", "(IIII)I"⟩
abbrev cX11_period : ByteArray := prog_13_method_37_code
def yX11_period : MethodName := ⟨RX11, "period", "(III)I"⟩
abbrev cX11_sizeOf : ByteArray := prog_13_method_38_code
def yX11_sizeOf : MethodName := ⟨RX11, "sizeOf", "(JJ)J"⟩
abbrev cX11_layLeast : ByteArray := prog_13_method_39_code
def yX11_layLeast : MethodName := ⟨RX11, "layLeast", "()V"⟩
abbrev cX11_digitsOf : ByteArray := prog_13_method_40_code
def yX11_digitsOf : MethodName := ⟨RX11, "digitsOf", "(J)I"⟩
abbrev cX11_fraction : ByteArray := prog_13_method_41_code
def yX11_fraction : MethodName := ⟨RX11, "fraction", "(II)J"⟩
abbrev cX11_common : ByteArray := prog_13_method_42_code
def yX11_common : MethodName := ⟨RX11, "common", "(II)I"⟩
abbrev cX11_restOf : ByteArray := prog_13_method_43_code
def yX11_restOf : MethodName := ⟨RX11, "restOf", "(III)I"⟩
abbrev cX11_told : ByteArray := prog_13_method_44_code
def yX11_told : MethodName := ⟨RX11, "told", "(II)J"⟩
abbrev cX11_build : ByteArray := prog_13_method_45_code
def yX11_build : MethodName := ⟨RX11, "build", "(I)I"⟩
abbrev cX11_cycle : ByteArray := prog_13_method_46_code
def yX11_cycle : MethodName := ⟨RX11, "cycle", "(II)I"⟩
abbrev cX11_isAgain : ByteArray := prog_13_method_47_code
def yX11_isAgain : MethodName := ⟨RX11, "isAgain", "(III)Z"⟩
abbrev cX11_layLaw : ByteArray := prog_13_method_48_code
def yX11_layLaw : MethodName := ⟨RX11, "layLaw", "()I"⟩
abbrev cX11_lawNow : ByteArray := prog_13_method_49_code
def yX11_lawNow : MethodName := ⟨RX11, "lawNow", "(I)J"⟩
abbrev cX11_linear : ByteArray := prog_13_method_50_code
def yX11_linear : MethodName := ⟨RX11, "linear", "(II)J"⟩
abbrev cX11_twin : ByteArray := prog_13_method_51_code
def yX11_twin : MethodName := ⟨RX11, "twin", "(III)J"⟩
abbrev cX11_compare : ByteArray := prog_13_method_52_code
def yX11_compare : MethodName := ⟨RX11, "compare", "(I)I"⟩
abbrev cX11_wordAt : ByteArray := prog_13_method_53_code
def yX11_wordAt : MethodName := ⟨RX11, "wordAt", "(II)I"⟩
abbrev cX11_windows : ByteArray := prog_13_method_54_code
def yX11_windows : MethodName := ⟨RX11, "windows", "(III)I"⟩
abbrev cX11_runAt : ByteArray := prog_13_method_55_code
def yX11_runAt : MethodName := ⟨RX11, "runAt", "(I)I"⟩
abbrev cX11_isRunAhead : ByteArray := prog_13_method_56_code
def yX11_isRunAhead : MethodName := ⟨RX11, "isRunAhead", "(I)Z"⟩
abbrev cX11_runs : ByteArray := prog_13_method_57_code
def yX11_runs : MethodName := ⟨RX11, "runs", "(III)I"⟩
abbrev cX11_otherwise : ByteArray := prog_13_method_58_code
def yX11_otherwise : MethodName := ⟨RX11, "otherwise", "()I"⟩
abbrev cX11_replays : ByteArray := prog_13_method_59_code
def yX11_replays : MethodName := ⟨RX11, "replays", "(III)I"⟩
abbrev cX11_search : ByteArray := prog_13_method_60_code
def yX11_search : MethodName := ⟨RX11, "search", "(III)I"⟩
abbrev cX11_alike : ByteArray := prog_13_method_61_code
def yX11_alike : MethodName := ⟨RX11, "alike", "(II)I"⟩
abbrev cX11_spoils : ByteArray := prog_13_method_62_code
def yX11_spoils : MethodName := ⟨RX11, "spoils", "(III)V"⟩
abbrev cX11_drawn : ByteArray := prog_13_method_63_code
def yX11_drawn : MethodName := ⟨RX11, "drawn", "(III)I"⟩
abbrev cX11_chance : ByteArray := prog_13_method_64_code
def yX11_chance : MethodName := ⟨RX11, "chance", "(IIIIII)I"⟩
abbrev cX11_feed : ByteArray := prog_13_method_65_code
def yX11_feed : MethodName := ⟨RX11, "feed", "(IIIIII)I"⟩
abbrev cX11_isAt : ByteArray := prog_13_method_66_code
def yX11_isAt : MethodName := ⟨RX11, "isAt", "(II)Z"⟩
abbrev cX11_wordOf : ByteArray := prog_13_method_67_code
def yX11_wordOf : MethodName := ⟨RX11, "wordOf", "(I)Ljava/lang/String;"⟩
abbrev cX11_manyOf : ByteArray := prog_13_method_68_code
def yX11_manyOf : MethodName := ⟨RX11, "manyOf", "(I)I"⟩
abbrev cX11_isWord : ByteArray := prog_13_method_69_code
def yX11_isWord : MethodName := ⟨RX11, "isWord", "(I)Z"⟩
abbrev cX11_takesNumber : ByteArray := prog_13_method_70_code
def yX11_takesNumber : MethodName := ⟨RX11, "takesNumber", "()V"⟩
abbrev cX11_look : ByteArray := prog_13_method_71_code
def yX11_look : MethodName := ⟨RX11, "look", "()V"⟩
abbrev cX11_takesClause : ByteArray := prog_13_method_72_code
def yX11_takesClause : MethodName := ⟨RX11, "takesClause", "()Z"⟩
abbrev cX11_takesAll : ByteArray := prog_13_method_73_code
def yX11_takesAll : MethodName := ⟨RX11, "takesAll", "()Z"⟩
abbrev cX11_isDone : ByteArray := prog_13_method_74_code
def yX11_isDone : MethodName := ⟨RX11, "isDone", "(I)Z"⟩
abbrev cX11_text : ByteArray := prog_13_method_75_code
def yX11_text : MethodName := ⟨RX11, "text", "()I"⟩
abbrev cX11_rowAt : ByteArray := prog_13_method_76_code
def yX11_rowAt : MethodName := ⟨RX11, "rowAt", "(I)[I"⟩
abbrev cX11_image : ByteArray := prog_13_method_77_code
def yX11_image : MethodName := ⟨RX11, "image", "()I"⟩
abbrev cX11_back : ByteArray := prog_13_method_78_code
def yX11_back : MethodName := ⟨RX11, "back", "()I"⟩
abbrev cX11_isWithin : ByteArray := prog_13_method_79_code
def yX11_isWithin : MethodName := ⟨RX11, "isWithin", "(III)Z"⟩
abbrev cX11_load : ByteArray := prog_13_method_80_code
def yX11_load : MethodName := ⟨RX11, "load", "(IIII)I"⟩
abbrev cX11_count : ByteArray := prog_13_method_81_code
def yX11_count : MethodName := ⟨RX11, "count", "(I)I"⟩
abbrev cX11_sheet : ByteArray := prog_13_method_82_code
def yX11_sheet : MethodName := ⟨RX11, "sheet", "(III)I"⟩
abbrev cX11_put : ByteArray := prog_13_method_83_code
def yX11_put : MethodName := ⟨RX11, "put", "(III)I"⟩
abbrev cX11_copy : ByteArray := prog_13_method_84_code
def yX11_copy : MethodName := ⟨RX11, "copy", "(IIIII)I"⟩
def RJ6 : String := "java/lang/Integer"
def TJ6 : u_T := fun k => match k with
  | _ => ("", "", "", false)
def tyJ6 : Nat → FieldType := fun k => match k with
  | _ => .int
abbrev wsJ60 : List Cond := u_ws RJ6 TJ6 0
theorem nmJ6 : ∀ a, a < 0 → ∀ b, b < 0 → a ≠ b → (TJ6 a).2.1 ≠ (TJ6 b).2.1 := by decide +kernel
theorem tyJ6_ok : ∀ k, k < 0 → parseFieldDescriptor (TJ6 k).2.2.1 = some (tyJ6 k) := by decide +kernel
abbrev cJ6_numberOfLeadingZeros_0f7a4 : ByteArray := prog_14_method_47_code
def yJ6_numberOfLeadingZeros_0f7a4 : MethodName := ⟨RJ6, "numberOfLeadingZeros", "(I)I"⟩
abbrev cJ6_numberOfTrailingZeros_0f7a4 : ByteArray := prog_14_method_48_code
def yJ6_numberOfTrailingZeros_0f7a4 : MethodName := ⟨RJ6, "numberOfTrailingZeros", "(I)I"⟩
abbrev cJ6_bitCount_0f7a4 : ByteArray := prog_14_method_49_code
def yJ6_bitCount_0f7a4 : MethodName := ⟨RJ6, "bitCount", "(I)I"⟩
def RJ13 : String := "java/lang/Long"
def TJ13 : u_T := fun k => match k with
  | _ => ("", "", "", false)
def tyJ13 : Nat → FieldType := fun k => match k with
  | _ => .int
abbrev wsJ130 : List Cond := u_ws RJ13 TJ13 0
theorem nmJ13 : ∀ a, a < 0 → ∀ b, b < 0 → a ≠ b → (TJ13 a).2.1 ≠ (TJ13 b).2.1 := by decide +kernel
theorem tyJ13_ok : ∀ k, k < 0 → parseFieldDescriptor (TJ13 k).2.2.1 = some (tyJ13 k) := by decide +kernel
abbrev cJ13_numberOfLeadingZeros_95d88 : ByteArray := prog_15_method_48_code
def yJ13_numberOfLeadingZeros_95d88 : MethodName := ⟨RJ13, "numberOfLeadingZeros", "(J)I"⟩
abbrev cJ13_numberOfTrailingZeros_95d88 : ByteArray := prog_15_method_49_code
def yJ13_numberOfTrailingZeros_95d88 : MethodName := ⟨RJ13, "numberOfTrailingZeros", "(J)I"⟩
abbrev cJ13_bitCount_95d88 : ByteArray := prog_15_method_50_code
def yJ13_bitCount_95d88 : MethodName := ⟨RJ13, "bitCount", "(J)I"⟩
def RJ9 : String := "java/lang/Math"
def TJ9 : u_T := fun k => match k with
  | _ => ("", "", "", false)
def tyJ9 : Nat → FieldType := fun k => match k with
  | _ => .int
abbrev wsJ90 : List Cond := u_ws RJ9 TJ9 0
theorem nmJ9 : ∀ a, a < 0 → ∀ b, b < 0 → a ≠ b → (TJ9 a).2.1 ≠ (TJ9 b).2.1 := by decide +kernel
theorem tyJ9_ok : ∀ k, k < 0 → parseFieldDescriptor (TJ9 k).2.2.1 = some (tyJ9 k) := by decide +kernel
abbrev cJ9_floorDiv_f86c9 : ByteArray := prog_16_method_49_code
def yJ9_floorDiv_f86c9 : MethodName := ⟨RJ9, "floorDiv", "(JJ)J"⟩
abbrev cJ9_abs_0f7a4 : ByteArray := prog_16_method_59_code
def yJ9_abs_0f7a4 : MethodName := ⟨RJ9, "abs", "(I)I"⟩
abbrev cJ9_abs_067f4 : ByteArray := prog_16_method_61_code
def yJ9_abs_067f4 : MethodName := ⟨RJ9, "abs", "(J)J"⟩
abbrev cJ9_max_f86c9 : ByteArray := prog_16_method_66_code
def yJ9_max_f86c9 : MethodName := ⟨RJ9, "max", "(JJ)J"⟩
abbrev cJ9_min_7cf53 : ByteArray := prog_16_method_69_code
def yJ9_min_7cf53 : MethodName := ⟨RJ9, "min", "(II)I"⟩
def RJ0 : String := "java/lang/String"
def TJ0 : u_T := fun k => match k with
  | _ => ("", "", "", false)
def tyJ0 : Nat → FieldType := fun k => match k with
  | _ => .int
abbrev wsJ00 : List Cond := u_ws RJ0 TJ0 0
theorem nmJ0 : ∀ a, a < 0 → ∀ b, b < 0 → a ≠ b → (TJ0 a).2.1 ≠ (TJ0 b).2.1 := by decide +kernel
theorem tyJ0_ok : ∀ k, k < 0 → parseFieldDescriptor (TJ0 k).2.2.1 = some (tyJ0 k) := by decide +kernel
abbrev cJ0_length_8abf5 : ByteArray := prog_17_method_54_code
def yJ0_length_8abf5 : MethodName := ⟨RJ0, "length", "()I"⟩
abbrev cJ0_charAt_5068e : ByteArray := prog_17_method_56_code
def yJ0_charAt_5068e : MethodName := ⟨RJ0, "charAt", "(I)C"⟩
abbrev cJ0_coder_7d493 : ByteArray := prog_17_method_152_code
def yJ0_coder_7d493 : MethodName := ⟨RJ0, "coder", "()B"⟩
abbrev cJ0_isLatin1_aae02 : ByteArray := prog_17_method_154_code
def yJ0_isLatin1_aae02 : MethodName := ⟨RJ0, "isLatin1", "()Z"⟩
abbrev cJ0_checkIndex_df160 : ByteArray := prog_17_method_155_code
def yJ0_checkIndex_df160 : MethodName := ⟨RJ0, "checkIndex", "(II)V"⟩
def RJ1 : String := "java/lang/StringLatin1"
def TJ1 : u_T := fun k => match k with
  | _ => ("", "", "", false)
def tyJ1 : Nat → FieldType := fun k => match k with
  | _ => .int
abbrev wsJ10 : List Cond := u_ws RJ1 TJ1 0
theorem nmJ1 : ∀ a, a < 0 → ∀ b, b < 0 → a ≠ b → (TJ1 a).2.1 ≠ (TJ1 b).2.1 := by decide +kernel
theorem tyJ1_ok : ∀ k, k < 0 → parseFieldDescriptor (TJ1 k).2.2.1 = some (tyJ1 k) := by decide +kernel
abbrev cJ1_charAt_3b067 : ByteArray := prog_18_method_2_code
def yJ1_charAt_3b067 : MethodName := ⟨RJ1, "charAt", "([BI)C"⟩
def RJ2 : String := "java/lang/StringUTF16"
def TJ2 : u_T := fun k => match k with
  | _ => ("", "", "", false)
def tyJ2 : Nat → FieldType := fun k => match k with
  | _ => .int
abbrev wsJ20 : List Cond := u_ws RJ2 TJ2 0
theorem nmJ2 : ∀ a, a < 0 → ∀ b, b < 0 → a ≠ b → (TJ2 a).2.1 ≠ (TJ2 b).2.1 := by decide +kernel
theorem tyJ2_ok : ∀ k, k < 0 → parseFieldDescriptor (TJ2 k).2.2.1 = some (tyJ2 k) := by decide +kernel
abbrev cJ2_getChar_3b067 : ByteArray := prog_19_method_5_code
def yJ2_getChar_3b067 : MethodName := ⟨RJ2, "getChar", "([BI)C"⟩
abbrev cJ2_length_9d52b : ByteArray := prog_19_method_6_code
def yJ2_length_9d52b : MethodName := ⟨RJ2, "length", "([B)I"⟩
abbrev cJ2_charAt_3b067 : ByteArray := prog_19_method_83_code
def yJ2_charAt_3b067 : MethodName := ⟨RJ2, "charAt", "([BI)C"⟩
abbrev cJ2_checkIndex_2214a : ByteArray := prog_19_method_91_code
def yJ2_checkIndex_2214a : MethodName := ⟨RJ2, "checkIndex", "(I[B)V"⟩
def RJ10 : String := "java/lang/System"
def TJ10 : u_T := fun k => match k with
  | _ => ("", "", "", false)
def tyJ10 : Nat → FieldType := fun k => match k with
  | _ => .int
abbrev wsJ100 : List Cond := u_ws RJ10 TJ10 0
theorem nmJ10 : ∀ a, a < 0 → ∀ b, b < 0 → a ≠ b → (TJ10 a).2.1 ≠ (TJ10 b).2.1 := by decide +kernel
theorem tyJ10_ok : ∀ k, k < 0 → parseFieldDescriptor (TJ10 k).2.2.1 = some (tyJ10 k) := by decide +kernel
def RJ3 : String := "jdk/internal/util/Preconditions"
def TJ3 : u_T := fun k => match k with
  | _ => ("", "", "", false)
def tyJ3 : Nat → FieldType := fun k => match k with
  | _ => .int
abbrev wsJ30 : List Cond := u_ws RJ3 TJ3 0
theorem nmJ3 : ∀ a, a < 0 → ∀ b, b < 0 → a ≠ b → (TJ3 a).2.1 ≠ (TJ3 b).2.1 := by decide +kernel
theorem tyJ3_ok : ∀ k, k < 0 → parseFieldDescriptor (TJ3 k).2.2.1 = some (tyJ3 k) := by decide +kernel
abbrev cJ3_checkIndex_8e157 : ByteArray := prog_21_method_11_code
def yJ3_checkIndex_8e157 : MethodName := ⟨RJ3, "checkIndex", "(IILjava/util/function/BiFunction;)I"⟩
def RL : String := "CarryShiftsLaw"
abbrev cL_law : ByteArray := code
def yL_law : MethodName := ⟨RL, "law", "([I)Z"⟩
abbrev vwCl : List vw_C := [(RX0, TX0, 6), (RX1, TX1, 6), (RX2, TX2, 6), (RX3, TX3, 2), (RX4, TX4, 6), (RX5, TX5, 6), (RX6, TX6, 6), (RX7, TX7, 9), (RX8, TX8, 3), (RX9, TX9, 6), (RX10, TX10, 9), (RX11, TX11, 35)]
