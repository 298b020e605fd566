-- ===== PART A: goes FIRST, ahead of the names: the tables' words, and 'selects' of the private methods out of them =====
/-- a private method of a class that the tables say can be made, by its rows of tables_1 -/
def lw_okq (q : MethodName × Nat) : Prop := (q.1.cls ≠ "java/lang/invoke/MethodHandle" ∧ q.1.cls ≠ "java/lang/invoke/VarHandle") ∧ Cond.instantiable q.1.cls q.2 ∈ tables_1 ∧ Cond.privateMethod q.1 ∈ tables_1 ∧ Cond.instanceMethod q.1 ∈ tables_1
theorem lw_p0 : lw_okq (⟨"TubesOfCourt", "refuse", "(I)I"⟩, 15) := ⟨⟨by decide +kernel, by decide +kernel⟩, List.mem_of_getElem? (i := 22) (by decide +kernel), List.mem_of_getElem? (i := 352) (by decide +kernel), List.mem_of_getElem? (i := 353) (by decide +kernel)⟩
theorem lw_p1 : lw_okq (⟨"TubesOfCourt", "rowRefusal", "(I)I"⟩, 15) := ⟨⟨by decide +kernel, by decide +kernel⟩, List.mem_of_getElem? (i := 22) (by decide +kernel), List.mem_of_getElem? (i := 368) (by decide +kernel), List.mem_of_getElem? (i := 369) (by decide +kernel)⟩
theorem lw_p2 : lw_okq (⟨"TubesOfCourt", "copyRefusal", "(II)I"⟩, 15) := ⟨⟨by decide +kernel, by decide +kernel⟩, List.mem_of_getElem? (i := 22) (by decide +kernel), List.mem_of_getElem? (i := 396) (by decide +kernel), List.mem_of_getElem? (i := 397) (by decide +kernel)⟩
theorem lw_p3 : lw_okq (⟨"TubesOfCourt$PlanReader", "readItem", "(LTubesOfCourt$Ministry;)Z"⟩, 6) := ⟨⟨by decide +kernel, by decide +kernel⟩, List.mem_of_getElem? (i := 234) (by decide +kernel), List.mem_of_getElem? (i := 551) (by decide +kernel), List.mem_of_getElem? (i := 552) (by decide +kernel)⟩
theorem lw_p4 : lw_okq (⟨"TubesOfCourt$PlanReader", "wordThatBeginsHere", "()I"⟩, 6) := ⟨⟨by decide +kernel, by decide +kernel⟩, List.mem_of_getElem? (i := 234) (by decide +kernel), List.mem_of_getElem? (i := 555) (by decide +kernel), List.mem_of_getElem? (i := 556) (by decide +kernel)⟩
theorem lw_p5 : lw_okq (⟨"TubesOfCourt$PlanReader", "letterHere", "()I"⟩, 6) := ⟨⟨by decide +kernel, by decide +kernel⟩, List.mem_of_getElem? (i := 234) (by decide +kernel), List.mem_of_getElem? (i := 608) (by decide +kernel), List.mem_of_getElem? (i := 609) (by decide +kernel)⟩
theorem lw_p6 : lw_okq (⟨"TubesOfCourt$PlanReader", "failAt", "(I)Z"⟩, 6) := ⟨⟨by decide +kernel, by decide +kernel⟩, List.mem_of_getElem? (i := 234) (by decide +kernel), List.mem_of_getElem? (i := 612) (by decide +kernel), List.mem_of_getElem? (i := 613) (by decide +kernel)⟩
theorem lw_p7 : lw_okq (⟨"TubesOfCourt$PlanReader", "readSign", "(C)Z"⟩, 6) := ⟨⟨by decide +kernel, by decide +kernel⟩, List.mem_of_getElem? (i := 234) (by decide +kernel), List.mem_of_getElem? (i := 624) (by decide +kernel), List.mem_of_getElem? (i := 625) (by decide +kernel)⟩
theorem lw_p8 : lw_okq (⟨"TubesOfCourt$PlanReader", "readNumber", "(IILTubesOfCourt$Ministry;)Z"⟩, 6) := ⟨⟨by decide +kernel, by decide +kernel⟩, List.mem_of_getElem? (i := 234) (by decide +kernel), List.mem_of_getElem? (i := 637) (by decide +kernel), List.mem_of_getElem? (i := 638) (by decide +kernel)⟩
theorem lw_p9 : lw_okq (⟨"TubesOfCourt$PlanReader", "isDigitHere", "()Z"⟩, 6) := ⟨⟨by decide +kernel, by decide +kernel⟩, List.mem_of_getElem? (i := 234) (by decide +kernel), List.mem_of_getElem? (i := 641) (by decide +kernel), List.mem_of_getElem? (i := 642) (by decide +kernel)⟩
theorem lw_p10 : lw_okq (⟨"TubesOfCourt$PlanReader", "mayStand", "(IIILTubesOfCourt$Ministry;)Z"⟩, 6) := ⟨⟨by decide +kernel, by decide +kernel⟩, List.mem_of_getElem? (i := 234) (by decide +kernel), List.mem_of_getElem? (i := 645) (by decide +kernel), List.mem_of_getElem? (i := 646) (by decide +kernel)⟩
theorem lw_p11 : lw_okq (⟨"TubesOfCourt$PlanReader", "mayStandInTube", "(IILTubesOfCourt$Ministry;)Z"⟩, 6) := ⟨⟨by decide +kernel, by decide +kernel⟩, List.mem_of_getElem? (i := 234) (by decide +kernel), List.mem_of_getElem? (i := 649) (by decide +kernel), List.mem_of_getElem? (i := 650) (by decide +kernel)⟩
theorem lw_p12 : lw_okq (⟨"TubesOfCourt$PlanReader", "tell", "(ILTubesOfCourt$Ministry;)V"⟩, 6) := ⟨⟨by decide +kernel, by decide +kernel⟩, List.mem_of_getElem? (i := 234) (by decide +kernel), List.mem_of_getElem? (i := 659) (by decide +kernel), List.mem_of_getElem? (i := 660) (by decide +kernel)⟩
theorem lw_p13 : lw_okq (⟨"TubesOfCourt$Ways", "comesNearer", "(III)Z"⟩, 6) := ⟨⟨by decide +kernel, by decide +kernel⟩, List.mem_of_getElem? (i := 143) (by decide +kernel), List.mem_of_getElem? (i := 714) (by decide +kernel), List.mem_of_getElem? (i := 715) (by decide +kernel)⟩
theorem lw_p14 : lw_okq (⟨"TubesOfCourt$Ways", "reached", "(LTubesOfCourt$Ministry;I)I"⟩, 6) := ⟨⟨by decide +kernel, by decide +kernel⟩, List.mem_of_getElem? (i := 143) (by decide +kernel), List.mem_of_getElem? (i := 721) (by decide +kernel), List.mem_of_getElem? (i := 722) (by decide +kernel)⟩
theorem lw_p15 : lw_okq (⟨"TubesOfCourt$Rounds", "leastFrom", "(LTubesOfCourt$Ways;III)I"⟩, 1) := ⟨⟨by decide +kernel, by decide +kernel⟩, List.mem_of_getElem? (i := 173) (by decide +kernel), List.mem_of_getElem? (i := 771) (by decide +kernel), List.mem_of_getElem? (i := 772) (by decide +kernel)⟩
def lw_privs_1 : List (MethodName × Nat) := [(⟨"TubesOfCourt", "refuse", "(I)I"⟩, 15), (⟨"TubesOfCourt", "rowRefusal", "(I)I"⟩, 15), (⟨"TubesOfCourt", "copyRefusal", "(II)I"⟩, 15), (⟨"TubesOfCourt$PlanReader", "readItem", "(LTubesOfCourt$Ministry;)Z"⟩, 6), (⟨"TubesOfCourt$PlanReader", "wordThatBeginsHere", "()I"⟩, 6), (⟨"TubesOfCourt$PlanReader", "letterHere", "()I"⟩, 6), (⟨"TubesOfCourt$PlanReader", "failAt", "(I)Z"⟩, 6), (⟨"TubesOfCourt$PlanReader", "readSign", "(C)Z"⟩, 6), (⟨"TubesOfCourt$PlanReader", "readNumber", "(IILTubesOfCourt$Ministry;)Z"⟩, 6), (⟨"TubesOfCourt$PlanReader", "isDigitHere", "()Z"⟩, 6), (⟨"TubesOfCourt$PlanReader", "mayStand", "(IIILTubesOfCourt$Ministry;)Z"⟩, 6), (⟨"TubesOfCourt$PlanReader", "mayStandInTube", "(IILTubesOfCourt$Ministry;)Z"⟩, 6), (⟨"TubesOfCourt$PlanReader", "tell", "(ILTubesOfCourt$Ministry;)V"⟩, 6), (⟨"TubesOfCourt$Ways", "comesNearer", "(III)Z"⟩, 6), (⟨"TubesOfCourt$Ways", "reached", "(LTubesOfCourt$Ministry;I)I"⟩, 6), (⟨"TubesOfCourt$Rounds", "leastFrom", "(LTubesOfCourt$Ways;III)I"⟩, 1)]
theorem lw_r1 : ∀ q ∈ lw_privs_1, lw_okq q := List.forall_mem_cons.mpr ⟨lw_p0, List.forall_mem_cons.mpr ⟨lw_p1, List.forall_mem_cons.mpr ⟨lw_p2, List.forall_mem_cons.mpr ⟨lw_p3, List.forall_mem_cons.mpr ⟨lw_p4, List.forall_mem_cons.mpr ⟨lw_p5, List.forall_mem_cons.mpr ⟨lw_p6, List.forall_mem_cons.mpr ⟨lw_p7, List.forall_mem_cons.mpr ⟨lw_p8, List.forall_mem_cons.mpr ⟨lw_p9, List.forall_mem_cons.mpr ⟨lw_p10, List.forall_mem_cons.mpr ⟨lw_p11, List.forall_mem_cons.mpr ⟨lw_p12, List.forall_mem_cons.mpr ⟨lw_p13, List.forall_mem_cons.mpr ⟨lw_p14, List.forall_mem_cons.mpr ⟨lw_p15, fun _ h => absurd h List.not_mem_nil⟩⟩⟩⟩⟩⟩⟩⟩⟩⟩⟩⟩⟩⟩⟩⟩
theorem lw_p16 : lw_okq (⟨"TubesOfCourt$Rounds", "leastOver", "(LTubesOfCourt$Ways;IIII)I"⟩, 1) := ⟨⟨by decide +kernel, by decide +kernel⟩, List.mem_of_getElem? (i := 173) (by decide +kernel), List.mem_of_getElem? (i := 775) (by decide +kernel), List.mem_of_getElem? (i := 776) (by decide +kernel)⟩
theorem lw_p17 : lw_okq (⟨"TubesOfCourt$Rounds", "bestOf", "(II)I"⟩, 1) := ⟨⟨by decide +kernel, by decide +kernel⟩, List.mem_of_getElem? (i := 173) (by decide +kernel), List.mem_of_getElem? (i := 780) (by decide +kernel), List.mem_of_getElem? (i := 781) (by decide +kernel)⟩
theorem lw_p18 : lw_okq (⟨"TubesOfCourt$Rounds", "nextOfOrder", "(LTubesOfCourt$Ways;III)I"⟩, 1) := ⟨⟨by decide +kernel, by decide +kernel⟩, List.mem_of_getElem? (i := 173) (by decide +kernel), List.mem_of_getElem? (i := 789) (by decide +kernel), List.mem_of_getElem? (i := 790) (by decide +kernel)⟩
theorem lw_p19 : lw_okq (⟨"TubesOfCourt$Cuts", "findWay", "(LTubesOfCourt$Ministry;LTubesOfCourt$Ways;II)Z"⟩, 2) := ⟨⟨by decide +kernel, by decide +kernel⟩, List.mem_of_getElem? (i := 183) (by decide +kernel), List.mem_of_getElem? (i := 824) (by decide +kernel), List.mem_of_getElem? (i := 825) (by decide +kernel)⟩
theorem lw_p20 : lw_okq (⟨"TubesOfCourt$Cuts", "comeBy", "(II)I"⟩, 2) := ⟨⟨by decide +kernel, by decide +kernel⟩, List.mem_of_getElem? (i := 183) (by decide +kernel), List.mem_of_getElem? (i := 828) (by decide +kernel), List.mem_of_getElem? (i := 829) (by decide +kernel)⟩
theorem lw_p21 : lw_okq (⟨"TubesOfCourt$Cuts", "takeWay", "(LTubesOfCourt$Ministry;II)V"⟩, 2) := ⟨⟨by decide +kernel, by decide +kernel⟩, List.mem_of_getElem? (i := 183) (by decide +kernel), List.mem_of_getElem? (i := 833) (by decide +kernel), List.mem_of_getElem? (i := 834) (by decide +kernel)⟩
theorem lw_p22 : lw_okq (⟨"TubesOfCourt", "knocksRefusal", "(II)I"⟩, 15) := ⟨⟨by decide +kernel, by decide +kernel⟩, List.mem_of_getElem? (i := 22) (by decide +kernel), List.mem_of_getElem? (i := 847) (by decide +kernel), List.mem_of_getElem? (i := 848) (by decide +kernel)⟩
theorem lw_p23 : lw_okq (⟨"TubesOfCourt$Knocks", "fits", "(LTubesOfCourt$Ministry;I)Z"⟩, 4) := ⟨⟨by decide +kernel, by decide +kernel⟩, List.mem_of_getElem? (i := 196) (by decide +kernel), List.mem_of_getElem? (i := 873) (by decide +kernel), List.mem_of_getElem? (i := 874) (by decide +kernel)⟩
theorem lw_p24 : lw_okq (⟨"TubesOfCourt$Knocks", "mostLeft", "(LTubesOfCourt$Ministry;III)I"⟩, 4) := ⟨⟨by decide +kernel, by decide +kernel⟩, List.mem_of_getElem? (i := 196) (by decide +kernel), List.mem_of_getElem? (i := 888) (by decide +kernel), List.mem_of_getElem? (i := 889) (by decide +kernel)⟩
theorem lw_p25 : lw_okq (⟨"TubesOfCourt$Knocks", "lateness", "(III)I"⟩, 4) := ⟨⟨by decide +kernel, by decide +kernel⟩, List.mem_of_getElem? (i := 196) (by decide +kernel), List.mem_of_getElem? (i := 892) (by decide +kernel), List.mem_of_getElem? (i := 893) (by decide +kernel)⟩
theorem lw_p26 : lw_okq (⟨"TubesOfCourt$Joining", "joins", "(II)Z"⟩, 3) := ⟨⟨by decide +kernel, by decide +kernel⟩, List.mem_of_getElem? (i := 216) (by decide +kernel), List.mem_of_getElem? (i := 909) (by decide +kernel), List.mem_of_getElem? (i := 910) (by decide +kernel)⟩
theorem lw_p27 : lw_okq (⟨"TubesOfCourt", "legsRefusal", "(II)I"⟩, 15) := ⟨⟨by decide +kernel, by decide +kernel⟩, List.mem_of_getElem? (i := 22) (by decide +kernel), List.mem_of_getElem? (i := 926) (by decide +kernel), List.mem_of_getElem? (i := 927) (by decide +kernel)⟩
theorem lw_p28 : lw_okq (⟨"TubesOfCourt$Days", "takeToldLeg", "(LTubesOfCourt$Ministry;LTubesOfCourt$Ways;I)Z"⟩, 2) := ⟨⟨by decide +kernel, by decide +kernel⟩, List.mem_of_getElem? (i := 260) (by decide +kernel), List.mem_of_getElem? (i := 935) (by decide +kernel), List.mem_of_getElem? (i := 936) (by decide +kernel)⟩
theorem lw_p29 : lw_okq (⟨"TubesOfCourt", "standsOnDraft", "(II)Z"⟩, 15) := ⟨⟨by decide +kernel, by decide +kernel⟩, List.mem_of_getElem? (i := 22) (by decide +kernel), List.mem_of_getElem? (i := 951) (by decide +kernel), List.mem_of_getElem? (i := 952) (by decide +kernel)⟩
theorem lw_p30 : lw_okq (⟨"TubesOfCourt$Moves", "hissesFrom", "(II)I"⟩, 5) := ⟨⟨by decide +kernel, by decide +kernel⟩, List.mem_of_getElem? (i := 275) (by decide +kernel), List.mem_of_getElem? (i := 993) (by decide +kernel), List.mem_of_getElem? (i := 994) (by decide +kernel)⟩
theorem lw_p31 : lw_okq (⟨"TubesOfCourt$Moves", "begin", "(I)V"⟩, 5) := ⟨⟨by decide +kernel, by decide +kernel⟩, List.mem_of_getElem? (i := 275) (by decide +kernel), List.mem_of_getElem? (i := 997) (by decide +kernel), List.mem_of_getElem? (i := 998) (by decide +kernel)⟩
def lw_privs_2 : List (MethodName × Nat) := [(⟨"TubesOfCourt$Rounds", "leastOver", "(LTubesOfCourt$Ways;IIII)I"⟩, 1), (⟨"TubesOfCourt$Rounds", "bestOf", "(II)I"⟩, 1), (⟨"TubesOfCourt$Rounds", "nextOfOrder", "(LTubesOfCourt$Ways;III)I"⟩, 1), (⟨"TubesOfCourt$Cuts", "findWay", "(LTubesOfCourt$Ministry;LTubesOfCourt$Ways;II)Z"⟩, 2), (⟨"TubesOfCourt$Cuts", "comeBy", "(II)I"⟩, 2), (⟨"TubesOfCourt$Cuts", "takeWay", "(LTubesOfCourt$Ministry;II)V"⟩, 2), (⟨"TubesOfCourt", "knocksRefusal", "(II)I"⟩, 15), (⟨"TubesOfCourt$Knocks", "fits", "(LTubesOfCourt$Ministry;I)Z"⟩, 4), (⟨"TubesOfCourt$Knocks", "mostLeft", "(LTubesOfCourt$Ministry;III)I"⟩, 4), (⟨"TubesOfCourt$Knocks", "lateness", "(III)I"⟩, 4), (⟨"TubesOfCourt$Joining", "joins", "(II)Z"⟩, 3), (⟨"TubesOfCourt", "legsRefusal", "(II)I"⟩, 15), (⟨"TubesOfCourt$Days", "takeToldLeg", "(LTubesOfCourt$Ministry;LTubesOfCourt$Ways;I)Z"⟩, 2), (⟨"TubesOfCourt", "standsOnDraft", "(II)Z"⟩, 15), (⟨"TubesOfCourt$Moves", "hissesFrom", "(II)I"⟩, 5), (⟨"TubesOfCourt$Moves", "begin", "(I)V"⟩, 5)]
theorem lw_r2 : ∀ q ∈ lw_privs_2, lw_okq q := List.forall_mem_cons.mpr ⟨lw_p16, List.forall_mem_cons.mpr ⟨lw_p17, List.forall_mem_cons.mpr ⟨lw_p18, List.forall_mem_cons.mpr ⟨lw_p19, List.forall_mem_cons.mpr ⟨lw_p20, List.forall_mem_cons.mpr ⟨lw_p21, List.forall_mem_cons.mpr ⟨lw_p22, List.forall_mem_cons.mpr ⟨lw_p23, List.forall_mem_cons.mpr ⟨lw_p24, List.forall_mem_cons.mpr ⟨lw_p25, List.forall_mem_cons.mpr ⟨lw_p26, List.forall_mem_cons.mpr ⟨lw_p27, List.forall_mem_cons.mpr ⟨lw_p28, List.forall_mem_cons.mpr ⟨lw_p29, List.forall_mem_cons.mpr ⟨lw_p30, List.forall_mem_cons.mpr ⟨lw_p31, fun _ h => absurd h List.not_mem_nil⟩⟩⟩⟩⟩⟩⟩⟩⟩⟩⟩⟩⟩⟩⟩⟩
theorem lw_p32 : lw_okq (⟨"TubesOfCourt$Moves", "landsFrom", "(II)I"⟩, 5) := ⟨⟨by decide +kernel, by decide +kernel⟩, List.mem_of_getElem? (i := 275) (by decide +kernel), List.mem_of_getElem? (i := 1002) (by decide +kernel), List.mem_of_getElem? (i := 1003) (by decide +kernel)⟩
theorem lw_p33 : lw_okq (⟨"TubesOfCourt$Moves", "signsFrom", "(II)I"⟩, 5) := ⟨⟨by decide +kernel, by decide +kernel⟩, List.mem_of_getElem? (i := 275) (by decide +kernel), List.mem_of_getElem? (i := 1006) (by decide +kernel), List.mem_of_getElem? (i := 1007) (by decide +kernel)⟩
theorem lw_p34 : lw_okq (⟨"TubesOfCourtModel", "refuse", "(I)I"⟩, 26) := ⟨⟨by decide +kernel, by decide +kernel⟩, List.mem_of_getElem? (i := 1043) (by decide +kernel), List.mem_of_getElem? (i := 1143) (by decide +kernel), List.mem_of_getElem? (i := 1144) (by decide +kernel)⟩
theorem lw_p35 : lw_okq (⟨"TubesOfCourtModel", "addDesk", "()I"⟩, 26) := ⟨⟨by decide +kernel, by decide +kernel⟩, List.mem_of_getElem? (i := 1043) (by decide +kernel), List.mem_of_getElem? (i := 1147) (by decide +kernel), List.mem_of_getElem? (i := 1148) (by decide +kernel)⟩
theorem lw_p36 : lw_okq (⟨"TubesOfCourtModel", "isDesk", "(J)Z"⟩, 26) := ⟨⟨by decide +kernel, by decide +kernel⟩, List.mem_of_getElem? (i := 1043) (by decide +kernel), List.mem_of_getElem? (i := 1155) (by decide +kernel), List.mem_of_getElem? (i := 1156) (by decide +kernel)⟩
theorem lw_p37 : lw_okq (⟨"TubesOfCourtModel", "addTube", "(IIII)I"⟩, 26) := ⟨⟨by decide +kernel, by decide +kernel⟩, List.mem_of_getElem? (i := 1043) (by decide +kernel), List.mem_of_getElem? (i := 1163) (by decide +kernel), List.mem_of_getElem? (i := 1164) (by decide +kernel)⟩
theorem lw_p38 : lw_okq (⟨"TubesOfCourtModel", "addCapsule", "(IIII)I"⟩, 26) := ⟨⟨by decide +kernel, by decide +kernel⟩, List.mem_of_getElem? (i := 1043) (by decide +kernel), List.mem_of_getElem? (i := 1172) (by decide +kernel), List.mem_of_getElem? (i := 1173) (by decide +kernel)⟩
theorem lw_p39 : lw_okq (⟨"TubesOfCourtModel", "isTube", "(I)Z"⟩, 26) := ⟨⟨by decide +kernel, by decide +kernel⟩, List.mem_of_getElem? (i := 1043) (by decide +kernel), List.mem_of_getElem? (i := 1180) (by decide +kernel), List.mem_of_getElem? (i := 1181) (by decide +kernel)⟩
theorem lw_p40 : lw_okq (⟨"TubesOfCourtModel", "isCapsule", "(J)Z"⟩, 26) := ⟨⟨by decide +kernel, by decide +kernel⟩, List.mem_of_getElem? (i := 1043) (by decide +kernel), List.mem_of_getElem? (i := 1192) (by decide +kernel), List.mem_of_getElem? (i := 1193) (by decide +kernel)⟩
theorem lw_p41 : lw_okq (⟨"TubesOfCourtModel", "rowIn", "(I)I"⟩, 26) := ⟨⟨by decide +kernel, by decide +kernel⟩, List.mem_of_getElem? (i := 1043) (by decide +kernel), List.mem_of_getElem? (i := 1218) (by decide +kernel), List.mem_of_getElem? (i := 1219) (by decide +kernel)⟩
theorem lw_p42 : lw_okq (⟨"TubesOfCourtModel", "isCapsuleIn", "(I)Z"⟩, 26) := ⟨⟨by decide +kernel, by decide +kernel⟩, List.mem_of_getElem? (i := 1043) (by decide +kernel), List.mem_of_getElem? (i := 1226) (by decide +kernel), List.mem_of_getElem? (i := 1227) (by decide +kernel)⟩
theorem lw_p43 : lw_okq (⟨"TubesOfCourtModel", "kind", "(I)I"⟩, 26) := ⟨⟨by decide +kernel, by decide +kernel⟩, List.mem_of_getElem? (i := 1043) (by decide +kernel), List.mem_of_getElem? (i := 1247) (by decide +kernel), List.mem_of_getElem? (i := 1248) (by decide +kernel)⟩
theorem lw_p44 : lw_okq (⟨"TubesOfCourtModel", "at", "(I)I"⟩, 26) := ⟨⟨by decide +kernel, by decide +kernel⟩, List.mem_of_getElem? (i := 1043) (by decide +kernel), List.mem_of_getElem? (i := 1251) (by decide +kernel), List.mem_of_getElem? (i := 1252) (by decide +kernel)⟩
theorem lw_p45 : lw_okq (⟨"TubesOfCourtModel", "a", "(I)I"⟩, 26) := ⟨⟨by decide +kernel, by decide +kernel⟩, List.mem_of_getElem? (i := 1043) (by decide +kernel), List.mem_of_getElem? (i := 1255) (by decide +kernel), List.mem_of_getElem? (i := 1256) (by decide +kernel)⟩
theorem lw_p46 : lw_okq (⟨"TubesOfCourtModel", "weight", "(I)I"⟩, 26) := ⟨⟨by decide +kernel, by decide +kernel⟩, List.mem_of_getElem? (i := 1043) (by decide +kernel), List.mem_of_getElem? (i := 1259) (by decide +kernel), List.mem_of_getElem? (i := 1260) (by decide +kernel)⟩
theorem lw_p47 : lw_okq (⟨"TubesOfCourtModel", "isItem", "()Z"⟩, 26) := ⟨⟨by decide +kernel, by decide +kernel⟩, List.mem_of_getElem? (i := 1043) (by decide +kernel), List.mem_of_getElem? (i := 1270) (by decide +kernel), List.mem_of_getElem? (i := 1271) (by decide +kernel)⟩
def lw_privs_3 : List (MethodName × Nat) := [(⟨"TubesOfCourt$Moves", "landsFrom", "(II)I"⟩, 5), (⟨"TubesOfCourt$Moves", "signsFrom", "(II)I"⟩, 5), (⟨"TubesOfCourtModel", "refuse", "(I)I"⟩, 26), (⟨"TubesOfCourtModel", "addDesk", "()I"⟩, 26), (⟨"TubesOfCourtModel", "isDesk", "(J)Z"⟩, 26), (⟨"TubesOfCourtModel", "addTube", "(IIII)I"⟩, 26), (⟨"TubesOfCourtModel", "addCapsule", "(IIII)I"⟩, 26), (⟨"TubesOfCourtModel", "isTube", "(I)Z"⟩, 26), (⟨"TubesOfCourtModel", "isCapsule", "(J)Z"⟩, 26), (⟨"TubesOfCourtModel", "rowIn", "(I)I"⟩, 26), (⟨"TubesOfCourtModel", "isCapsuleIn", "(I)Z"⟩, 26), (⟨"TubesOfCourtModel", "kind", "(I)I"⟩, 26), (⟨"TubesOfCourtModel", "at", "(I)I"⟩, 26), (⟨"TubesOfCourtModel", "a", "(I)I"⟩, 26), (⟨"TubesOfCourtModel", "weight", "(I)I"⟩, 26), (⟨"TubesOfCourtModel", "isItem", "()Z"⟩, 26)]
theorem lw_r3 : ∀ q ∈ lw_privs_3, lw_okq q := List.forall_mem_cons.mpr ⟨lw_p32, List.forall_mem_cons.mpr ⟨lw_p33, List.forall_mem_cons.mpr ⟨lw_p34, List.forall_mem_cons.mpr ⟨lw_p35, List.forall_mem_cons.mpr ⟨lw_p36, List.forall_mem_cons.mpr ⟨lw_p37, List.forall_mem_cons.mpr ⟨lw_p38, List.forall_mem_cons.mpr ⟨lw_p39, List.forall_mem_cons.mpr ⟨lw_p40, List.forall_mem_cons.mpr ⟨lw_p41, List.forall_mem_cons.mpr ⟨lw_p42, List.forall_mem_cons.mpr ⟨lw_p43, List.forall_mem_cons.mpr ⟨lw_p44, List.forall_mem_cons.mpr ⟨lw_p45, List.forall_mem_cons.mpr ⟨lw_p46, List.forall_mem_cons.mpr ⟨lw_p47, fun _ h => absurd h List.not_mem_nil⟩⟩⟩⟩⟩⟩⟩⟩⟩⟩⟩⟩⟩⟩⟩⟩
theorem lw_p48 : lw_okq (⟨"TubesOfCourtModel", "word", "()I"⟩, 26) := ⟨⟨by decide +kernel, by decide +kernel⟩, List.mem_of_getElem? (i := 1043) (by decide +kernel), List.mem_of_getElem? (i := 1274) (by decide +kernel), List.mem_of_getElem? (i := 1275) (by decide +kernel)⟩
theorem lw_p49 : lw_okq (⟨"TubesOfCourtModel", "letter", "()I"⟩, 26) := ⟨⟨by decide +kernel, by decide +kernel⟩, List.mem_of_getElem? (i := 1043) (by decide +kernel), List.mem_of_getElem? (i := 1279) (by decide +kernel), List.mem_of_getElem? (i := 1280) (by decide +kernel)⟩
theorem lw_p50 : lw_okq (⟨"TubesOfCourtModel", "told", "(II)I"⟩, 26) := ⟨⟨by decide +kernel, by decide +kernel⟩, List.mem_of_getElem? (i := 1043) (by decide +kernel), List.mem_of_getElem? (i := 1283) (by decide +kernel), List.mem_of_getElem? (i := 1284) (by decide +kernel)⟩
theorem lw_p51 : lw_okq (⟨"TubesOfCourtModel", "isFault", "(I)Z"⟩, 26) := ⟨⟨by decide +kernel, by decide +kernel⟩, List.mem_of_getElem? (i := 1043) (by decide +kernel), List.mem_of_getElem? (i := 1288) (by decide +kernel), List.mem_of_getElem? (i := 1289) (by decide +kernel)⟩
theorem lw_p52 : lw_okq (⟨"TubesOfCourtModel", "number", "(III)I"⟩, 26) := ⟨⟨by decide +kernel, by decide +kernel⟩, List.mem_of_getElem? (i := 1043) (by decide +kernel), List.mem_of_getElem? (i := 1292) (by decide +kernel), List.mem_of_getElem? (i := 1293) (by decide +kernel)⟩
theorem lw_p53 : lw_okq (⟨"TubesOfCourtModel", "isLetter", "(I)Z"⟩, 26) := ⟨⟨by decide +kernel, by decide +kernel⟩, List.mem_of_getElem? (i := 1043) (by decide +kernel), List.mem_of_getElem? (i := 1296) (by decide +kernel), List.mem_of_getElem? (i := 1297) (by decide +kernel)⟩
theorem lw_p54 : lw_okq (⟨"TubesOfCourtModel", "timeOf", "(II)I"⟩, 26) := ⟨⟨by decide +kernel, by decide +kernel⟩, List.mem_of_getElem? (i := 1043) (by decide +kernel), List.mem_of_getElem? (i := 1310) (by decide +kernel), List.mem_of_getElem? (i := 1311) (by decide +kernel)⟩
theorem lw_p55 : lw_okq (⟨"TubesOfCourtModel", "length", "(I)I"⟩, 26) := ⟨⟨by decide +kernel, by decide +kernel⟩, List.mem_of_getElem? (i := 1043) (by decide +kernel), List.mem_of_getElem? (i := 1314) (by decide +kernel), List.mem_of_getElem? (i := 1315) (by decide +kernel)⟩
theorem lw_p56 : lw_okq (⟨"TubesOfCourtModel", "bore", "(I)I"⟩, 26) := ⟨⟨by decide +kernel, by decide +kernel⟩, List.mem_of_getElem? (i := 1043) (by decide +kernel), List.mem_of_getElem? (i := 1319) (by decide +kernel), List.mem_of_getElem? (i := 1320) (by decide +kernel)⟩
theorem lw_p57 : lw_okq (⟨"TubesOfCourtModel", "refuseBy10", "(I)I"⟩, 26) := ⟨⟨by decide +kernel, by decide +kernel⟩, List.mem_of_getElem? (i := 1043) (by decide +kernel), List.mem_of_getElem? (i := 1327) (by decide +kernel), List.mem_of_getElem? (i := 1328) (by decide +kernel)⟩
theorem lw_p58 : lw_okq (⟨"TubesOfCourtModel", "fill", "(IZ)V"⟩, 26) := ⟨⟨by decide +kernel, by decide +kernel⟩, List.mem_of_getElem? (i := 1043) (by decide +kernel), List.mem_of_getElem? (i := 1332) (by decide +kernel), List.mem_of_getElem? (i := 1333) (by decide +kernel)⟩
theorem lw_p59 : lw_okq (⟨"TubesOfCourtModel", "clear", "()V"⟩, 26) := ⟨⟨by decide +kernel, by decide +kernel⟩, List.mem_of_getElem? (i := 1043) (by decide +kernel), List.mem_of_getElem? (i := 1336) (by decide +kernel), List.mem_of_getElem? (i := 1337) (by decide +kernel)⟩
theorem lw_p60 : lw_okq (⟨"TubesOfCourtModel", "may", "(IIZ)Z"⟩, 26) := ⟨⟨by decide +kernel, by decide +kernel⟩, List.mem_of_getElem? (i := 1043) (by decide +kernel), List.mem_of_getElem? (i := 1340) (by decide +kernel), List.mem_of_getElem? (i := 1341) (by decide +kernel)⟩
theorem lw_p61 : lw_okq (⟨"TubesOfCourtModel", "isShut", "(I)Z"⟩, 26) := ⟨⟨by decide +kernel, by decide +kernel⟩, List.mem_of_getElem? (i := 1043) (by decide +kernel), List.mem_of_getElem? (i := 1344) (by decide +kernel), List.mem_of_getElem? (i := 1345) (by decide +kernel)⟩
theorem lw_p62 : lw_okq (⟨"TubesOfCourtModel", "from", "(I)I"⟩, 26) := ⟨⟨by decide +kernel, by decide +kernel⟩, List.mem_of_getElem? (i := 1043) (by decide +kernel), List.mem_of_getElem? (i := 1348) (by decide +kernel), List.mem_of_getElem? (i := 1349) (by decide +kernel)⟩
theorem lw_p63 : lw_okq (⟨"TubesOfCourtModel", "to", "(I)I"⟩, 26) := ⟨⟨by decide +kernel, by decide +kernel⟩, List.mem_of_getElem? (i := 1043) (by decide +kernel), List.mem_of_getElem? (i := 1352) (by decide +kernel), List.mem_of_getElem? (i := 1353) (by decide +kernel)⟩
def lw_privs_4 : List (MethodName × Nat) := [(⟨"TubesOfCourtModel", "word", "()I"⟩, 26), (⟨"TubesOfCourtModel", "letter", "()I"⟩, 26), (⟨"TubesOfCourtModel", "told", "(II)I"⟩, 26), (⟨"TubesOfCourtModel", "isFault", "(I)Z"⟩, 26), (⟨"TubesOfCourtModel", "number", "(III)I"⟩, 26), (⟨"TubesOfCourtModel", "isLetter", "(I)Z"⟩, 26), (⟨"TubesOfCourtModel", "timeOf", "(II)I"⟩, 26), (⟨"TubesOfCourtModel", "length", "(I)I"⟩, 26), (⟨"TubesOfCourtModel", "bore", "(I)I"⟩, 26), (⟨"TubesOfCourtModel", "refuseBy10", "(I)I"⟩, 26), (⟨"TubesOfCourtModel", "fill", "(IZ)V"⟩, 26), (⟨"TubesOfCourtModel", "clear", "()V"⟩, 26), (⟨"TubesOfCourtModel", "may", "(IIZ)Z"⟩, 26), (⟨"TubesOfCourtModel", "isShut", "(I)Z"⟩, 26), (⟨"TubesOfCourtModel", "from", "(I)I"⟩, 26), (⟨"TubesOfCourtModel", "to", "(I)I"⟩, 26)]
theorem lw_r4 : ∀ q ∈ lw_privs_4, lw_okq q := List.forall_mem_cons.mpr ⟨lw_p48, List.forall_mem_cons.mpr ⟨lw_p49, List.forall_mem_cons.mpr ⟨lw_p50, List.forall_mem_cons.mpr ⟨lw_p51, List.forall_mem_cons.mpr ⟨lw_p52, List.forall_mem_cons.mpr ⟨lw_p53, List.forall_mem_cons.mpr ⟨lw_p54, List.forall_mem_cons.mpr ⟨lw_p55, List.forall_mem_cons.mpr ⟨lw_p56, List.forall_mem_cons.mpr ⟨lw_p57, List.forall_mem_cons.mpr ⟨lw_p58, List.forall_mem_cons.mpr ⟨lw_p59, List.forall_mem_cons.mpr ⟨lw_p60, List.forall_mem_cons.mpr ⟨lw_p61, List.forall_mem_cons.mpr ⟨lw_p62, List.forall_mem_cons.mpr ⟨lw_p63, fun _ h => absurd h List.not_mem_nil⟩⟩⟩⟩⟩⟩⟩⟩⟩⟩⟩⟩⟩⟩⟩⟩
theorem lw_p64 : lw_okq (⟨"TubesOfCourtModel", "nearer", "(III)V"⟩, 26) := ⟨⟨by decide +kernel, by decide +kernel⟩, List.mem_of_getElem? (i := 1043) (by decide +kernel), List.mem_of_getElem? (i := 1356) (by decide +kernel), List.mem_of_getElem? (i := 1357) (by decide +kernel)⟩
theorem lw_p65 : lw_okq (⟨"TubesOfCourtModel", "close", "()V"⟩, 26) := ⟨⟨by decide +kernel, by decide +kernel⟩, List.mem_of_getElem? (i := 1043) (by decide +kernel), List.mem_of_getElem? (i := 1361) (by decide +kernel), List.mem_of_getElem? (i := 1362) (by decide +kernel)⟩
theorem lw_p66 : lw_okq (⟨"TubesOfCourtModel", "first", "(II)I"⟩, 26) := ⟨⟨by decide +kernel, by decide +kernel⟩, List.mem_of_getElem? (i := 1043) (by decide +kernel), List.mem_of_getElem? (i := 1365) (by decide +kernel), List.mem_of_getElem? (i := 1366) (by decide +kernel)⟩
theorem lw_p67 : lw_okq (⟨"TubesOfCourtModel", "way", "(II)I"⟩, 26) := ⟨⟨by decide +kernel, by decide +kernel⟩, List.mem_of_getElem? (i := 1043) (by decide +kernel), List.mem_of_getElem? (i := 1369) (by decide +kernel), List.mem_of_getElem? (i := 1370) (by decide +kernel)⟩
theorem lw_p68 : lw_okq (⟨"TubesOfCourtModel", "fillRounds", "()V"⟩, 26) := ⟨⟨by decide +kernel, by decide +kernel⟩, List.mem_of_getElem? (i := 1043) (by decide +kernel), List.mem_of_getElem? (i := 1390) (by decide +kernel), List.mem_of_getElem? (i := 1391) (by decide +kernel)⟩
theorem lw_p69 : lw_okq (⟨"TubesOfCourtModel", "keep", "(II)I"⟩, 26) := ⟨⟨by decide +kernel, by decide +kernel⟩, List.mem_of_getElem? (i := 1043) (by decide +kernel), List.mem_of_getElem? (i := 1402) (by decide +kernel), List.mem_of_getElem? (i := 1403) (by decide +kernel)⟩
theorem lw_p70 : lw_okq (⟨"TubesOfCourtModel", "pushes", "(II)Z"⟩, 26) := ⟨⟨by decide +kernel, by decide +kernel⟩, List.mem_of_getElem? (i := 1043) (by decide +kernel), List.mem_of_getElem? (i := 1406) (by decide +kernel), List.mem_of_getElem? (i := 1407) (by decide +kernel)⟩
theorem lw_p71 : lw_okq (⟨"TubesOfCourtModel", "push", "(III[Z)Z"⟩, 26) := ⟨⟨by decide +kernel, by decide +kernel⟩, List.mem_of_getElem? (i := 1043) (by decide +kernel), List.mem_of_getElem? (i := 1410) (by decide +kernel), List.mem_of_getElem? (i := 1411) (by decide +kernel)⟩
theorem lw_p72 : lw_okq (⟨"TubesOfCourtModel", "knocks", "(II)I"⟩, 26) := ⟨⟨by decide +kernel, by decide +kernel⟩, List.mem_of_getElem? (i := 1043) (by decide +kernel), List.mem_of_getElem? (i := 1418) (by decide +kernel), List.mem_of_getElem? (i := 1419) (by decide +kernel)⟩
theorem lw_p73 : lw_okq (⟨"TubesOfCourtModel", "fit", "(II)I"⟩, 26) := ⟨⟨by decide +kernel, by decide +kernel⟩, List.mem_of_getElem? (i := 1043) (by decide +kernel), List.mem_of_getElem? (i := 1424) (by decide +kernel), List.mem_of_getElem? (i := 1425) (by decide +kernel)⟩
theorem lw_p74 : lw_okq (⟨"TubesOfCourtModel", "sound", "()V"⟩, 26) := ⟨⟨by decide +kernel, by decide +kernel⟩, List.mem_of_getElem? (i := 1043) (by decide +kernel), List.mem_of_getElem? (i := 1428) (by decide +kernel), List.mem_of_getElem? (i := 1429) (by decide +kernel)⟩
theorem lw_p75 : lw_okq (⟨"TubesOfCourtModel", "heard", "(II)I"⟩, 26) := ⟨⟨by decide +kernel, by decide +kernel⟩, List.mem_of_getElem? (i := 1043) (by decide +kernel), List.mem_of_getElem? (i := 1432) (by decide +kernel), List.mem_of_getElem? (i := 1433) (by decide +kernel)⟩
theorem lw_p76 : lw_okq (⟨"TubesOfCourtModel", "lag", "(III)I"⟩, 26) := ⟨⟨by decide +kernel, by decide +kernel⟩, List.mem_of_getElem? (i := 1043) (by decide +kernel), List.mem_of_getElem? (i := 1440) (by decide +kernel), List.mem_of_getElem? (i := 1441) (by decide +kernel)⟩
theorem lw_p77 : lw_okq (⟨"TubesOfCourtModel", "legs", "(II)I"⟩, 26) := ⟨⟨by decide +kernel, by decide +kernel⟩, List.mem_of_getElem? (i := 1043) (by decide +kernel), List.mem_of_getElem? (i := 1460) (by decide +kernel), List.mem_of_getElem? (i := 1461) (by decide +kernel)⟩
theorem lw_p78 : lw_okq (⟨"TubesOfCourtModel", "day", "(II)I"⟩, 26) := ⟨⟨by decide +kernel, by decide +kernel⟩, List.mem_of_getElem? (i := 1043) (by decide +kernel), List.mem_of_getElem? (i := 1464) (by decide +kernel), List.mem_of_getElem? (i := 1465) (by decide +kernel)⟩
theorem lw_p79 : lw_okq (⟨"TubesOfCourtModel", "leg", "(IIZ)I"⟩, 26) := ⟨⟨by decide +kernel, by decide +kernel⟩, List.mem_of_getElem? (i := 1043) (by decide +kernel), List.mem_of_getElem? (i := 1468) (by decide +kernel), List.mem_of_getElem? (i := 1469) (by decide +kernel)⟩
def lw_privs_5 : List (MethodName × Nat) := [(⟨"TubesOfCourtModel", "nearer", "(III)V"⟩, 26), (⟨"TubesOfCourtModel", "close", "()V"⟩, 26), (⟨"TubesOfCourtModel", "first", "(II)I"⟩, 26), (⟨"TubesOfCourtModel", "way", "(II)I"⟩, 26), (⟨"TubesOfCourtModel", "fillRounds", "()V"⟩, 26), (⟨"TubesOfCourtModel", "keep", "(II)I"⟩, 26), (⟨"TubesOfCourtModel", "pushes", "(II)Z"⟩, 26), (⟨"TubesOfCourtModel", "push", "(III[Z)Z"⟩, 26), (⟨"TubesOfCourtModel", "knocks", "(II)I"⟩, 26), (⟨"TubesOfCourtModel", "fit", "(II)I"⟩, 26), (⟨"TubesOfCourtModel", "sound", "()V"⟩, 26), (⟨"TubesOfCourtModel", "heard", "(II)I"⟩, 26), (⟨"TubesOfCourtModel", "lag", "(III)I"⟩, 26), (⟨"TubesOfCourtModel", "legs", "(II)I"⟩, 26), (⟨"TubesOfCourtModel", "day", "(II)I"⟩, 26), (⟨"TubesOfCourtModel", "leg", "(IIZ)I"⟩, 26)]
theorem lw_r5 : ∀ q ∈ lw_privs_5, lw_okq q := List.forall_mem_cons.mpr ⟨lw_p64, List.forall_mem_cons.mpr ⟨lw_p65, List.forall_mem_cons.mpr ⟨lw_p66, List.forall_mem_cons.mpr ⟨lw_p67, List.forall_mem_cons.mpr ⟨lw_p68, List.forall_mem_cons.mpr ⟨lw_p69, List.forall_mem_cons.mpr ⟨lw_p70, List.forall_mem_cons.mpr ⟨lw_p71, List.forall_mem_cons.mpr ⟨lw_p72, List.forall_mem_cons.mpr ⟨lw_p73, List.forall_mem_cons.mpr ⟨lw_p74, List.forall_mem_cons.mpr ⟨lw_p75, List.forall_mem_cons.mpr ⟨lw_p76, List.forall_mem_cons.mpr ⟨lw_p77, List.forall_mem_cons.mpr ⟨lw_p78, List.forall_mem_cons.mpr ⟨lw_p79, fun _ h => absurd h List.not_mem_nil⟩⟩⟩⟩⟩⟩⟩⟩⟩⟩⟩⟩⟩⟩⟩⟩
theorem lw_p80 : lw_okq (⟨"TubesOfCourtModel", "draw", "(I)I"⟩, 26) := ⟨⟨by decide +kernel, by decide +kernel⟩, List.mem_of_getElem? (i := 1043) (by decide +kernel), List.mem_of_getElem? (i := 1484) (by decide +kernel), List.mem_of_getElem? (i := 1485) (by decide +kernel)⟩
theorem lw_p81 : lw_okq (⟨"TubesOfCourtModel", "hisses", "(II)I"⟩, 26) := ⟨⟨by decide +kernel, by decide +kernel⟩, List.mem_of_getElem? (i := 1043) (by decide +kernel), List.mem_of_getElem? (i := 1497) (by decide +kernel), List.mem_of_getElem? (i := 1498) (by decide +kernel)⟩
theorem lw_p82 : lw_okq (⟨"TubesOfCourtModel", "began", "(I)V"⟩, 26) := ⟨⟨by decide +kernel, by decide +kernel⟩, List.mem_of_getElem? (i := 1043) (by decide +kernel), List.mem_of_getElem? (i := 1501) (by decide +kernel), List.mem_of_getElem? (i := 1502) (by decide +kernel)⟩
theorem lw_p83 : lw_okq (⟨"TubesOfCourtModel", "lands", "(II)I"⟩, 26) := ⟨⟨by decide +kernel, by decide +kernel⟩, List.mem_of_getElem? (i := 1043) (by decide +kernel), List.mem_of_getElem? (i := 1505) (by decide +kernel), List.mem_of_getElem? (i := 1506) (by decide +kernel)⟩
theorem lw_p84 : lw_okq (⟨"TubesOfCourtModel", "signs", "(II)I"⟩, 26) := ⟨⟨by decide +kernel, by decide +kernel⟩, List.mem_of_getElem? (i := 1043) (by decide +kernel), List.mem_of_getElem? (i := 1509) (by decide +kernel), List.mem_of_getElem? (i := 1510) (by decide +kernel)⟩
theorem lw_p85 : lw_okq (⟨"TubesOfCourtModel", "after", "(III)I"⟩, 26) := ⟨⟨by decide +kernel, by decide +kernel⟩, List.mem_of_getElem? (i := 1043) (by decide +kernel), List.mem_of_getElem? (i := 1521) (by decide +kernel), List.mem_of_getElem? (i := 1522) (by decide +kernel)⟩
def lw_privs_6 : List (MethodName × Nat) := [(⟨"TubesOfCourtModel", "draw", "(I)I"⟩, 26), (⟨"TubesOfCourtModel", "hisses", "(II)I"⟩, 26), (⟨"TubesOfCourtModel", "began", "(I)V"⟩, 26), (⟨"TubesOfCourtModel", "lands", "(II)I"⟩, 26), (⟨"TubesOfCourtModel", "signs", "(II)I"⟩, 26), (⟨"TubesOfCourtModel", "after", "(III)I"⟩, 26)]
theorem lw_r6 : ∀ q ∈ lw_privs_6, lw_okq q := List.forall_mem_cons.mpr ⟨lw_p80, List.forall_mem_cons.mpr ⟨lw_p81, List.forall_mem_cons.mpr ⟨lw_p82, List.forall_mem_cons.mpr ⟨lw_p83, List.forall_mem_cons.mpr ⟨lw_p84, List.forall_mem_cons.mpr ⟨lw_p85, fun _ h => absurd h List.not_mem_nil⟩⟩⟩⟩⟩⟩
def lw_privs : List (MethodName × Nat) := lw_privs_1 ++ (lw_privs_2 ++ (lw_privs_3 ++ (lw_privs_4 ++ (lw_privs_5 ++ (lw_privs_6)))))
def lw_tbl : List Cond := k2_sels lw_privs ++ tables_1
theorem lw_privs_ok : ∀ q ∈ lw_privs, lw_okq q := by
  show ∀ q ∈ lw_privs_1 ++ (lw_privs_2 ++ (lw_privs_3 ++ (lw_privs_4 ++ (lw_privs_5 ++ (lw_privs_6))))), lw_okq q
  exact List.forall_mem_append.mpr ⟨lw_r1, List.forall_mem_append.mpr ⟨lw_r2, List.forall_mem_append.mpr ⟨lw_r3, List.forall_mem_append.mpr ⟨lw_r4, List.forall_mem_append.mpr ⟨lw_r5, lw_r6⟩⟩⟩⟩⟩
-- ===== end of PART A; then your names; then what follows =====
/-! THE CLAIM OUT OF ONE WALK OF THE LAW'S BODY. Your part is whole_start (and what it stands on); all else here is the same for every law, but numbers. -/
def R_law : String := "TubesOfCourtLaw"
def lw_P (b : Addr) (xs : List Int32) (args : Array Value) (s : State) : Prop := args = #[.ref b] ∧ s.IntsAt b xs ∧ xs.length ≤ 3072 ∧ (Jvm.Cond.and given_1 narrow_1).before args s = true
def lw_Q (_ : Array Value) (s : State) (o : Outcome) (t : State) : Prop := o = .returned (some (.int 1)) ∧ Framed s o t [] 600000 7302250
def lw_Z (below : List Frame) (a : Array Value) (s : State) : State → Prop := fun t => ∃ o, t.status = .running ∧ Ended t below o ∧ lw_Q a s o t
/-- the law's own end, with 1 on the stack, nothing written that was there before, its room as the claim has it -/
theorem lw_ret {p : Program} {l : Launch} {e : Env} {s : State} {m : MethodId} {below : List Frame} {meth : Method} {c : Code} {b : Nat} (hx : p.tables.exec = Jvm.exec) (hb : c.code = code) (hr : meth.sig.returnType = ret) (hlocks : meth.locks = false) {pc : Nat} {H : Heap} {ls : Array Slot} (hdg : decode code pc = .ok (.ireturn, 1)) : W p l e room_1 s m #[Value.ref b] below meth c H [] 600000 7302250 (lw_Z below #[Value.ref b] s) (F0 m pc ls [.int 1]) := by
  intro T hT X
  obtain ⟨fs, hret, hrun, hended, hW, hframe⟩ := X.leave (v := some (.int 1)) (hlocks := hlocks) (fun h => by rw [hr] at h; cases h)
  have hmeth' : T.vm.method? m = some meth := X.method'
  refine ⟨T.setFrames fs, ?_, .returned (some (.int 1)), hrun, hended, rfl, ⟨_, rfl⟩, hW, hframe⟩
  jvm_step X.here [X.here.top, hx, hb, hdg, hmeth', hr, ret, narrow_b1]
  (try refine ⟨rfl, ?_⟩); (try refine ⟨rfl, ?_⟩)
  first | (intro acts; rw [hret _ acts rfl rfl rfl]) | rw [hret _ _ rfl rfl rfl]
  exact Steps.refl _
/-- what holds at the law's entry: the machine, the code, the tables' words (any of lw_tbl by 'hts w (by decide +kernel)'), the script of L ints xs at the cell b, what the Statement gives of the start (any of its parts by flat_of_before) -/
def lw_At (p : Program) (s : State) (m : MethodId) (meth : Method) (c : Code) (b L : Nat) (xs : Nat → Int32) : Prop :=
  p.tables.exec = Jvm.exec ∧ c.code = code ∧ meth.sig.returnType = ret ∧ c.maxLocals = 4 ∧ s.vm.findClass R_law = some m.cls ∧ (∀ w ∈ lw_tbl, w.before #[Value.ref b] s = true) ∧ va_X b L xs s s.heap ∧ b < s.heap.size ∧ meth.locks = false ∧ (Jvm.Cond.and given_1 narrow_1).before #[Value.ref b] s = true
theorem goodIn_r {big : List Cond} (ws : List Cond) (ps : List Nat) (hp : ws = ps.filterMap (fun i => big[i]?)) (h : ws.all goodWord = true) : GoodIn big ws := by
  intro w hw
  have h1 := List.all_eq_true.mp h w hw
  rw [hp] at hw
  obtain ⟨i, -, hi⟩ := List.mem_filterMap.mp hw
  have hm : w ∈ big := by first | exact List.mem_of_getElem? hi | exact List.getElem?_mem hi
  exact ⟨hm, good_of_word h1⟩
def RX0 : String := "TubesOfCourt$Cuts"
def TX0 : u_T := fun k => match k with
  | 0 => ("TubesOfCourt$Cuts", "flow", "[I", true)
  | _ => ("TubesOfCourt$Cuts", "cameBy", "[I", true)
def tyX0 : Nat → FieldType := fun k => match k with
  | 0 => .array .int
  | _ => .array .int
abbrev wsX00 : List Cond := u_ws RX0 TX0 2
theorem nmX0 : ∀ a, a < 2 → ∀ b, b < 2 → a ≠ b → (TX0 a).2.1 ≠ (TX0 b).2.1 := by decide +kernel
theorem tyX0_ok : ∀ k, k < 2 → parseFieldDescriptor (TX0 k).2.2.1 = some (tyX0 k) := by decide +kernel
abbrev cX0_init : ByteArray := prog_2_method_1_code
def yX0_init : MethodName := ⟨RX0, "<init>", "()V"⟩
abbrev cX0_reaches : ByteArray := prog_2_method_2_code
def yX0_reaches : MethodName := ⟨RX0, "reaches", "(LTubesOfCourt$Ministry;LTubesOfCourt$Ways;III)Z"⟩
abbrev cX0_neededTubes : ByteArray := prog_2_method_3_code
def yX0_neededTubes : MethodName := ⟨RX0, "neededTubes", "(LTubesOfCourt$Ministry;LTubesOfCourt$Ways;II)I"⟩
abbrev cX0_fewestTubes : ByteArray := prog_2_method_4_code
def yX0_fewestTubes : MethodName := ⟨RX0, "fewestTubes", "(LTubesOfCourt$Ministry;LTubesOfCourt$Ways;II)I"⟩
abbrev cX0_findWay : ByteArray := prog_2_method_5_code
def yX0_findWay : MethodName := ⟨RX0, "findWay", "(LTubesOfCourt$Ministry;LTubesOfCourt$Ways;II)Z"⟩
abbrev cX0_comeBy : ByteArray := prog_2_method_6_code
def yX0_comeBy : MethodName := ⟨RX0, "comeBy", "(II)I"⟩
abbrev cX0_takeWay : ByteArray := prog_2_method_7_code
def yX0_takeWay : MethodName := ⟨RX0, "takeWay", "(LTubesOfCourt$Ministry;II)V"⟩
def RX1 : String := "TubesOfCourt$Days"
def TX1 : u_T := fun k => match k with
  | 0 => ("TubesOfCourt$Days", "minutes", "I", false)
  | _ => ("TubesOfCourt$Days", "signs", "I", false)
def tyX1 : Nat → FieldType := fun k => match k with
  | 0 => .int
  | _ => .int
abbrev wsX10 : List Cond := u_ws RX1 TX1 2
theorem nmX1 : ∀ a, a < 2 → ∀ b, b < 2 → a ≠ b → (TX1 a).2.1 ≠ (TX1 b).2.1 := by decide +kernel
theorem tyX1_ok : ∀ k, k < 2 → parseFieldDescriptor (TX1 k).2.2.1 = some (tyX1 k) := by decide +kernel
abbrev cX1_init : ByteArray := prog_3_method_1_code
def yX1_init : MethodName := ⟨RX1, "<init>", "()V"⟩
abbrev cX1_findWrong : ByteArray := prog_3_method_2_code
def yX1_findWrong : MethodName := ⟨RX1, "findWrong", "(LTubesOfCourt$Ministry;LTubesOfCourt$Ways;LTubesOfCourt$Shelves;II)I"⟩
abbrev cX1_takeToldLeg : ByteArray := prog_3_method_3_code
def yX1_takeToldLeg : MethodName := ⟨RX1, "takeToldLeg", "(LTubesOfCourt$Ministry;LTubesOfCourt$Ways;I)Z"⟩
abbrev cX1_takeDrawnLeg : ByteArray := prog_3_method_4_code
def yX1_takeDrawnLeg : MethodName := ⟨RX1, "takeDrawnLeg", "(LTubesOfCourt$Ministry;LTubesOfCourt$Ways;)V"⟩
def RX2 : String := "TubesOfCourt$Joining"
def TX2 : u_T := fun k => match k with
  | 0 => ("TubesOfCourt$Joining", "group", "[I", true)
  | 1 => ("TubesOfCourt$Joining", "sum", "I", false)
  | _ => ("TubesOfCourt$Joining", "chosen", "I", false)
def tyX2 : Nat → FieldType := fun k => match k with
  | 0 => .array .int
  | 1 => .int
  | _ => .int
abbrev wsX20 : List Cond := u_ws RX2 TX2 3
theorem nmX2 : ∀ a, a < 3 → ∀ b, b < 3 → a ≠ b → (TX2 a).2.1 ≠ (TX2 b).2.1 := by decide +kernel
theorem tyX2_ok : ∀ k, k < 3 → parseFieldDescriptor (TX2 k).2.2.1 = some (tyX2 k) := by decide +kernel
abbrev cX2_init : ByteArray := prog_4_method_1_code
def yX2_init : MethodName := ⟨RX2, "<init>", "()V"⟩
abbrev cX2_joinAll : ByteArray := prog_4_method_2_code
def yX2_joinAll : MethodName := ⟨RX2, "joinAll", "(LTubesOfCourt$Ministry;)Z"⟩
abbrev cX2_joins : ByteArray := prog_4_method_3_code
def yX2_joins : MethodName := ⟨RX2, "joins", "(II)Z"⟩
def RX3 : String := "TubesOfCourt$Knocks"
def TX3 : u_T := fun k => match k with
  | 0 => ("TubesOfCourt$Knocks", "toldDesks", "[I", true)
  | 1 => ("TubesOfCourt$Knocks", "toldMinutes", "[I", true)
  | 2 => ("TubesOfCourt$Knocks", "told", "I", false)
  | _ => ("TubesOfCourt$Knocks", "delays", "[[I", true)
def tyX3 : Nat → FieldType := fun k => match k with
  | 0 => .array .int
  | 1 => .array .int
  | 2 => .int
  | _ => .array (.array .int)
abbrev wsX30 : List Cond := u_ws RX3 TX3 4
theorem nmX3 : ∀ a, a < 4 → ∀ b, b < 4 → a ≠ b → (TX3 a).2.1 ≠ (TX3 b).2.1 := by decide +kernel
theorem tyX3_ok : ∀ k, k < 4 → parseFieldDescriptor (TX3 k).2.2.1 = some (tyX3 k) := by decide +kernel
abbrev cX3_init : ByteArray := prog_5_method_1_code
def yX3_init : MethodName := ⟨RX3, "<init>", "()V"⟩
abbrev cX3_read : ByteArray := prog_5_method_2_code
def yX3_read : MethodName := ⟨RX3, "read", "(LTubesOfCourt$Shelves;II)V"⟩
abbrev cX3_hear : ByteArray := prog_5_method_3_code
def yX3_hear : MethodName := ⟨RX3, "hear", "(LTubesOfCourt$Ministry;LTubesOfCourt$Ways;)V"⟩
abbrev cX3_fittingTubes : ByteArray := prog_5_method_4_code
def yX3_fittingTubes : MethodName := ⟨RX3, "fittingTubes", "(LTubesOfCourt$Ministry;)I"⟩
abbrev cX3_fits : ByteArray := prog_5_method_5_code
def yX3_fits : MethodName := ⟨RX3, "fits", "(LTubesOfCourt$Ministry;I)Z"⟩
abbrev cX3_nextDesk : ByteArray := prog_5_method_6_code
def yX3_nextDesk : MethodName := ⟨RX3, "nextDesk", "(LTubesOfCourt$Ministry;)I"⟩
abbrev cX3_mostLeft : ByteArray := prog_5_method_7_code
def yX3_mostLeft : MethodName := ⟨RX3, "mostLeft", "(LTubesOfCourt$Ministry;III)I"⟩
abbrev cX3_lateness : ByteArray := prog_5_method_8_code
def yX3_lateness : MethodName := ⟨RX3, "lateness", "(III)I"⟩
def RX4 : String := "TubesOfCourt$Ministry"
def TX4 : u_T := fun k => match k with
  | 0 => ("TubesOfCourt$Ministry", "desks", "I", false)
  | 1 => ("TubesOfCourt$Ministry", "signed", "[I", true)
  | 2 => ("TubesOfCourt$Ministry", "tubes", "I", false)
  | 3 => ("TubesOfCourt$Ministry", "from", "[I", true)
  | 4 => ("TubesOfCourt$Ministry", "to", "[I", true)
  | 5 => ("TubesOfCourt$Ministry", "length", "[I", true)
  | 6 => ("TubesOfCourt$Ministry", "bore", "[I", true)
  | 7 => ("TubesOfCourt$Ministry", "shutBits", "I", false)
  | 8 => ("TubesOfCourt$Ministry", "capsules", "I", false)
  | 9 => ("TubesOfCourt$Ministry", "kind", "[I", true)
  | 10 => ("TubesOfCourt$Ministry", "a", "[I", true)
  | 11 => ("TubesOfCourt$Ministry", "weight", "[I", true)
  | 12 => ("TubesOfCourt$Ministry", "at", "[I", true)
  | 13 => ("TubesOfCourt$Ministry", "pressure", "I", false)
  | 14 => ("TubesOfCourt$Ministry", "minutes", "I", false)
  | _ => ("TubesOfCourt$Ministry", "seed", "I", false)
def tyX4 : Nat → FieldType := fun k => match k with
  | 0 => .int
  | 1 => .array .int
  | 2 => .int
  | 3 => .array .int
  | 4 => .array .int
  | 5 => .array .int
  | 6 => .array .int
  | 7 => .int
  | 8 => .int
  | 9 => .array .int
  | 10 => .array .int
  | 11 => .array .int
  | 12 => .array .int
  | 13 => .int
  | 14 => .int
  | _ => .int
abbrev wsX40 : List Cond := u_ws RX4 TX4 16
theorem nmX4 : ∀ a, a < 16 → ∀ b, b < 16 → a ≠ b → (TX4 a).2.1 ≠ (TX4 b).2.1 := by decide +kernel
theorem tyX4_ok : ∀ k, k < 16 → parseFieldDescriptor (TX4 k).2.2.1 = some (tyX4 k) := by decide +kernel
abbrev cX4_init : ByteArray := prog_6_method_1_code
def yX4_init : MethodName := ⟨RX4, "<init>", "()V"⟩
abbrev cX4_hasDesk : ByteArray := prog_6_method_2_code
def yX4_hasDesk : MethodName := ⟨RX4, "hasDesk", "(I)Z"⟩
abbrev cX4_hasTube : ByteArray := prog_6_method_3_code
def yX4_hasTube : MethodName := ⟨RX4, "hasTube", "(I)Z"⟩
abbrev cX4_hasCapsule : ByteArray := prog_6_method_4_code
def yX4_hasCapsule : MethodName := ⟨RX4, "hasCapsule", "(I)Z"⟩
abbrev cX4_hasRoomForDesk : ByteArray := prog_6_method_5_code
def yX4_hasRoomForDesk : MethodName := ⟨RX4, "hasRoomForDesk", "()Z"⟩
abbrev cX4_hasRoomForTube : ByteArray := prog_6_method_6_code
def yX4_hasRoomForTube : MethodName := ⟨RX4, "hasRoomForTube", "()Z"⟩
abbrev cX4_hasRoomForCapsule : ByteArray := prog_6_method_7_code
def yX4_hasRoomForCapsule : MethodName := ⟨RX4, "hasRoomForCapsule", "()Z"⟩
abbrev cX4_addDesk : ByteArray := prog_6_method_8_code
def yX4_addDesk : MethodName := ⟨RX4, "addDesk", "()V"⟩
abbrev cX4_addTube : ByteArray := prog_6_method_9_code
def yX4_addTube : MethodName := ⟨RX4, "addTube", "(IIII)V"⟩
abbrev cX4_addCapsule : ByteArray := prog_6_method_10_code
def yX4_addCapsule : MethodName := ⟨RX4, "addCapsule", "(IIII)V"⟩
abbrev cX4_isShut : ByteArray := prog_6_method_11_code
def yX4_isShut : MethodName := ⟨RX4, "isShut", "(I)Z"⟩
abbrev cX4_putShut : ByteArray := prog_6_method_12_code
def yX4_putShut : MethodName := ⟨RX4, "putShut", "(IZ)V"⟩
abbrev cX4_takeOver : ByteArray := prog_6_method_13_code
def yX4_takeOver : MethodName := ⟨RX4, "takeOver", "(LTubesOfCourt$Ministry;)V"⟩
abbrev cX4_minutesThrough : ByteArray := prog_6_method_14_code
def yX4_minutesThrough : MethodName := ⟨RX4, "minutesThrough", "(III)I"⟩
abbrev cX4_dividedUpward : ByteArray := prog_6_method_15_code
def yX4_dividedUpward : MethodName := ⟨RX4, "dividedUpward", "(II)I"⟩
abbrev cX4_mayGo : ByteArray := prog_6_method_16_code
def yX4_mayGo : MethodName := ⟨RX4, "mayGo", "(IIZ)Z"⟩
abbrev cX4_goTo : ByteArray := prog_6_method_17_code
def yX4_goTo : MethodName := ⟨RX4, "goTo", "(IIIZ)V"⟩
abbrev cX4_draw : ByteArray := prog_6_method_18_code
def yX4_draw : MethodName := ⟨RX4, "draw", "(I)I"⟩
abbrev cX4_signedTogether : ByteArray := prog_6_method_19_code
def yX4_signedTogether : MethodName := ⟨RX4, "signedTogether", "()I"⟩
abbrev cX4_shutTubes : ByteArray := prog_6_method_20_code
def yX4_shutTubes : MethodName := ⟨RX4, "shutTubes", "()I"⟩
def RX5 : String := "TubesOfCourt$Moves"
def TX5 : u_T := fun k => match k with
  | 0 => ("TubesOfCourt$Moves", "bodies", "[I", true)
  | 1 => ("TubesOfCourt$Moves", "ran", "I", false)
  | 2 => ("TubesOfCourt$Moves", "ownKind", "I", false)
  | 3 => ("TubesOfCourt$Moves", "number", "I", false)
  | _ => ("TubesOfCourt$Moves", "k", "I", false)
def tyX5 : Nat → FieldType := fun k => match k with
  | 0 => .array .int
  | 1 => .int
  | 2 => .int
  | 3 => .int
  | _ => .int
abbrev wsX50 : List Cond := u_ws RX5 TX5 5
theorem nmX5 : ∀ a, a < 5 → ∀ b, b < 5 → a ≠ b → (TX5 a).2.1 ≠ (TX5 b).2.1 := by decide +kernel
theorem tyX5_ok : ∀ k, k < 5 → parseFieldDescriptor (TX5 k).2.2.1 = some (tyX5 k) := by decide +kernel
abbrev cX5_init : ByteArray := prog_7_method_1_code
def yX5_init : MethodName := ⟨RX5, "<init>", "()V"⟩
abbrev cX5_forget : ByteArray := prog_7_method_2_code
def yX5_forget : MethodName := ⟨RX5, "forget", "()V"⟩
abbrev cX5_bodyAt : ByteArray := prog_7_method_3_code
def yX5_bodyAt : MethodName := ⟨RX5, "bodyAt", "(I)I"⟩
abbrev cX5_run : ByteArray := prog_7_method_4_code
def yX5_run : MethodName := ⟨RX5, "run", "(IIIII)I"⟩
abbrev cX5_begin : ByteArray := prog_7_method_5_code
def yX5_begin : MethodName := ⟨RX5, "begin", "(I)V"⟩
abbrev cX5_hissesFrom : ByteArray := prog_7_method_6_code
def yX5_hissesFrom : MethodName := ⟨RX5, "hissesFrom", "(II)I"⟩
abbrev cX5_landsFrom : ByteArray := prog_7_method_7_code
def yX5_landsFrom : MethodName := ⟨RX5, "landsFrom", "(II)I"⟩
abbrev cX5_signsFrom : ByteArray := prog_7_method_8_code
def yX5_signsFrom : MethodName := ⟨RX5, "signsFrom", "(II)I"⟩
def RX6 : String := "TubesOfCourt$PlanReader"
def TX6 : u_T := fun k => match k with
  | 0 => ("TubesOfCourt$PlanReader", "letters", "[I", true)
  | 1 => ("TubesOfCourt$PlanReader", "numbers", "[I", true)
  | 2 => ("TubesOfCourt$PlanReader", "size", "I", false)
  | 3 => ("TubesOfCourt$PlanReader", "place", "I", false)
  | 4 => ("TubesOfCourt$PlanReader", "faultPlace", "I", false)
  | _ => ("TubesOfCourt$PlanReader", "items", "I", false)
def tyX6 : Nat → FieldType := fun k => match k with
  | 0 => .array .int
  | 1 => .array .int
  | 2 => .int
  | 3 => .int
  | 4 => .int
  | _ => .int
abbrev wsX60 : List Cond := u_ws RX6 TX6 6
theorem nmX6 : ∀ a, a < 6 → ∀ b, b < 6 → a ≠ b → (TX6 a).2.1 ≠ (TX6 b).2.1 := by decide +kernel
theorem tyX6_ok : ∀ k, k < 6 → parseFieldDescriptor (TX6 k).2.2.1 = some (tyX6 k) := by decide +kernel
abbrev cX6_init : ByteArray := prog_8_method_1_code
def yX6_init : MethodName := ⟨RX6, "<init>", "()V"⟩
abbrev cX6_findFault : ByteArray := prog_8_method_2_code
def yX6_findFault : MethodName := ⟨RX6, "findFault", "(LTubesOfCourt$Shelves;ILTubesOfCourt$Ministry;)I"⟩
abbrev cX6_failAt : ByteArray := prog_8_method_3_code
def yX6_failAt : MethodName := ⟨RX6, "failAt", "(I)Z"⟩
abbrev cX6_letterHere : ByteArray := prog_8_method_4_code
def yX6_letterHere : MethodName := ⟨RX6, "letterHere", "()I"⟩
abbrev cX6_isDigitHere : ByteArray := prog_8_method_5_code
def yX6_isDigitHere : MethodName := ⟨RX6, "isDigitHere", "()Z"⟩
abbrev cX6_readSign : ByteArray := prog_8_method_6_code
def yX6_readSign : MethodName := ⟨RX6, "readSign", "(C)Z"⟩
abbrev cX6_readItem : ByteArray := prog_8_method_7_code
def yX6_readItem : MethodName := ⟨RX6, "readItem", "(LTubesOfCourt$Ministry;)Z"⟩
abbrev cX6_wordThatBeginsHere : ByteArray := prog_8_method_8_code
def yX6_wordThatBeginsHere : MethodName := ⟨RX6, "wordThatBeginsHere", "()I"⟩
abbrev cX6_textOf : ByteArray := prog_8_method_9_code
def yX6_textOf : MethodName := ⟨RX6, "textOf", "(I)Ljava/lang/String;"⟩
abbrev cX6_numbersOf : ByteArray := prog_8_method_10_code
def yX6_numbersOf : MethodName := ⟨RX6, "numbersOf", "(I)I"⟩
abbrev cX6_hasRoomFor : ByteArray := prog_8_method_11_code
def yX6_hasRoomFor : MethodName := ⟨RX6, "hasRoomFor", "(ILTubesOfCourt$Ministry;)Z"⟩
abbrev cX6_readNumber : ByteArray := prog_8_method_12_code
def yX6_readNumber : MethodName := ⟨RX6, "readNumber", "(IILTubesOfCourt$Ministry;)Z"⟩
abbrev cX6_mayStand : ByteArray := prog_8_method_13_code
def yX6_mayStand : MethodName := ⟨RX6, "mayStand", "(IIILTubesOfCourt$Ministry;)Z"⟩
abbrev cX6_mayStandInTube : ByteArray := prog_8_method_14_code
def yX6_mayStandInTube : MethodName := ⟨RX6, "mayStandInTube", "(IILTubesOfCourt$Ministry;)Z"⟩
abbrev cX6_mayStandInCapsule : ByteArray := prog_8_method_15_code
def yX6_mayStandInCapsule : MethodName := ⟨RX6, "mayStandInCapsule", "(IILTubesOfCourt$Ministry;)Z"⟩
abbrev cX6_tell : ByteArray := prog_8_method_16_code
def yX6_tell : MethodName := ⟨RX6, "tell", "(ILTubesOfCourt$Ministry;)V"⟩
def RX7 : String := "TubesOfCourt$Rounds"
def TX7 : u_T := fun k => match k with
  | _ => ("TubesOfCourt$Rounds", "best", "[I", true)
def tyX7 : Nat → FieldType := fun k => match k with
  | _ => .array .int
abbrev wsX70 : List Cond := u_ws RX7 TX7 1
theorem nmX7 : ∀ a, a < 1 → ∀ b, b < 1 → a ≠ b → (TX7 a).2.1 ≠ (TX7 b).2.1 := by decide +kernel
theorem tyX7_ok : ∀ k, k < 1 → parseFieldDescriptor (TX7 k).2.2.1 = some (tyX7 k) := by decide +kernel
abbrev cX7_init : ByteArray := prog_9_method_1_code
def yX7_init : MethodName := ⟨RX7, "<init>", "()V"⟩
abbrev cX7_leastMinutes : ByteArray := prog_9_method_2_code
def yX7_leastMinutes : MethodName := ⟨RX7, "leastMinutes", "(LTubesOfCourt$Ways;III)I"⟩
abbrev cX7_bestOf : ByteArray := prog_9_method_3_code
def yX7_bestOf : MethodName := ⟨RX7, "bestOf", "(II)I"⟩
abbrev cX7_leastFrom : ByteArray := prog_9_method_4_code
def yX7_leastFrom : MethodName := ⟨RX7, "leastFrom", "(LTubesOfCourt$Ways;III)I"⟩
abbrev cX7_leastOver : ByteArray := prog_9_method_5_code
def yX7_leastOver : MethodName := ⟨RX7, "leastOver", "(LTubesOfCourt$Ways;IIII)I"⟩
abbrev cX7_deskOfOrder : ByteArray := prog_9_method_6_code
def yX7_deskOfOrder : MethodName := ⟨RX7, "deskOfOrder", "(LTubesOfCourt$Ways;IIII)I"⟩
abbrev cX7_nextOfOrder : ByteArray := prog_9_method_7_code
def yX7_nextOfOrder : MethodName := ⟨RX7, "nextOfOrder", "(LTubesOfCourt$Ways;III)I"⟩
def RX8 : String := "TubesOfCourt$Shelves"
def TX8 : u_T := fun k => match k with
  | 0 => ("TubesOfCourt$Shelves", "held", "[I", true)
  | 1 => ("TubesOfCourt$Shelves", "sizes", "[I", true)
  | _ => ("TubesOfCourt$Shelves", "rows", "[[J", true)
def tyX8 : Nat → FieldType := fun k => match k with
  | 0 => .array .int
  | 1 => .array .int
  | _ => .array (.array .long)
abbrev wsX80 : List Cond := u_ws RX8 TX8 3
theorem nmX8 : ∀ a, a < 3 → ∀ b, b < 3 → a ≠ b → (TX8 a).2.1 ≠ (TX8 b).2.1 := by decide +kernel
theorem tyX8_ok : ∀ k, k < 3 → parseFieldDescriptor (TX8 k).2.2.1 = some (tyX8 k) := by decide +kernel
abbrev cX8_init : ByteArray := prog_10_method_1_code
def yX8_init : MethodName := ⟨RX8, "<init>", "()V"⟩
abbrev cX8_hasShelf : ByteArray := prog_10_method_2_code
def yX8_hasShelf : MethodName := ⟨RX8, "hasShelf", "(I)Z"⟩
abbrev cX8_hasRow : ByteArray := prog_10_method_3_code
def yX8_hasRow : MethodName := ⟨RX8, "hasRow", "(I)Z"⟩
abbrev cX8_heldAt : ByteArray := prog_10_method_4_code
def yX8_heldAt : MethodName := ⟨RX8, "heldAt", "(I)I"⟩
abbrev cX8_sizeOf : ByteArray := prog_10_method_5_code
def yX8_sizeOf : MethodName := ⟨RX8, "sizeOf", "(I)I"⟩
abbrev cX8_putRow : ByteArray := prog_10_method_6_code
def yX8_putRow : MethodName := ⟨RX8, "putRow", "(III)V"⟩
abbrev cX8_putHeld : ByteArray := prog_10_method_7_code
def yX8_putHeld : MethodName := ⟨RX8, "putHeld", "(II)V"⟩
abbrev cX8_hasElement : ByteArray := prog_10_method_8_code
def yX8_hasElement : MethodName := ⟨RX8, "hasElement", "(II)Z"⟩
abbrev cX8_elementAt : ByteArray := prog_10_method_9_code
def yX8_elementAt : MethodName := ⟨RX8, "elementAt", "(II)J"⟩
abbrev cX8_intAt : ByteArray := prog_10_method_10_code
def yX8_intAt : MethodName := ⟨RX8, "intAt", "(II)I"⟩
abbrev cX8_putElement : ByteArray := prog_10_method_11_code
def yX8_putElement : MethodName := ⟨RX8, "putElement", "(IIJ)V"⟩
abbrev cX8_lowestBits : ByteArray := prog_10_method_12_code
def yX8_lowestBits : MethodName := ⟨RX8, "lowestBits", "(JI)J"⟩
abbrev cX8_hasPart : ByteArray := prog_10_method_13_code
def yX8_hasPart : MethodName := ⟨RX8, "hasPart", "(III)Z"⟩
abbrev cX8_copyPart : ByteArray := prog_10_method_14_code
def yX8_copyPart : MethodName := ⟨RX8, "copyPart", "(IIIII)V"⟩
abbrev cX8_dropCapsulesFrom : ByteArray := prog_10_method_15_code
def yX8_dropCapsulesFrom : MethodName := ⟨RX8, "dropCapsulesFrom", "(I)V"⟩
def RX9 : String := "TubesOfCourt$Ways"
def TX9 : u_T := fun k => match k with
  | 0 => ("TubesOfCourt$Ways", "minutes", "[I", true)
  | 1 => ("TubesOfCourt$Ways", "forth", "[Z", true)
  | 2 => ("TubesOfCourt$Ways", "back", "[Z", true)
  | 3 => ("TubesOfCourt$Ways", "reach", "[I", true)
  | 4 => ("TubesOfCourt$Ways", "reachOfOne", "[I", true)
  | _ => ("TubesOfCourt$Ways", "table", "[[I", true)
def tyX9 : Nat → FieldType := fun k => match k with
  | 0 => .array .int
  | 1 => .array .boolean
  | 2 => .array .boolean
  | 3 => .array .int
  | 4 => .array .int
  | _ => .array (.array .int)
abbrev wsX90 : List Cond := u_ws RX9 TX9 6
theorem nmX9 : ∀ a, a < 6 → ∀ b, b < 6 → a ≠ b → (TX9 a).2.1 ≠ (TX9 b).2.1 := by decide +kernel
theorem tyX9_ok : ∀ k, k < 6 → parseFieldDescriptor (TX9 k).2.2.1 = some (tyX9 k) := by decide +kernel
abbrev cX9_init : ByteArray := prog_11_method_1_code
def yX9_init : MethodName := ⟨RX9, "<init>", "()V"⟩
abbrev cX9_prepareFor : ByteArray := prog_11_method_2_code
def yX9_prepareFor : MethodName := ⟨RX9, "prepareFor", "(LTubesOfCourt$Ministry;II)V"⟩
abbrev cX9_prepareForKnocks : ByteArray := prog_11_method_3_code
def yX9_prepareForKnocks : MethodName := ⟨RX9, "prepareForKnocks", "(LTubesOfCourt$Ministry;)V"⟩
abbrev cX9_passableTubes : ByteArray := prog_11_method_4_code
def yX9_passableTubes : MethodName := ⟨RX9, "passableTubes", "(LTubesOfCourt$Ministry;)I"⟩
abbrev cX9_spread : ByteArray := prog_11_method_5_code
def yX9_spread : MethodName := ⟨RX9, "spread", "(LTubesOfCourt$Ministry;I)V"⟩
abbrev cX9_comesNearer : ByteArray := prog_11_method_6_code
def yX9_comesNearer : MethodName := ⟨RX9, "comesNearer", "(III)Z"⟩
abbrev cX9_fillTable : ByteArray := prog_11_method_7_code
def yX9_fillTable : MethodName := ⟨RX9, "fillTable", "(LTubesOfCourt$Ministry;)V"⟩
abbrev cX9_between : ByteArray := prog_11_method_8_code
def yX9_between : MethodName := ⟨RX9, "between", "(II)I"⟩
abbrev cX9_minutesTo : ByteArray := prog_11_method_9_code
def yX9_minutesTo : MethodName := ⟨RX9, "minutesTo", "(LTubesOfCourt$Ministry;III)I"⟩
abbrev cX9_stepsTo : ByteArray := prog_11_method_10_code
def yX9_stepsTo : MethodName := ⟨RX9, "stepsTo", "(LTubesOfCourt$Ministry;II)I"⟩
abbrev cX9_reached : ByteArray := prog_11_method_11_code
def yX9_reached : MethodName := ⟨RX9, "reached", "(LTubesOfCourt$Ministry;I)I"⟩
abbrev cX9_firstTubeTo : ByteArray := prog_11_method_12_code
def yX9_firstTubeTo : MethodName := ⟨RX9, "firstTubeTo", "(LTubesOfCourt$Ministry;II)I"⟩
abbrev cX9_desksWithin : ByteArray := prog_11_method_13_code
def yX9_desksWithin : MethodName := ⟨RX9, "desksWithin", "(LTubesOfCourt$Ministry;I)I"⟩
abbrev cX9_keepReach : ByteArray := prog_11_method_14_code
def yX9_keepReach : MethodName := ⟨RX9, "keepReach", "()V"⟩
abbrev cX9_laterAt : ByteArray := prog_11_method_15_code
def yX9_laterAt : MethodName := ⟨RX9, "laterAt", "(I)I"⟩
abbrev cX9_deskToMeet : ByteArray := prog_11_method_16_code
def yX9_deskToMeet : MethodName := ⟨RX9, "deskToMeet", "(LTubesOfCourt$Ministry;)I"⟩
abbrev cX9_longestFrom : ByteArray := prog_11_method_17_code
def yX9_longestFrom : MethodName := ⟨RX9, "longestFrom", "(LTubesOfCourt$Ministry;I)I"⟩
def RX10 : String := "TubesOfCourt"
def TX10 : u_T := fun k => match k with
  | 0 => ("TubesOfCourt", "ministry", "LTubesOfCourt$Ministry;", true)
  | 1 => ("TubesOfCourt", "kept", "LTubesOfCourt$Ministry;", true)
  | 2 => ("TubesOfCourt", "draft", "LTubesOfCourt$Ministry;", true)
  | 3 => ("TubesOfCourt", "shelves", "LTubesOfCourt$Shelves;", true)
  | 4 => ("TubesOfCourt", "ways", "LTubesOfCourt$Ways;", true)
  | 5 => ("TubesOfCourt", "rounds", "LTubesOfCourt$Rounds;", true)
  | 6 => ("TubesOfCourt", "cuts", "LTubesOfCourt$Cuts;", true)
  | 7 => ("TubesOfCourt", "knocks", "LTubesOfCourt$Knocks;", true)
  | 8 => ("TubesOfCourt", "joining", "LTubesOfCourt$Joining;", true)
  | 9 => ("TubesOfCourt", "reader", "LTubesOfCourt$PlanReader;", true)
  | 10 => ("TubesOfCourt", "days", "LTubesOfCourt$Days;", true)
  | 11 => ("TubesOfCourt", "moves", "LTubesOfCourt$Moves;", true)
  | 12 => ("TubesOfCourt", "refusals", "[I", true)
  | 13 => ("TubesOfCourt", "imageTaken", "Z", false)
  | _ => ("TubesOfCourt", "latestFault", "I", false)
def tyX10 : Nat → FieldType := fun k => match k with
  | 0 => .object "TubesOfCourt$Ministry"
  | 1 => .object "TubesOfCourt$Ministry"
  | 2 => .object "TubesOfCourt$Ministry"
  | 3 => .object "TubesOfCourt$Shelves"
  | 4 => .object "TubesOfCourt$Ways"
  | 5 => .object "TubesOfCourt$Rounds"
  | 6 => .object "TubesOfCourt$Cuts"
  | 7 => .object "TubesOfCourt$Knocks"
  | 8 => .object "TubesOfCourt$Joining"
  | 9 => .object "TubesOfCourt$PlanReader"
  | 10 => .object "TubesOfCourt$Days"
  | 11 => .object "TubesOfCourt$Moves"
  | 12 => .array .int
  | 13 => .boolean
  | _ => .int
abbrev wsX100 : List Cond := u_ws RX10 TX10 15
theorem nmX10 : ∀ a, a < 15 → ∀ b, b < 15 → a ≠ b → (TX10 a).2.1 ≠ (TX10 b).2.1 := by decide +kernel
theorem tyX10_ok : ∀ k, k < 15 → parseFieldDescriptor (TX10 k).2.2.1 = some (tyX10 k) := by decide +kernel
abbrev cX10_init : ByteArray := prog_1_method_1_code
def yX10_init : MethodName := ⟨RX10, "<init>", "()V"⟩
abbrev cX10_row : ByteArray := prog_1_method_2_code
def yX10_row : MethodName := ⟨RX10, "row", "(III)I"⟩
abbrev cX10_set : ByteArray := prog_1_method_3_code
def yX10_set : MethodName := ⟨RX10, "set", "(IIJ)I"⟩
abbrev cX10_copy : ByteArray := prog_1_method_4_code
def yX10_copy : MethodName := ⟨RX10, "copy", "(IIIII)I"⟩
abbrev cX10_element : ByteArray := prog_1_method_5_code
def yX10_element : MethodName := ⟨RX10, "element", "(II)J"⟩
abbrev cX10_show : ByteArray := prog_1_method_6_code
def yX10_show : MethodName := ⟨RX10, "show", "(II)I"⟩
abbrev cX10_holds : ByteArray := prog_1_method_7_code
def yX10_holds : MethodName := ⟨RX10, "holds", "(I)I"⟩
abbrev cX10_says : ByteArray := prog_1_method_8_code
def yX10_says : MethodName := ⟨RX10, "says", "(II)I"⟩
abbrev cX10_desk : ByteArray := prog_1_method_9_code
def yX10_desk : MethodName := ⟨RX10, "desk", "()I"⟩
abbrev cX10_tube : ByteArray := prog_1_method_10_code
def yX10_tube : MethodName := ⟨RX10, "tube", "(IIII)I"⟩
abbrev cX10_capsule : ByteArray := prog_1_method_11_code
def yX10_capsule : MethodName := ⟨RX10, "capsule", "(IIII)I"⟩
abbrev cX10_shut : ByteArray := prog_1_method_12_code
def yX10_shut : MethodName := ⟨RX10, "shut", "(IZ)I"⟩
abbrev cX10_ask : ByteArray := prog_1_method_13_code
def yX10_ask : MethodName := ⟨RX10, "ask", "(I)I"⟩
abbrev cX10_capsuleOf : ByteArray := prog_1_method_14_code
def yX10_capsuleOf : MethodName := ⟨RX10, "capsuleOf", "(II)I"⟩
abbrev cX10_tubeOf : ByteArray := prog_1_method_15_code
def yX10_tubeOf : MethodName := ⟨RX10, "tubeOf", "(II)I"⟩
abbrev cX10_signed : ByteArray := prog_1_method_16_code
def yX10_signed : MethodName := ⟨RX10, "signed", "(I)I"⟩
abbrev cX10_plan : ByteArray := prog_1_method_17_code
def yX10_plan : MethodName := ⟨RX10, "plan", "(I)I"⟩
abbrev cX10_fault : ByteArray := prog_1_method_18_code
def yX10_fault : MethodName := ⟨RX10, "fault", "()I"⟩
abbrev cX10_time : ByteArray := prog_1_method_19_code
def yX10_time : MethodName := ⟨RX10, "time", "(II)I"⟩
abbrev cX10_way : ByteArray := prog_1_method_20_code
def yX10_way : MethodName := ⟨RX10, "way", "(III)I"⟩
abbrev cX10_within : ByteArray := prog_1_method_21_code
def yX10_within : MethodName := ⟨RX10, "within", "(II)I"⟩
abbrev cX10_round : ByteArray := prog_1_method_22_code
def yX10_round : MethodName := ⟨RX10, "round", "(IIII)I"⟩
abbrev cX10_meet : ByteArray := prog_1_method_23_code
def yX10_meet : MethodName := ⟨RX10, "meet", "(III)I"⟩
abbrev cX10_cut : ByteArray := prog_1_method_24_code
def yX10_cut : MethodName := ⟨RX10, "cut", "(III)I"⟩
abbrev cX10_stuck : ByteArray := prog_1_method_25_code
def yX10_stuck : MethodName := ⟨RX10, "stuck", "(II)I"⟩
abbrev cX10_listen : ByteArray := prog_1_method_26_code
def yX10_listen : MethodName := ⟨RX10, "listen", "(II)I"⟩
abbrev cX10_enough : ByteArray := prog_1_method_27_code
def yX10_enough : MethodName := ⟨RX10, "enough", "(III)I"⟩
abbrev cX10_tree : ByteArray := prog_1_method_28_code
def yX10_tree : MethodName := ⟨RX10, "tree", "(I)I"⟩
abbrev cX10_seat : ByteArray := prog_1_method_29_code
def yX10_seat : MethodName := ⟨RX10, "seat", "(II)I"⟩
abbrev cX10_judge : ByteArray := prog_1_method_30_code
def yX10_judge : MethodName := ⟨RX10, "judge", "(II)I"⟩
abbrev cX10_behind : ByteArray := prog_1_method_31_code
def yX10_behind : MethodName := ⟨RX10, "behind", "(III)I"⟩
abbrev cX10_done : ByteArray := prog_1_method_32_code
def yX10_done : MethodName := ⟨RX10, "done", "(II)I"⟩
abbrev cX10_send : ByteArray := prog_1_method_33_code
def yX10_send : MethodName := ⟨RX10, "send", "(IIZ)I"⟩
abbrev cX10_months : ByteArray := prog_1_method_34_code
def yX10_months : MethodName := ⟨RX10, "months", "(I)I"⟩
abbrev cX10_seed : ByteArray := prog_1_method_35_code
def yX10_seed : MethodName := ⟨RX10, "seed", "(I)I"⟩
abbrev cX10_act : ByteArray := prog_1_method_36_code
def yX10_act : MethodName := ⟨RX10, "act", "(III)I"⟩
abbrev cX10_trace : ByteArray := prog_1_method_37_code
def yX10_trace : MethodName := ⟨RX10, "trace", "(I)I"⟩
abbrev cX10_image : ByteArray := prog_1_method_38_code
def yX10_image : MethodName := ⟨RX10, "image", "()I"⟩
abbrev cX10_restore : ByteArray := prog_1_method_39_code
def yX10_restore : MethodName := ⟨RX10, "restore", "()I"⟩
abbrev cX10_status : ByteArray := prog_1_method_40_code
def yX10_status : MethodName := ⟨RX10, "status", "(I)I"⟩
abbrev cX10_refuse : ByteArray := prog_1_method_41_code
def yX10_refuse : MethodName := ⟨RX10, "refuse", "(I)I"⟩
abbrev cX10_rowRefusal : ByteArray := prog_1_method_42_code
def yX10_rowRefusal : MethodName := ⟨RX10, "rowRefusal", "(I)I"⟩
abbrev cX10_copyRefusal : ByteArray := prog_1_method_43_code
def yX10_copyRefusal : MethodName := ⟨RX10, "copyRefusal", "(II)I"⟩
abbrev cX10_knocksRefusal : ByteArray := prog_1_method_44_code
def yX10_knocksRefusal : MethodName := ⟨RX10, "knocksRefusal", "(II)I"⟩
abbrev cX10_legsRefusal : ByteArray := prog_1_method_45_code
def yX10_legsRefusal : MethodName := ⟨RX10, "legsRefusal", "(II)I"⟩
abbrev cX10_standsOnDraft : ByteArray := prog_1_method_46_code
def yX10_standsOnDraft : MethodName := ⟨RX10, "standsOnDraft", "(II)Z"⟩
abbrev cX10_isOneToNine : ByteArray := prog_1_method_47_code
def yX10_isOneToNine : MethodName := ⟨RX10, "isOneToNine", "(I)Z"⟩
abbrev cX10_isDeskNumber : ByteArray := prog_1_method_48_code
def yX10_isDeskNumber : MethodName := ⟨RX10, "isDeskNumber", "(I)Z"⟩
abbrev cX10_isUnder : ByteArray := prog_1_method_49_code
def yX10_isUnder : MethodName := ⟨RX10, "isUnder", "(II)Z"⟩
def RX11 : String := "TubesOfCourtModel"
def TX11 : u_T := fun k => match k with
  | 0 => ("TubesOfCourtModel", "refused", "[I", true)
  | 1 => ("TubesOfCourtModel", "now", "[I", true)
  | 2 => ("TubesOfCourtModel", "kept", "[I", true)
  | 3 => ("TubesOfCourtModel", "mind", "[I", true)
  | 4 => ("TubesOfCourtModel", "isKept", "Z", false)
  | 5 => ("TubesOfCourtModel", "holds", "[I", true)
  | 6 => ("TubesOfCourtModel", "sizes", "[I", true)
  | 7 => ("TubesOfCourtModel", "elements", "[J", true)
  | 8 => ("TubesOfCourtModel", "moved", "[J", true)
  | 9 => ("TubesOfCourtModel", "above", "[I", true)
  | 10 => ("TubesOfCourtModel", "words", "[Ljava/lang/String;", true)
  | 11 => ("TubesOfCourtModel", "shelf", "I", false)
  | 12 => ("TubesOfCourtModel", "place", "I", false)
  | 13 => ("TubesOfCourtModel", "fault", "I", false)
  | 14 => ("TubesOfCourtModel", "far", "[I", true)
  | 15 => ("TubesOfCourtModel", "left", "[I", true)
  | 16 => ("TubesOfCourtModel", "other", "[I", true)
  | 17 => ("TubesOfCourtModel", "flow", "[I", true)
  | 18 => ("TubesOfCourtModel", "seen", "[Z", true)
  | 19 => ("TubesOfCourtModel", "minutes", "I", false)
  | 20 => ("TubesOfCourtModel", "signs", "I", false)
  | 21 => ("TubesOfCourtModel", "track", "[I", true)
  | 22 => ("TubesOfCourtModel", "ran", "I", false)
  | 23 => ("TubesOfCourtModel", "m", "I", false)
  | 24 => ("TubesOfCourtModel", "k", "I", false)
  | _ => ("TubesOfCourtModel", "own", "I", false)
def tyX11 : Nat → FieldType := fun k => match k with
  | 0 => .array .int
  | 1 => .array .int
  | 2 => .array .int
  | 3 => .array .int
  | 4 => .boolean
  | 5 => .array .int
  | 6 => .array .int
  | 7 => .array .long
  | 8 => .array .long
  | 9 => .array .int
  | 10 => .array (.object "java/lang/String")
  | 11 => .int
  | 12 => .int
  | 13 => .int
  | 14 => .array .int
  | 15 => .array .int
  | 16 => .array .int
  | 17 => .array .int
  | 18 => .array .boolean
  | 19 => .int
  | 20 => .int
  | 21 => .array .int
  | 22 => .int
  | 23 => .int
  | 24 => .int
  | _ => .int
abbrev wsX110 : List Cond := u_ws RX11 TX11 26
theorem nmX11 : ∀ a, a < 26 → ∀ b, b < 26 → a ≠ b → (TX11 a).2.1 ≠ (TX11 b).2.1 := by decide +kernel
theorem tyX11_ok : ∀ k, k < 26 → parseFieldDescriptor (TX11 k).2.2.1 = some (tyX11 k) := by decide +kernel
abbrev cX11_init : ByteArray := prog_13_method_1_code
def yX11_init : MethodName := ⟨RX11, "<init>", "()V"⟩
abbrev cX11_isIn : ByteArray := prog_13_method_2_code
def yX11_isIn : MethodName := ⟨RX11, "isIn", "(JJJ)Z"⟩
abbrev cX11_refuse : ByteArray := prog_13_method_3_code
def yX11_refuse : MethodName := ⟨RX11, "refuse", "(I)I"⟩
abbrev cX11_refuseBy10 : ByteArray := prog_13_method_4_code
def yX11_refuseBy10 : MethodName := ⟨RX11, "refuseBy10", "(I)I"⟩
abbrev cX11_fresh : ByteArray := prog_13_method_5_code
def yX11_fresh : MethodName := ⟨RX11, "fresh", "()[I"⟩
abbrev cX11_move : ByteArray := prog_13_method_6_code
def yX11_move : MethodName := ⟨RX11, "move", "([I[I)V"⟩
abbrev cX11_isDesk : ByteArray := prog_13_method_7_code
def yX11_isDesk : MethodName := ⟨RX11, "isDesk", "(J)Z"⟩
abbrev cX11_isTube : ByteArray := prog_13_method_8_code
def yX11_isTube : MethodName := ⟨RX11, "isTube", "(I)Z"⟩
abbrev cX11_isCapsule : ByteArray := prog_13_method_9_code
def yX11_isCapsule : MethodName := ⟨RX11, "isCapsule", "(J)Z"⟩
abbrev cX11_from : ByteArray := prog_13_method_10_code
def yX11_from : MethodName := ⟨RX11, "from", "(I)I"⟩
abbrev cX11_to : ByteArray := prog_13_method_11_code
def yX11_to : MethodName := ⟨RX11, "to", "(I)I"⟩
abbrev cX11_length : ByteArray := prog_13_method_12_code
def yX11_length : MethodName := ⟨RX11, "length", "(I)I"⟩
abbrev cX11_bore : ByteArray := prog_13_method_13_code
def yX11_bore : MethodName := ⟨RX11, "bore", "(I)I"⟩
abbrev cX11_isShut : ByteArray := prog_13_method_14_code
def yX11_isShut : MethodName := ⟨RX11, "isShut", "(I)Z"⟩
abbrev cX11_kind : ByteArray := prog_13_method_15_code
def yX11_kind : MethodName := ⟨RX11, "kind", "(I)I"⟩
abbrev cX11_a : ByteArray := prog_13_method_16_code
def yX11_a : MethodName := ⟨RX11, "a", "(I)I"⟩
abbrev cX11_weight : ByteArray := prog_13_method_17_code
def yX11_weight : MethodName := ⟨RX11, "weight", "(I)I"⟩
abbrev cX11_at : ByteArray := prog_13_method_18_code
def yX11_at : MethodName := ⟨RX11, "at", "(I)I"⟩
abbrev cX11_addDesk : ByteArray := prog_13_method_19_code
def yX11_addDesk : MethodName := ⟨RX11, "addDesk", "()I"⟩
abbrev cX11_addTube : ByteArray := prog_13_method_20_code
def yX11_addTube : MethodName := ⟨RX11, "addTube", "(IIII)I"⟩
abbrev cX11_addCapsule : ByteArray := prog_13_method_21_code
def yX11_addCapsule : MethodName := ⟨RX11, "addCapsule", "(IIII)I"⟩
abbrev cX11_desk : ByteArray := prog_13_method_22_code
def yX11_desk : MethodName := ⟨RX11, "desk", "()I"⟩
abbrev cX11_tube : ByteArray := prog_13_method_23_code
def yX11_tube : MethodName := ⟨RX11, "tube", "(IIII)I"⟩
abbrev cX11_capsule : ByteArray := prog_13_method_24_code
def yX11_capsule : MethodName := ⟨RX11, "capsule", "(IIII)I"⟩
abbrev cX11_shut : ByteArray := prog_13_method_25_code
def yX11_shut : MethodName := ⟨RX11, "shut", "(IZ)I"⟩
abbrev cX11_ask : ByteArray := prog_13_method_26_code
def yX11_ask : MethodName := ⟨RX11, "ask", "(I)I"⟩
abbrev cX11_capsuleOf : ByteArray := prog_13_method_27_code
def yX11_capsuleOf : MethodName := ⟨RX11, "capsuleOf", "(II)I"⟩
abbrev cX11_tubeOf : ByteArray := prog_13_method_28_code
def yX11_tubeOf : MethodName := ⟨RX11, "tubeOf", "(II)I"⟩
abbrev cX11_signed : ByteArray := prog_13_method_29_code
def yX11_signed : MethodName := ⟨RX11, "signed", "(I)I"⟩
abbrev cX11_isShelf : ByteArray := prog_13_method_30_code
def yX11_isShelf : MethodName := ⟨RX11, "isShelf", "(I)Z"⟩
abbrev cX11_row : ByteArray := prog_13_method_31_code
def yX11_row : MethodName := ⟨RX11, "row", "(III)I"⟩
abbrev cX11_rowIn : ByteArray := prog_13_method_32_code
def yX11_rowIn : MethodName := ⟨RX11, "rowIn", "(I)I"⟩
abbrev cX11_set : ByteArray := prog_13_method_33_code
def yX11_set : MethodName := ⟨RX11, "set", "(IIJ)I"⟩
abbrev cX11_isCapsuleIn : ByteArray := prog_13_method_34_code
def yX11_isCapsuleIn : MethodName := ⟨RX11, "isCapsuleIn", "(I)Z"⟩
abbrev cX11_copy : ByteArray := prog_13_method_35_code
def yX11_copy : MethodName := ⟨RX11, "copy", "(IIIII)I"⟩
abbrev cX11_element : ByteArray := prog_13_method_36_code
def yX11_element : MethodName := ⟨RX11, "element", "(II)J"⟩
abbrev cX11_told : ByteArray := prog_13_method_37_code
def yX11_told : MethodName := ⟨RX11, "told", "(II)I"⟩
abbrev cX11_show : ByteArray := prog_13_method_38_code
def yX11_show : MethodName := ⟨RX11, "show", "(II)I"⟩
abbrev cX11_holds : ByteArray := prog_13_method_39_code
def yX11_holds : MethodName := ⟨RX11, "holds", "(I)I"⟩
abbrev cX11_says : ByteArray := prog_13_method_40_code
def yX11_says : MethodName := ⟨RX11, "says", "(II)I"⟩
abbrev cX11_letter : ByteArray := prog_13_method_41_code
def yX11_letter : MethodName := ⟨RX11, "letter", "()I"⟩
abbrev cX11_isFault : ByteArray := prog_13_method_42_code
def yX11_isFault : MethodName := ⟨RX11, "isFault", "(I)Z"⟩
abbrev cX11_isLetter : ByteArray := prog_13_method_43_code
def yX11_isLetter : MethodName := ⟨RX11, "isLetter", "(I)Z"⟩
abbrev cX11_word : ByteArray := prog_13_method_44_code
def yX11_word : MethodName := ⟨RX11, "word", "()I"⟩
abbrev cX11_number : ByteArray := prog_13_method_45_code
def yX11_number : MethodName := ⟨RX11, "number", "(III)I"⟩
abbrev cX11_isItem : ByteArray := prog_13_method_46_code
def yX11_isItem : MethodName := ⟨RX11, "isItem", "()Z"⟩
abbrev cX11_plan : ByteArray := prog_13_method_47_code
def yX11_plan : MethodName := ⟨RX11, "plan", "(I)I"⟩
abbrev cX11_fault : ByteArray := prog_13_method_48_code
def yX11_fault : MethodName := ⟨RX11, "fault", "()I"⟩
abbrev cX11_may : ByteArray := prog_13_method_49_code
def yX11_may : MethodName := ⟨RX11, "may", "(IIZ)Z"⟩
abbrev cX11_timeOf : ByteArray := prog_13_method_50_code
def yX11_timeOf : MethodName := ⟨RX11, "timeOf", "(II)I"⟩
abbrev cX11_time : ByteArray := prog_13_method_51_code
def yX11_time : MethodName := ⟨RX11, "time", "(II)I"⟩
abbrev cX11_clear : ByteArray := prog_13_method_52_code
def yX11_clear : MethodName := ⟨RX11, "clear", "()V"⟩
abbrev cX11_nearer : ByteArray := prog_13_method_53_code
def yX11_nearer : MethodName := ⟨RX11, "nearer", "(III)V"⟩
abbrev cX11_close : ByteArray := prog_13_method_54_code
def yX11_close : MethodName := ⟨RX11, "close", "()V"⟩
abbrev cX11_fill : ByteArray := prog_13_method_55_code
def yX11_fill : MethodName := ⟨RX11, "fill", "(IZ)V"⟩
abbrev cX11_way : ByteArray := prog_13_method_56_code
def yX11_way : MethodName := ⟨RX11, "way", "(II)I"⟩
abbrev cX11_orNone : ByteArray := prog_13_method_57_code
def yX11_orNone : MethodName := ⟨RX11, "orNone", "(I)I"⟩
abbrev cX11_first : ByteArray := prog_13_method_58_code
def yX11_first : MethodName := ⟨RX11, "first", "(II)I"⟩
abbrev cX11_way_ : ByteArray := prog_13_method_59_code
def yX11_way_ : MethodName := ⟨RX11, "way", "(III)I"⟩
abbrev cX11_within : ByteArray := prog_13_method_60_code
def yX11_within : MethodName := ⟨RX11, "within", "(II)I"⟩
abbrev cX11_ones : ByteArray := prog_13_method_61_code
def yX11_ones : MethodName := ⟨RX11, "ones", "(I)I"⟩
abbrev cX11_fillRounds : ByteArray := prog_13_method_62_code
def yX11_fillRounds : MethodName := ⟨RX11, "fillRounds", "()V"⟩
abbrev cX11_round : ByteArray := prog_13_method_63_code
def yX11_round : MethodName := ⟨RX11, "round", "(IIII)I"⟩
abbrev cX11_meet : ByteArray := prog_13_method_64_code
def yX11_meet : MethodName := ⟨RX11, "meet", "(III)I"⟩
abbrev cX11_push : ByteArray := prog_13_method_65_code
def yX11_push : MethodName := ⟨RX11, "push", "(III[Z)Z"⟩
abbrev cX11_pushes : ByteArray := prog_13_method_66_code
def yX11_pushes : MethodName := ⟨RX11, "pushes", "(II)Z"⟩
abbrev cX11_keep : ByteArray := prog_13_method_67_code
def yX11_keep : MethodName := ⟨RX11, "keep", "(II)I"⟩
abbrev cX11_cut : ByteArray := prog_13_method_68_code
def yX11_cut : MethodName := ⟨RX11, "cut", "(III)I"⟩
abbrev cX11_sound : ByteArray := prog_13_method_69_code
def yX11_sound : MethodName := ⟨RX11, "sound", "()V"⟩
abbrev cX11_heard : ByteArray := prog_13_method_70_code
def yX11_heard : MethodName := ⟨RX11, "heard", "(II)I"⟩
abbrev cX11_knocks : ByteArray := prog_13_method_71_code
def yX11_knocks : MethodName := ⟨RX11, "knocks", "(II)I"⟩
abbrev cX11_fit : ByteArray := prog_13_method_72_code
def yX11_fit : MethodName := ⟨RX11, "fit", "(II)I"⟩
abbrev cX11_stuck : ByteArray := prog_13_method_73_code
def yX11_stuck : MethodName := ⟨RX11, "stuck", "(II)I"⟩
abbrev cX11_lag : ByteArray := prog_13_method_74_code
def yX11_lag : MethodName := ⟨RX11, "lag", "(III)I"⟩
abbrev cX11_listen : ByteArray := prog_13_method_75_code
def yX11_listen : MethodName := ⟨RX11, "listen", "(II)I"⟩
abbrev cX11_enough : ByteArray := prog_13_method_76_code
def yX11_enough : MethodName := ⟨RX11, "enough", "(III)I"⟩
abbrev cX11_tree : ByteArray := prog_13_method_77_code
def yX11_tree : MethodName := ⟨RX11, "tree", "(I)I"⟩
abbrev cX11_seat : ByteArray := prog_13_method_78_code
def yX11_seat : MethodName := ⟨RX11, "seat", "(II)I"⟩
abbrev cX11_legs : ByteArray := prog_13_method_79_code
def yX11_legs : MethodName := ⟨RX11, "legs", "(II)I"⟩
abbrev cX11_leg : ByteArray := prog_13_method_80_code
def yX11_leg : MethodName := ⟨RX11, "leg", "(IIZ)I"⟩
abbrev cX11_day : ByteArray := prog_13_method_81_code
def yX11_day : MethodName := ⟨RX11, "day", "(II)I"⟩
abbrev cX11_judge : ByteArray := prog_13_method_82_code
def yX11_judge : MethodName := ⟨RX11, "judge", "(II)I"⟩
abbrev cX11_after : ByteArray := prog_13_method_83_code
def yX11_after : MethodName := ⟨RX11, "after", "(III)I"⟩
abbrev cX11_done : ByteArray := prog_13_method_84_code
def yX11_done : MethodName := ⟨RX11, "done", "(II)I"⟩
abbrev cX11_send : ByteArray := prog_13_method_85_code
def yX11_send : MethodName := ⟨RX11, "send", "(IIZ)I"⟩
abbrev cX11_draw : ByteArray := prog_13_method_86_code
def yX11_draw : MethodName := ⟨RX11, "draw", "(I)I"⟩
abbrev cX11_months : ByteArray := prog_13_method_87_code
def yX11_months : MethodName := ⟨RX11, "months", "(I)I"⟩
abbrev cX11_seed : ByteArray := prog_13_method_88_code
def yX11_seed : MethodName := ⟨RX11, "seed", "(I)I"⟩
abbrev cX11_began : ByteArray := prog_13_method_89_code
def yX11_began : MethodName := ⟨RX11, "began", "(I)V"⟩
abbrev cX11_hisses : ByteArray := prog_13_method_90_code
def yX11_hisses : MethodName := ⟨RX11, "hisses", "(II)I"⟩
abbrev cX11_lands : ByteArray := prog_13_method_91_code
def yX11_lands : MethodName := ⟨RX11, "lands", "(II)I"⟩
abbrev cX11_signs : ByteArray := prog_13_method_92_code
def yX11_signs : MethodName := ⟨RX11, "signs", "(II)I"⟩
abbrev cX11_act : ByteArray := prog_13_method_93_code
def yX11_act : MethodName := ⟨RX11, "act", "(III)I"⟩
abbrev cX11_trace : ByteArray := prog_13_method_94_code
def yX11_trace : MethodName := ⟨RX11, "trace", "(I)I"⟩
abbrev cX11_behind : ByteArray := prog_13_method_95_code
def yX11_behind : MethodName := ⟨RX11, "behind", "(III)I"⟩
abbrev cX11_image : ByteArray := prog_13_method_96_code
def yX11_image : MethodName := ⟨RX11, "image", "()I"⟩
abbrev cX11_restore : ByteArray := prog_13_method_97_code
def yX11_restore : MethodName := ⟨RX11, "restore", "()I"⟩
abbrev cX11_status : ByteArray := prog_13_method_98_code
def yX11_status : MethodName := ⟨RX11, "status", "(I)I"⟩
def RJx145de : String := "java/io/Serializable"
def TJx145de : u_T := fun k => match k with
  | _ => ("", "", "", false)
def tyJx145de : Nat → FieldType := fun k => match k with
  | _ => .int
abbrev wsJx145de0 : List Cond := u_ws RJx145de TJx145de 0
theorem nmJx145de : ∀ a, a < 0 → ∀ b, b < 0 → a ≠ b → (TJx145de a).2.1 ≠ (TJx145de b).2.1 := by decide +kernel
theorem tyJx145de_ok : ∀ k, k < 0 → parseFieldDescriptor (TJx145de k).2.2.1 = some (tyJx145de k) := by decide +kernel
def RJx9f9b0 : String := "java/lang/CharSequence"
def TJx9f9b0 : u_T := fun k => match k with
  | _ => ("", "", "", false)
def tyJx9f9b0 : Nat → FieldType := fun k => match k with
  | _ => .int
abbrev wsJx9f9b00 : List Cond := u_ws RJx9f9b0 TJx9f9b0 0
theorem nmJx9f9b0 : ∀ a, a < 0 → ∀ b, b < 0 → a ≠ b → (TJx9f9b0 a).2.1 ≠ (TJx9f9b0 b).2.1 := by decide +kernel
theorem tyJx9f9b0_ok : ∀ k, k < 0 → parseFieldDescriptor (TJx9f9b0 k).2.2.1 = some (tyJx9f9b0 k) := by decide +kernel
def RJxb160c : String := "java/lang/Comparable"
def TJxb160c : u_T := fun k => match k with
  | _ => ("", "", "", false)
def tyJxb160c : Nat → FieldType := fun k => match k with
  | _ => .int
abbrev wsJxb160c0 : List Cond := u_ws RJxb160c TJxb160c 0
theorem nmJxb160c : ∀ a, a < 0 → ∀ b, b < 0 → a ≠ b → (TJxb160c a).2.1 ≠ (TJxb160c b).2.1 := by decide +kernel
theorem tyJxb160c_ok : ∀ k, k < 0 → parseFieldDescriptor (TJxb160c k).2.2.1 = some (tyJxb160c k) := by decide +kernel
def RJ6 : String := "java/lang/Integer"
def TJ6 : u_T := fun k => match k with
  | _ => ("", "", "", false)
def tyJ6 : Nat → FieldType := fun k => match k with
  | _ => .int
abbrev wsJ60 : List Cond := u_ws RJ6 TJ6 0
theorem nmJ6 : ∀ a, a < 0 → ∀ b, b < 0 → a ≠ b → (TJ6 a).2.1 ≠ (TJ6 b).2.1 := by decide +kernel
theorem tyJ6_ok : ∀ k, k < 0 → parseFieldDescriptor (TJ6 k).2.2.1 = some (tyJ6 k) := by decide +kernel
abbrev cJ6_bitCount_0f7a4 : ByteArray := prog_14_method_49_code
def yJ6_bitCount_0f7a4 : MethodName := ⟨RJ6, "bitCount", "(I)I"⟩
def RJ9 : String := "java/lang/Math"
def TJ9 : u_T := fun k => match k with
  | _ => ("", "", "", false)
def tyJ9 : Nat → FieldType := fun k => match k with
  | _ => .int
abbrev wsJ90 : List Cond := u_ws RJ9 TJ9 0
theorem nmJ9 : ∀ a, a < 0 → ∀ b, b < 0 → a ≠ b → (TJ9 a).2.1 ≠ (TJ9 b).2.1 := by decide +kernel
theorem tyJ9_ok : ∀ k, k < 0 → parseFieldDescriptor (TJ9 k).2.2.1 = some (tyJ9 k) := by decide +kernel
abbrev cJ9_max_7cf53 : ByteArray := prog_15_method_65_code
def yJ9_max_7cf53 : MethodName := ⟨RJ9, "max", "(II)I"⟩
abbrev cJ9_min_7cf53 : ByteArray := prog_15_method_69_code
def yJ9_min_7cf53 : MethodName := ⟨RJ9, "min", "(II)I"⟩
def RJ0 : String := "java/lang/String"
def TJ0 : u_T := fun k => match k with
  | _ => ("", "", "", false)
def tyJ0 : Nat → FieldType := fun k => match k with
  | _ => .int
abbrev wsJ00 : List Cond := u_ws RJ0 TJ0 0
theorem nmJ0 : ∀ a, a < 0 → ∀ b, b < 0 → a ≠ b → (TJ0 a).2.1 ≠ (TJ0 b).2.1 := by decide +kernel
theorem tyJ0_ok : ∀ k, k < 0 → parseFieldDescriptor (TJ0 k).2.2.1 = some (tyJ0 k) := by decide +kernel
abbrev cJ0_length_8abf5 : ByteArray := prog_16_method_54_code
def yJ0_length_8abf5 : MethodName := ⟨RJ0, "length", "()I"⟩
abbrev cJ0_charAt_5068e : ByteArray := prog_16_method_56_code
def yJ0_charAt_5068e : MethodName := ⟨RJ0, "charAt", "(I)C"⟩
abbrev cJ0_coder_7d493 : ByteArray := prog_16_method_152_code
def yJ0_coder_7d493 : MethodName := ⟨RJ0, "coder", "()B"⟩
abbrev cJ0_isLatin1_aae02 : ByteArray := prog_16_method_154_code
def yJ0_isLatin1_aae02 : MethodName := ⟨RJ0, "isLatin1", "()Z"⟩
abbrev cJ0_checkIndex_df160 : ByteArray := prog_16_method_155_code
def yJ0_checkIndex_df160 : MethodName := ⟨RJ0, "checkIndex", "(II)V"⟩
def RJ1 : String := "java/lang/StringLatin1"
def TJ1 : u_T := fun k => match k with
  | _ => ("", "", "", false)
def tyJ1 : Nat → FieldType := fun k => match k with
  | _ => .int
abbrev wsJ10 : List Cond := u_ws RJ1 TJ1 0
theorem nmJ1 : ∀ a, a < 0 → ∀ b, b < 0 → a ≠ b → (TJ1 a).2.1 ≠ (TJ1 b).2.1 := by decide +kernel
theorem tyJ1_ok : ∀ k, k < 0 → parseFieldDescriptor (TJ1 k).2.2.1 = some (tyJ1 k) := by decide +kernel
abbrev cJ1_charAt_3b067 : ByteArray := prog_17_method_2_code
def yJ1_charAt_3b067 : MethodName := ⟨RJ1, "charAt", "([BI)C"⟩
def RJ2 : String := "java/lang/StringUTF16"
def TJ2 : u_T := fun k => match k with
  | _ => ("", "", "", false)
def tyJ2 : Nat → FieldType := fun k => match k with
  | _ => .int
abbrev wsJ20 : List Cond := u_ws RJ2 TJ2 0
theorem nmJ2 : ∀ a, a < 0 → ∀ b, b < 0 → a ≠ b → (TJ2 a).2.1 ≠ (TJ2 b).2.1 := by decide +kernel
theorem tyJ2_ok : ∀ k, k < 0 → parseFieldDescriptor (TJ2 k).2.2.1 = some (tyJ2 k) := by decide +kernel
abbrev cJ2_getChar_3b067 : ByteArray := prog_18_method_5_code
def yJ2_getChar_3b067 : MethodName := ⟨RJ2, "getChar", "([BI)C"⟩
abbrev cJ2_length_9d52b : ByteArray := prog_18_method_6_code
def yJ2_length_9d52b : MethodName := ⟨RJ2, "length", "([B)I"⟩
abbrev cJ2_charAt_3b067 : ByteArray := prog_18_method_83_code
def yJ2_charAt_3b067 : MethodName := ⟨RJ2, "charAt", "([BI)C"⟩
abbrev cJ2_checkIndex_2214a : ByteArray := prog_18_method_91_code
def yJ2_checkIndex_2214a : MethodName := ⟨RJ2, "checkIndex", "(I[B)V"⟩
def RJ10 : String := "java/lang/System"
def TJ10 : u_T := fun k => match k with
  | _ => ("", "", "", false)
def tyJ10 : Nat → FieldType := fun k => match k with
  | _ => .int
abbrev wsJ100 : List Cond := u_ws RJ10 TJ10 0
theorem nmJ10 : ∀ a, a < 0 → ∀ b, b < 0 → a ≠ b → (TJ10 a).2.1 ≠ (TJ10 b).2.1 := by decide +kernel
theorem tyJ10_ok : ∀ k, k < 0 → parseFieldDescriptor (TJ10 k).2.2.1 = some (tyJ10 k) := by decide +kernel
def RJxfd54e : String := "java/lang/constant/Constable"
def TJxfd54e : u_T := fun k => match k with
  | _ => ("", "", "", false)
def tyJxfd54e : Nat → FieldType := fun k => match k with
  | _ => .int
abbrev wsJxfd54e0 : List Cond := u_ws RJxfd54e TJxfd54e 0
theorem nmJxfd54e : ∀ a, a < 0 → ∀ b, b < 0 → a ≠ b → (TJxfd54e a).2.1 ≠ (TJxfd54e b).2.1 := by decide +kernel
theorem tyJxfd54e_ok : ∀ k, k < 0 → parseFieldDescriptor (TJxfd54e k).2.2.1 = some (tyJxfd54e k) := by decide +kernel
def RJx3cf43 : String := "java/lang/constant/ConstantDesc"
def TJx3cf43 : u_T := fun k => match k with
  | _ => ("", "", "", false)
def tyJx3cf43 : Nat → FieldType := fun k => match k with
  | _ => .int
abbrev wsJx3cf430 : List Cond := u_ws RJx3cf43 TJx3cf43 0
theorem nmJx3cf43 : ∀ a, a < 0 → ∀ b, b < 0 → a ≠ b → (TJx3cf43 a).2.1 ≠ (TJx3cf43 b).2.1 := by decide +kernel
theorem tyJx3cf43_ok : ∀ k, k < 0 → parseFieldDescriptor (TJx3cf43 k).2.2.1 = some (tyJx3cf43 k) := by decide +kernel
def RJ7 : String := "java/util/Arrays"
def TJ7 : u_T := fun k => match k with
  | _ => ("", "", "", false)
def tyJ7 : Nat → FieldType := fun k => match k with
  | _ => .int
abbrev wsJ70 : List Cond := u_ws RJ7 TJ7 0
theorem nmJ7 : ∀ a, a < 0 → ∀ b, b < 0 → a ≠ b → (TJ7 a).2.1 ≠ (TJ7 b).2.1 := by decide +kernel
theorem tyJ7_ok : ∀ k, k < 0 → parseFieldDescriptor (TJ7 k).2.2.1 = some (tyJ7 k) := by decide +kernel
abbrev cJ7_fill_d0a16 : ByteArray := prog_20_method_101_code
def yJ7_fill_d0a16 : MethodName := ⟨RJ7, "fill", "([JJ)V"⟩
abbrev cJ7_fill_53178 : ByteArray := prog_20_method_103_code
def yJ7_fill_53178 : MethodName := ⟨RJ7, "fill", "([II)V"⟩
def RJ3 : String := "jdk/internal/util/Preconditions"
def TJ3 : u_T := fun k => match k with
  | _ => ("", "", "", false)
def tyJ3 : Nat → FieldType := fun k => match k with
  | _ => .int
abbrev wsJ30 : List Cond := u_ws RJ3 TJ3 0
theorem nmJ3 : ∀ a, a < 0 → ∀ b, b < 0 → a ≠ b → (TJ3 a).2.1 ≠ (TJ3 b).2.1 := by decide +kernel
theorem tyJ3_ok : ∀ k, k < 0 → parseFieldDescriptor (TJ3 k).2.2.1 = some (tyJ3 k) := by decide +kernel
abbrev cJ3_checkIndex_8e157 : ByteArray := prog_21_method_11_code
def yJ3_checkIndex_8e157 : MethodName := ⟨RJ3, "checkIndex", "(IILjava/util/function/BiFunction;)I"⟩
def RL : String := "TubesOfCourtLaw"
abbrev cL_law : ByteArray := code
def yL_law : MethodName := ⟨RL, "law", "([I)Z"⟩
def WS0 : List Cond := [.classLink RL 7 RX10, .instantiable RX10 15, .initialized RX10, .classLink RL 10 RX11, .instantiable RX11 26, .initialized RX11, .constantLong RL 18 (4294967295), .methodLink RL 9 yX10_init, .instanceMethod yX10_init, .code yX10_init cX10_init 1 none, .methodLink RX10 1 objectInit, .instanceMethod objectInit, .code objectInit ⟨#[0xb1]⟩ 1 none, .classLink RX10 7 RX4, .instantiable RX4 16, .initialized RX4, .fieldLink RX10 10 "TubesOfCourt" "ministry" "LTubesOfCourt$Ministry;", .fieldLink RX10 16 "TubesOfCourt" "kept" "LTubesOfCourt$Ministry;", .fieldLink RX10 19 "TubesOfCourt" "draft" "LTubesOfCourt$Ministry;", .classLink RX10 22 RX8, .instantiable RX8 3, .initialized RX8, .fieldLink RX10 25 "TubesOfCourt" "shelves" "LTubesOfCourt$Shelves;", .classLink RX10 29 RX9, .instantiable RX9 6, .initialized RX9, .fieldLink RX10 32 "TubesOfCourt" "ways" "LTubesOfCourt$Ways;", .classLink RX10 36 RX7, .instantiable RX7 1, .initialized RX7, .fieldLink RX10 39 "TubesOfCourt" "rounds" "LTubesOfCourt$Rounds;", .classLink RX10 43 RX0, .instantiable RX0 2, .initialized RX0, .fieldLink RX10 46 "TubesOfCourt" "cuts" "LTubesOfCourt$Cuts;", .classLink RX10 50 RX3, .instantiable RX3 4, .initialized RX3, .fieldLink RX10 53 "TubesOfCourt" "knocks" "LTubesOfCourt$Knocks;", .classLink RX10 57 RX2]
set_option maxRecDepth 20000 in
theorem wsg0 : GoodIn lw_tbl WS0 := goodIn_r WS0 [107, 108, 87, 1128, 1129, 98, 1624, 109, 110, 111, 112, 113, 114, 115, 116, 88, 383, 384, 385, 209, 210, 89, 386, 228, 229, 90, 387, 258, 259, 91, 388, 268, 269, 92, 389, 281, 282, 93, 390, 301] (by decide +kernel) (by decide +kernel)
def WS1 : List Cond := [.instantiable RX2 3, .initialized RX2, .fieldLink RX10 60 "TubesOfCourt" "joining" "LTubesOfCourt$Joining;", .classLink RX10 64 RX6, .instantiable RX6 6, .initialized RX6, .fieldLink RX10 67 "TubesOfCourt" "reader" "LTubesOfCourt$PlanReader;", .classLink RX10 71 RX1, .instantiable RX1 2, .initialized RX1, .fieldLink RX10 74 "TubesOfCourt" "days" "LTubesOfCourt$Days;", .classLink RX10 78 RX5, .instantiable RX5 5, .initialized RX5, .fieldLink RX10 81 "TubesOfCourt" "moves" "LTubesOfCourt$Moves;", .arrayClass .int, .fieldLink RX10 85 "TubesOfCourt" "refusals" "[I", .fieldLink RX10 89 "TubesOfCourt" "imageTaken" "Z", .fieldLink RX10 93 "TubesOfCourt" "latestFault" "I", .instanceMethod yX4_init, .code yX4_init cX4_init 1 none, .methodLink RX4 3 objectInit, .fieldLink RX4 9 "TubesOfCourt$Ministry" "desks" "I", .fieldLink RX4 15 "TubesOfCourt$Ministry" "signed" "[I", .fieldLink RX4 19 "TubesOfCourt$Ministry" "tubes" "I", .fieldLink RX4 22 "TubesOfCourt$Ministry" "from" "[I", .fieldLink RX4 25 "TubesOfCourt$Ministry" "to" "[I", .fieldLink RX4 28 "TubesOfCourt$Ministry" "length" "[I", .fieldLink RX4 31 "TubesOfCourt$Ministry" "bore" "[I", .fieldLink RX4 34 "TubesOfCourt$Ministry" "shutBits" "I", .fieldLink RX4 37 "TubesOfCourt$Ministry" "capsules" "I", .fieldLink RX4 40 "TubesOfCourt$Ministry" "kind" "[I", .fieldLink RX4 43 "TubesOfCourt$Ministry" "a" "[I", .fieldLink RX4 46 "TubesOfCourt$Ministry" "weight" "[I", .fieldLink RX4 49 "TubesOfCourt$Ministry" "at" "[I", .fieldLink RX4 52 "TubesOfCourt$Ministry" "pressure" "I", .fieldLink RX4 55 "TubesOfCourt$Ministry" "minutes" "I", .fieldLink RX4 58 "TubesOfCourt$Ministry" "seed" "I", .instanceMethod yX8_init, .code yX8_init cX8_init 1 none]
set_option maxRecDepth 20000 in
theorem wsg1 : GoodIn lw_tbl WS1 := goodIn_r WS1 [302, 94, 391, 319, 320, 95, 392, 345, 346, 96, 393, 360, 361, 97, 394, 208, 395, 396, 397, 118, 119, 120, 121, 127, 129, 135, 141, 147, 151, 153, 154, 157, 159, 161, 163, 166, 171, 173, 212, 213] (by decide +kernel) (by decide +kernel)
def WS2 : List Cond := [.methodLink RX8 3 objectInit, .fieldLink RX8 9 "TubesOfCourt$Shelves" "held" "[I", .fieldLink RX8 15 "TubesOfCourt$Shelves" "sizes" "[I", .classLink RX8 18 "[[J", .arrayClass .long, .fieldLink RX8 20 "TubesOfCourt$Shelves" "rows" "[[J", .instanceMethod yX9_init, .code yX9_init cX9_init 1 none, .methodLink RX9 3 objectInit, .fieldLink RX9 9 "TubesOfCourt$Ways" "minutes" "[I", .arrayClass .boolean, .fieldLink RX9 15 "TubesOfCourt$Ways" "forth" "[Z", .fieldLink RX9 19 "TubesOfCourt$Ways" "back" "[Z", .fieldLink RX9 22 "TubesOfCourt$Ways" "reach" "[I", .fieldLink RX9 25 "TubesOfCourt$Ways" "reachOfOne" "[I", .classLink RX9 28 "[[I", .fieldLink RX9 30 "TubesOfCourt$Ways" "table" "[[I", .instanceMethod yX7_init, .code yX7_init cX7_init 1 none, .methodLink RX7 3 objectInit, .fieldLink RX7 9 "TubesOfCourt$Rounds" "best" "[I", .instanceMethod yX0_init, .code yX0_init cX0_init 1 none, .methodLink RX0 3 objectInit, .fieldLink RX0 9 "TubesOfCourt$Cuts" "flow" "[I", .fieldLink RX0 15 "TubesOfCourt$Cuts" "cameBy" "[I", .instanceMethod yX3_init, .code yX3_init cX3_init 1 none, .methodLink RX3 3 objectInit, .fieldLink RX3 9 "TubesOfCourt$Knocks" "toldDesks" "[I", .fieldLink RX3 15 "TubesOfCourt$Knocks" "toldMinutes" "[I", .fieldLink RX3 18 "TubesOfCourt$Knocks" "told" "I", .classLink RX3 22 "[[I", .fieldLink RX3 24 "TubesOfCourt$Knocks" "delays" "[[I", .instanceMethod yX2_init, .code yX2_init cX2_init 1 none, .methodLink RX2 3 objectInit, .fieldLink RX2 9 "TubesOfCourt$Joining" "group" "[I", .fieldLink RX2 15 "TubesOfCourt$Joining" "sum" "I", .fieldLink RX2 19 "TubesOfCourt$Joining" "chosen" "I"]
set_option maxRecDepth 20000 in
theorem wsg2 : GoodIn lw_tbl WS2 := goodIn_r WS2 [214, 217, 218, 215, 227, 219, 231, 232, 233, 236, 257, 237, 239, 241, 242, 234, 243, 261, 262, 263, 264, 271, 272, 273, 274, 275, 284, 285, 286, 288, 289, 290, 287, 291, 304, 305, 306, 307, 308, 310] (by decide +kernel) (by decide +kernel)
def WS3 : List Cond := [.instanceMethod yX6_init, .code yX6_init cX6_init 1 none, .methodLink RX6 3 objectInit, .fieldLink RX6 9 "TubesOfCourt$PlanReader" "letters" "[I", .fieldLink RX6 15 "TubesOfCourt$PlanReader" "numbers" "[I", .fieldLink RX6 18 "TubesOfCourt$PlanReader" "size" "I", .fieldLink RX6 22 "TubesOfCourt$PlanReader" "place" "I", .fieldLink RX6 25 "TubesOfCourt$PlanReader" "faultPlace" "I", .fieldLink RX6 28 "TubesOfCourt$PlanReader" "items" "I", .instanceMethod yX1_init, .code yX1_init cX1_init 1 none, .methodLink RX1 3 objectInit, .fieldLink RX1 9 "TubesOfCourt$Days" "minutes" "I", .fieldLink RX1 15 "TubesOfCourt$Days" "signs" "I", .instanceMethod yX5_init, .code yX5_init cX5_init 1 none, .methodLink RX5 3 objectInit, .fieldLink RX5 9 "TubesOfCourt$Moves" "bodies" "[I", .fieldLink RX5 15 "TubesOfCourt$Moves" "ran" "I", .fieldLink RX5 19 "TubesOfCourt$Moves" "ownKind" "I", .fieldLink RX5 22 "TubesOfCourt$Moves" "number" "I", .fieldLink RX5 25 "TubesOfCourt$Moves" "k" "I", .methodLink RL 12 yX11_init, .instanceMethod yX11_init, .code yX11_init cX11_init 1 none, .methodLink RX11 1 objectInit, .fieldLink RX11 7 "TubesOfCourtModel" "refused" "[I", .fieldLink RX11 17 "TubesOfCourtModel" "now" "[I", .fieldLink RX11 20 "TubesOfCourtModel" "kept" "[I", .fieldLink RX11 23 "TubesOfCourtModel" "mind" "[I", .fieldLink RX11 26 "TubesOfCourtModel" "holds" "[I", .fieldLink RX11 29 "TubesOfCourtModel" "sizes" "[I", .fieldLink RX11 32 "TubesOfCourtModel" "elements" "[J", .fieldLink RX11 36 "TubesOfCourtModel" "moved" "[J", .fieldLink RX11 39 "TubesOfCourtModel" "above" "[I", .classLink RX11 42 RJ0, .fieldLink RX11 56 "TubesOfCourtModel" "words" "[Ljava/lang/String;", .fieldLink RX11 60 "TubesOfCourtModel" "fault" "I", .fieldLink RX11 64 "TubesOfCourtModel" "far" "[I", .fieldLink RX11 67 "TubesOfCourtModel" "left" "[I"]
set_option maxRecDepth 20000 in
theorem wsg3 : GoodIn lw_tbl WS3 := goodIn_r WS3 [322, 323, 324, 325, 326, 327, 328, 329, 330, 348, 349, 350, 351, 353, 363, 364, 365, 366, 367, 369, 370, 371, 1130, 1131, 1132, 1133, 1145, 1146, 1147, 1148, 1150, 1151, 1152, 1153, 1154, 1137, 1155, 1158, 1159, 1160] (by decide +kernel) (by decide +kernel)
def WS4 : List Cond := [.fieldLink RX11 70 "TubesOfCourtModel" "other" "[I", .fieldLink RX11 73 "TubesOfCourtModel" "flow" "[I", .fieldLink RX11 76 "TubesOfCourtModel" "seen" "[Z", .fieldLink RX11 80 "TubesOfCourtModel" "track" "[I", .methodLink RX11 13 yX11_fresh, .static yX11_fresh, .code yX11_fresh cX11_fresh 1 (some (.array .int)), .methodLink RL 13 yX10_row, .instanceMethod yX10_row, .selects RX10 yX10_row yX10_row, .code yX10_row cX10_row 4 (some .int), .methodLink RX10 97 yX8_hasShelf, .instanceMethod yX8_hasShelf, .selects RX8 yX8_hasShelf yX8_hasShelf, .code yX8_hasShelf cX8_hasShelf 2 (some .boolean), .methodLink RX10 101 yX10_refuse, .instanceMethod yX10_refuse, .selects RX10 yX10_refuse yX10_refuse, .code yX10_refuse cX10_refuse 3 (some .int), .methodLink RX10 105 yX8_putRow, .instanceMethod yX8_putRow, .selects RX8 yX8_putRow yX8_putRow, .code yX8_putRow cX8_putRow 4 none, .methodLink RX8 23 yX8_hasShelf, .methodLink RX8 27 yJ7_fill_d0a16, .static yJ7_fill_d0a16, .initialized RJ7, .code yJ7_fill_d0a16 cJ7_fill_d0a16 5 none, .methodLink RL 17 yX11_row, .instanceMethod yX11_row, .selects RX11 yX11_row yX11_row, .code yX11_row cX11_row 5 (some .int), .constantLong RX11 117 (3), .methodLink RX11 123 yX11_isShelf, .static yX11_isShelf, .code yX11_isShelf cX11_isShelf 1 (some .boolean), .constantLong RX11 121 (7), .methodLink RX11 87 yX11_isIn, .static yX11_isIn, .code yX11_isIn cX11_isIn 6 (some .boolean)]
set_option maxRecDepth 20000 in
theorem wsg4 : GoodIn lw_tbl WS4 := goodIn_r WS4 [1161, 1162, 1163, 1166, 1134, 1135, 1136, 429, 430, 431, 432, 433, 434, 435, 436, 437, 439, 0, 440, 441, 442, 443, 444, 445, 446, 447, 99, 448, 1291, 1292, 1293, 1294, 1281, 1295, 1296, 1297, 1298, 1244, 1245, 1246] (by decide +kernel) (by decide +kernel)
def WS5 : List Cond := [.methodLink RX11 83 yX11_refuse, .instanceMethod yX11_refuse, .selects RX11 yX11_refuse yX11_refuse, .code yX11_refuse cX11_refuse 2 (some .int), .methodLink RL 20 yX10_set, .instanceMethod yX10_set, .selects RX10 yX10_set yX10_set, .code yX10_set cX10_set 6 (some .int), .methodLink RX10 109 yX10_rowRefusal, .instanceMethod yX10_rowRefusal, .selects RX10 yX10_rowRefusal yX10_rowRefusal, .code yX10_rowRefusal cX10_rowRefusal 3 (some .int), .methodLink RX10 142 yX8_heldAt, .instanceMethod yX8_heldAt, .selects RX8 yX8_heldAt yX8_heldAt, .code yX8_heldAt cX8_heldAt 2 (some .int), .methodLink RX10 112 yX8_sizeOf, .instanceMethod yX8_sizeOf, .selects RX8 yX8_sizeOf yX8_sizeOf, .code yX8_sizeOf cX8_sizeOf 2 (some .int), .methodLink RX10 115 yX8_putElement, .instanceMethod yX8_putElement, .selects RX8 yX8_putElement yX8_putElement, .code yX8_putElement cX8_putElement 5 none, .methodLink RX8 37 yX8_hasElement, .instanceMethod yX8_hasElement, .selects RX8 yX8_hasElement yX8_hasElement, .code yX8_hasElement cX8_hasElement 3 (some .boolean), .methodLink RX8 33 yX8_sizeOf, .methodLink RX8 45 yX8_lowestBits, .static yX8_lowestBits, .code yX8_lowestBits cX8_lowestBits 3 (some .long), .methodLink RL 24 yX11_set, .instanceMethod yX11_set, .selects RX11 yX11_set yX11_set, .code yX11_set cX11_set 6 (some .int), .methodLink RX11 126 yX11_rowIn, .instanceMethod yX11_rowIn, .selects RX11 yX11_rowIn yX11_rowIn, .code yX11_rowIn cX11_rowIn 2 (some .int)]
set_option maxRecDepth 20000 in
theorem wsg5 : GoodIn lw_tbl WS5 := goodIn_r WS5 [1228, 1230, 34, 1231, 449, 450, 451, 452, 453, 455, 1, 456, 457, 458, 459, 460, 461, 462, 463, 464, 465, 466, 467, 468, 469, 470, 471, 472, 473, 474, 475, 476, 1299, 1300, 1301, 1302, 1303, 1305, 41, 1306] (by decide +kernel) (by decide +kernel)
def WS6 : List Cond := [.methodLink RL 25 yX10_copy, .instanceMethod yX10_copy, .selects RX10 yX10_copy yX10_copy, .code yX10_copy cX10_copy 7 (some .int), .methodLink RX10 119 yX10_copyRefusal, .instanceMethod yX10_copyRefusal, .selects RX10 yX10_copyRefusal yX10_copyRefusal, .code yX10_copyRefusal cX10_copyRefusal 5 (some .int), .methodLink RX10 123 yX8_hasPart, .instanceMethod yX8_hasPart, .selects RX8 yX8_hasPart yX8_hasPart, .code yX8_hasPart cX8_hasPart 4 (some .boolean), .methodLink RX10 127 yX8_copyPart, .instanceMethod yX8_copyPart, .selects RX8 yX8_copyPart yX8_copyPart, .code yX8_copyPart cX8_copyPart 6 none, .methodLink RX8 56 arraycopyName, .native arraycopyName, .static arraycopyName, .initialized "java/lang/System", .methodLink RX8 49 yX8_hasRow, .instanceMethod yX8_hasRow, .selects RX8 yX8_hasRow yX8_hasRow, .code yX8_hasRow cX8_hasRow 2 (some .boolean), .methodLink RX8 52 yX8_hasPart, .methodLink RL 29 yX11_copy, .instanceMethod yX11_copy, .selects RX11 yX11_copy yX11_copy, .code yX11_copy cX11_copy 8 (some .int), .methodLink RX11 131 yX11_isCapsuleIn, .instanceMethod yX11_isCapsuleIn, .selects RX11 yX11_isCapsuleIn yX11_isCapsuleIn, .code yX11_isCapsuleIn cX11_isCapsuleIn 2 (some .boolean), .constantLong RX11 129 (99), .methodLink RL 30 yX10_element, .instanceMethod yX10_element, .selects RX10 yX10_element yX10_element, .code yX10_element cX10_element 3 (some .long), .methodLink RX10 131 yX8_elementAt, .instanceMethod yX8_elementAt]
set_option maxRecDepth 20000 in
theorem wsg6 : GoodIn lw_tbl WS6 := goodIn_r WS6 [477, 478, 479, 480, 481, 483, 2, 484, 485, 486, 487, 488, 489, 490, 491, 492, 498, 500, 499, 100, 493, 494, 495, 496, 497, 1307, 1308, 1309, 1310, 1311, 1313, 42, 1314, 1315, 501, 502, 503, 504, 505, 506] (by decide +kernel) (by decide +kernel)
def WS7 : List Cond := [.selects RX8 yX8_elementAt yX8_elementAt, .code yX8_elementAt cX8_elementAt 3 (some .long), .methodLink RL 34 yX11_element, .instanceMethod yX11_element, .selects RX11 yX11_element yX11_element, .code yX11_element cX11_element 3 (some .long), .methodLink RL 35 yX10_show, .instanceMethod yX10_show, .selects RX10 yX10_show yX10_show, .code yX10_show cX10_show 3 (some .int), .methodLink RX10 135 yX4_hasCapsule, .instanceMethod yX4_hasCapsule, .selects RX4 yX4_hasCapsule yX4_hasCapsule, .code yX4_hasCapsule cX4_hasCapsule 2 (some .boolean), .methodLink RX10 138 yX8_putHeld, .instanceMethod yX8_putHeld, .selects RX8 yX8_putHeld yX8_putHeld, .code yX8_putHeld cX8_putHeld 3 none, .methodLink RL 39 yX11_show, .instanceMethod yX11_show, .selects RX11 yX11_show yX11_show, .code yX11_show cX11_show 3 (some .int), .methodLink RX11 114 yX11_isCapsule, .instanceMethod yX11_isCapsule, .selects RX11 yX11_isCapsule yX11_isCapsule, .code yX11_isCapsule cX11_isCapsule 3 (some .boolean), .methodLink RL 40 yX10_holds, .instanceMethod yX10_holds, .selects RX10 yX10_holds yX10_holds, .code yX10_holds cX10_holds 2 (some .int), .methodLink RL 44 yX11_holds, .instanceMethod yX11_holds, .selects RX11 yX11_holds yX11_holds, .code yX11_holds cX11_holds 2 (some .int), .methodLink RL 45 yX10_says, .instanceMethod yX10_says, .selects RX10 yX10_says yX10_says, .code yX10_says cX10_says 4 (some .int), .methodLink RX10 148 yX10_isUnder, .static yX10_isUnder]
set_option maxRecDepth 20000 in
theorem wsg7 : GoodIn lw_tbl WS7 := goodIn_r WS7 [507, 508, 1316, 1317, 1318, 1319, 509, 510, 511, 512, 513, 514, 515, 516, 517, 518, 519, 520, 1320, 1321, 1322, 1323, 1277, 1279, 40, 1280, 521, 522, 523, 524, 1324, 1325, 1326, 1327, 525, 526, 527, 528, 529, 530] (by decide +kernel) (by decide +kernel)
def WS8 : List Cond := [.code yX10_isUnder cX10_isUnder 4 (some .boolean), .fieldLink RX10 386 "TubesOfCourt" "KIND_ABOVE" "[I", .methodLink RL 48 yX11_says, .instanceMethod yX11_says, .selects RX11 yX11_says yX11_says, .code yX11_says cX11_says 5 (some .int), .constantLong RX11 105 (6), .methodLink RX11 134 yX11_kind, .instanceMethod yX11_kind, .selects RX11 yX11_kind yX11_kind, .code yX11_kind cX11_kind 2 (some .int), .methodLink RX11 137 yX11_at, .instanceMethod yX11_at, .selects RX11 yX11_at yX11_at, .code yX11_at cX11_at 2 (some .int), .methodLink RX11 140 yX11_a, .instanceMethod yX11_a, .selects RX11 yX11_a yX11_a, .code yX11_a cX11_a 2 (some .int), .methodLink RX11 143 yX11_weight, .instanceMethod yX11_weight, .selects RX11 yX11_weight yX11_weight, .code yX11_weight cX11_weight 2 (some .int), .methodLink RL 49 yX10_desk, .instanceMethod yX10_desk, .selects RX10 yX10_desk yX10_desk, .code yX10_desk cX10_desk 1 (some .int), .methodLink RX10 164 yX4_hasRoomForDesk, .instanceMethod yX4_hasRoomForDesk, .selects RX4 yX4_hasRoomForDesk yX4_hasRoomForDesk, .code yX4_hasRoomForDesk cX4_hasRoomForDesk 1 (some .boolean), .methodLink RX10 168 yX4_addDesk, .instanceMethod yX4_addDesk, .selects RX4 yX4_addDesk yX4_addDesk, .code yX4_addDesk cX4_addDesk 1 none, .methodLink RX4 61 yX4_hasRoomForDesk, .methodLink RL 53 yX11_desk, .instanceMethod yX11_desk, .selects RX11 yX11_desk yX11_desk, .code yX11_desk cX11_desk 1 (some .int)]
set_option maxRecDepth 20000 in
theorem wsg8 : GoodIn lw_tbl WS8 := goodIn_r WS8 [531, 532, 1328, 1329, 1330, 1331, 1256, 1332, 1334, 43, 1335, 1336, 1338, 44, 1339, 1340, 1342, 45, 1343, 1344, 1346, 46, 1347, 534, 535, 536, 537, 538, 539, 540, 541, 542, 543, 544, 545, 546, 1224, 1225, 1226, 1227] (by decide +kernel) (by decide +kernel)
def WS9 : List Cond := [.methodLink RX11 91 yX11_addDesk, .instanceMethod yX11_addDesk, .selects RX11 yX11_addDesk yX11_addDesk, .code yX11_addDesk cX11_addDesk 2 (some .int), .methodLink RL 54 yX10_tube, .instanceMethod yX10_tube, .selects RX10 yX10_tube yX10_tube, .code yX10_tube cX10_tube 5 (some .int), .methodLink RX10 174 yX4_hasDesk, .instanceMethod yX4_hasDesk, .selects RX4 yX4_hasDesk yX4_hasDesk, .code yX4_hasDesk cX4_hasDesk 2 (some .boolean), .methodLink RX10 177 yX10_isOneToNine, .static yX10_isOneToNine, .code yX10_isOneToNine cX10_isOneToNine 1 (some .boolean), .methodLink RX10 180 yX4_hasRoomForTube, .instanceMethod yX4_hasRoomForTube, .selects RX4 yX4_hasRoomForTube yX4_hasRoomForTube, .code yX4_hasRoomForTube cX4_hasRoomForTube 1 (some .boolean), .methodLink RX10 183 yX4_addTube, .instanceMethod yX4_addTube, .selects RX4 yX4_addTube yX4_addTube, .code yX4_addTube cX4_addTube 5 none, .methodLink RX4 65 yX4_hasRoomForTube, .methodLink RX4 68 yX4_putShut, .instanceMethod yX4_putShut, .selects RX4 yX4_putShut yX4_putShut, .code yX4_putShut cX4_putShut 3 none, .methodLink RX4 75 yX4_hasTube, .instanceMethod yX4_hasTube, .selects RX4 yX4_hasTube yX4_hasTube, .code yX4_hasTube cX4_hasTube 2 (some .boolean), .methodLink RL 58 yX11_tube, .instanceMethod yX11_tube, .selects RX11 yX11_tube yX11_tube, .code yX11_tube cX11_tube 5 (some .int), .constantLong RX11 99 (9), .methodLink RX11 95 yX11_isDesk, .instanceMethod yX11_isDesk, .selects RX11 yX11_isDesk yX11_isDesk]
set_option maxRecDepth 20000 in
theorem wsg9 : GoodIn lw_tbl WS9 := goodIn_r WS9 [1232, 1234, 35, 1235, 547, 548, 549, 550, 551, 552, 553, 554, 555, 556, 557, 558, 559, 560, 561, 562, 563, 564, 565, 566, 567, 568, 569, 570, 571, 572, 573, 574, 1236, 1237, 1238, 1239, 1247, 1240, 1242, 36] (by decide +kernel) (by decide +kernel)
def WS10 : List Cond := [.code yX11_isDesk cX11_isDesk 3 (some .boolean), .methodLink RX11 101 yX11_addTube, .instanceMethod yX11_addTube, .selects RX11 yX11_addTube yX11_addTube, .code yX11_addTube cX11_addTube 6 (some .int), .methodLink RL 59 yX10_capsule, .instanceMethod yX10_capsule, .selects RX10 yX10_capsule yX10_capsule, .code yX10_capsule cX10_capsule 5 (some .int), .methodLink RX10 187 yX4_hasRoomForCapsule, .instanceMethod yX4_hasRoomForCapsule, .selects RX4 yX4_hasRoomForCapsule yX4_hasRoomForCapsule, .code yX4_hasRoomForCapsule cX4_hasRoomForCapsule 1 (some .boolean), .methodLink RX10 190 yX4_addCapsule, .instanceMethod yX4_addCapsule, .selects RX4 yX4_addCapsule yX4_addCapsule, .code yX4_addCapsule cX4_addCapsule 5 none, .methodLink RX4 72 yX4_hasRoomForCapsule, .methodLink RL 62 yX11_capsule, .instanceMethod yX11_capsule, .selects RX11 yX11_capsule yX11_capsule, .code yX11_capsule cX11_capsule 5 (some .int), .methodLink RX11 107 yX11_addCapsule, .instanceMethod yX11_addCapsule, .selects RX11 yX11_addCapsule yX11_addCapsule, .code yX11_addCapsule cX11_addCapsule 6 (some .int), .methodLink RL 63 yX10_shut, .instanceMethod yX10_shut, .selects RX10 yX10_shut yX10_shut, .code yX10_shut cX10_shut 4 (some .int), .methodLink RX10 196 yX4_hasTube, .methodLink RX10 199 yX4_isShut, .instanceMethod yX4_isShut, .selects RX4 yX4_isShut yX4_isShut, .code yX4_isShut cX4_isShut 2 (some .boolean), .methodLink RX10 202 yX4_putShut, .methodLink RL 67 yX11_shut, .instanceMethod yX11_shut, .selects RX11 yX11_shut yX11_shut, .code yX11_shut cX11_shut 4 (some .int)]
set_option maxRecDepth 20000 in
theorem wsg10 : GoodIn lw_tbl WS10 := goodIn_r WS10 [1243, 1248, 1250, 37, 1251, 575, 576, 577, 578, 579, 580, 581, 582, 583, 584, 585, 586, 587, 1252, 1253, 1254, 1255, 1257, 1259, 38, 1260, 588, 589, 590, 591, 592, 593, 594, 595, 596, 597, 1261, 1262, 1263, 1264] (by decide +kernel) (by decide +kernel)
def WS11 : List Cond := [.methodLink RX11 110 yX11_isTube, .instanceMethod yX11_isTube, .selects RX11 yX11_isTube yX11_isTube, .code yX11_isTube cX11_isTube 2 (some .boolean), .methodLink RL 68 yX10_ask, .instanceMethod yX10_ask, .selects RX10 yX10_ask yX10_ask, .code yX10_ask cX10_ask 3 (some .int), .methodLink RL 71 yX11_ask, .instanceMethod yX11_ask, .selects RX11 yX11_ask yX11_ask, .code yX11_ask cX11_ask 3 (some .int), .methodLink RL 72 yX10_capsuleOf, .instanceMethod yX10_capsuleOf, .selects RX10 yX10_capsuleOf yX10_capsuleOf, .code yX10_capsuleOf cX10_capsuleOf 3 (some .int), .methodLink RL 75 yX11_capsuleOf, .instanceMethod yX11_capsuleOf, .selects RX11 yX11_capsuleOf yX11_capsuleOf, .code yX11_capsuleOf cX11_capsuleOf 3 (some .int), .methodLink RL 76 yX10_tubeOf, .instanceMethod yX10_tubeOf, .selects RX10 yX10_tubeOf yX10_tubeOf, .code yX10_tubeOf cX10_tubeOf 3 (some .int), .methodLink RL 79 yX11_tubeOf, .instanceMethod yX11_tubeOf, .selects RX11 yX11_tubeOf yX11_tubeOf, .code yX11_tubeOf cX11_tubeOf 3 (some .int), .constantLong RX11 119 (4), .methodLink RL 80 yX10_signed, .instanceMethod yX10_signed, .selects RX10 yX10_signed yX10_signed, .code yX10_signed cX10_signed 2 (some .int), .methodLink RL 83 yX11_signed, .instanceMethod yX11_signed, .selects RX11 yX11_signed yX11_signed, .code yX11_signed cX11_signed 2 (some .int), .methodLink RL 84 yX10_plan, .instanceMethod yX10_plan, .selects RX10 yX10_plan yX10_plan]
set_option maxRecDepth 20000 in
theorem wsg11 : GoodIn lw_tbl WS11 := goodIn_r WS11 [1265, 1267, 39, 1268, 598, 599, 600, 601, 1269, 1270, 1271, 1272, 602, 603, 604, 605, 1273, 1274, 1275, 1276, 606, 607, 608, 609, 1282, 1283, 1284, 1285, 1286, 610, 611, 612, 613, 1287, 1288, 1289, 1290, 614, 615, 616] (by decide +kernel) (by decide +kernel)
def WS12 : List Cond := [.code yX10_plan cX10_plan 3 (some .int), .methodLink RX10 224 yX4_takeOver, .instanceMethod yX4_takeOver, .selects RX4 yX4_takeOver yX4_takeOver, .code yX4_takeOver cX4_takeOver 2 none, .methodLink RX4 79 arraycopyName, .methodLink RX10 228 yX6_findFault, .instanceMethod yX6_findFault, .selects RX6 yX6_findFault yX6_findFault, .code yX6_findFault cX6_findFault 5 (some .int), .methodLink RX6 37 Lib.Math.min.name, .static Lib.Math.min.name, .initialized "java/lang/Math", .code Lib.Math.min.name Lib.Math.min.code 2 (some .int), .methodLink RX6 31 yX8_sizeOf, .methodLink RX6 43 yX8_intAt, .instanceMethod yX8_intAt, .selects RX8 yX8_intAt yX8_intAt, .code yX8_intAt cX8_intAt 3 (some .int), .methodLink RX8 41 yX8_elementAt, .methodLink RX6 46 yX6_readItem, .instanceMethod yX6_readItem, .selects RX6 yX6_readItem yX6_readItem, .code yX6_readItem cX6_readItem 6 (some .boolean), .methodLink RX6 62 yX6_wordThatBeginsHere, .instanceMethod yX6_wordThatBeginsHere, .selects RX6 yX6_wordThatBeginsHere yX6_wordThatBeginsHere, .code yX6_wordThatBeginsHere cX6_wordThatBeginsHere 2 (some .int), .methodLink RX6 65 yX6_textOf, .static yX6_textOf, .code yX6_textOf cX6_textOf 1 (some (.object "java/lang/String")), .methodLink RX6 74 yJ0_charAt_5068e, .instanceMethod yJ0_charAt_5068e, .selects RJ0 yJ0_charAt_5068e yJ0_charAt_5068e, .initialized RJ0, .code yJ0_charAt_5068e cJ0_charAt_5068e 2 (some .char), .fieldLink RJ0 9 "java/lang/String" "value" "[B", .methodLink RJ0 492 yJ0_isLatin1_aae02, .instanceMethod yJ0_isLatin1_aae02, .selects RJ0 yJ0_isLatin1_aae02 yJ0_isLatin1_aae02]
set_option maxRecDepth 20000 in
theorem wsg12 : GoodIn lw_tbl WS12 := goodIn_r WS12 [617, 618, 619, 620, 621, 622, 623, 624, 625, 626, 628, 629, 101, 630, 627, 631, 632, 633, 634, 635, 636, 638, 3, 639, 640, 642, 4, 643, 644, 645, 646, 653, 654, 655, 102, 656, 1626, 657, 658, 659] (by decide +kernel) (by decide +kernel)
def WS13 : List Cond := [.code yJ0_isLatin1_aae02 cJ0_isLatin1_aae02 1 (some .boolean), .fieldLink RJ0 38 "java/lang/String" "COMPACT_STRINGS" "Z", .fieldLink RJ0 15 "java/lang/String" "coder" "B", .methodLink RJ0 495 yJ1_charAt_3b067, .static yJ1_charAt_3b067, .initialized RJ1, .code yJ1_charAt_3b067 cJ1_charAt_3b067 2 (some .char), .methodLink RJ1 9 yJ0_checkIndex_df160, .static yJ0_checkIndex_df160, .code yJ0_checkIndex_df160 cJ0_checkIndex_df160 2 none, .fieldLink RJ0 1053 "jdk/internal/util/Preconditions" "SIOOBE_FORMATTER" "Ljava/util/function/BiFunction;", .methodLink RJ0 1059 yJ3_checkIndex_8e157, .static yJ3_checkIndex_8e157, .initialized RJ3, .code yJ3_checkIndex_8e157 cJ3_checkIndex_8e157 3 (some .int), .methodLink RJ0 498 yJ2_charAt_3b067, .static yJ2_charAt_3b067, .initialized RJ2, .code yJ2_charAt_3b067 cJ2_charAt_3b067 2 (some .char), .methodLink RJ2 67 yJ2_checkIndex_2214a, .static yJ2_checkIndex_2214a, .code yJ2_checkIndex_2214a cJ2_checkIndex_2214a 2 none, .methodLink RJ2 48 yJ2_length_9d52b, .static yJ2_length_9d52b, .code yJ2_length_9d52b cJ2_length_9d52b 1 (some .int), .methodLink RJ2 414 yJ0_checkIndex_df160, .methodLink RJ2 71 yJ2_getChar_3b067, .static yJ2_getChar_3b067, .code yJ2_getChar_3b067 cJ2_getChar_3b067 2 (some .char), .fieldLink RJ2 44 "java/lang/StringUTF16" "$assertionsDisabled" "Z", .fieldLink RJ2 59 "java/lang/StringUTF16" "HI_BYTE_SHIFT" "I", .fieldLink RJ2 63 "java/lang/StringUTF16" "LO_BYTE_SHIFT" "I", .methodLink RX6 54 yX6_letterHere, .instanceMethod yX6_letterHere, .selects RX6 yX6_letterHere yX6_letterHere, .code yX6_letterHere cX6_letterHere 1 (some .int), .methodLink RX6 58 yX6_failAt, .instanceMethod yX6_failAt, .selects RX6 yX6_failAt yX6_failAt, .code yX6_failAt cX6_failAt 2 (some .boolean)]
set_option maxRecDepth 20000 in
theorem wsg13 : GoodIn lw_tbl WS13 := goodIn_r WS13 [660, 661, 1625, 663, 664, 103, 665, 666, 667, 668, 669, 671, 672, 104, 673, 674, 675, 105, 676, 677, 678, 679, 680, 681, 682, 683, 684, 685, 686, 687, 689, 691, 693, 695, 5, 696, 697, 699, 6, 700] (by decide +kernel) (by decide +kernel)
def WS14 : List Cond := [.methodLink RX6 69 yJ0_length_8abf5, .instanceMethod yJ0_length_8abf5, .selects RJ0 yJ0_length_8abf5 yJ0_length_8abf5, .code yJ0_length_8abf5 cJ0_length_8abf5 1 (some .int), .methodLink RJ0 335 yJ0_coder_7d493, .instanceMethod yJ0_coder_7d493, .selects RJ0 yJ0_coder_7d493 yJ0_coder_7d493, .code yJ0_coder_7d493 cJ0_coder_7d493 1 (some .byte), .methodLink RX6 50 yX6_readSign, .instanceMethod yX6_readSign, .selects RX6 yX6_readSign yX6_readSign, .code yX6_readSign cX6_readSign 2 (some .boolean), .methodLink RX6 78 yX6_hasRoomFor, .static yX6_hasRoomFor, .code yX6_hasRoomFor cX6_hasRoomFor 2 (some .boolean), .methodLink RX6 105 yX4_hasRoomForDesk, .methodLink RX6 111 yX4_hasRoomForTube, .methodLink RX6 114 yX4_hasRoomForCapsule, .methodLink RX6 82 yX6_numbersOf, .static yX6_numbersOf, .code yX6_numbersOf cX6_numbersOf 1 (some .int), .methodLink RX6 85 yX6_readNumber, .instanceMethod yX6_readNumber, .selects RX6 yX6_readNumber yX6_readNumber, .code yX6_readNumber cX6_readNumber 6 (some .boolean), .methodLink RX6 117 yX6_isDigitHere, .instanceMethod yX6_isDigitHere, .selects RX6 yX6_isDigitHere yX6_isDigitHere, .code yX6_isDigitHere cX6_isDigitHere 1 (some .boolean), .methodLink RX6 120 yX6_mayStand, .instanceMethod yX6_mayStand, .selects RX6 yX6_mayStand yX6_mayStand, .code yX6_mayStand cX6_mayStand 5 (some .boolean), .methodLink RX6 124 yX6_mayStandInTube, .instanceMethod yX6_mayStandInTube, .selects RX6 yX6_mayStandInTube yX6_mayStandInTube, .code yX6_mayStandInTube cX6_mayStandInTube 4 (some .boolean), .methodLink RX6 136 yX4_hasDesk, .methodLink RX6 127 yX6_mayStandInCapsule, .static yX6_mayStandInCapsule]
set_option maxRecDepth 20000 in
theorem wsg14 : GoodIn lw_tbl WS14 := goodIn_r WS14 [701, 702, 703, 704, 705, 706, 707, 708, 709, 711, 7, 712, 713, 714, 715, 716, 717, 718, 719, 720, 721, 722, 724, 8, 725, 726, 728, 9, 729, 730, 732, 10, 733, 734, 736, 11, 737, 738, 740, 741] (by decide +kernel) (by decide +kernel)
def WS15 : List Cond := [.code yX6_mayStandInCapsule cX6_mayStandInCapsule 3 (some .boolean), .methodLink RX6 133 yX4_hasTube, .methodLink RX6 89 yX6_tell, .instanceMethod yX6_tell, .selects RX6 yX6_tell yX6_tell, .code yX6_tell cX6_tell 3 none, .methodLink RX6 139 yX4_addDesk, .methodLink RX6 142 yX4_addTube, .methodLink RX6 146 yX4_addCapsule, .methodLink RX6 151 yX4_putShut, .methodLink RL 87 yX11_plan, .instanceMethod yX11_plan, .selects RX11 yX11_plan yX11_plan, .code yX11_plan cX11_plan 4 (some .int), .fieldLink RX11 149 "TubesOfCourtModel" "shelf" "I", .fieldLink RX11 146 "TubesOfCourtModel" "place" "I", .methodLink RX11 183 yX11_move, .static yX11_move, .code yX11_move cX11_move 3 none, .methodLink RX11 187 yX11_isItem, .instanceMethod yX11_isItem, .selects RX11 yX11_isItem yX11_isItem, .code yX11_isItem cX11_isItem 7 (some .boolean), .methodLink RX11 176 yX11_word, .instanceMethod yX11_word, .selects RX11 yX11_word yX11_word, .code yX11_word cX11_word 6 (some .int), .methodLink RX11 162 yJ0_charAt_5068e, .methodLink RX11 156 yX11_letter, .instanceMethod yX11_letter, .selects RX11 yX11_letter yX11_letter, .code yX11_letter cX11_letter 1 (some .int), .methodLink RX11 152 yX11_told, .instanceMethod yX11_told, .selects RX11 yX11_told yX11_told, .code yX11_told cX11_told 3 (some .int), .methodLink RX11 166 yJ0_length_8abf5, .methodLink RX11 159 yX11_isFault, .instanceMethod yX11_isFault, .selects RX11 yX11_isFault yX11_isFault]
set_option maxRecDepth 20000 in
theorem wsg15 : GoodIn lw_tbl WS15 := goodIn_r WS15 [742, 743, 744, 746, 12, 747, 748, 749, 750, 751, 1348, 1349, 1350, 1351, 1156, 1157, 1352, 1353, 1354, 1355, 1357, 47, 1358, 1359, 1361, 48, 1362, 1363, 1364, 1366, 49, 1367, 1368, 1370, 50, 1371, 1372, 1373, 1375, 51] (by decide +kernel) (by decide +kernel)
def WS16 : List Cond := [.code yX11_isFault cX11_isFault 2 (some .boolean), .methodLink RX11 179 yX11_number, .instanceMethod yX11_number, .selects RX11 yX11_number yX11_number, .code yX11_number cX11_number 7 (some .int), .constantLong RX11 172 (48), .constantLong RX11 174 (57), .methodLink RX11 169 yX11_isLetter, .instanceMethod yX11_isLetter, .selects RX11 yX11_isLetter yX11_isLetter, .code yX11_isLetter cX11_isLetter 2 (some .boolean), .methodLink RL 88 yX10_fault, .instanceMethod yX10_fault, .selects RX10 yX10_fault yX10_fault, .code yX10_fault cX10_fault 1 (some .int), .methodLink RL 91 yX11_fault, .instanceMethod yX11_fault, .selects RX11 yX11_fault yX11_fault, .code yX11_fault cX11_fault 1 (some .int), .methodLink RL 92 yX10_time, .instanceMethod yX10_time, .selects RX10 yX10_time yX10_time, .code yX10_time cX10_time 3 (some .int), .methodLink RX10 235 yX4_minutesThrough, .instanceMethod yX4_minutesThrough, .selects RX4 yX4_minutesThrough yX4_minutesThrough, .code yX4_minutesThrough cX4_minutesThrough 5 (some .int), .methodLink RX4 95 Lib.Math.max.name, .static Lib.Math.max.name, .code Lib.Math.max.name Lib.Math.max.code 2 (some .int), .methodLink RX4 85 yX4_hasCapsule, .methodLink RX4 91 yX4_dividedUpward, .static yX4_dividedUpward, .code yX4_dividedUpward cX4_dividedUpward 2 (some .int), .methodLink RL 95 yX11_time, .instanceMethod yX11_time, .selects RX11 yX11_time yX11_time, .code yX11_time cX11_time 3 (some .int), .methodLink RX11 204 yX11_timeOf, .instanceMethod yX11_timeOf]
set_option maxRecDepth 20000 in
theorem wsg16 : GoodIn lw_tbl WS16 := goodIn_r WS16 [1376, 1377, 1379, 52, 1380, 1385, 1386, 1381, 1383, 53, 1384, 753, 754, 755, 756, 1387, 1388, 1389, 1390, 757, 758, 759, 760, 761, 762, 763, 764, 770, 771, 772, 765, 767, 768, 769, 1391, 1392, 1393, 1394, 1395, 1397] (by decide +kernel) (by decide +kernel)
def WS17 : List Cond := [.selects RX11 yX11_timeOf yX11_timeOf, .code yX11_timeOf cX11_timeOf 7 (some .int), .methodLink RX11 199 Lib.Math.max.name, .methodLink RX11 197 yX11_length, .instanceMethod yX11_length, .selects RX11 yX11_length yX11_length, .code yX11_length cX11_length 2 (some .int), .methodLink RX11 194 yX11_bore, .instanceMethod yX11_bore, .selects RX11 yX11_bore yX11_bore, .code yX11_bore cX11_bore 2 (some .int), .methodLink RL 96 yX10_way, .instanceMethod yX10_way, .selects RX10 yX10_way yX10_way, .code yX10_way cX10_way 4 (some .int), .methodLink RX10 239 yX9_minutesTo, .instanceMethod yX9_minutesTo, .selects RX9 yX9_minutesTo yX9_minutesTo, .code yX9_minutesTo cX9_minutesTo 5 (some .int), .methodLink RX9 89 yX4_hasCapsule, .methodLink RX9 92 yX9_prepareFor, .instanceMethod yX9_prepareFor, .selects RX9 yX9_prepareFor yX9_prepareFor, .code yX9_prepareFor cX9_prepareFor 5 none, .methodLink RX9 39 yX4_minutesThrough, .methodLink RX9 43 yX4_mayGo, .instanceMethod yX4_mayGo, .selects RX4 yX4_mayGo yX4_mayGo, .code yX4_mayGo cX4_mayGo 4 (some .boolean), .methodLink RX9 79 yX9_spread, .instanceMethod yX9_spread, .selects RX9 yX9_spread yX9_spread, .code yX9_spread cX9_spread 6 none, .methodLink RX9 54 yJ7_fill_53178, .static yJ7_fill_53178, .code yJ7_fill_53178 cJ7_fill_53178 4 none, .methodLink RX9 60 yX4_hasDesk, .methodLink RX9 69 yX9_comesNearer, .instanceMethod yX9_comesNearer, .selects RX9 yX9_comesNearer yX9_comesNearer]
set_option maxRecDepth 20000 in
theorem wsg17 : GoodIn lw_tbl WS17 := goodIn_r WS17 [54, 1398, 1403, 1399, 1401, 55, 1402, 1404, 1406, 56, 1407, 773, 774, 775, 776, 777, 778, 779, 780, 781, 782, 783, 784, 785, 786, 787, 788, 789, 790, 791, 792, 793, 794, 795, 796, 797, 798, 799, 801, 13] (by decide +kernel) (by decide +kernel)
def WS18 : List Cond := [.code yX9_comesNearer cX9_comesNearer 4 (some .boolean), .static yX10_isDeskNumber, .code yX10_isDeskNumber cX10_isDeskNumber 1 (some .boolean), .methodLink RX9 99 yX9_reached, .instanceMethod yX9_reached, .selects RX9 yX9_reached yX9_reached, .code yX9_reached cX9_reached 3 (some .int), .methodLink RX10 243 yX9_firstTubeTo, .instanceMethod yX9_firstTubeTo, .selects RX9 yX9_firstTubeTo yX9_firstTubeTo, .code yX9_firstTubeTo cX9_firstTubeTo 7 (some .int), .methodLink RX9 106 yX9_fillTable, .instanceMethod yX9_fillTable, .selects RX9 yX9_fillTable yX9_fillTable, .code yX9_fillTable cX9_fillTable 3 none, .methodLink RX9 83 arraycopyName, .methodLink RX9 110 yX9_between, .instanceMethod yX9_between, .selects RX9 yX9_between yX9_between, .code yX9_between cX9_between 3 (some .int), .methodLink RX10 247 yX9_stepsTo, .instanceMethod yX9_stepsTo, .selects RX9 yX9_stepsTo yX9_stepsTo, .code yX9_stepsTo cX9_stepsTo 4 (some .int), .methodLink RL 99 yX11_way_, .instanceMethod yX11_way_, .selects RX11 yX11_way_ yX11_way_, .code yX11_way_ cX11_way_ 4 (some .int), .constantLong RX11 236 (2), .methodLink RX11 233 yX11_refuseBy10, .instanceMethod yX11_refuseBy10, .selects RX11 yX11_refuseBy10 yX11_refuseBy10, .code yX11_refuseBy10 cX11_refuseBy10 2 (some .int), .methodLink RX11 238 yX11_fill, .instanceMethod yX11_fill, .selects RX11 yX11_fill yX11_fill, .code yX11_fill cX11_fill 5 none, .methodLink RX11 214 yX11_clear, .instanceMethod yX11_clear, .selects RX11 yX11_clear yX11_clear]
set_option maxRecDepth 20000 in
theorem wsg18 : GoodIn lw_tbl WS18 := goodIn_r WS18 [802, 804, 805, 806, 808, 14, 809, 810, 811, 812, 813, 814, 815, 816, 817, 818, 819, 820, 821, 822, 823, 824, 825, 826, 1408, 1409, 1410, 1411, 1416, 1412, 1414, 57, 1415, 1417, 1419, 58, 1420, 1421, 1423, 59] (by decide +kernel) (by decide +kernel)
def WS19 : List Cond := [.code yX11_clear cX11_clear 2 none, .methodLink RX11 217 yX11_may, .instanceMethod yX11_may, .selects RX11 yX11_may yX11_may, .code yX11_may cX11_may 5 (some .boolean), .methodLink RX11 191 yX11_isShut, .instanceMethod yX11_isShut, .selects RX11 yX11_isShut yX11_isShut, .code yX11_isShut cX11_isShut 2 (some .boolean), .methodLink RX11 221 yX11_from, .instanceMethod yX11_from, .selects RX11 yX11_from yX11_from, .code yX11_from cX11_from 2 (some .int), .methodLink RX11 224 yX11_to, .instanceMethod yX11_to, .selects RX11 yX11_to yX11_to, .code yX11_to cX11_to 2 (some .int), .methodLink RX11 210 yX11_nearer, .instanceMethod yX11_nearer, .selects RX11 yX11_nearer yX11_nearer, .code yX11_nearer cX11_nearer 4 none, .methodLink RX11 207 Lib.Math.min.name, .methodLink RX11 227 yX11_close, .instanceMethod yX11_close, .selects RX11 yX11_close yX11_close, .code yX11_close cX11_close 4 none, .methodLink RX11 242 yX11_first, .instanceMethod yX11_first, .selects RX11 yX11_first yX11_first, .code yX11_first cX11_first 8 (some .int), .methodLink RX11 230 yX11_way, .instanceMethod yX11_way, .selects RX11 yX11_way yX11_way, .code yX11_way cX11_way 3 (some .int), .methodLink RX11 245 yX11_orNone, .static yX11_orNone, .code yX11_orNone cX11_orNone 1 (some .int), .methodLink RL 100 yX10_within, .instanceMethod yX10_within, .selects RX10 yX10_within yX10_within]
set_option maxRecDepth 20000 in
theorem wsg19 : GoodIn lw_tbl WS19 := goodIn_r WS19 [1424, 1425, 1427, 60, 1428, 1429, 1431, 61, 1432, 1433, 1435, 62, 1436, 1437, 1439, 63, 1440, 1441, 1443, 64, 1444, 1445, 1446, 1448, 65, 1449, 1450, 1452, 66, 1453, 1454, 1456, 67, 1457, 1458, 1459, 1460, 827, 828, 829] (by decide +kernel) (by decide +kernel)
def WS20 : List Cond := [.code yX10_within cX10_within 3 (some .int), .methodLink RX10 250 yX9_prepareFor, .methodLink RX10 254 yX9_passableTubes, .instanceMethod yX9_passableTubes, .selects RX9 yX9_passableTubes yX9_passableTubes, .code yX9_passableTubes cX9_passableTubes 4 (some .int), .methodLink RX10 258 yX9_spread, .methodLink RX10 262 yX9_desksWithin, .instanceMethod yX9_desksWithin, .selects RX9 yX9_desksWithin yX9_desksWithin, .code yX9_desksWithin cX9_desksWithin 5 (some .int), .methodLink RL 103 yX11_within, .instanceMethod yX11_within, .selects RX11 yX11_within yX11_within, .code yX11_within cX11_within 5 (some .int), .constantLong RX11 248 (-1), .constantLong RX11 250 (500), .methodLink RL 104 yX10_round, .instanceMethod yX10_round, .selects RX10 yX10_round yX10_round, .code yX10_round cX10_round 8 (some .int), .methodLink RX10 266 yJ6_bitCount_0f7a4, .static yJ6_bitCount_0f7a4, .initialized RJ6, .code yJ6_bitCount_0f7a4 cJ6_bitCount_0f7a4 1 (some .int), .constant RJ6 265 (1431655765), .constant RJ6 266 (858993459), .constant RJ6 267 (252645135), .methodLink RX10 271 yX9_fillTable, .methodLink RX10 274 yX7_leastMinutes, .instanceMethod yX7_leastMinutes, .selects RX7 yX7_leastMinutes yX7_leastMinutes, .code yX7_leastMinutes cX7_leastMinutes 7 (some .int), .methodLink RX7 15 yX7_leastFrom, .instanceMethod yX7_leastFrom, .selects RX7 yX7_leastFrom yX7_leastFrom, .code yX7_leastFrom cX7_leastFrom 7 (some .int), .methodLink RX7 27 Lib.Math.min.name, .methodLink RX7 23 yX7_leastOver, .instanceMethod yX7_leastOver]
set_option maxRecDepth 20000 in
theorem wsg20 : GoodIn lw_tbl WS20 := goodIn_r WS20 [830, 831, 832, 833, 834, 835, 836, 837, 838, 839, 840, 1461, 1462, 1463, 1464, 1465, 1466, 841, 842, 843, 844, 845, 846, 106, 847, 848, 849, 850, 851, 852, 853, 854, 855, 856, 858, 15, 859, 869, 860, 862] (by decide +kernel) (by decide +kernel)
def WS21 : List Cond := [.selects RX7 yX7_leastOver yX7_leastOver, .code yX7_leastOver cX7_leastOver 8 (some .int), .methodLink RX7 32 yX9_between, .methodLink RX7 19 yX7_bestOf, .instanceMethod yX7_bestOf, .selects RX7 yX7_bestOf yX7_bestOf, .code yX7_bestOf cX7_bestOf 4 (some .int), .methodLink RX10 278 yX7_deskOfOrder, .instanceMethod yX7_deskOfOrder, .selects RX7 yX7_deskOfOrder yX7_deskOfOrder, .code yX7_deskOfOrder cX7_deskOfOrder 10 (some .int), .methodLink RX7 37 yX7_nextOfOrder, .instanceMethod yX7_nextOfOrder, .selects RX7 yX7_nextOfOrder yX7_nextOfOrder, .code yX7_nextOfOrder cX7_nextOfOrder 6 (some .int), .methodLink RL 107 yX11_round, .instanceMethod yX11_round, .selects RX11 yX11_round yX11_round, .code yX11_round cX11_round 13 (some .int), .constantLong RX11 255 (60), .methodLink RX11 252 yX11_ones, .static yX11_ones, .code yX11_ones cX11_ones 3 (some .int), .methodLink RX11 257 yX11_fillRounds, .instanceMethod yX11_fillRounds, .selects RX11 yX11_fillRounds yX11_fillRounds, .code yX11_fillRounds cX11_fillRounds 5 none, .methodLink RL 108 yX10_meet, .instanceMethod yX10_meet, .selects RX10 yX10_meet yX10_meet, .code yX10_meet cX10_meet 5 (some .int), .methodLink RX10 282 yX9_keepReach, .instanceMethod yX9_keepReach, .selects RX9 yX9_keepReach yX9_keepReach, .code yX9_keepReach cX9_keepReach 1 none, .methodLink RX10 285 yX9_deskToMeet, .instanceMethod yX9_deskToMeet, .selects RX9 yX9_deskToMeet yX9_deskToMeet, .code yX9_deskToMeet cX9_deskToMeet 5 (some .int), .methodLink RX9 119 yX9_laterAt]
set_option maxRecDepth 20000 in
theorem wsg21 : GoodIn lw_tbl WS21 := goodIn_r WS21 [16, 863, 864, 865, 867, 17, 868, 870, 871, 872, 873, 874, 876, 18, 877, 1467, 1468, 1469, 1470, 1474, 1471, 1472, 1473, 1475, 1477, 68, 1478, 878, 879, 880, 881, 882, 883, 884, 885, 886, 887, 888, 889, 890] (by decide +kernel) (by decide +kernel)
def WS22 : List Cond := [.instanceMethod yX9_laterAt, .selects RX9 yX9_laterAt yX9_laterAt, .code yX9_laterAt cX9_laterAt 2 (some .int), .methodLink RX9 114 Lib.Math.max.name, .methodLink RX10 288 yX9_laterAt, .methodLink RL 111 yX11_meet, .instanceMethod yX11_meet, .selects RX11 yX11_meet yX11_meet, .code yX11_meet cX11_meet 8 (some .int), .methodLink RL 112 yX10_cut, .instanceMethod yX10_cut, .selects RX10 yX10_cut yX10_cut, .code yX10_cut cX10_cut 5 (some .int), .methodLink RX10 291 yX0_reaches, .instanceMethod yX0_reaches, .selects RX0 yX0_reaches yX0_reaches, .code yX0_reaches cX0_reaches 9 (some .boolean), .methodLink RX10 295 yX0_fewestTubes, .instanceMethod yX0_fewestTubes, .selects RX0 yX0_fewestTubes yX0_fewestTubes, .code yX0_fewestTubes cX0_fewestTubes 7 (some .int), .methodLink RX0 43 yJ7_fill_53178, .methodLink RX0 49 yX0_findWay, .instanceMethod yX0_findWay, .selects RX0 yX0_findWay yX0_findWay, .code yX0_findWay cX0_findWay 10 (some .boolean), .methodLink RX0 57 yX0_comeBy, .instanceMethod yX0_comeBy, .selects RX0 yX0_comeBy yX0_comeBy, .code yX0_comeBy cX0_comeBy 3 (some .int), .methodLink RX0 53 yX0_takeWay, .instanceMethod yX0_takeWay, .selects RX0 yX0_takeWay yX0_takeWay, .code yX0_takeWay cX0_takeWay 7 none, .methodLink RX0 65 yX4_hasTube, .methodLink RX10 299 yX0_neededTubes, .instanceMethod yX0_neededTubes, .selects RX0 yX0_neededTubes yX0_neededTubes, .code yX0_neededTubes cX0_neededTubes 7 (some .int), .methodLink RX0 39 yX0_reaches]
set_option maxRecDepth 20000 in
theorem wsg22 : GoodIn lw_tbl WS22 := goodIn_r WS22 [891, 892, 893, 894, 895, 1479, 1480, 1481, 1482, 896, 897, 898, 899, 900, 901, 902, 903, 904, 905, 906, 907, 908, 909, 911, 19, 912, 913, 915, 20, 916, 918, 920, 21, 921, 922, 923, 924, 925, 926, 927] (by decide +kernel) (by decide +kernel)
def WS23 : List Cond := [.methodLink RL 115 yX11_cut, .instanceMethod yX11_cut, .selects RX11 yX11_cut yX11_cut, .code yX11_cut cX11_cut 5 (some .int), .methodLink RX11 264 yX11_keep, .instanceMethod yX11_keep, .selects RX11 yX11_keep yX11_keep, .code yX11_keep cX11_keep 6 (some .int), .methodLink RX11 267 yX11_pushes, .instanceMethod yX11_pushes, .selects RX11 yX11_pushes yX11_pushes, .code yX11_pushes cX11_pushes 4 (some .boolean), .methodLink RX11 260 yX11_push, .instanceMethod yX11_push, .selects RX11 yX11_push yX11_push, .code yX11_push cX11_push 11 (some .boolean), .methodLink RL 116 yX10_stuck, .instanceMethod yX10_stuck, .selects RX10 yX10_stuck yX10_stuck, .code yX10_stuck cX10_stuck 4 (some .int), .methodLink RX10 302 yX10_knocksRefusal, .instanceMethod yX10_knocksRefusal, .selects RX10 yX10_knocksRefusal yX10_knocksRefusal, .code yX10_knocksRefusal cX10_knocksRefusal 6 (some .int), .methodLink RX10 383 yX8_intAt, .methodLink RX10 305 yX3_read, .instanceMethod yX3_read, .selects RX3 yX3_read yX3_read, .code yX3_read cX3_read 5 none, .methodLink RX3 27 Lib.Math.min.name, .methodLink RX3 33 yX8_intAt, .methodLink RX10 309 yX3_hear, .instanceMethod yX3_hear, .selects RX3 yX3_hear yX3_hear, .code yX3_hear cX3_hear 5 none, .methodLink RX3 38 yX9_prepareForKnocks, .instanceMethod yX9_prepareForKnocks, .selects RX9 yX9_prepareForKnocks yX9_prepareForKnocks, .code yX9_prepareForKnocks cX9_prepareForKnocks 3 none, .methodLink RX9 50 yX4_isShut]
set_option maxRecDepth 20000 in
theorem wsg23 : GoodIn lw_tbl WS23 := goodIn_r WS23 [1483, 1484, 1485, 1486, 1487, 1489, 69, 1490, 1491, 1493, 70, 1494, 1495, 1497, 71, 1498, 928, 929, 930, 931, 932, 934, 22, 935, 936, 937, 938, 939, 940, 941, 942, 943, 944, 945, 946, 947, 948, 949, 950, 951] (by decide +kernel) (by decide +kernel)
def WS24 : List Cond := [.methodLink RX3 44 yX9_fillTable, .methodLink RX3 58 yX9_between, .methodLink RX10 313 yX3_fittingTubes, .instanceMethod yX3_fittingTubes, .selects RX3 yX3_fittingTubes yX3_fittingTubes, .code yX3_fittingTubes cX3_fittingTubes 4 (some .int), .methodLink RX3 64 yX3_fits, .instanceMethod yX3_fits, .selects RX3 yX3_fits yX3_fits, .code yX3_fits cX3_fits 7 (some .boolean), .methodLink RX3 68 yX4_hasDesk, .methodLink RL 119 yX11_stuck, .instanceMethod yX11_stuck, .selects RX11 yX11_stuck yX11_stuck, .code yX11_stuck cX11_stuck 4 (some .int), .methodLink RX11 281 yX11_knocks, .instanceMethod yX11_knocks, .selects RX11 yX11_knocks yX11_knocks, .code yX11_knocks cX11_knocks 5 (some .int), .constantLong RX11 271 (8), .constantLong RX11 273 (999), .methodLink RX11 284 yX11_fit, .instanceMethod yX11_fit, .selects RX11 yX11_fit yX11_fit, .code yX11_fit cX11_fit 9 (some .int), .methodLink RX11 275 yX11_sound, .instanceMethod yX11_sound, .selects RX11 yX11_sound yX11_sound, .code yX11_sound cX11_sound 2 none, .methodLink RX11 278 yX11_heard, .instanceMethod yX11_heard, .selects RX11 yX11_heard yX11_heard, .code yX11_heard cX11_heard 3 (some .int), .methodLink RL 120 yX10_listen, .instanceMethod yX10_listen, .selects RX10 yX10_listen yX10_listen, .code yX10_listen cX10_listen 4 (some .int), .methodLink RX10 316 yX3_nextDesk, .instanceMethod yX3_nextDesk, .selects RX3 yX3_nextDesk yX3_nextDesk]
set_option maxRecDepth 20000 in
theorem wsg24 : GoodIn lw_tbl WS24 := goodIn_r WS24 [952, 953, 954, 955, 956, 957, 958, 960, 23, 961, 962, 1499, 1500, 1501, 1502, 1503, 1505, 72, 1506, 1507, 1508, 1509, 1511, 73, 1512, 1513, 1515, 74, 1516, 1517, 1519, 75, 1520, 963, 964, 965, 966, 967, 968, 969] (by decide +kernel) (by decide +kernel)
def WS25 : List Cond := [.code yX3_nextDesk cX3_nextDesk 9 (some .int), .methodLink RX3 72 yX3_fittingTubes, .methodLink RX3 76 yJ6_bitCount_0f7a4, .methodLink RX3 82 yX3_mostLeft, .instanceMethod yX3_mostLeft, .selects RX3 yX3_mostLeft yX3_mostLeft, .code yX3_mostLeft cX3_mostLeft 9 (some .int), .methodLink RX3 90 Lib.Math.max.name, .methodLink RX3 86 yX3_lateness, .instanceMethod yX3_lateness, .selects RX3 yX3_lateness yX3_lateness, .code yX3_lateness cX3_lateness 4 (some .int), .methodLink RL 123 yX11_listen, .instanceMethod yX11_listen, .selects RX11 yX11_listen yX11_listen, .code yX11_listen cX11_listen 14 (some .int), .methodLink RX11 287 yX11_lag, .instanceMethod yX11_lag, .selects RX11 yX11_lag yX11_lag, .code yX11_lag cX11_lag 5 (some .int), .methodLink RL 124 yX10_enough, .instanceMethod yX10_enough, .selects RX10 yX10_enough yX10_enough, .code yX10_enough cX10_enough 6 (some .int), .methodLink RL 127 yX11_enough, .instanceMethod yX11_enough, .selects RX11 yX11_enough yX11_enough, .code yX11_enough cX11_enough 7 (some .int), .methodLink RL 128 yX10_tree, .instanceMethod yX10_tree, .selects RX10 yX10_tree yX10_tree, .code yX10_tree cX10_tree 2 (some .int), .methodLink RX10 319 yX2_joinAll, .instanceMethod yX2_joinAll, .selects RX2 yX2_joinAll yX2_joinAll, .code yX2_joinAll cX2_joinAll 5 (some .boolean), .methodLink RX2 39 yX2_joins, .instanceMethod yX2_joins, .selects RX2 yX2_joins yX2_joins, .code yX2_joins cX2_joins 6 (some .boolean)]
set_option maxRecDepth 20000 in
theorem wsg25 : GoodIn lw_tbl WS25 := goodIn_r WS25 [970, 971, 972, 973, 975, 24, 976, 981, 977, 979, 25, 980, 1521, 1522, 1523, 1524, 1525, 1527, 76, 1528, 982, 983, 984, 985, 1529, 1530, 1531, 1532, 986, 987, 988, 989, 990, 991, 992, 993, 994, 996, 26, 997] (by decide +kernel) (by decide +kernel)
def WS26 : List Cond := [.methodLink RL 131 yX11_tree, .instanceMethod yX11_tree, .selects RX11 yX11_tree yX11_tree, .code yX11_tree cX11_tree 6 (some .int), .methodLink RL 132 yX10_seat, .instanceMethod yX10_seat, .selects RX10 yX10_seat yX10_seat, .code yX10_seat cX10_seat 5 (some .int), .methodLink RX10 329 yX9_longestFrom, .instanceMethod yX9_longestFrom, .selects RX9 yX9_longestFrom yX9_longestFrom, .code yX9_longestFrom cX9_longestFrom 5 (some .int), .methodLink RL 135 yX11_seat, .instanceMethod yX11_seat, .selects RX11 yX11_seat yX11_seat, .code yX11_seat cX11_seat 8 (some .int), .methodLink RL 136 yX10_judge, .instanceMethod yX10_judge, .selects RX10 yX10_judge yX10_judge, .code yX10_judge cX10_judge 4 (some .int), .methodLink RX10 332 yX10_legsRefusal, .instanceMethod yX10_legsRefusal, .selects RX10 yX10_legsRefusal yX10_legsRefusal, .code yX10_legsRefusal cX10_legsRefusal 4 (some .int), .methodLink RX10 335 yX1_findWrong, .instanceMethod yX1_findWrong, .selects RX1 yX1_findWrong yX1_findWrong, .code yX1_findWrong cX1_findWrong 7 (some .int), .methodLink RX1 18 yX8_intAt, .methodLink RX1 24 yX1_takeToldLeg, .instanceMethod yX1_takeToldLeg, .selects RX1 yX1_takeToldLeg yX1_takeToldLeg, .code yX1_takeToldLeg cX1_takeToldLeg 8 (some .boolean), .methodLink RX1 28 yX4_hasCapsule, .methodLink RX1 34 yX4_hasDesk, .methodLink RX1 40 yX9_minutesTo, .methodLink RX1 46 yX4_goTo, .instanceMethod yX4_goTo, .selects RX4 yX4_goTo yX4_goTo, .code yX4_goTo cX4_goTo 5 none]
set_option maxRecDepth 20000 in
theorem wsg26 : GoodIn lw_tbl WS26 := goodIn_r WS26 [1533, 1534, 1535, 1536, 999, 1000, 1001, 1002, 1003, 1004, 1005, 1006, 1537, 1538, 1539, 1540, 1007, 1008, 1009, 1010, 1011, 1013, 27, 1014, 1015, 1016, 1017, 1018, 1019, 1020, 1022, 28, 1023, 1024, 1025, 1026, 1027, 1028, 1029, 1030] (by decide +kernel) (by decide +kernel)
def WS27 : List Cond := [.methodLink RX4 100 yX4_hasDesk, .methodLink RL 139 yX11_judge, .instanceMethod yX11_judge, .selects RX11 yX11_judge yX11_judge, .code yX11_judge cX11_judge 5 (some .int), .methodLink RX11 300 yX11_legs, .instanceMethod yX11_legs, .selects RX11 yX11_legs yX11_legs, .code yX11_legs cX11_legs 3 (some .int), .methodLink RX11 303 yX11_day, .instanceMethod yX11_day, .selects RX11 yX11_day yX11_day, .code yX11_day cX11_day 6 (some .int), .fieldLink RX11 290 "TubesOfCourtModel" "minutes" "I", .fieldLink RX11 293 "TubesOfCourtModel" "signs" "I", .methodLink RX11 296 yX11_leg, .instanceMethod yX11_leg, .selects RX11 yX11_leg yX11_leg, .code yX11_leg cX11_leg 5 (some .int), .methodLink RL 140 yX10_behind, .instanceMethod yX10_behind, .selects RX10 yX10_behind yX10_behind, .code yX10_behind cX10_behind 5 (some .int), .methodLink RX10 339 yX10_standsOnDraft, .instanceMethod yX10_standsOnDraft, .selects RX10 yX10_standsOnDraft yX10_standsOnDraft, .code yX10_standsOnDraft cX10_standsOnDraft 3 (some .boolean), .methodLink RL 143 yX11_behind, .instanceMethod yX11_behind, .selects RX11 yX11_behind yX11_behind, .code yX11_behind cX11_behind 6 (some .int), .methodLink RX11 334 yX11_after, .instanceMethod yX11_after, .selects RX11 yX11_after yX11_after, .code yX11_after cX11_after 6 (some .int), .methodLink RL 144 yX10_done, .instanceMethod yX10_done, .selects RX10 yX10_done yX10_done, .code yX10_done cX10_done 4 (some .int), .methodLink RL 147 yX11_done]
set_option maxRecDepth 20000 in
theorem wsg27 : GoodIn lw_tbl WS27 := goodIn_r WS27 [1031, 1541, 1542, 1543, 1544, 1545, 1547, 77, 1548, 1549, 1551, 78, 1552, 1164, 1165, 1553, 1555, 79, 1556, 1032, 1033, 1034, 1035, 1036, 1038, 29, 1039, 1602, 1603, 1604, 1605, 1606, 1608, 85, 1609, 1040, 1041, 1042, 1043, 1557] (by decide +kernel) (by decide +kernel)
def WS28 : List Cond := [.instanceMethod yX11_done, .selects RX11 yX11_done yX11_done, .code yX11_done cX11_done 4 (some .int), .methodLink RL 148 yX10_send, .instanceMethod yX10_send, .selects RX10 yX10_send yX10_send, .code yX10_send cX10_send 5 (some .int), .methodLink RX10 349 yX4_goTo, .methodLink RL 152 yX11_send, .instanceMethod yX11_send, .selects RX11 yX11_send yX11_send, .code yX11_send cX11_send 5 (some .int), .methodLink RL 153 yX10_months, .instanceMethod yX10_months, .selects RX10 yX10_months yX10_months, .code yX10_months cX10_months 3 (some .int), .methodLink RX10 353 yX1_takeDrawnLeg, .instanceMethod yX1_takeDrawnLeg, .selects RX1 yX1_takeDrawnLeg yX1_takeDrawnLeg, .code yX1_takeDrawnLeg cX1_takeDrawnLeg 7 none, .methodLink RX1 53 yX4_draw, .instanceMethod yX4_draw, .selects RX4 yX4_draw yX4_draw, .code yX4_draw cX4_draw 2 (some .int), .constant RX4 103 (1103515245), .methodLink RL 156 yX11_months, .instanceMethod yX11_months, .selects RX11 yX11_months yX11_months, .code yX11_months cX11_months 5 (some .int), .methodLink RX11 307 yX11_draw, .instanceMethod yX11_draw, .selects RX11 yX11_draw yX11_draw, .code yX11_draw cX11_draw 2 (some .int), .constant RX11 306 (1103515245), .methodLink RL 157 yX10_seed, .instanceMethod yX10_seed, .selects RX10 yX10_seed yX10_seed, .code yX10_seed cX10_seed 3 (some .int), .methodLink RL 160 yX11_seed, .instanceMethod yX11_seed]
set_option maxRecDepth 20000 in
theorem wsg28 : GoodIn lw_tbl WS28 := goodIn_r WS28 [1558, 1559, 1560, 1044, 1045, 1046, 1047, 1048, 1561, 1562, 1563, 1564, 1049, 1050, 1051, 1052, 1053, 1054, 1055, 1056, 1057, 1058, 1059, 1060, 1061, 1565, 1566, 1567, 1568, 1569, 1571, 80, 1572, 1573, 1062, 1063, 1064, 1065, 1574, 1575] (by decide +kernel) (by decide +kernel)
def WS29 : List Cond := [.selects RX11 yX11_seed yX11_seed, .code yX11_seed cX11_seed 3 (some .int), .methodLink RL 161 yX10_act, .instanceMethod yX10_act, .selects RX10 yX10_act yX10_act, .code yX10_act cX10_act 4 (some .int), .methodLink RX10 359 yX5_forget, .instanceMethod yX5_forget, .selects RX5 yX5_forget yX5_forget, .code yX5_forget cX5_forget 1 none, .methodLink RX10 362 yX5_run, .instanceMethod yX5_run, .selects RX5 yX5_run yX5_run, .code yX5_run cX5_run 6 (some .int), .methodLink RX5 28 yX5_hissesFrom, .instanceMethod yX5_hissesFrom, .selects RX5 yX5_hissesFrom yX5_hissesFrom, .code yX5_hissesFrom cX5_hissesFrom 3 (some .int), .methodLink RX5 38 yX5_begin, .instanceMethod yX5_begin, .selects RX5 yX5_begin yX5_begin, .code yX5_begin cX5_begin 2 none, .methodLink RX5 32 yX5_landsFrom, .instanceMethod yX5_landsFrom, .selects RX5 yX5_landsFrom yX5_landsFrom, .code yX5_landsFrom cX5_landsFrom 3 (some .int), .methodLink RX5 35 yX5_signsFrom, .instanceMethod yX5_signsFrom, .selects RX5 yX5_signsFrom yX5_signsFrom, .code yX5_signsFrom cX5_signsFrom 3 (some .int), .methodLink RL 164 yX11_act, .instanceMethod yX11_act, .selects RX11 yX11_act yX11_act, .code yX11_act cX11_act 4 (some .int), .fieldLink RX11 310 "TubesOfCourtModel" "ran" "I", .fieldLink RX11 317 "TubesOfCourtModel" "m" "I", .fieldLink RX11 323 "TubesOfCourtModel" "k" "I", .fieldLink RX11 326 "TubesOfCourtModel" "own" "I", .methodLink RX11 320 yX11_hisses, .instanceMethod yX11_hisses]
set_option maxRecDepth 20000 in
theorem wsg29 : GoodIn lw_tbl WS29 := goodIn_r WS29 [1576, 1577, 1066, 1067, 1068, 1069, 1070, 1071, 1072, 1073, 1074, 1075, 1076, 1077, 1078, 1080, 30, 1081, 1082, 1084, 31, 1085, 1087, 1089, 32, 1090, 1091, 1093, 33, 1094, 1578, 1579, 1580, 1581, 1167, 1168, 1169, 1170, 1582, 1584] (by decide +kernel) (by decide +kernel)
def WS30 : List Cond := [.selects RX11 yX11_hisses yX11_hisses, .code yX11_hisses cX11_hisses 3 (some .int), .methodLink RX11 313 yX11_began, .instanceMethod yX11_began, .selects RX11 yX11_began yX11_began, .code yX11_began cX11_began 2 none, .methodLink RX11 329 yX11_lands, .instanceMethod yX11_lands, .selects RX11 yX11_lands yX11_lands, .code yX11_lands cX11_lands 3 (some .int), .methodLink RX11 332 yX11_signs, .instanceMethod yX11_signs, .selects RX11 yX11_signs yX11_signs, .code yX11_signs cX11_signs 3 (some .int), .methodLink RL 165 yX10_trace, .instanceMethod yX10_trace, .selects RX10 yX10_trace yX10_trace, .code yX10_trace cX10_trace 2 (some .int), .methodLink RX10 366 yX5_bodyAt, .instanceMethod yX5_bodyAt, .selects RX5 yX5_bodyAt yX5_bodyAt, .code yX5_bodyAt cX5_bodyAt 2 (some .int), .methodLink RL 168 yX11_trace, .instanceMethod yX11_trace, .selects RX11 yX11_trace yX11_trace, .code yX11_trace cX11_trace 2 (some .int), .methodLink RL 169 yX10_image, .instanceMethod yX10_image, .selects RX10 yX10_image yX10_image, .code yX10_image cX10_image 1 (some .int), .methodLink RL 172 yX11_image, .instanceMethod yX11_image, .selects RX11 yX11_image yX11_image, .code yX11_image cX11_image 1 (some .int), .fieldLink RX11 337 "TubesOfCourtModel" "isKept" "Z", .methodLink RL 173 yX10_restore, .instanceMethod yX10_restore, .selects RX10 yX10_restore yX10_restore, .code yX10_restore cX10_restore 1 (some .int), .methodLink RX10 369 yX8_dropCapsulesFrom]
set_option maxRecDepth 20000 in
theorem wsg30 : GoodIn lw_tbl WS30 := goodIn_r WS30 [81, 1585, 1586, 1588, 82, 1589, 1590, 1592, 83, 1593, 1594, 1596, 84, 1597, 1095, 1096, 1097, 1098, 1099, 1100, 1101, 1102, 1598, 1599, 1600, 1601, 1103, 1104, 1105, 1106, 1610, 1611, 1612, 1613, 1149, 1107, 1108, 1109, 1110, 1111] (by decide +kernel) (by decide +kernel)
def WS31 : List Cond := [.instanceMethod yX8_dropCapsulesFrom, .selects RX8 yX8_dropCapsulesFrom yX8_dropCapsulesFrom, .code yX8_dropCapsulesFrom cX8_dropCapsulesFrom 3 none, .methodLink RL 176 yX11_restore, .instanceMethod yX11_restore, .selects RX11 yX11_restore yX11_restore, .code yX11_restore cX11_restore 2 (some .int), .methodLink RL 177 yX10_status, .instanceMethod yX10_status, .selects RX10 yX10_status yX10_status, .code yX10_status cX10_status 2 (some .int), .methodLink RX10 373 yX4_signedTogether, .instanceMethod yX4_signedTogether, .selects RX4 yX4_signedTogether yX4_signedTogether, .code yX4_signedTogether cX4_signedTogether 3 (some .int), .methodLink RX10 377 yX4_shutTubes, .instanceMethod yX4_shutTubes, .selects RX4 yX4_shutTubes yX4_shutTubes, .code yX4_shutTubes cX4_shutTubes 1 (some .int), .methodLink RX4 104 yJ6_bitCount_0f7a4, .methodLink RL 180 yX11_status, .instanceMethod yX11_status, .selects RX11 yX11_status yX11_status, .code yX11_status cX11_status 4 (some .int), .constantLong RX11 341 (11), .constantLong RX11 343 (17)]
set_option maxRecDepth 20000 in
theorem wsg31 : GoodIn lw_tbl WS31 := goodIn_r WS31 [1112, 1113, 1114, 1614, 1615, 1616, 1617, 1115, 1116, 1117, 1118, 1119, 1120, 1121, 1122, 1123, 1124, 1125, 1126, 1127, 1618, 1619, 1620, 1621, 1622, 1623] (by decide +kernel) (by decide +kernel)
def WSS : List (List Cond) := [WS0, WS1, WS2, WS3, WS4, WS5, WS6, WS7, WS8, WS9, WS10, WS11, WS12, WS13, WS14, WS15, WS16, WS17, WS18, WS19, WS20, WS21, WS22, WS23, WS24, WS25, WS26, WS27, WS28, WS29, WS30, WS31]
set_option maxRecDepth 20000 in
theorem wslg0 : GoodIn lw_tbl wsX00 := goodIn_r _ [276, 278] (by decide +kernel) (by decide +kernel)
set_option maxRecDepth 20000 in
theorem wslg1 : GoodIn lw_tbl wsX10 := goodIn_r _ [355, 357] (by decide +kernel) (by decide +kernel)
set_option maxRecDepth 20000 in
theorem wslg2 : GoodIn lw_tbl wsX20 := goodIn_r _ [312, 314, 316] (by decide +kernel) (by decide +kernel)
set_option maxRecDepth 20000 in
theorem wslg3 : GoodIn lw_tbl wsX30 := goodIn_r _ [292, 294, 296, 298] (by decide +kernel) (by decide +kernel)
set_option maxRecDepth 20000 in
theorem wslg4 : GoodIn lw_tbl wsX40 := goodIn_r _ [175, 177, 179, 181, 183, 185, 187, 189, 191, 193, 195, 197, 199, 201, 203, 205] (by decide +kernel) (by decide +kernel)
set_option maxRecDepth 20000 in
theorem wslg5 : GoodIn lw_tbl wsX50 := goodIn_r _ [372, 374, 376, 378, 380] (by decide +kernel) (by decide +kernel)
set_option maxRecDepth 20000 in
theorem wslg6 : GoodIn lw_tbl wsX60 := goodIn_r _ [332, 334, 336, 338, 340, 342] (by decide +kernel) (by decide +kernel)
set_option maxRecDepth 20000 in
theorem wslg7 : GoodIn lw_tbl wsX70 := goodIn_r _ [265] (by decide +kernel) (by decide +kernel)
set_option maxRecDepth 20000 in
theorem wslg8 : GoodIn lw_tbl wsX80 := goodIn_r _ [220, 222, 224] (by decide +kernel) (by decide +kernel)
set_option maxRecDepth 20000 in
theorem wslg9 : GoodIn lw_tbl wsX90 := goodIn_r _ [244, 246, 248, 250, 252, 254] (by decide +kernel) (by decide +kernel)
set_option maxRecDepth 20000 in
theorem wslg10 : GoodIn lw_tbl wsX100 := goodIn_r _ [398, 400, 402, 404, 406, 408, 410, 412, 414, 416, 418, 420, 422, 424, 426] (by decide +kernel) (by decide +kernel)
set_option maxRecDepth 20000 in
theorem wslg11 : GoodIn lw_tbl wsX110 := goodIn_r _ [1171, 1173, 1175, 1177, 1179, 1181, 1183, 1185, 1187, 1189, 1191, 1193, 1195, 1197, 1199, 1201, 1203, 1205, 1207, 1209, 1211, 1213, 1215, 1217, 1219, 1221] (by decide +kernel) (by decide +kernel)
def WSL : List (List Cond) := [wsX00, wsX10, wsX20, wsX30, wsX40, wsX50, wsX60, wsX70, wsX80, wsX90, wsX100, wsX110]
def WS : List Cond := WSS.flatten ++ WSL.flatten
theorem ws_good : GoodIn lw_tbl WS := by
  intro w hw
  rcases List.mem_append.mp hw with h | h
  · obtain ⟨l, hl, hw⟩ := List.mem_flatten.mp h
    simp only [WSS, List.mem_cons, List.not_mem_nil, or_false] at hl
    rcases hl with rfl | rfl | rfl | rfl | rfl | rfl | rfl | rfl | rfl | rfl | rfl | rfl | rfl | rfl | rfl | rfl | rfl | rfl | rfl | rfl | rfl | rfl | rfl | rfl | rfl | rfl | rfl | rfl | rfl | rfl | rfl | rfl
    · exact wsg0 w hw
    · exact wsg1 w hw
    · exact wsg2 w hw
    · exact wsg3 w hw
    · exact wsg4 w hw
    · exact wsg5 w hw
    · exact wsg6 w hw
    · exact wsg7 w hw
    · exact wsg8 w hw
    · exact wsg9 w hw
    · exact wsg10 w hw
    · exact wsg11 w hw
    · exact wsg12 w hw
    · exact wsg13 w hw
    · exact wsg14 w hw
    · exact wsg15 w hw
    · exact wsg16 w hw
    · exact wsg17 w hw
    · exact wsg18 w hw
    · exact wsg19 w hw
    · exact wsg20 w hw
    · exact wsg21 w hw
    · exact wsg22 w hw
    · exact wsg23 w hw
    · exact wsg24 w hw
    · exact wsg25 w hw
    · exact wsg26 w hw
    · exact wsg27 w hw
    · exact wsg28 w hw
    · exact wsg29 w hw
    · exact wsg30 w hw
    · exact wsg31 w hw
  · obtain ⟨l, hl, hw⟩ := List.mem_flatten.mp h
    simp only [WSL, List.mem_cons, List.not_mem_nil, or_false] at hl
    rcases hl with rfl | rfl | rfl | rfl | rfl | rfl | rfl | rfl | rfl | rfl | rfl | rfl
    · exact wslg0 w hw
    · exact wslg1 w hw
    · exact wslg2 w hw
    · exact wslg3 w hw
    · exact wslg4 w hw
    · exact wslg5 w hw
    · exact wslg6 w hw
    · exact wslg7 w hw
    · exact wslg8 w hw
    · exact wslg9 w hw
    · exact wslg10 w hw
    · exact wslg11 w hw
/-- a word by its place: chunk and place in it -/
def wat (k : Nat) : Option Cond := (WSS.getD (k / 40) [])[k % 40]?
theorem wat_mem {k : Nat} {w : Cond} (h : wat k = some w) : w ∈ WS := by
  unfold wat at h
  refine List.mem_append_left _ (List.mem_flatten.mpr ⟨_, ?_, List.mem_of_getElem? h⟩)
  by_cases hk : k / 40 < WSS.length
  · rw [List.getD_eq_getElem?_getD, List.getElem?_eq_getElem hk]
    exact List.getElem_mem hk
  · rw [List.getD_eq_getElem?_getD, List.getElem?_eq_none (Nat.not_lt.mp hk)] at h
    simp at h
abbrev classes : List vw_C := [(RX0, TX0, 2), (RX1, TX1, 2), (RX2, TX2, 3), (RX3, TX3, 4), (RX4, TX4, 16), (RX5, TX5, 5), (RX6, TX6, 6), (RX7, TX7, 1), (RX8, TX8, 3), (RX9, TX9, 6), (RX10, TX10, 15), (RX11, TX11, 26)]
theorem wsi0 : ∀ w ∈ u_ws RX0 TX0 2, w ∈ WS := fun w h => List.mem_append_right _ (List.mem_flatten.mpr ⟨wsX00, by simp [WSL], h⟩)
theorem wsi1 : ∀ w ∈ u_ws RX1 TX1 2, w ∈ WS := fun w h => List.mem_append_right _ (List.mem_flatten.mpr ⟨wsX10, by simp [WSL], h⟩)
theorem wsi2 : ∀ w ∈ u_ws RX2 TX2 3, w ∈ WS := fun w h => List.mem_append_right _ (List.mem_flatten.mpr ⟨wsX20, by simp [WSL], h⟩)
theorem wsi3 : ∀ w ∈ u_ws RX3 TX3 4, w ∈ WS := fun w h => List.mem_append_right _ (List.mem_flatten.mpr ⟨wsX30, by simp [WSL], h⟩)
theorem wsi4 : ∀ w ∈ u_ws RX4 TX4 16, w ∈ WS := fun w h => List.mem_append_right _ (List.mem_flatten.mpr ⟨wsX40, by simp [WSL], h⟩)
theorem wsi5 : ∀ w ∈ u_ws RX5 TX5 5, w ∈ WS := fun w h => List.mem_append_right _ (List.mem_flatten.mpr ⟨wsX50, by simp [WSL], h⟩)
theorem wsi6 : ∀ w ∈ u_ws RX6 TX6 6, w ∈ WS := fun w h => List.mem_append_right _ (List.mem_flatten.mpr ⟨wsX60, by simp [WSL], h⟩)
theorem wsi7 : ∀ w ∈ u_ws RX7 TX7 1, w ∈ WS := fun w h => List.mem_append_right _ (List.mem_flatten.mpr ⟨wsX70, by simp [WSL], h⟩)
theorem wsi8 : ∀ w ∈ u_ws RX8 TX8 3, w ∈ WS := fun w h => List.mem_append_right _ (List.mem_flatten.mpr ⟨wsX80, by simp [WSL], h⟩)
theorem wsi9 : ∀ w ∈ u_ws RX9 TX9 6, w ∈ WS := fun w h => List.mem_append_right _ (List.mem_flatten.mpr ⟨wsX90, by simp [WSL], h⟩)
theorem wsi10 : ∀ w ∈ u_ws RX10 TX10 15, w ∈ WS := fun w h => List.mem_append_right _ (List.mem_flatten.mpr ⟨wsX100, by simp [WSL], h⟩)
theorem wsi11 : ∀ w ∈ u_ws RX11 TX11 26, w ∈ WS := fun w h => List.mem_append_right _ (List.mem_flatten.mpr ⟨wsX110, by simp [WSL], h⟩)
def NF : List (String × Nat × String × String × String × String) := [(RX2, 22, RX4, "desks", "I", RX10), (RX3, 52, RX4, "desks", "I", RX10), (RX1, 57, RX4, "desks", "I", RX10), (RX9, 76, RX4, "desks", "I", RX10), (RX10, 171, RX4, "desks", "I", RX10), (RX10, 221, RX4, "signed", "[I", RX10), (RX9, 33, RX4, "tubes", "I", RX10), (RX0, 18, RX4, "tubes", "I", RX10), (RX2, 27, RX4, "tubes", "I", RX10), (RX3, 47, RX4, "tubes", "I", RX10), (RX10, 158, RX4, "tubes", "I", RX10), (RX0, 30, RX4, "from", "[I", RX10), (RX2, 33, RX4, "from", "[I", RX10), (RX3, 55, RX4, "from", "[I", RX10), (RX9, 63, RX4, "from", "[I", RX10), (RX10, 209, RX4, "from", "[I", RX10), (RX0, 33, RX4, "to", "[I", RX10), (RX2, 36, RX4, "to", "[I", RX10), (RX3, 61, RX4, "to", "[I", RX10), (RX9, 66, RX4, "to", "[I", RX10), (RX10, 212, RX4, "to", "[I", RX10), (RX2, 30, RX4, "length", "[I", RX10), (RX9, 47, RX4, "length", "[I", RX10), (RX10, 215, RX4, "length", "[I", RX10), (RX10, 218, RX4, "bore", "[I", RX10), (RX1, 50, RX4, "capsules", "I", RX10), (RX10, 193, RX4, "capsules", "I", RX10), (RX10, 145, RX4, "kind", "[I", RX10), (RX10, 155, RX4, "a", "[I", RX10), (RX10, 152, RX4, "weight", "[I", RX10), (RX10, 161, RX4, "at", "[I", RX10), (RX9, 96, RX4, "at", "[I", RX10), (RX1, 37, RX4, "pressure", "I", RX10), (RX9, 103, RX4, "pressure", "I", RX10), (RX10, 206, RX4, "pressure", "I", RX10), (RX6, 149, RX4, "pressure", "I", RX10), (RX10, 348, RX4, "minutes", "I", RX10), (RX10, 356, RX4, "seed", "I", RX10), (RX0, 24, RX9, "forth", "[Z", RX10), (RX0, 36, RX9, "back", "[Z", RX10), (RX10, 323, RX2, "sum", "I", RX10), (RX10, 326, RX2, "chosen", "I", RX10), (RX10, 232, RX6, "items", "I", RX10), (RX10, 342, RX1, "minutes", "I", RX10), (RX10, 345, RX1, "signs", "I", RX10), (RX10, 380, RX5, "ran", "I", RX10), (RX5, 42, RX10, "KIND_ABOVE", "[I", RX10)]
def NM : List (String × Nat × MethodName × String) := [(RX10, 9, yX4_init, RX10), (RX10, 24, yX8_init, RX10), (RX10, 31, yX9_init, RX10), (RX10, 38, yX7_init, RX10), (RX10, 45, yX0_init, RX10), (RX10, 52, yX3_init, RX10), (RX10, 59, yX2_init, RX10), (RX10, 66, yX6_init, RX10), (RX10, 73, yX1_init, RX10), (RX10, 80, yX5_init, RX10), (RX6, 130, yX10_isOneToNine, RX10), (RX4, 88, yX10_isOneToNine, RX10), (RX9, 73, yX10_isDeskNumber, RX10), (RX0, 61, yX10_isDeskNumber, RX10), (RX2, 43, yX10_isDeskNumber, RX10)]
abbrev nfc (q : String × Nat × String × String × String × String) : Cond := .fieldLinkNest q.1 q.2.1 q.2.2.1 q.2.2.2.1 q.2.2.2.2.1 q.2.2.2.2.2
abbrev nmc (q : String × Nat × MethodName × String) : Cond := .methodLinkNest q.1 q.2.1 q.2.2.1 q.2.2.2
theorem in_r {big : List Cond} (ws : List Cond) (ps : List Nat) (hp : ws = ps.filterMap (fun i => big[i]?)) : ∀ w ∈ ws, w ∈ big := by
  intro w hw
  rw [hp] at hw
  obtain ⟨i, -, hi⟩ := List.mem_filterMap.mp hw
  exact List.mem_of_getElem? hi
set_option maxRecDepth 20000 in
theorem nf_in : ∀ w ∈ NF.map nfc, w ∈ lw_tbl := in_r _ [122, 123, 124, 125, 126, 128, 130, 131, 132, 133, 134, 136, 137, 138, 139, 140, 142, 143, 144, 145, 146, 148, 149, 150, 152, 155, 156, 158, 160, 162, 164, 165, 167, 168, 169, 170, 172, 174, 238, 240, 309, 311, 331, 352, 354, 368, 1086] (by decide +kernel)
set_option maxRecDepth 20000 in
theorem nm_in : ∀ w ∈ NM.map nmc, w ∈ lw_tbl := in_r _ [117, 211, 230, 260, 270, 283, 303, 321, 347, 362, 739, 766, 803, 917, 998] (by decide +kernel)
