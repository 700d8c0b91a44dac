section
-- ===== PART A: goes FIRST, ahead of the names: the tables' words, and 'selects' of the private methods out of them =====
/-- a private method of a class that the tables say can be made, by its rows of tables_1 -/
def lw_okq (q : MethodName × Nat) : Prop := (q.1.cls ≠ "java/lang/invoke/MethodHandle" ∧ q.1.cls ≠ "java/lang/invoke/VarHandle") ∧ Cond.instantiable q.1.cls q.2 ∈ tables_1 ∧ Cond.privateMethod q.1 ∈ tables_1 ∧ Cond.instanceMethod q.1 ∈ tables_1
theorem lw_p0 : lw_okq (⟨"TinStation", "counted", "(I)I"⟩, 10) := ⟨⟨by decide +kernel, by decide +kernel⟩, List.mem_of_getElem? (i := 16) (by decide +kernel), List.mem_of_getElem? (i := 368) (by decide +kernel), List.mem_of_getElem? (i := 369) (by decide +kernel)⟩
theorem lw_p1 : lw_okq (⟨"TinStation$Plant", "leastHarm", "(I)I"⟩, 15) := ⟨⟨by decide +kernel, by decide +kernel⟩, List.mem_of_getElem? (i := 128) (by decide +kernel), List.mem_of_getElem? (i := 583) (by decide +kernel), List.mem_of_getElem? (i := 584) (by decide +kernel)⟩
theorem lw_p2 : lw_okq (⟨"TinStation$Plant", "readySet", "()I"⟩, 15) := ⟨⟨by decide +kernel, by decide +kernel⟩, List.mem_of_getElem? (i := 128) (by decide +kernel), List.mem_of_getElem? (i := 587) (by decide +kernel), List.mem_of_getElem? (i := 588) (by decide +kernel)⟩
theorem lw_p3 : lw_okq (⟨"TinStation$Plant", "isReady", "(I)Z"⟩, 15) := ⟨⟨by decide +kernel, by decide +kernel⟩, List.mem_of_getElem? (i := 128) (by decide +kernel), List.mem_of_getElem? (i := 591) (by decide +kernel), List.mem_of_getElem? (i := 592) (by decide +kernel)⟩
theorem lw_p4 : lw_okq (⟨"TinStation$Plant", "sumOver", "(I[I)I"⟩, 15) := ⟨⟨by decide +kernel, by decide +kernel⟩, List.mem_of_getElem? (i := 128) (by decide +kernel), List.mem_of_getElem? (i := 595) (by decide +kernel), List.mem_of_getElem? (i := 596) (by decide +kernel)⟩
theorem lw_p5 : lw_okq (⟨"TinStation$World", "doText", "()V"⟩, 7) := ⟨⟨by decide +kernel, by decide +kernel⟩, List.mem_of_getElem? (i := 52) (by decide +kernel), List.mem_of_getElem? (i := 646) (by decide +kernel), List.mem_of_getElem? (i := 647) (by decide +kernel)⟩
theorem lw_p6 : lw_okq (⟨"TinStation$World", "lineAfter", "(I)I"⟩, 7) := ⟨⟨by decide +kernel, by decide +kernel⟩, List.mem_of_getElem? (i := 52) (by decide +kernel), List.mem_of_getElem? (i := 658) (by decide +kernel), List.mem_of_getElem? (i := 659) (by decide +kernel)⟩
theorem lw_p7 : lw_okq (⟨"TinStation$World", "lineAfterCheck", "(I)I"⟩, 7) := ⟨⟨by decide +kernel, by decide +kernel⟩, List.mem_of_getElem? (i := 52) (by decide +kernel), List.mem_of_getElem? (i := 662) (by decide +kernel), List.mem_of_getElem? (i := 663) (by decide +kernel)⟩
theorem lw_p8 : lw_okq (⟨"TinStation$World", "isCheck", "(III)Z"⟩, 7) := ⟨⟨by decide +kernel, by decide +kernel⟩, List.mem_of_getElem? (i := 52) (by decide +kernel), List.mem_of_getElem? (i := 666) (by decide +kernel), List.mem_of_getElem? (i := 667) (by decide +kernel)⟩
theorem lw_p9 : lw_okq (⟨"TinStation$World", "holds", "(III)Z"⟩, 7) := ⟨⟨by decide +kernel, by decide +kernel⟩, List.mem_of_getElem? (i := 52) (by decide +kernel), List.mem_of_getElem? (i := 671) (by decide +kernel), List.mem_of_getElem? (i := 672) (by decide +kernel)⟩
theorem lw_p10 : lw_okq (⟨"TinStation$World", "actByText", "(I)I"⟩, 7) := ⟨⟨by decide +kernel, by decide +kernel⟩, List.mem_of_getElem? (i := 52) (by decide +kernel), List.mem_of_getElem? (i := 679) (by decide +kernel), List.mem_of_getElem? (i := 680) (by decide +kernel)⟩
theorem lw_p11 : lw_okq (⟨"TinStation$Plant", "work", "(ILTinStation$Air;)V"⟩, 15) := ⟨⟨by decide +kernel, by decide +kernel⟩, List.mem_of_getElem? (i := 128) (by decide +kernel), List.mem_of_getElem? (i := 713) (by decide +kernel), List.mem_of_getElem? (i := 714) (by decide +kernel)⟩
theorem lw_p12 : lw_okq (⟨"TinStation$Plant", "split", "(ILTinStation$Air;)V"⟩, 15) := ⟨⟨by decide +kernel, by decide +kernel⟩, List.mem_of_getElem? (i := 128) (by decide +kernel), List.mem_of_getElem? (i := 726) (by decide +kernel), List.mem_of_getElem? (i := 727) (by decide +kernel)⟩
theorem lw_p13 : lw_okq (⟨"TinStation$Plant", "distil", "(ILTinStation$Air;)V"⟩, 15) := ⟨⟨by decide +kernel, by decide +kernel⟩, List.mem_of_getElem? (i := 128) (by decide +kernel), List.mem_of_getElem? (i := 738) (by decide +kernel), List.mem_of_getElem? (i := 739) (by decide +kernel)⟩
theorem lw_p14 : lw_okq (⟨"TinStation$Crew", "breathe", "(ILTinStation$Air;)V"⟩, 7) := ⟨⟨by decide +kernel, by decide +kernel⟩, List.mem_of_getElem? (i := 98) (by decide +kernel), List.mem_of_getElem? (i := 746) (by decide +kernel), List.mem_of_getElem? (i := 747) (by decide +kernel)⟩
theorem lw_p15 : lw_okq (⟨"TinStation$Crew", "drink", "(ILTinStation$Air;)V"⟩, 7) := ⟨⟨by decide +kernel, by decide +kernel⟩, List.mem_of_getElem? (i := 98) (by decide +kernel), List.mem_of_getElem? (i := 755) (by decide +kernel), List.mem_of_getElem? (i := 756) (by decide +kernel)⟩
def lw_privs_1 : List (MethodName × Nat) := [(⟨"TinStation", "counted", "(I)I"⟩, 10), (⟨"TinStation$Plant", "leastHarm", "(I)I"⟩, 15), (⟨"TinStation$Plant", "readySet", "()I"⟩, 15), (⟨"TinStation$Plant", "isReady", "(I)Z"⟩, 15), (⟨"TinStation$Plant", "sumOver", "(I[I)I"⟩, 15), (⟨"TinStation$World", "doText", "()V"⟩, 7), (⟨"TinStation$World", "lineAfter", "(I)I"⟩, 7), (⟨"TinStation$World", "lineAfterCheck", "(I)I"⟩, 7), (⟨"TinStation$World", "isCheck", "(III)Z"⟩, 7), (⟨"TinStation$World", "holds", "(III)Z"⟩, 7), (⟨"TinStation$World", "actByText", "(I)I"⟩, 7), (⟨"TinStation$Plant", "work", "(ILTinStation$Air;)V"⟩, 15), (⟨"TinStation$Plant", "split", "(ILTinStation$Air;)V"⟩, 15), (⟨"TinStation$Plant", "distil", "(ILTinStation$Air;)V"⟩, 15), (⟨"TinStation$Crew", "breathe", "(ILTinStation$Air;)V"⟩, 7), (⟨"TinStation$Crew", "drink", "(ILTinStation$Air;)V"⟩, 7)]
theorem lw_r1 : ∀ q ∈ lw_privs_1, lw_okq q := List.forall_mem_cons.mpr ⟨lw_p0, List.forall_mem_cons.mpr ⟨lw_p1, List.forall_mem_cons.mpr ⟨lw_p2, List.forall_mem_cons.mpr ⟨lw_p3, List.forall_mem_cons.mpr ⟨lw_p4, List.forall_mem_cons.mpr ⟨lw_p5, List.forall_mem_cons.mpr ⟨lw_p6, List.forall_mem_cons.mpr ⟨lw_p7, List.forall_mem_cons.mpr ⟨lw_p8, List.forall_mem_cons.mpr ⟨lw_p9, List.forall_mem_cons.mpr ⟨lw_p10, List.forall_mem_cons.mpr ⟨lw_p11, List.forall_mem_cons.mpr ⟨lw_p12, List.forall_mem_cons.mpr ⟨lw_p13, List.forall_mem_cons.mpr ⟨lw_p14, List.forall_mem_cons.mpr ⟨lw_p15, fun _ h => absurd h List.not_mem_nil⟩⟩⟩⟩⟩⟩⟩⟩⟩⟩⟩⟩⟩⟩⟩⟩
theorem lw_p16 : lw_okq (⟨"TinStation$Air", "mix", "(II)V"⟩, 8) := ⟨⟨by decide +kernel, by decide +kernel⟩, List.mem_of_getElem? (i := 58) (by decide +kernel), List.mem_of_getElem? (i := 774) (by decide +kernel), List.mem_of_getElem? (i := 775) (by decide +kernel)⟩
theorem lw_p17 : lw_okq (⟨"TinStation$Bounds", "breaksIn", "(ILTinStation$Air;)Z"⟩, 6) := ⟨⟨by decide +kernel, by decide +kernel⟩, List.mem_of_getElem? (i := 186) (by decide +kernel), List.mem_of_getElem? (i := 786) (by decide +kernel), List.mem_of_getElem? (i := 787) (by decide +kernel)⟩
theorem lw_p18 : lw_okq (⟨"TinStation$Bounds", "keepFirst", "(II)V"⟩, 6) := ⟨⟨by decide +kernel, by decide +kernel⟩, List.mem_of_getElem? (i := 186) (by decide +kernel), List.mem_of_getElem? (i := 791) (by decide +kernel), List.mem_of_getElem? (i := 792) (by decide +kernel)⟩
theorem lw_p19 : lw_okq (⟨"TinStation$Hunt", "findParts", "(LTinStation$Air;I)V"⟩, 2) := ⟨⟨by decide +kernel, by decide +kernel⟩, List.mem_of_getElem? (i := 274) (by decide +kernel), List.mem_of_getElem? (i := 911) (by decide +kernel), List.mem_of_getElem? (i := 912) (by decide +kernel)⟩
theorem lw_p20 : lw_okq (⟨"TinStation$Hunt", "join", "(LTinStation$Air;I)V"⟩, 2) := ⟨⟨by decide +kernel, by decide +kernel⟩, List.mem_of_getElem? (i := 274) (by decide +kernel), List.mem_of_getElem? (i := 915) (by decide +kernel), List.mem_of_getElem? (i := 916) (by decide +kernel)⟩
theorem lw_p21 : lw_okq (⟨"TinStation$Hunt", "leftAtWorst", "(LTinStation$Air;I)I"⟩, 2) := ⟨⟨by decide +kernel, by decide +kernel⟩, List.mem_of_getElem? (i := 274) (by decide +kernel), List.mem_of_getElem? (i := 928) (by decide +kernel), List.mem_of_getElem? (i := 929) (by decide +kernel)⟩
theorem lw_p22 : lw_okq (⟨"TinStation$Journal", "tooMuch", "(II)I"⟩, 10) := ⟨⟨by decide +kernel, by decide +kernel⟩, List.mem_of_getElem? (i := 288) (by decide +kernel), List.mem_of_getElem? (i := 969) (by decide +kernel), List.mem_of_getElem? (i := 970) (by decide +kernel)⟩
theorem lw_p23 : lw_okq (⟨"TinStation$Journal", "between", "(III)I"⟩, 10) := ⟨⟨by decide +kernel, by decide +kernel⟩, List.mem_of_getElem? (i := 288) (by decide +kernel), List.mem_of_getElem? (i := 973) (by decide +kernel), List.mem_of_getElem? (i := 974) (by decide +kernel)⟩
theorem lw_p24 : lw_okq (⟨"TinStation", "setMass", "(I)I"⟩, 10) := ⟨⟨by decide +kernel, by decide +kernel⟩, List.mem_of_getElem? (i := 16) (by decide +kernel), List.mem_of_getElem? (i := 998) (by decide +kernel), List.mem_of_getElem? (i := 999) (by decide +kernel)⟩
theorem lw_p25 : lw_okq (⟨"TinStation", "setSpeed", "(I)I"⟩, 10) := ⟨⟨by decide +kernel, by decide +kernel⟩, List.mem_of_getElem? (i := 16) (by decide +kernel), List.mem_of_getElem? (i := 1006) (by decide +kernel), List.mem_of_getElem? (i := 1007) (by decide +kernel)⟩
theorem lw_p26 : lw_okq (⟨"TinStationModel", "finding", "(I)I"⟩, 57) := ⟨⟨by decide +kernel, by decide +kernel⟩, List.mem_of_getElem? (i := 1043) (by decide +kernel), List.mem_of_getElem? (i := 1226) (by decide +kernel), List.mem_of_getElem? (i := 1227) (by decide +kernel)⟩
theorem lw_p27 : lw_okq (⟨"TinStationModel", "isModule", "(I)Z"⟩, 57) := ⟨⟨by decide +kernel, by decide +kernel⟩, List.mem_of_getElem? (i := 1043) (by decide +kernel), List.mem_of_getElem? (i := 1235) (by decide +kernel), List.mem_of_getElem? (i := 1236) (by decide +kernel)⟩
theorem lw_p28 : lw_okq (⟨"TinStationModel", "isHatch", "(I)Z"⟩, 57) := ⟨⟨by decide +kernel, by decide +kernel⟩, List.mem_of_getElem? (i := 1043) (by decide +kernel), List.mem_of_getElem? (i := 1243) (by decide +kernel), List.mem_of_getElem? (i := 1244) (by decide +kernel)⟩
theorem lw_p29 : lw_okq (⟨"TinStationModel", "isPerson", "(I)Z"⟩, 57) := ⟨⟨by decide +kernel, by decide +kernel⟩, List.mem_of_getElem? (i := 1043) (by decide +kernel), List.mem_of_getElem? (i := 1276) (by decide +kernel), List.mem_of_getElem? (i := 1277) (by decide +kernel)⟩
theorem lw_p30 : lw_okq (⟨"TinStationModel", "canGo", "(II)Z"⟩, 57) := ⟨⟨by decide +kernel, by decide +kernel⟩, List.mem_of_getElem? (i := 1043) (by decide +kernel), List.mem_of_getElem? (i := 1280) (by decide +kernel), List.mem_of_getElem? (i := 1281) (by decide +kernel)⟩
theorem lw_p31 : lw_okq (⟨"TinStationModel", "isMachine", "(I)Z"⟩, 57) := ⟨⟨by decide +kernel, by decide +kernel⟩, List.mem_of_getElem? (i := 1043) (by decide +kernel), List.mem_of_getElem? (i := 1300) (by decide +kernel), List.mem_of_getElem? (i := 1301) (by decide +kernel)⟩
def lw_privs_2 : List (MethodName × Nat) := [(⟨"TinStation$Air", "mix", "(II)V"⟩, 8), (⟨"TinStation$Bounds", "breaksIn", "(ILTinStation$Air;)Z"⟩, 6), (⟨"TinStation$Bounds", "keepFirst", "(II)V"⟩, 6), (⟨"TinStation$Hunt", "findParts", "(LTinStation$Air;I)V"⟩, 2), (⟨"TinStation$Hunt", "join", "(LTinStation$Air;I)V"⟩, 2), (⟨"TinStation$Hunt", "leftAtWorst", "(LTinStation$Air;I)I"⟩, 2), (⟨"TinStation$Journal", "tooMuch", "(II)I"⟩, 10), (⟨"TinStation$Journal", "between", "(III)I"⟩, 10), (⟨"TinStation", "setMass", "(I)I"⟩, 10), (⟨"TinStation", "setSpeed", "(I)I"⟩, 10), (⟨"TinStationModel", "finding", "(I)I"⟩, 57), (⟨"TinStationModel", "isModule", "(I)Z"⟩, 57), (⟨"TinStationModel", "isHatch", "(I)Z"⟩, 57), (⟨"TinStationModel", "isPerson", "(I)Z"⟩, 57), (⟨"TinStationModel", "canGo", "(II)Z"⟩, 57), (⟨"TinStationModel", "isMachine", "(I)Z"⟩, 57)]
theorem lw_r2 : ∀ q ∈ lw_privs_2, lw_okq q := List.forall_mem_cons.mpr ⟨lw_p16, List.forall_mem_cons.mpr ⟨lw_p17, List.forall_mem_cons.mpr ⟨lw_p18, List.forall_mem_cons.mpr ⟨lw_p19, List.forall_mem_cons.mpr ⟨lw_p20, List.forall_mem_cons.mpr ⟨lw_p21, List.forall_mem_cons.mpr ⟨lw_p22, List.forall_mem_cons.mpr ⟨lw_p23, List.forall_mem_cons.mpr ⟨lw_p24, List.forall_mem_cons.mpr ⟨lw_p25, List.forall_mem_cons.mpr ⟨lw_p26, List.forall_mem_cons.mpr ⟨lw_p27, List.forall_mem_cons.mpr ⟨lw_p28, List.forall_mem_cons.mpr ⟨lw_p29, List.forall_mem_cons.mpr ⟨lw_p30, List.forall_mem_cons.mpr ⟨lw_p31, fun _ h => absurd h List.not_mem_nil⟩⟩⟩⟩⟩⟩⟩⟩⟩⟩⟩⟩⟩⟩⟩⟩
theorem lw_p32 : lw_okq (⟨"TinStationModel", "refusesMend", "(III)I"⟩, 57) := ⟨⟨by decide +kernel, by decide +kernel⟩, List.mem_of_getElem? (i := 1043) (by decide +kernel), List.mem_of_getElem? (i := 1320) (by decide +kernel), List.mem_of_getElem? (i := 1321) (by decide +kernel)⟩
theorem lw_p33 : lw_okq (⟨"TinStationModel", "isMended", "(I)Z"⟩, 57) := ⟨⟨by decide +kernel, by decide +kernel⟩, List.mem_of_getElem? (i := 1043) (by decide +kernel), List.mem_of_getElem? (i := 1324) (by decide +kernel), List.mem_of_getElem? (i := 1325) (by decide +kernel)⟩
theorem lw_p34 : lw_okq (⟨"TinStationModel", "beginMend", "(III)V"⟩, 57) := ⟨⟨by decide +kernel, by decide +kernel⟩, List.mem_of_getElem? (i := 1043) (by decide +kernel), List.mem_of_getElem? (i := 1328) (by decide +kernel), List.mem_of_getElem? (i := 1329) (by decide +kernel)⟩
theorem lw_p35 : lw_okq (⟨"TinStationModel", "canShed", "(I)Z"⟩, 57) := ⟨⟨by decide +kernel, by decide +kernel⟩, List.mem_of_getElem? (i := 1043) (by decide +kernel), List.mem_of_getElem? (i := 1336) (by decide +kernel), List.mem_of_getElem? (i := 1337) (by decide +kernel)⟩
theorem lw_p36 : lw_okq (⟨"TinStationModel", "together", "(IZI)I"⟩, 57) := ⟨⟨by decide +kernel, by decide +kernel⟩, List.mem_of_getElem? (i := 1043) (by decide +kernel), List.mem_of_getElem? (i := 1340) (by decide +kernel), List.mem_of_getElem? (i := 1341) (by decide +kernel)⟩
theorem lw_p37 : lw_okq (⟨"TinStationModel", "abortText", "()V"⟩, 57) := ⟨⟨by decide +kernel, by decide +kernel⟩, List.mem_of_getElem? (i := 1043) (by decide +kernel), List.mem_of_getElem? (i := 1364) (by decide +kernel), List.mem_of_getElem? (i := 1365) (by decide +kernel)⟩
theorem lw_p38 : lw_okq (⟨"TinStationModel", "endText", "(I)V"⟩, 57) := ⟨⟨by decide +kernel, by decide +kernel⟩, List.mem_of_getElem? (i := 1043) (by decide +kernel), List.mem_of_getElem? (i := 1368) (by decide +kernel), List.mem_of_getElem? (i := 1369) (by decide +kernel)⟩
theorem lw_p39 : lw_okq (⟨"TinStationModel", "tick", "()Z"⟩, 57) := ⟨⟨by decide +kernel, by decide +kernel⟩, List.mem_of_getElem? (i := 1043) (by decide +kernel), List.mem_of_getElem? (i := 1395) (by decide +kernel), List.mem_of_getElem? (i := 1396) (by decide +kernel)⟩
theorem lw_p40 : lw_okq (⟨"TinStationModel", "runText", "()V"⟩, 57) := ⟨⟨by decide +kernel, by decide +kernel⟩, List.mem_of_getElem? (i := 1043) (by decide +kernel), List.mem_of_getElem? (i := 1399) (by decide +kernel), List.mem_of_getElem? (i := 1400) (by decide +kernel)⟩
theorem lw_p41 : lw_okq (⟨"TinStationModel", "isLine", "(I)Z"⟩, 57) := ⟨⟨by decide +kernel, by decide +kernel⟩, List.mem_of_getElem? (i := 1043) (by decide +kernel), List.mem_of_getElem? (i := 1403) (by decide +kernel), List.mem_of_getElem? (i := 1404) (by decide +kernel)⟩
theorem lw_p42 : lw_okq (⟨"TinStationModel", "doLine", "(IIII)Z"⟩, 57) := ⟨⟨by decide +kernel, by decide +kernel⟩, List.mem_of_getElem? (i := 1043) (by decide +kernel), List.mem_of_getElem? (i := 1407) (by decide +kernel), List.mem_of_getElem? (i := 1408) (by decide +kernel)⟩
theorem lw_p43 : lw_okq (⟨"TinStationModel", "canCheck", "(III)Z"⟩, 57) := ⟨⟨by decide +kernel, by decide +kernel⟩, List.mem_of_getElem? (i := 1043) (by decide +kernel), List.mem_of_getElem? (i := 1411) (by decide +kernel), List.mem_of_getElem? (i := 1412) (by decide +kernel)⟩
theorem lw_p44 : lw_okq (⟨"TinStationModel", "isSo", "(II)Z"⟩, 57) := ⟨⟨by decide +kernel, by decide +kernel⟩, List.mem_of_getElem? (i := 1043) (by decide +kernel), List.mem_of_getElem? (i := 1415) (by decide +kernel), List.mem_of_getElem? (i := 1416) (by decide +kernel)⟩
theorem lw_p45 : lw_okq (⟨"TinStationModel", "mendAll", "()V"⟩, 57) := ⟨⟨by decide +kernel, by decide +kernel⟩, List.mem_of_getElem? (i := 1043) (by decide +kernel), List.mem_of_getElem? (i := 1419) (by decide +kernel), List.mem_of_getElem? (i := 1420) (by decide +kernel)⟩
theorem lw_p46 : lw_okq (⟨"TinStationModel", "feedAll", "()V"⟩, 57) := ⟨⟨by decide +kernel, by decide +kernel⟩, List.mem_of_getElem? (i := 1043) (by decide +kernel), List.mem_of_getElem? (i := 1423) (by decide +kernel), List.mem_of_getElem? (i := 1424) (by decide +kernel)⟩
theorem lw_p47 : lw_okq (⟨"TinStationModel", "workOf", "(I)V"⟩, 57) := ⟨⟨by decide +kernel, by decide +kernel⟩, List.mem_of_getElem? (i := 1043) (by decide +kernel), List.mem_of_getElem? (i := 1427) (by decide +kernel), List.mem_of_getElem? (i := 1428) (by decide +kernel)⟩
def lw_privs_3 : List (MethodName × Nat) := [(⟨"TinStationModel", "refusesMend", "(III)I"⟩, 57), (⟨"TinStationModel", "isMended", "(I)Z"⟩, 57), (⟨"TinStationModel", "beginMend", "(III)V"⟩, 57), (⟨"TinStationModel", "canShed", "(I)Z"⟩, 57), (⟨"TinStationModel", "together", "(IZI)I"⟩, 57), (⟨"TinStationModel", "abortText", "()V"⟩, 57), (⟨"TinStationModel", "endText", "(I)V"⟩, 57), (⟨"TinStationModel", "tick", "()Z"⟩, 57), (⟨"TinStationModel", "runText", "()V"⟩, 57), (⟨"TinStationModel", "isLine", "(I)Z"⟩, 57), (⟨"TinStationModel", "doLine", "(IIII)Z"⟩, 57), (⟨"TinStationModel", "canCheck", "(III)Z"⟩, 57), (⟨"TinStationModel", "isSo", "(II)Z"⟩, 57), (⟨"TinStationModel", "mendAll", "()V"⟩, 57), (⟨"TinStationModel", "feedAll", "()V"⟩, 57), (⟨"TinStationModel", "workOf", "(I)V"⟩, 57)]
theorem lw_r3 : ∀ q ∈ lw_privs_3, lw_okq q := List.forall_mem_cons.mpr ⟨lw_p32, List.forall_mem_cons.mpr ⟨lw_p33, List.forall_mem_cons.mpr ⟨lw_p34, List.forall_mem_cons.mpr ⟨lw_p35, List.forall_mem_cons.mpr ⟨lw_p36, List.forall_mem_cons.mpr ⟨lw_p37, List.forall_mem_cons.mpr ⟨lw_p38, List.forall_mem_cons.mpr ⟨lw_p39, List.forall_mem_cons.mpr ⟨lw_p40, List.forall_mem_cons.mpr ⟨lw_p41, List.forall_mem_cons.mpr ⟨lw_p42, List.forall_mem_cons.mpr ⟨lw_p43, List.forall_mem_cons.mpr ⟨lw_p44, List.forall_mem_cons.mpr ⟨lw_p45, List.forall_mem_cons.mpr ⟨lw_p46, List.forall_mem_cons.mpr ⟨lw_p47, fun _ h => absurd h List.not_mem_nil⟩⟩⟩⟩⟩⟩⟩⟩⟩⟩⟩⟩⟩⟩⟩⟩
theorem lw_p48 : lw_okq (⟨"TinStationModel", "breathe", "(I)V"⟩, 57) := ⟨⟨by decide +kernel, by decide +kernel⟩, List.mem_of_getElem? (i := 1043) (by decide +kernel), List.mem_of_getElem? (i := 1431) (by decide +kernel), List.mem_of_getElem? (i := 1432) (by decide +kernel)⟩
theorem lw_p49 : lw_okq (⟨"TinStationModel", "leakAll", "()V"⟩, 57) := ⟨⟨by decide +kernel, by decide +kernel⟩, List.mem_of_getElem? (i := 1043) (by decide +kernel), List.mem_of_getElem? (i := 1435) (by decide +kernel), List.mem_of_getElem? (i := 1436) (by decide +kernel)⟩
theorem lw_p50 : lw_okq (⟨"TinStationModel", "mixAll", "()V"⟩, 57) := ⟨⟨by decide +kernel, by decide +kernel⟩, List.mem_of_getElem? (i := 1043) (by decide +kernel), List.mem_of_getElem? (i := 1440) (by decide +kernel), List.mem_of_getElem? (i := 1441) (by decide +kernel)⟩
theorem lw_p51 : lw_okq (⟨"TinStationModel", "brokenAt", "()I"⟩, 57) := ⟨⟨by decide +kernel, by decide +kernel⟩, List.mem_of_getElem? (i := 1043) (by decide +kernel), List.mem_of_getElem? (i := 1444) (by decide +kernel), List.mem_of_getElem? (i := 1445) (by decide +kernel)⟩
theorem lw_p52 : lw_okq (⟨"TinStationModel", "layAside", "(Z)V"⟩, 57) := ⟨⟨by decide +kernel, by decide +kernel⟩, List.mem_of_getElem? (i := 1043) (by decide +kernel), List.mem_of_getElem? (i := 1456) (by decide +kernel), List.mem_of_getElem? (i := 1457) (by decide +kernel)⟩
theorem lw_p53 : lw_okq (⟨"TinStationModel", "lays", "([IZ)V"⟩, 57) := ⟨⟨by decide +kernel, by decide +kernel⟩, List.mem_of_getElem? (i := 1043) (by decide +kernel), List.mem_of_getElem? (i := 1460) (by decide +kernel), List.mem_of_getElem? (i := 1461) (by decide +kernel)⟩
theorem lw_p54 : lw_okq (⟨"TinStationModel", "partOf", "(II)I"⟩, 57) := ⟨⟨by decide +kernel, by decide +kernel⟩, List.mem_of_getElem? (i := 1043) (by decide +kernel), List.mem_of_getElem? (i := 1472) (by decide +kernel), List.mem_of_getElem? (i := 1473) (by decide +kernel)⟩
theorem lw_p55 : lw_okq (⟨"TinStationModel", "worst", "(I)I"⟩, 57) := ⟨⟨by decide +kernel, by decide +kernel⟩, List.mem_of_getElem? (i := 1043) (by decide +kernel), List.mem_of_getElem? (i := 1480) (by decide +kernel), List.mem_of_getElem? (i := 1481) (by decide +kernel)⟩
theorem lw_p56 : lw_okq (⟨"TinStationModel", "tooMuch", "(II)I"⟩, 57) := ⟨⟨by decide +kernel, by decide +kernel⟩, List.mem_of_getElem? (i := 1043) (by decide +kernel), List.mem_of_getElem? (i := 1503) (by decide +kernel), List.mem_of_getElem? (i := 1504) (by decide +kernel)⟩
def lw_privs_4 : List (MethodName × Nat) := [(⟨"TinStationModel", "breathe", "(I)V"⟩, 57), (⟨"TinStationModel", "leakAll", "()V"⟩, 57), (⟨"TinStationModel", "mixAll", "()V"⟩, 57), (⟨"TinStationModel", "brokenAt", "()I"⟩, 57), (⟨"TinStationModel", "layAside", "(Z)V"⟩, 57), (⟨"TinStationModel", "lays", "([IZ)V"⟩, 57), (⟨"TinStationModel", "partOf", "(II)I"⟩, 57), (⟨"TinStationModel", "worst", "(I)I"⟩, 57), (⟨"TinStationModel", "tooMuch", "(II)I"⟩, 57)]
theorem lw_r4 : ∀ q ∈ lw_privs_4, lw_okq q := List.forall_mem_cons.mpr ⟨lw_p48, List.forall_mem_cons.mpr ⟨lw_p49, List.forall_mem_cons.mpr ⟨lw_p50, List.forall_mem_cons.mpr ⟨lw_p51, List.forall_mem_cons.mpr ⟨lw_p52, List.forall_mem_cons.mpr ⟨lw_p53, List.forall_mem_cons.mpr ⟨lw_p54, List.forall_mem_cons.mpr ⟨lw_p55, List.forall_mem_cons.mpr ⟨lw_p56, fun _ h => absurd h List.not_mem_nil⟩⟩⟩⟩⟩⟩⟩⟩⟩
def lw_privs : List (MethodName × Nat) := lw_privs_1 ++ (lw_privs_2 ++ (lw_privs_3 ++ (lw_privs_4)))
def lw_tbl : List Cond := k2_sels lw_privs ++ tables_1
theorem lw_privs_ok : ∀ q ∈ lw_privs, lw_okq q := by
  show ∀ q ∈ lw_privs_1 ++ (lw_privs_2 ++ (lw_privs_3 ++ (lw_privs_4))), lw_okq q
  exact List.forall_mem_append.mpr ⟨lw_r1, List.forall_mem_append.mpr ⟨lw_r2, List.forall_mem_append.mpr ⟨lw_r3, lw_r4⟩⟩⟩
end
section
def RX0 : String := "TinStation$Air"
def TX0 : u_T := fun k => match k with
  | 0 => ("TinStation$Air", "held", "[I", true)
  | 1 => ("TinStation$Air", "leaks", "[I", true)
  | 2 => ("TinStation$Air", "oneEnd", "[I", true)
  | 3 => ("TinStation$Air", "otherEnd", "[I", true)
  | 4 => ("TinStation$Air", "open", "[Z", true)
  | 5 => ("TinStation$Air", "stored", "[I", true)
  | 6 => ("TinStation$Air", "modules", "I", false)
  | _ => ("TinStation$Air", "hatches", "I", false)
def tyX0 : Nat → FieldType := fun k => match k with
  | 0 => .array .int
  | 1 => .array .int
  | 2 => .array .int
  | 3 => .array .int
  | 4 => .array .boolean
  | 5 => .array .int
  | 6 => .int
  | _ => .int
theorem nmX0 : ∀ a, a < 8 → ∀ b, b < 8 → a ≠ b → (TX0 a).2.1 ≠ (TX0 b).2.1 := by decide +kernel
theorem tyX0_ok : ∀ k, k < 8 → parseFieldDescriptor (TX0 k).2.2.1 = some (tyX0 k) := by decide +kernel
abbrev cX0_init : ByteArray := prog_2_method_1_code
def yX0_init : MethodName := ⟨RX0, "<init>", "()V"⟩
abbrev cX0_becomeLike : ByteArray := prog_2_method_2_code
def yX0_becomeLike : MethodName := ⟨RX0, "becomeLike", "(LTinStation$Air;)V"⟩
abbrev cX0_isSort : ByteArray := prog_2_method_3_code
def yX0_isSort : MethodName := ⟨RX0, "isSort", "(I)Z"⟩
abbrev cX0_hasModule : ByteArray := prog_2_method_4_code
def yX0_hasModule : MethodName := ⟨RX0, "hasModule", "(I)Z"⟩
abbrev cX0_hasHatch : ByteArray := prog_2_method_5_code
def yX0_hasHatch : MethodName := ⟨RX0, "hasHatch", "(I)Z"⟩
abbrev cX0_addModule : ByteArray := prog_2_method_6_code
def yX0_addModule : MethodName := ⟨RX0, "addModule", "()I"⟩
abbrev cX0_addHatch : ByteArray := prog_2_method_7_code
def yX0_addHatch : MethodName := ⟨RX0, "addHatch", "(II)I"⟩
abbrev cX0_setOpen : ByteArray := prog_2_method_8_code
def yX0_setOpen : MethodName := ⟨RX0, "setOpen", "(II)I"⟩
abbrev cX0_setHeld : ByteArray := prog_2_method_9_code
def yX0_setHeld : MethodName := ⟨RX0, "setHeld", "(III)I"⟩
abbrev cX0_setLeak : ByteArray := prog_2_method_10_code
def yX0_setLeak : MethodName := ⟨RX0, "setLeak", "(II)I"⟩
abbrev cX0_setStored : ByteArray := prog_2_method_11_code
def yX0_setStored : MethodName := ⟨RX0, "setStored", "(II)I"⟩
abbrev cX0_allGrams : ByteArray := prog_2_method_12_code
def yX0_allGrams : MethodName := ⟨RX0, "allGrams", "()I"⟩
abbrev cX0_amount : ByteArray := prog_2_method_13_code
def yX0_amount : MethodName := ⟨RX0, "amount", "(II)I"⟩
abbrev cX0_give : ByteArray := prog_2_method_14_code
def yX0_give : MethodName := ⟨RX0, "give", "(III)V"⟩
abbrev cX0_take : ByteArray := prog_2_method_15_code
def yX0_take : MethodName := ⟨RX0, "take", "(III)I"⟩
abbrev cX0_fill : ByteArray := prog_2_method_16_code
def yX0_fill : MethodName := ⟨RX0, "fill", "(II)V"⟩
abbrev cX0_draw : ByteArray := prog_2_method_17_code
def yX0_draw : MethodName := ⟨RX0, "draw", "(II)I"⟩
abbrev cX0_openBetween : ByteArray := prog_2_method_18_code
def yX0_openBetween : MethodName := ⟨RX0, "openBetween", "(II)Z"⟩
abbrev cX0_leakOut : ByteArray := prog_2_method_19_code
def yX0_leakOut : MethodName := ⟨RX0, "leakOut", "()V"⟩
abbrev cX0_mixThroughHatches : ByteArray := prog_2_method_20_code
def yX0_mixThroughHatches : MethodName := ⟨RX0, "mixThroughHatches", "()V"⟩
abbrev cX0_mix : ByteArray := prog_2_method_21_code
def yX0_mix : MethodName := ⟨RX0, "mix", "(II)V"⟩
def RX1 : String := "TinStation$Bounds"
def TX1 : u_T := fun k => match k with
  | 0 => ("TinStation$Bounds", "leastOxygen", "I", false)
  | 1 => ("TinStation$Bounds", "mostCarbon", "I", false)
  | 2 => ("TinStation$Bounds", "mostHeat", "I", false)
  | 3 => ("TinStation$Bounds", "broken", "Z", false)
  | 4 => ("TinStation$Bounds", "firstTick", "I", false)
  | _ => ("TinStation$Bounds", "firstModule", "I", false)
def tyX1 : Nat → FieldType := fun k => match k with
  | 0 => .int
  | 1 => .int
  | 2 => .int
  | 3 => .boolean
  | 4 => .int
  | _ => .int
theorem nmX1 : ∀ a, a < 6 → ∀ b, b < 6 → a ≠ b → (TX1 a).2.1 ≠ (TX1 b).2.1 := by decide +kernel
theorem tyX1_ok : ∀ k, k < 6 → parseFieldDescriptor (TX1 k).2.2.1 = some (tyX1 k) := by decide +kernel
abbrev cX1_init : ByteArray := prog_3_method_1_code
def yX1_init : MethodName := ⟨RX1, "<init>", "()V"⟩
abbrev cX1_becomeLike : ByteArray := prog_3_method_2_code
def yX1_becomeLike : MethodName := ⟨RX1, "becomeLike", "(LTinStation$Bounds;)V"⟩
abbrev cX1_setAll : ByteArray := prog_3_method_3_code
def yX1_setAll : MethodName := ⟨RX1, "setAll", "(III)I"⟩
abbrev cX1_isBound : ByteArray := prog_3_method_4_code
def yX1_isBound : MethodName := ⟨RX1, "isBound", "(I)Z"⟩
abbrev cX1_tellFirstBreak : ByteArray := prog_3_method_5_code
def yX1_tellFirstBreak : MethodName := ⟨RX1, "tellFirstBreak", "(I)I"⟩
abbrev cX1_look : ByteArray := prog_3_method_6_code
def yX1_look : MethodName := ⟨RX1, "look", "(LTinStation$Air;LTinStation$Crew;I)Z"⟩
abbrev cX1_breaksIn : ByteArray := prog_3_method_7_code
def yX1_breaksIn : MethodName := ⟨RX1, "breaksIn", "(ILTinStation$Air;)Z"⟩
abbrev cX1_keepFirst : ByteArray := prog_3_method_8_code
def yX1_keepFirst : MethodName := ⟨RX1, "keepFirst", "(II)V"⟩
def RX2 : String := "TinStation$Course"
def TX2 : u_T := fun k => match k with
  | 0 => ("TinStation$Course", "runs", "Z", false)
  | 1 => ("TinStation$Course", "halted", "Z", false)
  | 2 => ("TinStation$Course", "aborting", "Z", false)
  | 3 => ("TinStation$Course", "next", "I", false)
  | 4 => ("TinStation$Course", "safe", "I", false)
  | 5 => ("TinStation$Course", "waitLeft", "I", false)
  | _ => ("TinStation$Course", "ended", "I", false)
def tyX2 : Nat → FieldType := fun k => match k with
  | 0 => .boolean
  | 1 => .boolean
  | 2 => .boolean
  | 3 => .int
  | 4 => .int
  | 5 => .int
  | _ => .int
theorem nmX2 : ∀ a, a < 7 → ∀ b, b < 7 → a ≠ b → (TX2 a).2.1 ≠ (TX2 b).2.1 := by decide +kernel
theorem tyX2_ok : ∀ k, k < 7 → parseFieldDescriptor (TX2 k).2.2.1 = some (tyX2 k) := by decide +kernel
abbrev cX2_init : ByteArray := prog_4_method_1_code
def yX2_init : MethodName := ⟨RX2, "<init>", "()V"⟩
abbrev cX2_becomeLike : ByteArray := prog_4_method_2_code
def yX2_becomeLike : MethodName := ⟨RX2, "becomeLike", "(LTinStation$Course;)V"⟩
abbrev cX2_start : ByteArray := prog_4_method_3_code
def yX2_start : MethodName := ⟨RX2, "start", "()V"⟩
abbrev cX2_finish : ByteArray := prog_4_method_4_code
def yX2_finish : MethodName := ⟨RX2, "finish", "(I)V"⟩
abbrev cX2_goOnAt : ByteArray := prog_4_method_5_code
def yX2_goOnAt : MethodName := ⟨RX2, "goOnAt", "(I)V"⟩
abbrev cX2_giveUp : ByteArray := prog_4_method_6_code
def yX2_giveUp : MethodName := ⟨RX2, "giveUp", "()V"⟩
abbrev cX2_setHalted : ByteArray := prog_4_method_7_code
def yX2_setHalted : MethodName := ⟨RX2, "setHalted", "(I)I"⟩
abbrev cX2_tellOf : ByteArray := prog_4_method_8_code
def yX2_tellOf : MethodName := ⟨RX2, "tellOf", "(I)I"⟩
def RX3 : String := "TinStation$Crew"
def TX3 : u_T := fun k => match k with
  | 0 => ("TinStation$Crew", "place", "[I", true)
  | 1 => ("TinStation$Crew", "does", "[I", true)
  | 2 => ("TinStation$Crew", "mended", "[I", true)
  | 3 => ("TinStation$Crew", "ticksLeft", "[I", true)
  | 4 => ("TinStation$Crew", "shortOfAir", "[I", true)
  | 5 => ("TinStation$Crew", "dry", "[I", true)
  | _ => ("TinStation$Crew", "people", "I", false)
def tyX3 : Nat → FieldType := fun k => match k with
  | 0 => .array .int
  | 1 => .array .int
  | 2 => .array .int
  | 3 => .array .int
  | 4 => .array .int
  | 5 => .array .int
  | _ => .int
theorem nmX3 : ∀ a, a < 7 → ∀ b, b < 7 → a ≠ b → (TX3 a).2.1 ≠ (TX3 b).2.1 := by decide +kernel
theorem tyX3_ok : ∀ k, k < 7 → parseFieldDescriptor (TX3 k).2.2.1 = some (tyX3 k) := by decide +kernel
abbrev cX3_init : ByteArray := prog_5_method_1_code
def yX3_init : MethodName := ⟨RX3, "<init>", "()V"⟩
abbrev cX3_becomeLike : ByteArray := prog_5_method_2_code
def yX3_becomeLike : MethodName := ⟨RX3, "becomeLike", "(LTinStation$Crew;)V"⟩
abbrev cX3_has : ByteArray := prog_5_method_3_code
def yX3_has : MethodName := ⟨RX3, "has", "(I)Z"⟩
abbrev cX3_mends : ByteArray := prog_5_method_4_code
def yX3_mends : MethodName := ⟨RX3, "mends", "(I)Z"⟩
abbrev cX3_addPerson : ByteArray := prog_5_method_5_code
def yX3_addPerson : MethodName := ⟨RX3, "addPerson", "(I)I"⟩
abbrev cX3_setDoing : ByteArray := prog_5_method_6_code
def yX3_setDoing : MethodName := ⟨RX3, "setDoing", "(II)I"⟩
abbrev cX3_tellOf : ByteArray := prog_5_method_7_code
def yX3_tellOf : MethodName := ⟨RX3, "tellOf", "(II)I"⟩
abbrev cX3_startMending : ByteArray := prog_5_method_8_code
def yX3_startMending : MethodName := ⟨RX3, "startMending", "(III)V"⟩
abbrev cX3_isMended : ByteArray := prog_5_method_9_code
def yX3_isMended : MethodName := ⟨RX3, "isMended", "(I)Z"⟩
abbrev cX3_menders : ByteArray := prog_5_method_10_code
def yX3_menders : MethodName := ⟨RX3, "menders", "()I"⟩
abbrev cX3_anyoneIn : ByteArray := prog_5_method_11_code
def yX3_anyoneIn : MethodName := ⟨RX3, "anyoneIn", "(I)Z"⟩
abbrev cX3_mendOn : ByteArray := prog_5_method_12_code
def yX3_mendOn : MethodName := ⟨RX3, "mendOn", "(LTinStation$Plant;)V"⟩
abbrev cX3_live : ByteArray := prog_5_method_13_code
def yX3_live : MethodName := ⟨RX3, "live", "(LTinStation$Air;)V"⟩
abbrev cX3_breathe : ByteArray := prog_5_method_14_code
def yX3_breathe : MethodName := ⟨RX3, "breathe", "(ILTinStation$Air;)V"⟩
abbrev cX3_drink : ByteArray := prog_5_method_15_code
def yX3_drink : MethodName := ⟨RX3, "drink", "(ILTinStation$Air;)V"⟩
def RX4 : String := "TinStation$Hunt"
def TX4 : u_T := fun k => match k with
  | 0 => ("TinStation$Hunt", "part", "[I", true)
  | _ => ("TinStation$Hunt", "suspected", "I", false)
def tyX4 : Nat → FieldType := fun k => match k with
  | 0 => .array .int
  | _ => .int
theorem nmX4 : ∀ a, a < 2 → ∀ b, b < 2 → a ≠ b → (TX4 a).2.1 ≠ (TX4 b).2.1 := by decide +kernel
theorem tyX4_ok : ∀ k, k < 2 → parseFieldDescriptor (TX4 k).2.2.1 = some (tyX4 k) := by decide +kernel
abbrev cX4_init : ByteArray := prog_6_method_1_code
def yX4_init : MethodName := ⟨RX4, "<init>", "()V"⟩
abbrev cX4_startOver : ByteArray := prog_6_method_2_code
def yX4_startOver : MethodName := ⟨RX4, "startOver", "(LTinStation$Air;)I"⟩
abbrev cX4_narrow : ByteArray := prog_6_method_3_code
def yX4_narrow : MethodName := ⟨RX4, "narrow", "(LTinStation$Air;II)I"⟩
abbrev cX4_bestTest : ByteArray := prog_6_method_4_code
def yX4_bestTest : MethodName := ⟨RX4, "bestTest", "(LTinStation$Air;I)I"⟩
abbrev cX4_leftAtWorst : ByteArray := prog_6_method_5_code
def yX4_leftAtWorst : MethodName := ⟨RX4, "leftAtWorst", "(LTinStation$Air;I)I"⟩
abbrev cX4_findParts : ByteArray := prog_6_method_6_code
def yX4_findParts : MethodName := ⟨RX4, "findParts", "(LTinStation$Air;I)V"⟩
abbrev cX4_join : ByteArray := prog_6_method_7_code
def yX4_join : MethodName := ⟨RX4, "join", "(LTinStation$Air;I)V"⟩
def RX5 : String := "TinStation$Journal"
def TX5 : u_T := fun k => match k with
  | 0 => ("TinStation$Journal", "readSensor", "[I", true)
  | 1 => ("TinStation$Journal", "readTick", "[I", true)
  | 2 => ("TinStation$Journal", "readValue", "[I", true)
  | 3 => ("TinStation$Journal", "heardTick", "[I", true)
  | 4 => ("TinStation$Journal", "setSensor", "[I", true)
  | 5 => ("TinStation$Journal", "setTick", "[I", true)
  | 6 => ("TinStation$Journal", "setOver", "[I", true)
  | 7 => ("TinStation$Journal", "readings", "I", false)
  | 8 => ("TinStation$Journal", "calibrations", "I", false)
  | _ => ("TinStation$Journal", "lag", "I", false)
def tyX5 : Nat → FieldType := fun k => match k with
  | 0 => .array .int
  | 1 => .array .int
  | 2 => .array .int
  | 3 => .array .int
  | 4 => .array .int
  | 5 => .array .int
  | 6 => .array .int
  | 7 => .int
  | 8 => .int
  | _ => .int
theorem nmX5 : ∀ a, a < 10 → ∀ b, b < 10 → a ≠ b → (TX5 a).2.1 ≠ (TX5 b).2.1 := by decide +kernel
theorem tyX5_ok : ∀ k, k < 10 → parseFieldDescriptor (TX5 k).2.2.1 = some (tyX5 k) := by decide +kernel
abbrev cX5_init : ByteArray := prog_7_method_1_code
def yX5_init : MethodName := ⟨RX5, "<init>", "()V"⟩
abbrev cX5_isSensor : ByteArray := prog_7_method_2_code
def yX5_isSensor : MethodName := ⟨RX5, "isSensor", "(I)Z"⟩
abbrev cX5_addReading : ByteArray := prog_7_method_3_code
def yX5_addReading : MethodName := ⟨RX5, "addReading", "(III)I"⟩
abbrev cX5_addCalibration : ByteArray := prog_7_method_4_code
def yX5_addCalibration : MethodName := ⟨RX5, "addCalibration", "(III)I"⟩
abbrev cX5_setDelay : ByteArray := prog_7_method_5_code
def yX5_setDelay : MethodName := ⟨RX5, "setDelay", "(I)I"⟩
abbrev cX5_latestHeard : ByteArray := prog_7_method_6_code
def yX5_latestHeard : MethodName := ⟨RX5, "latestHeard", "(II)I"⟩
abbrev cX5_workedBack : ByteArray := prog_7_method_7_code
def yX5_workedBack : MethodName := ⟨RX5, "workedBack", "(I)I"⟩
abbrev cX5_tooMuch : ByteArray := prog_7_method_8_code
def yX5_tooMuch : MethodName := ⟨RX5, "tooMuch", "(II)I"⟩
abbrev cX5_between : ByteArray := prog_7_method_9_code
def yX5_between : MethodName := ⟨RX5, "between", "(III)I"⟩
def RX6 : String := "TinStation$Plant"
def TX6 : u_T := fun k => match k with
  | 0 => ("TinStation$Plant", "kind", "[I", true)
  | 1 => ("TinStation$Plant", "place", "[I", true)
  | 2 => ("TinStation$Plant", "rate", "[I", true)
  | 3 => ("TinStation$Plant", "power", "[I", true)
  | 4 => ("TinStation$Plant", "harm", "[I", true)
  | 5 => ("TinStation$Plant", "life", "[I", true)
  | 6 => ("TinStation$Plant", "wear", "[I", true)
  | 7 => ("TinStation$Plant", "on", "[Z", true)
  | 8 => ("TinStation$Plant", "fault", "[Z", true)
  | 9 => ("TinStation$Plant", "ran", "[Z", true)
  | 10 => ("TinStation$Plant", "sparesLeft", "[I", true)
  | 11 => ("TinStation$Plant", "machines", "I", false)
  | 12 => ("TinStation$Plant", "light", "I", false)
  | 13 => ("TinStation$Plant", "store", "I", false)
  | _ => ("TinStation$Plant", "charge", "I", false)
def tyX6 : Nat → FieldType := fun k => match k with
  | 0 => .array .int
  | 1 => .array .int
  | 2 => .array .int
  | 3 => .array .int
  | 4 => .array .int
  | 5 => .array .int
  | 6 => .array .int
  | 7 => .array .boolean
  | 8 => .array .boolean
  | 9 => .array .boolean
  | 10 => .array .int
  | 11 => .int
  | 12 => .int
  | 13 => .int
  | _ => .int
theorem nmX6 : ∀ a, a < 15 → ∀ b, b < 15 → a ≠ b → (TX6 a).2.1 ≠ (TX6 b).2.1 := by decide +kernel
theorem tyX6_ok : ∀ k, k < 15 → parseFieldDescriptor (TX6 k).2.2.1 = some (tyX6 k) := by decide +kernel
abbrev cX6_init : ByteArray := prog_8_method_1_code
def yX6_init : MethodName := ⟨RX6, "<init>", "()V"⟩
abbrev cX6_becomeLike : ByteArray := prog_8_method_2_code
def yX6_becomeLike : MethodName := ⟨RX6, "becomeLike", "(LTinStation$Plant;)V"⟩
abbrev cX6_isKind : ByteArray := prog_8_method_3_code
def yX6_isKind : MethodName := ⟨RX6, "isKind", "(I)Z"⟩
abbrev cX6_has : ByteArray := prog_8_method_4_code
def yX6_has : MethodName := ⟨RX6, "has", "(I)Z"⟩
abbrev cX6_addMachine : ByteArray := prog_8_method_5_code
def yX6_addMachine : MethodName := ⟨RX6, "addMachine", "(IIII)I"⟩
abbrev cX6_isUse : ByteArray := prog_8_method_6_code
def yX6_isUse : MethodName := ⟨RX6, "isUse", "(I)Z"⟩
abbrev cX6_rateAs : ByteArray := prog_8_method_7_code
def yX6_rateAs : MethodName := ⟨RX6, "rateAs", "(II)I"⟩
abbrev cX6_isUnder : ByteArray := prog_8_method_8_code
def yX6_isUnder : MethodName := ⟨RX6, "isUnder", "(II)Z"⟩
abbrev cX6_setOn : ByteArray := prog_8_method_9_code
def yX6_setOn : MethodName := ⟨RX6, "setOn", "(II)I"⟩
abbrev cX6_tellOf : ByteArray := prog_8_method_10_code
def yX6_tellOf : MethodName := ⟨RX6, "tellOf", "(II)I"⟩
abbrev cX6_setSpares : ByteArray := prog_8_method_11_code
def yX6_setSpares : MethodName := ⟨RX6, "setSpares", "(II)I"⟩
abbrev cX6_setSun : ByteArray := prog_8_method_12_code
def yX6_setSun : MethodName := ⟨RX6, "setSun", "(II)I"⟩
abbrev cX6_setBattery : ByteArray := prog_8_method_13_code
def yX6_setBattery : MethodName := ⟨RX6, "setBattery", "(I)I"⟩
abbrev cX6_makeNew : ByteArray := prog_8_method_14_code
def yX6_makeNew : MethodName := ⟨RX6, "makeNew", "(I)V"⟩
abbrev cX6_isReady : ByteArray := prog_8_method_15_code
def yX6_isReady : MethodName := ⟨RX6, "isReady", "(I)Z"⟩
abbrev cX6_sharePower : ByteArray := prog_8_method_16_code
def yX6_sharePower : MethodName := ⟨RX6, "sharePower", "(I)V"⟩
abbrev cX6_workAll : ByteArray := prog_8_method_17_code
def yX6_workAll : MethodName := ⟨RX6, "workAll", "(LTinStation$Air;)V"⟩
abbrev cX6_work : ByteArray := prog_8_method_18_code
def yX6_work : MethodName := ⟨RX6, "work", "(ILTinStation$Air;)V"⟩
abbrev cX6_split : ByteArray := prog_8_method_19_code
def yX6_split : MethodName := ⟨RX6, "split", "(ILTinStation$Air;)V"⟩
abbrev cX6_distil : ByteArray := prog_8_method_20_code
def yX6_distil : MethodName := ⟨RX6, "distil", "(ILTinStation$Air;)V"⟩
abbrev cX6_shedding : ByteArray := prog_8_method_21_code
def yX6_shedding : MethodName := ⟨RX6, "shedding", "(II)I"⟩
abbrev cX6_readySet : ByteArray := prog_8_method_22_code
def yX6_readySet : MethodName := ⟨RX6, "readySet", "()I"⟩
abbrev cX6_sumOver : ByteArray := prog_8_method_23_code
def yX6_sumOver : MethodName := ⟨RX6, "sumOver", "(I[I)I"⟩
abbrev cX6_leastHarm : ByteArray := prog_8_method_24_code
def yX6_leastHarm : MethodName := ⟨RX6, "leastHarm", "(I)I"⟩
def RX7 : String := "TinStation$Script"
def TX7 : u_T := fun k => match k with
  | 0 => ("TinStation$Script", "op", "[I", true)
  | 1 => ("TinStation$Script", "a", "[I", true)
  | 2 => ("TinStation$Script", "b", "[I", true)
  | 3 => ("TinStation$Script", "c", "[I", true)
  | _ => ("TinStation$Script", "lines", "I", false)
def tyX7 : Nat → FieldType := fun k => match k with
  | 0 => .array .int
  | 1 => .array .int
  | 2 => .array .int
  | 3 => .array .int
  | _ => .int
theorem nmX7 : ∀ a, a < 5 → ∀ b, b < 5 → a ≠ b → (TX7 a).2.1 ≠ (TX7 b).2.1 := by decide +kernel
theorem tyX7_ok : ∀ k, k < 5 → parseFieldDescriptor (TX7 k).2.2.1 = some (tyX7 k) := by decide +kernel
abbrev cX7_init : ByteArray := prog_9_method_1_code
def yX7_init : MethodName := ⟨RX7, "<init>", "()V"⟩
abbrev cX7_has : ByteArray := prog_9_method_2_code
def yX7_has : MethodName := ⟨RX7, "has", "(I)Z"⟩
abbrev cX7_addLine : ByteArray := prog_9_method_3_code
def yX7_addLine : MethodName := ⟨RX7, "addLine", "(IIII)I"⟩
def RX8 : String := "TinStation$World"
def TX8 : u_T := fun k => match k with
  | 0 => ("TinStation$World", "script", "LTinStation$Script;", true)
  | 1 => ("TinStation$World", "air", "LTinStation$Air;", true)
  | 2 => ("TinStation$World", "crew", "LTinStation$Crew;", true)
  | 3 => ("TinStation$World", "plant", "LTinStation$Plant;", true)
  | 4 => ("TinStation$World", "bounds", "LTinStation$Bounds;", true)
  | 5 => ("TinStation$World", "course", "LTinStation$Course;", true)
  | _ => ("TinStation$World", "tick", "I", false)
def tyX8 : Nat → FieldType := fun k => match k with
  | 0 => .object "TinStation$Script"
  | 1 => .object "TinStation$Air"
  | 2 => .object "TinStation$Crew"
  | 3 => .object "TinStation$Plant"
  | 4 => .object "TinStation$Bounds"
  | 5 => .object "TinStation$Course"
  | _ => .int
theorem nmX8 : ∀ a, a < 7 → ∀ b, b < 7 → a ≠ b → (TX8 a).2.1 ≠ (TX8 b).2.1 := by decide +kernel
theorem tyX8_ok : ∀ k, k < 7 → parseFieldDescriptor (TX8 k).2.2.1 = some (tyX8 k) := by decide +kernel
abbrev cX8_init : ByteArray := prog_10_method_1_code
def yX8_init : MethodName := ⟨RX8, "<init>", "(LTinStation$Script;)V"⟩
abbrev cX8_becomeLike : ByteArray := prog_10_method_2_code
def yX8_becomeLike : MethodName := ⟨RX8, "becomeLike", "(LTinStation$World;)V"⟩
abbrev cX8_passTick : ByteArray := prog_10_method_3_code
def yX8_passTick : MethodName := ⟨RX8, "passTick", "()Z"⟩
abbrev cX8_walk : ByteArray := prog_10_method_4_code
def yX8_walk : MethodName := ⟨RX8, "walk", "(II)I"⟩
abbrev cX8_mend : ByteArray := prog_10_method_5_code
def yX8_mend : MethodName := ⟨RX8, "mend", "(III)I"⟩
abbrev cX8_doText : ByteArray := prog_10_method_6_code
def yX8_doText : MethodName := ⟨RX8, "doText", "()V"⟩
abbrev cX8_lineAfter : ByteArray := prog_10_method_7_code
def yX8_lineAfter : MethodName := ⟨RX8, "lineAfter", "(I)I"⟩
abbrev cX8_actByText : ByteArray := prog_10_method_8_code
def yX8_actByText : MethodName := ⟨RX8, "actByText", "(I)I"⟩
abbrev cX8_lineAfterCheck : ByteArray := prog_10_method_9_code
def yX8_lineAfterCheck : MethodName := ⟨RX8, "lineAfterCheck", "(I)I"⟩
abbrev cX8_isCheck : ByteArray := prog_10_method_10_code
def yX8_isCheck : MethodName := ⟨RX8, "isCheck", "(III)Z"⟩
abbrev cX8_holds : ByteArray := prog_10_method_11_code
def yX8_holds : MethodName := ⟨RX8, "holds", "(III)Z"⟩
def RX9 : String := "TinStation"
def TX9 : u_T := fun k => match k with
  | 0 => ("TinStation", "script", "LTinStation$Script;", true)
  | 1 => ("TinStation", "now", "LTinStation$World;", true)
  | 2 => ("TinStation", "later", "LTinStation$World;", true)
  | 3 => ("TinStation", "leakHunt", "LTinStation$Hunt;", true)
  | 4 => ("TinStation", "journal", "LTinStation$Journal;", true)
  | 5 => ("TinStation", "waiting", "[I", true)
  | 6 => ("TinStation", "findings", "[I", true)
  | 7 => ("TinStation", "waitingNumbers", "I", false)
  | 8 => ("TinStation", "stationMass", "I", false)
  | _ => ("TinStation", "stationSpeed", "I", false)
def tyX9 : Nat → FieldType := fun k => match k with
  | 0 => .object "TinStation$Script"
  | 1 => .object "TinStation$World"
  | 2 => .object "TinStation$World"
  | 3 => .object "TinStation$Hunt"
  | 4 => .object "TinStation$Journal"
  | 5 => .array .int
  | 6 => .array .int
  | 7 => .int
  | 8 => .int
  | _ => .int
theorem nmX9 : ∀ a, a < 10 → ∀ b, b < 10 → a ≠ b → (TX9 a).2.1 ≠ (TX9 b).2.1 := by decide +kernel
theorem tyX9_ok : ∀ k, k < 10 → parseFieldDescriptor (TX9 k).2.2.1 = some (tyX9 k) := by decide +kernel
abbrev cX9_init : ByteArray := prog_1_method_1_code
def yX9_init : MethodName := ⟨RX9, "<init>", "()V"⟩
abbrev cX9_module : ByteArray := prog_1_method_2_code
def yX9_module : MethodName := ⟨RX9, "module", "()I"⟩
abbrev cX9_hatch : ByteArray := prog_1_method_3_code
def yX9_hatch : MethodName := ⟨RX9, "hatch", "(II)I"⟩
abbrev cX9_shut : ByteArray := prog_1_method_4_code
def yX9_shut : MethodName := ⟨RX9, "shut", "(II)I"⟩
abbrev cX9_gas : ByteArray := prog_1_method_5_code
def yX9_gas : MethodName := ⟨RX9, "gas", "(III)I"⟩
abbrev cX9_leak : ByteArray := prog_1_method_6_code
def yX9_leak : MethodName := ⟨RX9, "leak", "(II)I"⟩
abbrev cX9_tank : ByteArray := prog_1_method_7_code
def yX9_tank : MethodName := ⟨RX9, "tank", "(II)I"⟩
abbrev cX9_grams : ByteArray := prog_1_method_8_code
def yX9_grams : MethodName := ⟨RX9, "grams", "()I"⟩
abbrev cX9_person : ByteArray := prog_1_method_9_code
def yX9_person : MethodName := ⟨RX9, "person", "(I)I"⟩
abbrev cX9_go : ByteArray := prog_1_method_10_code
def yX9_go : MethodName := ⟨RX9, "go", "(II)I"⟩
abbrev cX9_doing : ByteArray := prog_1_method_11_code
def yX9_doing : MethodName := ⟨RX9, "doing", "(II)I"⟩
abbrev cX9_about : ByteArray := prog_1_method_12_code
def yX9_about : MethodName := ⟨RX9, "about", "(II)I"⟩
abbrev cX9_machine : ByteArray := prog_1_method_13_code
def yX9_machine : MethodName := ⟨RX9, "machine", "(IIII)I"⟩
abbrev cX9_as : ByteArray := prog_1_method_14_code
def yX9_as : MethodName := ⟨RX9, "as", "(II)I"⟩
abbrev cX9_turn : ByteArray := prog_1_method_15_code
def yX9_turn : MethodName := ⟨RX9, "turn", "(II)I"⟩
abbrev cX9_of : ByteArray := prog_1_method_16_code
def yX9_of : MethodName := ⟨RX9, "of", "(II)I"⟩
abbrev cX9_spares : ByteArray := prog_1_method_17_code
def yX9_spares : MethodName := ⟨RX9, "spares", "(II)I"⟩
abbrev cX9_repair : ByteArray := prog_1_method_18_code
def yX9_repair : MethodName := ⟨RX9, "repair", "(III)I"⟩
abbrev cX9_shed : ByteArray := prog_1_method_19_code
def yX9_shed : MethodName := ⟨RX9, "shed", "(II)I"⟩
abbrev cX9_sun : ByteArray := prog_1_method_20_code
def yX9_sun : MethodName := ⟨RX9, "sun", "(II)I"⟩
abbrev cX9_battery : ByteArray := prog_1_method_21_code
def yX9_battery : MethodName := ⟨RX9, "battery", "(I)I"⟩
abbrev cX9_bounds : ByteArray := prog_1_method_22_code
def yX9_bounds : MethodName := ⟨RX9, "bounds", "(III)I"⟩
abbrev cX9_ticks : ByteArray := prog_1_method_23_code
def yX9_ticks : MethodName := ⟨RX9, "ticks", "(I)I"⟩
abbrev cX9_broke : ByteArray := prog_1_method_24_code
def yX9_broke : MethodName := ⟨RX9, "broke", "(I)I"⟩
abbrev cX9_ahead : ByteArray := prog_1_method_25_code
def yX9_ahead : MethodName := ⟨RX9, "ahead", "(I)I"⟩
abbrev cX9_line : ByteArray := prog_1_method_26_code
def yX9_line : MethodName := ⟨RX9, "line", "(IIII)I"⟩
abbrev cX9_erase : ByteArray := prog_1_method_27_code
def yX9_erase : MethodName := ⟨RX9, "erase", "()I"⟩
abbrev cX9_begin : ByteArray := prog_1_method_28_code
def yX9_begin : MethodName := ⟨RX9, "begin", "()I"⟩
abbrev cX9_halt : ByteArray := prog_1_method_29_code
def yX9_halt : MethodName := ⟨RX9, "halt", "(I)I"⟩
abbrev cX9_abort : ByteArray := prog_1_method_30_code
def yX9_abort : MethodName := ⟨RX9, "abort", "()I"⟩
abbrev cX9_text : ByteArray := prog_1_method_31_code
def yX9_text : MethodName := ⟨RX9, "text", "(I)I"⟩
abbrev cX9_hunt : ByteArray := prog_1_method_32_code
def yX9_hunt : MethodName := ⟨RX9, "hunt", "()I"⟩
abbrev cX9_test : ByteArray := prog_1_method_33_code
def yX9_test : MethodName := ⟨RX9, "test", "(II)I"⟩
abbrev cX9_best : ByteArray := prog_1_method_34_code
def yX9_best : MethodName := ⟨RX9, "best", "(I)I"⟩
abbrev cX9_suspects : ByteArray := prog_1_method_35_code
def yX9_suspects : MethodName := ⟨RX9, "suspects", "()I"⟩
abbrev cX9_read : ByteArray := prog_1_method_36_code
def yX9_read : MethodName := ⟨RX9, "read", "(II)I"⟩
abbrev cX9_calibrate : ByteArray := prog_1_method_37_code
def yX9_calibrate : MethodName := ⟨RX9, "calibrate", "(II)I"⟩
abbrev cX9_worked : ByteArray := prog_1_method_38_code
def yX9_worked : MethodName := ⟨RX9, "worked", "(I)I"⟩
abbrev cX9_delay : ByteArray := prog_1_method_39_code
def yX9_delay : MethodName := ⟨RX9, "delay", "(I)I"⟩
abbrev cX9_known : ByteArray := prog_1_method_40_code
def yX9_known : MethodName := ⟨RX9, "known", "(II)I"⟩
abbrev cX9_mass : ByteArray := prog_1_method_41_code
def yX9_mass : MethodName := ⟨RX9, "mass", "(II)I"⟩
abbrev cX9_dock : ByteArray := prog_1_method_42_code
def yX9_dock : MethodName := ⟨RX9, "dock", "(II)I"⟩
abbrev cX9_undock : ByteArray := prog_1_method_43_code
def yX9_undock : MethodName := ⟨RX9, "undock", "(I)I"⟩
abbrev cX9_tell : ByteArray := prog_1_method_44_code
def yX9_tell : MethodName := ⟨RX9, "tell", "(I)I"⟩
abbrev cX9_check : ByteArray := prog_1_method_45_code
def yX9_check : MethodName := ⟨RX9, "check", "(II)I"⟩
abbrev cX9_count : ByteArray := prog_1_method_46_code
def yX9_count : MethodName := ⟨RX9, "count", "(I)I"⟩
abbrev cX9_found : ByteArray := prog_1_method_47_code
def yX9_found : MethodName := ⟨RX9, "found", "(I)I"⟩
abbrev cX9_counted : ByteArray := prog_1_method_48_code
def yX9_counted : MethodName := ⟨RX9, "counted", "(I)I"⟩
abbrev cX9_setMass : ByteArray := prog_1_method_49_code
def yX9_setMass : MethodName := ⟨RX9, "setMass", "(I)I"⟩
abbrev cX9_setSpeed : ByteArray := prog_1_method_50_code
def yX9_setSpeed : MethodName := ⟨RX9, "setSpeed", "(I)I"⟩
abbrev cX9_isMass : ByteArray := prog_1_method_51_code
def yX9_isMass : MethodName := ⟨RX9, "isMass", "(I)Z"⟩
abbrev cX9_isSpeed : ByteArray := prog_1_method_52_code
def yX9_isSpeed : MethodName := ⟨RX9, "isSpeed", "(I)Z"⟩
abbrev cX9_isSwitch : ByteArray := prog_1_method_53_code
def yX9_isSwitch : MethodName := ⟨RX9, "isSwitch", "(I)Z"⟩
abbrev cX9_one : ByteArray := prog_1_method_54_code
def yX9_one : MethodName := ⟨RX9, "one", "(Z)I"⟩
abbrev cX9_copy : ByteArray := prog_1_method_55_code
def yX9_copy : MethodName := ⟨RX9, "copy", "([I[I)V"⟩
abbrev cX9_copyFlags : ByteArray := prog_1_method_56_code
def yX9_copyFlags : MethodName := ⟨RX9, "copyFlags", "([Z[Z)V"⟩
def RX10 : String := "TinStationModel"
def TX10 : u_T := fun k => match k with
  | 0 => ("TinStationModel", "modules", "I", false)
  | 1 => ("TinStationModel", "gas", "[I", true)
  | 2 => ("TinStationModel", "heat", "[I", true)
  | 3 => ("TinStationModel", "leak", "[I", true)
  | 4 => ("TinStationModel", "hatches", "I", false)
  | 5 => ("TinStationModel", "from", "[I", true)
  | 6 => ("TinStationModel", "to", "[I", true)
  | 7 => ("TinStationModel", "isOpen", "[I", true)
  | 8 => ("TinStationModel", "tank", "[I", true)
  | 9 => ("TinStationModel", "people", "I", false)
  | 10 => ("TinStationModel", "place", "[I", true)
  | 11 => ("TinStationModel", "does", "[I", true)
  | 12 => ("TinStationModel", "mends", "[I", true)
  | 13 => ("TinStationModel", "hours", "[I", true)
  | 14 => ("TinStationModel", "shorts", "[I", true)
  | 15 => ("TinStationModel", "dry", "[I", true)
  | 16 => ("TinStationModel", "machines", "I", false)
  | 17 => ("TinStationModel", "kind", "[I", true)
  | 18 => ("TinStationModel", "room", "[I", true)
  | 19 => ("TinStationModel", "rate", "[I", true)
  | 20 => ("TinStationModel", "power", "[I", true)
  | 21 => ("TinStationModel", "harm", "[I", true)
  | 22 => ("TinStationModel", "life", "[I", true)
  | 23 => ("TinStationModel", "wear", "[I", true)
  | 24 => ("TinStationModel", "isOn", "[I", true)
  | 25 => ("TinStationModel", "fault", "[I", true)
  | 26 => ("TinStationModel", "ran", "[I", true)
  | 27 => ("TinStationModel", "spares", "[I", true)
  | 28 => ("TinStationModel", "misc", "[I", true)
  | 29 => ("TinStationModel", "light", "I", false)
  | 30 => ("TinStationModel", "store", "I", false)
  | 31 => ("TinStationModel", "leastOxygen", "I", false)
  | 32 => ("TinStationModel", "mostCarbon", "I", false)
  | 33 => ("TinStationModel", "mostHeat", "I", false)
  | 34 => ("TinStationModel", "lines", "I", false)
  | 35 => ("TinStationModel", "op", "[I", true)
  | 36 => ("TinStationModel", "lineA", "[I", true)
  | 37 => ("TinStationModel", "lineB", "[I", true)
  | 38 => ("TinStationModel", "lineC", "[I", true)
  | 39 => ("TinStationModel", "suspects", "I", false)
  | 40 => ("TinStationModel", "readings", "I", false)
  | 41 => ("TinStationModel", "sensor", "[I", true)
  | 42 => ("TinStationModel", "readAt", "[I", true)
  | 43 => ("TinStationModel", "value", "[I", true)
  | 44 => ("TinStationModel", "heardAt", "[I", true)
  | 45 => ("TinStationModel", "calibrations", "I", false)
  | 46 => ("TinStationModel", "calSensor", "[I", true)
  | 47 => ("TinStationModel", "calAt", "[I", true)
  | 48 => ("TinStationModel", "over", "[I", true)
  | 49 => ("TinStationModel", "delay", "I", false)
  | 50 => ("TinStationModel", "mass", "I", false)
  | 51 => ("TinStationModel", "speed", "I", false)
  | 52 => ("TinStationModel", "waits", "I", false)
  | 53 => ("TinStationModel", "waiting", "[I", true)
  | 54 => ("TinStationModel", "found", "[I", true)
  | 55 => ("TinStationModel", "aside", "[I", true)
  | _ => ("TinStationModel", "asideAt", "I", false)
def tyX10 : Nat → FieldType := fun k => match k with
  | 0 => .int
  | 1 => .array .int
  | 2 => .array .int
  | 3 => .array .int
  | 4 => .int
  | 5 => .array .int
  | 6 => .array .int
  | 7 => .array .int
  | 8 => .array .int
  | 9 => .int
  | 10 => .array .int
  | 11 => .array .int
  | 12 => .array .int
  | 13 => .array .int
  | 14 => .array .int
  | 15 => .array .int
  | 16 => .int
  | 17 => .array .int
  | 18 => .array .int
  | 19 => .array .int
  | 20 => .array .int
  | 21 => .array .int
  | 22 => .array .int
  | 23 => .array .int
  | 24 => .array .int
  | 25 => .array .int
  | 26 => .array .int
  | 27 => .array .int
  | 28 => .array .int
  | 29 => .int
  | 30 => .int
  | 31 => .int
  | 32 => .int
  | 33 => .int
  | 34 => .int
  | 35 => .array .int
  | 36 => .array .int
  | 37 => .array .int
  | 38 => .array .int
  | 39 => .int
  | 40 => .int
  | 41 => .array .int
  | 42 => .array .int
  | 43 => .array .int
  | 44 => .array .int
  | 45 => .int
  | 46 => .array .int
  | 47 => .array .int
  | 48 => .array .int
  | 49 => .int
  | 50 => .int
  | 51 => .int
  | 52 => .int
  | 53 => .array .int
  | 54 => .array .int
  | 55 => .array .int
  | _ => .int
theorem nmX10 : ∀ a, a < 57 → ∀ b, b < 57 → a ≠ b → (TX10 a).2.1 ≠ (TX10 b).2.1 := by decide +kernel
theorem tyX10_ok : ∀ k, k < 57 → parseFieldDescriptor (TX10 k).2.2.1 = some (tyX10 k) := by decide +kernel
abbrev cX10_init : ByteArray := prog_12_method_1_code
def yX10_init : MethodName := ⟨RX10, "<init>", "()V"⟩
abbrev cX10_finding : ByteArray := prog_12_method_2_code
def yX10_finding : MethodName := ⟨RX10, "finding", "(I)I"⟩
abbrev cX10_isIn : ByteArray := prog_12_method_3_code
def yX10_isIn : MethodName := ⟨RX10, "isIn", "(III)Z"⟩
abbrev cX10_isModule : ByteArray := prog_12_method_4_code
def yX10_isModule : MethodName := ⟨RX10, "isModule", "(I)Z"⟩
abbrev cX10_isHatch : ByteArray := prog_12_method_5_code
def yX10_isHatch : MethodName := ⟨RX10, "isHatch", "(I)Z"⟩
abbrev cX10_isPerson : ByteArray := prog_12_method_6_code
def yX10_isPerson : MethodName := ⟨RX10, "isPerson", "(I)Z"⟩
abbrev cX10_isMachine : ByteArray := prog_12_method_7_code
def yX10_isMachine : MethodName := ⟨RX10, "isMachine", "(I)Z"⟩
abbrev cX10_module : ByteArray := prog_12_method_8_code
def yX10_module : MethodName := ⟨RX10, "module", "()I"⟩
abbrev cX10_hatch : ByteArray := prog_12_method_9_code
def yX10_hatch : MethodName := ⟨RX10, "hatch", "(II)I"⟩
abbrev cX10_shut : ByteArray := prog_12_method_10_code
def yX10_shut : MethodName := ⟨RX10, "shut", "(II)I"⟩
abbrev cX10_gas : ByteArray := prog_12_method_11_code
def yX10_gas : MethodName := ⟨RX10, "gas", "(III)I"⟩
abbrev cX10_leak : ByteArray := prog_12_method_12_code
def yX10_leak : MethodName := ⟨RX10, "leak", "(II)I"⟩
abbrev cX10_tank : ByteArray := prog_12_method_13_code
def yX10_tank : MethodName := ⟨RX10, "tank", "(II)I"⟩
abbrev cX10_grams : ByteArray := prog_12_method_14_code
def yX10_grams : MethodName := ⟨RX10, "grams", "()I"⟩
abbrev cX10_person : ByteArray := prog_12_method_15_code
def yX10_person : MethodName := ⟨RX10, "person", "(I)I"⟩
abbrev cX10_canGo : ByteArray := prog_12_method_16_code
def yX10_canGo : MethodName := ⟨RX10, "canGo", "(II)Z"⟩
abbrev cX10_go : ByteArray := prog_12_method_17_code
def yX10_go : MethodName := ⟨RX10, "go", "(II)I"⟩
abbrev cX10_doing : ByteArray := prog_12_method_18_code
def yX10_doing : MethodName := ⟨RX10, "doing", "(II)I"⟩
abbrev cX10_about : ByteArray := prog_12_method_19_code
def yX10_about : MethodName := ⟨RX10, "about", "(II)I"⟩
abbrev cX10_machine : ByteArray := prog_12_method_20_code
def yX10_machine : MethodName := ⟨RX10, "machine", "(IIII)I"⟩
abbrev cX10_as : ByteArray := prog_12_method_21_code
def yX10_as : MethodName := ⟨RX10, "as", "(II)I"⟩
abbrev cX10_turn : ByteArray := prog_12_method_22_code
def yX10_turn : MethodName := ⟨RX10, "turn", "(II)I"⟩
abbrev cX10_of : ByteArray := prog_12_method_23_code
def yX10_of : MethodName := ⟨RX10, "of", "(II)I"⟩
abbrev cX10_spares : ByteArray := prog_12_method_24_code
def yX10_spares : MethodName := ⟨RX10, "spares", "(II)I"⟩
abbrev cX10_isMended : ByteArray := prog_12_method_25_code
def yX10_isMended : MethodName := ⟨RX10, "isMended", "(I)Z"⟩
abbrev cX10_refusesMend : ByteArray := prog_12_method_26_code
def yX10_refusesMend : MethodName := ⟨RX10, "refusesMend", "(III)I"⟩
abbrev cX10_beginMend : ByteArray := prog_12_method_27_code
def yX10_beginMend : MethodName := ⟨RX10, "beginMend", "(III)V"⟩
abbrev cX10_repair : ByteArray := prog_12_method_28_code
def yX10_repair : MethodName := ⟨RX10, "repair", "(III)I"⟩
abbrev cX10_canShed : ByteArray := prog_12_method_29_code
def yX10_canShed : MethodName := ⟨RX10, "canShed", "(I)Z"⟩
abbrev cX10_together : ByteArray := prog_12_method_30_code
def yX10_together : MethodName := ⟨RX10, "together", "(IZI)I"⟩
abbrev cX10_shed : ByteArray := prog_12_method_31_code
def yX10_shed : MethodName := ⟨RX10, "shed", "(II)I"⟩
abbrev cX10_endText : ByteArray := prog_12_method_32_code
def yX10_endText : MethodName := ⟨RX10, "endText", "(I)V"⟩
abbrev cX10_abortText : ByteArray := prog_12_method_33_code
def yX10_abortText : MethodName := ⟨RX10, "abortText", "()V"⟩
abbrev cX10_isLine : ByteArray := prog_12_method_34_code
def yX10_isLine : MethodName := ⟨RX10, "isLine", "(I)Z"⟩
abbrev cX10_canCheck : ByteArray := prog_12_method_35_code
def yX10_canCheck : MethodName := ⟨RX10, "canCheck", "(III)Z"⟩
abbrev cX10_isSo : ByteArray := prog_12_method_36_code
def yX10_isSo : MethodName := ⟨RX10, "isSo", "(II)Z"⟩
abbrev cX10_doLine : ByteArray := prog_12_method_37_code
def yX10_doLine : MethodName := ⟨RX10, "doLine", "(IIII)Z"⟩
abbrev cX10_runText : ByteArray := prog_12_method_38_code
def yX10_runText : MethodName := ⟨RX10, "runText", "()V"⟩
abbrev cX10_line : ByteArray := prog_12_method_39_code
def yX10_line : MethodName := ⟨RX10, "line", "(IIII)I"⟩
abbrev cX10_erase : ByteArray := prog_12_method_40_code
def yX10_erase : MethodName := ⟨RX10, "erase", "()I"⟩
abbrev cX10_begin : ByteArray := prog_12_method_41_code
def yX10_begin : MethodName := ⟨RX10, "begin", "()I"⟩
abbrev cX10_halt : ByteArray := prog_12_method_42_code
def yX10_halt : MethodName := ⟨RX10, "halt", "(I)I"⟩
abbrev cX10_abort : ByteArray := prog_12_method_43_code
def yX10_abort : MethodName := ⟨RX10, "abort", "()I"⟩
abbrev cX10_text : ByteArray := prog_12_method_44_code
def yX10_text : MethodName := ⟨RX10, "text", "(I)I"⟩
abbrev cX10_mendAll : ByteArray := prog_12_method_45_code
def yX10_mendAll : MethodName := ⟨RX10, "mendAll", "()V"⟩
abbrev cX10_feedAll : ByteArray := prog_12_method_46_code
def yX10_feedAll : MethodName := ⟨RX10, "feedAll", "()V"⟩
abbrev cX10_lesser : ByteArray := prog_12_method_47_code
def yX10_lesser : MethodName := ⟨RX10, "lesser", "(II)I"⟩
abbrev cX10_workOf : ByteArray := prog_12_method_48_code
def yX10_workOf : MethodName := ⟨RX10, "workOf", "(I)V"⟩
abbrev cX10_breathe : ByteArray := prog_12_method_49_code
def yX10_breathe : MethodName := ⟨RX10, "breathe", "(I)V"⟩
abbrev cX10_leakAll : ByteArray := prog_12_method_50_code
def yX10_leakAll : MethodName := ⟨RX10, "leakAll", "()V"⟩
abbrev cX10_mixAll : ByteArray := prog_12_method_51_code
def yX10_mixAll : MethodName := ⟨RX10, "mixAll", "()V"⟩
abbrev cX10_brokenAt : ByteArray := prog_12_method_52_code
def yX10_brokenAt : MethodName := ⟨RX10, "brokenAt", "()I"⟩
abbrev cX10_tick : ByteArray := prog_12_method_53_code
def yX10_tick : MethodName := ⟨RX10, "tick", "()Z"⟩
abbrev cX10_sun : ByteArray := prog_12_method_54_code
def yX10_sun : MethodName := ⟨RX10, "sun", "(II)I"⟩
abbrev cX10_battery : ByteArray := prog_12_method_55_code
def yX10_battery : MethodName := ⟨RX10, "battery", "(I)I"⟩
abbrev cX10_bounds : ByteArray := prog_12_method_56_code
def yX10_bounds : MethodName := ⟨RX10, "bounds", "(III)I"⟩
abbrev cX10_ticks : ByteArray := prog_12_method_57_code
def yX10_ticks : MethodName := ⟨RX10, "ticks", "(I)I"⟩
abbrev cX10_broke : ByteArray := prog_12_method_58_code
def yX10_broke : MethodName := ⟨RX10, "broke", "(I)I"⟩
abbrev cX10_lays : ByteArray := prog_12_method_59_code
def yX10_lays : MethodName := ⟨RX10, "lays", "([IZ)V"⟩
abbrev cX10_layAside : ByteArray := prog_12_method_60_code
def yX10_layAside : MethodName := ⟨RX10, "layAside", "(Z)V"⟩
abbrev cX10_ahead : ByteArray := prog_12_method_61_code
def yX10_ahead : MethodName := ⟨RX10, "ahead", "(I)I"⟩
abbrev cX10_partOf : ByteArray := prog_12_method_62_code
def yX10_partOf : MethodName := ⟨RX10, "partOf", "(II)I"⟩
abbrev cX10_ones : ByteArray := prog_12_method_63_code
def yX10_ones : MethodName := ⟨RX10, "ones", "(I)I"⟩
abbrev cX10_hunt : ByteArray := prog_12_method_64_code
def yX10_hunt : MethodName := ⟨RX10, "hunt", "()I"⟩
abbrev cX10_test : ByteArray := prog_12_method_65_code
def yX10_test : MethodName := ⟨RX10, "test", "(II)I"⟩
abbrev cX10_worst : ByteArray := prog_12_method_66_code
def yX10_worst : MethodName := ⟨RX10, "worst", "(I)I"⟩
abbrev cX10_best : ByteArray := prog_12_method_67_code
def yX10_best : MethodName := ⟨RX10, "best", "(I)I"⟩
abbrev cX10_suspects : ByteArray := prog_12_method_68_code
def yX10_suspects : MethodName := ⟨RX10, "suspects", "()I"⟩
abbrev cX10_read : ByteArray := prog_12_method_69_code
def yX10_read : MethodName := ⟨RX10, "read", "(II)I"⟩
abbrev cX10_calibrate : ByteArray := prog_12_method_70_code
def yX10_calibrate : MethodName := ⟨RX10, "calibrate", "(II)I"⟩
abbrev cX10_tooMuch : ByteArray := prog_12_method_71_code
def yX10_tooMuch : MethodName := ⟨RX10, "tooMuch", "(II)I"⟩
abbrev cX10_worked : ByteArray := prog_12_method_72_code
def yX10_worked : MethodName := ⟨RX10, "worked", "(I)I"⟩
abbrev cX10_delay : ByteArray := prog_12_method_73_code
def yX10_delay : MethodName := ⟨RX10, "delay", "(I)I"⟩
abbrev cX10_known : ByteArray := prog_12_method_74_code
def yX10_known : MethodName := ⟨RX10, "known", "(II)I"⟩
abbrev cX10_mass : ByteArray := prog_12_method_75_code
def yX10_mass : MethodName := ⟨RX10, "mass", "(II)I"⟩
abbrev cX10_dock : ByteArray := prog_12_method_76_code
def yX10_dock : MethodName := ⟨RX10, "dock", "(II)I"⟩
abbrev cX10_undock : ByteArray := prog_12_method_77_code
def yX10_undock : MethodName := ⟨RX10, "undock", "(I)I"⟩
abbrev cX10_tell : ByteArray := prog_12_method_78_code
def yX10_tell : MethodName := ⟨RX10, "tell", "(I)I"⟩
abbrev cX10_check : ByteArray := prog_12_method_79_code
def yX10_check : MethodName := ⟨RX10, "check", "(II)I"⟩
abbrev cX10_count : ByteArray := prog_12_method_80_code
def yX10_count : MethodName := ⟨RX10, "count", "(I)I"⟩
abbrev cX10_found : ByteArray := prog_12_method_81_code
def yX10_found : MethodName := ⟨RX10, "found", "(I)I"⟩
def RJ6 : String := "java/lang/Integer"
def TJ6 : u_T := fun k => match k with
  | _ => ("", "", "", false)
def tyJ6 : Nat → FieldType := fun k => match k with
  | _ => .int
theorem tyJ6_ok : ∀ k, k < 0 → parseFieldDescriptor (TJ6 k).2.2.1 = some (tyJ6 k) := by decide +kernel
abbrev cJ6_bitCount_0f7a4 : ByteArray := prog_13_method_49_code
def yJ6_bitCount_0f7a4 : MethodName := ⟨RJ6, "bitCount", "(I)I"⟩
def RJ9 : String := "java/lang/Math"
def TJ9 : u_T := fun k => match k with
  | _ => ("", "", "", false)
def tyJ9 : Nat → FieldType := fun k => match k with
  | _ => .int
theorem tyJ9_ok : ∀ k, k < 0 → parseFieldDescriptor (TJ9 k).2.2.1 = some (tyJ9 k) := by decide +kernel
abbrev cJ9_max_7cf53 : ByteArray := prog_14_method_65_code
def yJ9_max_7cf53 : MethodName := ⟨RJ9, "max", "(II)I"⟩
abbrev cJ9_min_7cf53 : ByteArray := prog_14_method_69_code
def yJ9_min_7cf53 : MethodName := ⟨RJ9, "min", "(II)I"⟩
def RJ10 : String := "java/lang/System"
def TJ10 : u_T := fun k => match k with
  | _ => ("", "", "", false)
def tyJ10 : Nat → FieldType := fun k => match k with
  | _ => .int
theorem tyJ10_ok : ∀ k, k < 0 → parseFieldDescriptor (TJ10 k).2.2.1 = some (tyJ10 k) := by decide +kernel
def RL : String := "TinStationLaw"
abbrev cL_law : ByteArray := code
def yL_law : MethodName := ⟨RL, "law", "([I)Z"⟩
abbrev vwCl : List vw_C := [(RX0, TX0, 8), (RX1, TX1, 6), (RX2, TX2, 7), (RX3, TX3, 7), (RX4, TX4, 2), (RX5, TX5, 10), (RX6, TX6, 15), (RX7, TX7, 5), (RX8, TX8, 7), (RX9, TX9, 10), (RX10, TX10, 57)]
end
section
/-- the words, the kinds of objects, the static arrays that the engine speaks of -/
def ec_tb : List Cond := lw_tbl.filter goodWord
abbrev ec_cl : List vw_C := vwCl
def ec_xt : List (Nat × (Nat → Int32)) := [(6, fun i => match i with
  | 0 => -1
  | 4 => 3
  | _ => 0), (3, fun i => match i with
  | 0 => 4
  | 1 => 6
  | _ => 14), (3, fun i => match i with
  | 0 => 10
  | 1 => 15
  | _ => 40)]
def ec_zs : List (String × String × String × Nat) := [("TinStation$Plant", "KIND_ABOVE", "[I", 0), ("TinStation$Crew", "BREATH", "[I", 1), ("TinStation$Crew", "WARMTH", "[I", 2)]
theorem ec_good : ∀ w ∈ ec_tb, (w.onTables && w.keeps) = true ∨ ∃ ty, w = .arrayClass ty := fun w hw => good_of_word (List.mem_filter.mp hw).2
theorem ec_sub : ∀ w ∈ ec_tb, w ∈ lw_tbl := fun w hw => (List.mem_filter.mp hw).1
theorem ec_in {w : Cond} {i : Nat} (h : lw_tbl[i]? = some w) (hg : goodWord w = true) : w ∈ ec_tb := List.mem_filter.mpr ⟨List.mem_of_getElem? h, hg⟩
theorem ec_ins {ws : List Cond} (h : ws.all (fun w => decide (w ∈ lw_tbl) && goodWord w) = true) : ∀ w ∈ ws, w ∈ ec_tb := fun w hw => by
  have h1 := List.all_eq_true.mp h w hw
  simp only [Bool.and_eq_true, decide_eq_true_eq] at h1
  exact List.mem_filter.mpr h1
theorem ec_k0 : ∀ w ∈ u_ws RX0 TX0 8, w ∈ ec_tb := ec_ins (by decide +kernel)
theorem ec_k1 : ∀ w ∈ u_ws RX1 TX1 6, w ∈ ec_tb := ec_ins (by decide +kernel)
theorem ec_k2 : ∀ w ∈ u_ws RX2 TX2 7, w ∈ ec_tb := ec_ins (by decide +kernel)
theorem ec_k3 : ∀ w ∈ u_ws RX3 TX3 7, w ∈ ec_tb := ec_ins (by decide +kernel)
theorem ec_k4 : ∀ w ∈ u_ws RX4 TX4 2, w ∈ ec_tb := ec_ins (by decide +kernel)
theorem ec_k5 : ∀ w ∈ u_ws RX5 TX5 10, w ∈ ec_tb := ec_ins (by decide +kernel)
theorem ec_k6 : ∀ w ∈ u_ws RX6 TX6 15, w ∈ ec_tb := ec_ins (by decide +kernel)
theorem ec_k7 : ∀ w ∈ u_ws RX7 TX7 5, w ∈ ec_tb := ec_ins (by decide +kernel)
theorem ec_k8 : ∀ w ∈ u_ws RX8 TX8 7, w ∈ ec_tb := ec_ins (by decide +kernel)
theorem ec_k9 : ∀ w ∈ u_ws RX9 TX9 10, w ∈ ec_tb := ec_ins (by decide +kernel)
theorem ec_k10 : ∀ w ∈ u_ws RX10 TX10 57, w ∈ ec_tb := ec_ins (by decide +kernel)
theorem ec_clok {ci : Nat} {C : String} {T : u_T} {N : Nat} (h : ec_cl[ci]? = some (C, T, N)) : (∀ w ∈ u_ws C T N, w ∈ ec_tb) ∧ ∃ ty0 : Nat → FieldType, (∀ k, k < N → parseFieldDescriptor (T k).2.2.1 = some (ty0 k)) ∧ (∀ a, a < N → ∀ b, b < N → a ≠ b → (T a).2.1 ≠ (T b).2.1) := by
  match ci, h with
  | 0, h => cases h; exact ⟨ec_k0, tyX0, tyX0_ok, nmX0⟩
  | 1, h => cases h; exact ⟨ec_k1, tyX1, tyX1_ok, nmX1⟩
  | 2, h => cases h; exact ⟨ec_k2, tyX2, tyX2_ok, nmX2⟩
  | 3, h => cases h; exact ⟨ec_k3, tyX3, tyX3_ok, nmX3⟩
  | 4, h => cases h; exact ⟨ec_k4, tyX4, tyX4_ok, nmX4⟩
  | 5, h => cases h; exact ⟨ec_k5, tyX5, tyX5_ok, nmX5⟩
  | 6, h => cases h; exact ⟨ec_k6, tyX6, tyX6_ok, nmX6⟩
  | 7, h => cases h; exact ⟨ec_k7, tyX7, tyX7_ok, nmX7⟩
  | 8, h => cases h; exact ⟨ec_k8, tyX8, tyX8_ok, nmX8⟩
  | 9, h => cases h; exact ⟨ec_k9, tyX9, tyX9_ok, nmX9⟩
  | 10, h => cases h; exact ⟨ec_k10, tyX10, tyX10_ok, nmX10⟩
  | k + 11, h => simp [ec_cl, vwCl] at h
end
section
/-! THE ENGINE: walks over abstract states. A ref is a PLACE in the list of cells; ad says its address; ca says which array kind a tag is (0: int, 1: boolean). -/
abbrev ex_V : Type := List Value
abbrev ex_C : Type := List va_E
abbrev ex_Q : Type := Option Value → ex_C → Prop
abbrev ex_S : Type := ex_V → ex_C → ex_Q → Prop
abbrev ex_L : Type := List (Option Value)
def ex_v (ad : Nat → Nat) (v : Value) : Value := match v with
  | .ref k => .ref (ad k)
  | w => w
theorem ex_v_cat (ad : Nat → Nat) (v : Value) : (ex_v ad v).category = v.category := by cases v <;> rfl
def ex_e (ad ca : Nat → Nat) (e : va_E) : va_E := match e with
  | .inl a => .inl (ca a.1, a.2)
  | .inr o => .inr (o.1, o.2.map (ex_v ad))
def ex_w (ad ca : Nat → Nat) (cs : ex_C) : va_W := cs.mapIdx (fun k e => (ad k, ex_e ad ca e))
theorem ex_w_get {ad ca : Nat → Nat} {cs : ex_C} {k : Nat} {e : va_E} (h : cs[k]? = some e) : (ex_w ad ca cs)[k]? = some (ad k, ex_e ad ca e) := by
  unfold ex_w
  rw [List.getElem?_mapIdx, h]
  rfl
theorem ex_w_at {ad ca : Nat → Nat} {cs : ex_C} {k : Nat} {q : Nat × va_E} (h : (ex_w ad ca cs)[k]? = some q) : ∃ e, cs[k]? = some e ∧ q = (ad k, ex_e ad ca e) := by
  unfold ex_w at h
  rw [List.getElem?_mapIdx] at h
  cases hc : cs[k]? with
  | none => rw [hc] at h; cases h
  | some e => rw [hc] at h; exact ⟨e, rfl, (Option.some.inj h).symm⟩
theorem ex_w_len {ad ca : Nat → Nat} {cs : ex_C} : (ex_w ad ca cs).length = cs.length := by
  unfold ex_w
  exact List.length_mapIdx
theorem ex_w_set {ad ca : Nat → Nat} {cs : ex_C} {k : Nat} {e : va_E} : (ex_w ad ca cs).set k (ad k, ex_e ad ca e) = ex_w ad ca (cs.set k e) := by
  apply List.ext_getElem?
  intro i
  unfold ex_w
  rw [List.getElem?_mapIdx, List.getElem?_set, List.getElem?_set, List.getElem?_mapIdx, List.length_mapIdx]
  by_cases hk : k = i
  · subst hk
    simp only [if_true]
    split <;> rfl
  · simp only [if_neg hk]
/-- the places' addresses are apart, and of a kind -/
def ex_D (ad : Nat → Nat) (n : Nat) (A : Nat → Prop) : Prop := (∀ i j, i < n → j < n → ad i = ad j → i = j) ∧ ∀ k, k < n → A (ad k)
theorem ex_D.va {ad ca : Nat → Nat} {cs : ex_C} {n : Nat} {A : Nat → Prop} (h : ex_D ad n A) (hn : cs.length = n) : va_D A (ex_w ad ca cs) := by
  have lt : ∀ {k : Nat} {q : Nat × va_E}, (ex_w ad ca cs)[k]? = some q → k < n ∧ q.1 = ad k := by
    intro k q hq
    obtain ⟨e, he, hqe⟩ := ex_w_at hq
    exact ⟨by rw [← hn]; exact (List.getElem?_eq_some_iff.mp he).1, by rw [hqe]⟩
  refine ⟨fun i j p q hi hj hpq => ?_, fun k q hk => ?_⟩
  · obtain ⟨h1, e1⟩ := lt hi
    obtain ⟨h2, e2⟩ := lt hj
    exact h.1 i j h1 h2 (by rw [← e1, ← e2]; exact hpq)
  · obtain ⟨h1, e1⟩ := lt hk
    rw [e1]
    exact h.2 k h1
/-- which cells a walk may change -/
def ex_A (ad : Nat → Nat) (n sz : Nat) : Nat → Prop := fun q => (∃ k, k < n ∧ q = ad k) ∨ sz ≤ q
theorem ex_D.self {ad : Nat → Nat} {n sz : Nat} {A : Nat → Prop} (h : ex_D ad n A) : ex_D ad n (ex_A ad n sz) := ⟨h.1, fun k hk => Or.inl ⟨k, hk, rfl⟩⟩
/-- what is known of the locals -/
def ex_ls (ad : Nat → Nat) (lv : ex_L) (nL : Nat) (ls : Array Slot) : Prop := ls.size = nL ∧ lv_wf ls ∧ lv.length ≤ nL ∧ ∀ (i : Nat) (v : Value), lv[i]? = some (some v) → ls[i]? = some (.val (ex_v ad v))
def ex_ll (ad : Nat → Nat) (lv : ex_L) : List (Nat × Value) := lv.zipIdx.filterMap (fun q => q.1.map (fun v => (q.2, ex_v ad v)))
theorem ex_ll_mem {ad : Nat → Nat} {lv : ex_L} {q : Nat × Value} : q ∈ ex_ll ad lv ↔ ∃ v, lv[q.1]? = some (some v) ∧ q.2 = ex_v ad v := by
  unfold ex_ll
  rw [List.mem_filterMap]
  constructor
  · rintro ⟨⟨o, i⟩, h1, h2⟩
    rw [List.mk_mem_zipIdx_iff_getElem?] at h1
    cases o with
    | none => cases h2
    | some v =>
      have := (Option.some.inj h2)
      subst this
      exact ⟨v, h1, rfl⟩
  · rintro ⟨v, h1, h2⟩
    refine ⟨(some v, q.1), ?_, ?_⟩
    · rw [List.mk_mem_zipIdx_iff_getElem?]; exact h1
    · show some (q.1, ex_v ad v) = some q
      rw [← h2]
theorem ex_ls.has {ad : Nat → Nat} {lv : ex_L} {nL : Nat} {ls : Array Slot} (h : ex_ls ad lv nL ls) : lv_has ls nL (ex_ll ad lv) := by
  refine ⟨h.1, h.2.1, fun q hq => ?_⟩
  obtain ⟨v, h1, h2⟩ := ex_ll_mem.mp hq
  rw [h2]
  exact h.2.2.2 _ _ h1
/-- no value of two slots begins just below i -/
def ex_so (lv : ex_L) (i : Nat) : Prop := i < lv.length ∧ match i with
  | 0 => True
  | j + 1 => match lv[j]? with
    | some (some w) => w.category = 1
    | _ => True
theorem ex_so.at {lv : ex_L} {i j : Nat} {w : Value} (h : ex_so lv i) (hj : j + 1 = i) (hw : lv[j]? = some (some w)) : w.category = 1 := by
  subst hj
  have h2 := h.2
  simp only [hw] at h2
  exact h2
theorem ex_ls.set1 {ad : Nat → Nat} {lv : ex_L} {nL i : Nat} {ls ls' : Array Slot} {v : Value} (h : ex_ls ad lv nL ls) (hs : ex_so lv i) (h' : lv_has ls' nL ((i, ex_v ad v) :: (ex_ll ad lv).filter (fun q => !(q.1 == i) && !(q.1 + 1 == i && q.2.category == 2)))) : ex_ls ad (lv.set i (some v)) nL ls' := by
  refine ⟨h'.1, h'.2.1, by rw [List.length_set]; exact h.2.2.1, fun j w hj => ?_⟩
  by_cases hij : j = i
  · subst hij
    rw [List.getElem?_set_self hs.1] at hj
    cases hj
    exact h'.2.2 (j, ex_v ad v) List.mem_cons_self
  · rw [List.getElem?_set_ne (Ne.symm hij)] at hj
    refine h'.2.2 (j, ex_v ad w) (List.mem_cons_of_mem _ (List.mem_filter.mpr ⟨ex_ll_mem.mpr ⟨w, hj, rfl⟩, ?_⟩))
    by_cases hj1 : j + 1 = i
    · have hc := hs.at hj1 hj
      simp [hij, ex_v_cat, hc]
    · simp [hij, hj1]
theorem ex_ls.set2 {ad : Nat → Nat} {lv : ex_L} {nL i : Nat} {ls ls' : Array Slot} {v : Value} (h : ex_ls ad lv nL ls) (hs : ex_so lv i) (h' : lv_has ls' nL ((i, ex_v ad v) :: (ex_ll ad lv).filter (fun q => !(q.1 == i) && (!(q.1 == i + 1) && !(q.1 + 1 == i && q.2.category == 2))))) : ex_ls ad ((lv.set i (some v)).set (i + 1) none) nL ls' := by
  refine ⟨h'.1, h'.2.1, by rw [List.length_set, List.length_set]; exact h.2.2.1, fun j w hj => ?_⟩
  by_cases hi1 : j = i + 1
  · subst hi1
    rw [List.getElem?_set] at hj
    split at hj
    · split at hj <;> cases hj
    · exact absurd rfl (by assumption)
  · rw [List.getElem?_set_ne (Ne.symm hi1)] at hj
    by_cases hij : j = i
    · subst hij
      rw [List.getElem?_set_self hs.1] at hj
      cases hj
      exact h'.2.2 (j, ex_v ad v) List.mem_cons_self
    · rw [List.getElem?_set_ne (Ne.symm hij)] at hj
      refine h'.2.2 (j, ex_v ad w) (List.mem_cons_of_mem _ (List.mem_filter.mpr ⟨ex_ll_mem.mpr ⟨w, hj, rfl⟩, ?_⟩))
      by_cases hj1 : j + 1 = i
      · have hc := hs.at hj1 hj
        simp [hij, hi1, ex_v_cat, hc]
      · simp [hij, hi1, hj1]
/-- static arrays: places from 1000 on; nobody writes them -/
abbrev ex_xt : Type := List (Nat × (Nat → Int32))
def ex_X (xt : ex_xt) (ad : Nat → Nat) (A : Nat → Prop) (U : State) (H : Heap) : Prop := ∀ (j n : Nat) (f : Nat → Int32), xt[j]? = some (n, f) → va_T .int (ad (1000 + j)) n (fun i => .int (f i)) A U H
def ex_Z (ad : Nat → Nat) (A : Nat → Prop) (U : State) (H : Heap) : Prop := ∀ (C n d : String) (j : Nat), (C, n, d, j) ∈ ec_zs → va_Z C n d (.ref (ad (1000 + j))) A U H
abbrev ex_tys (ca : Nat → Nat) : List (ClassId × FieldType) := [(ca 0, .int), (ca 1, .boolean)]
/-- the world of a state -/
def ex_U (D : va_G) (ad ca : Nat → Nat) (cs : ex_C) (n : Nat) (A : Nat → Prop) (U : State) : Prop := cs.length = n ∧ va_P D ec_cl (ex_w ad ca cs) U.heap ∧ ex_D ad n A ∧ va_K D ec_cl (ex_tys ca) U ∧ ex_X ec_xt ad A U U.heap ∧ ex_Z ad A U U.heap
def ex_Pc (D : va_G) (ad ca : Nat → Nat) (av : ex_V) (cs : ex_C) (n sz : Nat) : Array Value → State → Prop := fun v U => v = (av.map (ex_v ad)).toArray ∧ U.heap.size = sz ∧ ex_U D ad ca cs n (ex_A ad n sz) U
def ex_Qc (D : va_G) (ad ca : Nat → Nat) (Q : ex_Q) (n : Nat) (A : Nat → Prop) : Array Value → State → Outcome → State → Prop := fun _ st oc t => (∃ (r : Option Value) (cs' : ex_C), oc = .returned (r.map (ex_v ad)) ∧ Q r cs' ∧ cs'.length = n ∧ va_P D ec_cl (ex_w ad ca cs') t.heap) ∧ va_F A st t
abbrev ex_rm (fr lo : Nat) : Room := { frames := fr, cells := 0, slots := 0, locals := lo }
def ex_Met (l : Launch) (y : MethodName) (bytes : ByteArray) (maxL : Nat) (ret : Option FieldType) (fr lo : Nat) (sp : ex_S) : Prop :=
  ∀ (D : va_G) (ad ca : Nat → Nat) (n sz : Nat) (av : ex_V) (cs : ex_C) (Q : ex_Q), sp av cs Q →
    Met l y (.code y bytes maxL ret :: ec_tb) (ex_rm fr lo) (ex_Pc D ad ca av cs n sz) (ex_Qc D ad ca Q n (ex_A ad n sz)) 0 0 (ex_A ad n sz)
theorem ex_blind {D : va_G} {ad ca : Nat → Nat} {av : ex_V} {cs : ex_C} {n sz : Nat} : FrameBlind (ex_Pc D ad ca av cs n sz) := by
  intro a U g mk ⟨h1, h2, h3, h4, h5, h6, h7, h8⟩
  refine ⟨h1, h2, h3, h4, h5, va_K.moved (u := U) (U := U.calling g mk a) (Vm.Alike.refl U.vm) h6, fun j m f hj => ?_, fun C m d j hj => ?_⟩
  · exact va_T.moved (u := U) (U := U.calling g mk a) (Vm.Alike.refl U.vm) (h7 j m f hj)
  · exact va_Z.moved (u := U) (U := U.calling g mk a) (Vm.Alike.refl U.vm) (h8 C m d j hj)
/-! what a method's instructions link: its own name; fields (kind number, slot, may it be written, type); int constants; static arrays; calls (how many values with the receiver, the receiver's kind number, the callee's spec); which call is System.arraycopy -/
abbrev ex_K : Type := String × (Nat → Option (Nat × Nat × Bool × FieldType)) × (Nat → Option Int32) × (Nat → Option Nat) × (Nat → Option (Nat × Option Nat × ex_S)) × (Nat → Bool)
def ex_o {α : Type} (o : Option α) (k : α → Prop) : Prop := match o with
  | some a => k a
  | none => False
theorem ex_o.at {α : Type} {o : Option α} {k : α → Prop} (h : ex_o o k) : ∃ a, o = some a ∧ k a := by
  cases o with
  | none => exact h.elim
  | some a => exact ⟨a, rfl, h⟩
def ex_i1 (st : ex_V) (k : Int32 → ex_V → Prop) : Prop := match st with
  | .int x :: r => k x r
  | _ => False
def ex_i2 (st : ex_V) (k : Int32 → Int32 → ex_V → Prop) : Prop := match st with
  | .int y :: .int x :: r => k x y r
  | _ => False
def ex_l1 (st : ex_V) (k : Int64 → ex_V → Prop) : Prop := match st with
  | .long x :: r => k x r
  | _ => False
def ex_l2 (st : ex_V) (k : Int64 → Int64 → ex_V → Prop) : Prop := match st with
  | .long y :: .long x :: r => k x y r
  | _ => False
def ex_r1 (st : ex_V) (k : Nat → ex_V → Prop) : Prop := match st with
  | .ref a :: r => k a r
  | _ => False
def ex_ir (st : ex_V) (k : Int32 → Nat → ex_V → Prop) : Prop := match st with
  | .int i :: .ref a :: r => k i a r
  | _ => False
def ex_iir (st : ex_V) (k : Int32 → Int32 → Nat → ex_V → Prop) : Prop := match st with
  | .int x :: .int i :: .ref a :: r => k x i a r
  | _ => False
def ex_vr (st : ex_V) (k : Value → Nat → ex_V → Prop) : Prop := match st with
  | v :: .ref a :: r => k v a r
  | _ => False
def ex_v1 (st : ex_V) (k : Value → ex_V → Prop) : Prop := match st with
  | v :: r => k v r
  | _ => False
def ex_v2 (st : ex_V) (k : Value → Value → ex_V → Prop) : Prop := match st with
  | v :: w :: r => k v w r
  | _ => False
theorem ex_i1.at {st : ex_V} {k : Int32 → ex_V → Prop} (h : ex_i1 st k) : ∃ x r, st = .int x :: r ∧ k x r := by
  unfold ex_i1 at h
  split at h
  · exact ⟨_, _, rfl, h⟩
  · exact h.elim
theorem ex_i2.at {st : ex_V} {k : Int32 → Int32 → ex_V → Prop} (h : ex_i2 st k) : ∃ x y r, st = .int y :: .int x :: r ∧ k x y r := by
  unfold ex_i2 at h
  split at h
  · exact ⟨_, _, _, rfl, h⟩
  · exact h.elim
theorem ex_l1.at {st : ex_V} {k : Int64 → ex_V → Prop} (h : ex_l1 st k) : ∃ x r, st = .long x :: r ∧ k x r := by
  unfold ex_l1 at h
  split at h
  · exact ⟨_, _, rfl, h⟩
  · exact h.elim
theorem ex_l2.at {st : ex_V} {k : Int64 → Int64 → ex_V → Prop} (h : ex_l2 st k) : ∃ x y r, st = .long y :: .long x :: r ∧ k x y r := by
  unfold ex_l2 at h
  split at h
  · exact ⟨_, _, _, rfl, h⟩
  · exact h.elim
theorem ex_r1.at {st : ex_V} {k : Nat → ex_V → Prop} (h : ex_r1 st k) : ∃ a r, st = .ref a :: r ∧ k a r := by
  unfold ex_r1 at h
  split at h
  · exact ⟨_, _, rfl, h⟩
  · exact h.elim
theorem ex_ir.at {st : ex_V} {k : Int32 → Nat → ex_V → Prop} (h : ex_ir st k) : ∃ i a r, st = .int i :: .ref a :: r ∧ k i a r := by
  unfold ex_ir at h
  split at h
  · exact ⟨_, _, _, rfl, h⟩
  · exact h.elim
theorem ex_iir.at {st : ex_V} {k : Int32 → Int32 → Nat → ex_V → Prop} (h : ex_iir st k) : ∃ x i a r, st = .int x :: .int i :: .ref a :: r ∧ k x i a r := by
  unfold ex_iir at h
  split at h
  · exact ⟨_, _, _, _, rfl, h⟩
  · exact h.elim
theorem ex_vr.at {st : ex_V} {k : Value → Nat → ex_V → Prop} (h : ex_vr st k) : ∃ v a r, st = v :: .ref a :: r ∧ k v a r := by
  unfold ex_vr at h
  split at h
  · exact ⟨_, _, _, rfl, h⟩
  · exact h.elim
theorem ex_v1.at {st : ex_V} {k : Value → ex_V → Prop} (h : ex_v1 st k) : ∃ v r, st = v :: r ∧ k v r := by
  unfold ex_v1 at h
  split at h
  · exact ⟨_, _, rfl, h⟩
  · exact h.elim
theorem ex_v2.at {st : ex_V} {k : Value → Value → ex_V → Prop} (h : ex_v2 st k) : ∃ v w r, st = v :: w :: r ∧ k v w r := by
  unfold ex_v2 at h
  split at h
  · exact ⟨_, _, _, rfl, h⟩
  · exact h.elim
def ex_gi (lv : ex_L) (i : Nat) (k : Int32 → Prop) : Prop := match lv[i]? with
  | some (some (.int x)) => k x
  | _ => False
def ex_gl (lv : ex_L) (i : Nat) (k : Int64 → Prop) : Prop := match lv[i]? with
  | some (some (.long x)) => k x
  | _ => False
def ex_gr (lv : ex_L) (i : Nat) (k : Nat → Prop) : Prop := match lv[i]? with
  | some (some (.ref a)) => k a
  | _ => False
theorem ex_gi.at {lv : ex_L} {i : Nat} {k : Int32 → Prop} (h : ex_gi lv i k) : ∃ x, lv[i]? = some (some (.int x)) ∧ k x := by
  unfold ex_gi at h
  split at h
  · rename_i x e; exact ⟨x, e, h⟩
  · exact h.elim
theorem ex_gl.at {lv : ex_L} {i : Nat} {k : Int64 → Prop} (h : ex_gl lv i k) : ∃ x, lv[i]? = some (some (.long x)) ∧ k x := by
  unfold ex_gl at h
  split at h
  · rename_i x e; exact ⟨x, e, h⟩
  · exact h.elim
theorem ex_gr.at {lv : ex_L} {i : Nat} {k : Nat → Prop} (h : ex_gr lv i k) : ∃ a, lv[i]? = some (some (.ref a)) ∧ k a := by
  unfold ex_gr at h
  split at h
  · rename_i x e; exact ⟨x, e, h⟩
  · exact h.elim
/-- the object at a place -/
def ex_ob (cs : ex_C) (a ci : Nat) (k : List Value → Prop) : Prop := match cs[a]? with
  | some (.inr (c2, fs)) => c2 = ci ∧ k fs
  | _ => False
theorem ex_ob.at {cs : ex_C} {a ci : Nat} {k : List Value → Prop} (h : ex_ob cs a ci k) : ∃ fs, cs[a]? = some (.inr (ci, fs)) ∧ k fs := by
  unfold ex_ob at h
  split at h
  · rename_i c2 fs e
    obtain ⟨rfl, h⟩ := h
    exact ⟨fs, e, h⟩
  · exact h.elim
/-- the array of tag t at a place -/
def ex_ar (cs : ex_C) (a t : Nat) (k : Nat → (Nat → Int32) → Prop) : Prop := match cs[a]? with
  | some (.inl (t2, n, .inl f)) => t2 = t ∧ k n f
  | _ => False
theorem ex_ar.at {cs : ex_C} {a t : Nat} {k : Nat → (Nat → Int32) → Prop} (h : ex_ar cs a t k) : ∃ n f, cs[a]? = some (.inl (t, n, .inl f)) ∧ k n f := by
  unfold ex_ar at h
  split at h
  · rename_i t2 n f e
    obtain ⟨rfl, h⟩ := h
    exact ⟨n, f, e, h⟩
  · exact h.elim
/-- an array of ints at a place, or a static one -/
def ex_ax (xt : ex_xt) (cs : ex_C) (a : Nat) (k : Nat → (Nat → Int32) → Prop) : Prop := if 1000 ≤ a then ex_o xt[a - 1000]? (fun q => k q.1 q.2) else ex_ar cs a 0 k
/-- may a value be stored in a field of this type -/
def ex_fit (ty : FieldType) (v : Value) : Prop := match ty, v with
  | .int, .int _ => True
  | .long, .long _ => True
  | .boolean, .int x => x = 0 ∨ x = 1
  | .object _, .ref _ => True
  | .array _, .ref _ => True
  | _, _ => False
theorem ex_fit.ok {ad : Nat → Nat} {ty : FieldType} {v : Value} (h : ex_fit ty v) : narrow ty (ex_v ad v) = ex_v ad v ∧ fits ty (ex_v ad v) = true := by
  unfold ex_fit at h
  split at h
  · exact ⟨rfl, rfl⟩
  · exact ⟨rfl, rfl⟩
  · rcases h with rfl | rfl
    · exact ⟨(by decide : narrow .boolean (.int 0) = .int 0), (by decide : fits .boolean (.int 0) = true)⟩
    · exact ⟨(by decide : narrow .boolean (.int 1) = .int 1), (by decide : fits .boolean (.int 1) = true)⟩
  · exact ⟨rfl, rfl⟩
  · exact ⟨rfl, rfl⟩
  · exact h.elim
def ex_ret (ret : Option FieldType) (v : Int32) : Prop := match ret with
  | some .int => True
  | some .boolean => v = 0 ∨ v = 1
  | _ => False
/-- a jump -/
def ex_to (pc : Nat) (off : Int) (k : Nat → Prop) : Prop := 0 ≤ (pc : Int) + off ∧ k ((pc : Int) + off).toNat
theorem ex_to.at {pc : Nat} {off : Int} {k : Nat → Prop} (h : ex_to pc off k) : ∃ t : Nat, (pc : Int) + off = (t : Int) ∧ k t := ⟨_, (Int.toNat_of_nonneg h.1).symm, h.2⟩
def ex_tb (x : Int32) (k : Int → Prop) : Int → List Int → Prop
  | _, [] => True
  | lo, o :: r => (x = Int32.ofInt lo → k o) ∧ ex_tb x k (lo + 1) r
def ex_lk (x : Int32) (k : Int → Prop) : List (Int × Int) → Prop
  | [] => True
  | q :: r => (x = Int32.ofInt q.1 → k q.2) ∧ ex_lk x k r
def ex_ln (x : Int32) : List (Int × Int) → Prop
  | [] => True
  | q :: r => ¬ x = Int32.ofInt q.1 ∧ ex_ln x r
def ex_b (A B C : Prop) : Prop := (A → B) ∧ (¬ A → C)
end
section
/-- System.arraycopy of ints -/
def ex_cp (cs : ex_C) (st : ex_V) (k : ex_V → ex_C → Prop) : Prop := match st with
  | .int n :: .int dp :: .ref a :: .int sp :: .ref a0 :: r => ex_ar cs a0 0 (fun n0 f => ex_ar cs a 0 (fun n1 g => ¬ sp < 0 ∧ ¬ dp < 0 ∧ ¬ n < 0 ∧ sp.toNatClampNeg + n.toNatClampNeg ≤ n0 ∧ dp.toNatClampNeg + n.toNatClampNeg ≤ n1 ∧ (r.map (fun v => v.category)).sum ≤ 8 ∧ k r (cs.set a (.inl (0, n1, .inl (va_cpy f g sp.toNatClampNeg dp.toNatClampNeg n.toNatClampNeg))))))
  | _ => False
theorem ex_cp.at {cs : ex_C} {st : ex_V} {k : ex_V → ex_C → Prop} (h : ex_cp cs st k) : ∃ n dp a sp a0 r n0 f n1 g, st = .int n :: .int dp :: .ref a :: .int sp :: .ref a0 :: r ∧ cs[a0]? = some (.inl (0, n0, .inl f)) ∧ cs[a]? = some (.inl (0, n1, .inl g)) ∧ ¬ sp < 0 ∧ ¬ dp < 0 ∧ ¬ n < 0 ∧ sp.toNatClampNeg + n.toNatClampNeg ≤ n0 ∧ dp.toNatClampNeg + n.toNatClampNeg ≤ n1 ∧ (r.map (fun v => v.category)).sum ≤ 8 ∧ k r (cs.set a (.inl (0, n1, .inl (va_cpy f g sp.toNatClampNeg dp.toNatClampNeg n.toNatClampNeg)))) := by
  unfold ex_cp at h
  split at h
  · obtain ⟨n0, f, h1, h⟩ := ex_ar.at h
    obtain ⟨n1, g, h2, h⟩ := ex_ar.at h
    exact ⟨_, _, _, _, _, _, n0, f, n1, g, rfl, h1, h2, h⟩
  · exact h.elim
/-- one instruction: what must hold so that the walk goes on (K) or ends (Q) -/
def ex_i (xt : ex_xt) (cx : ex_K) (ret : Option FieldType) (Q : ex_Q) (i : Instr) (len pc : Nat) (lv : ex_L) (st : ex_V) (cs : ex_C) (K : Nat → ex_L → ex_V → ex_C → Prop) : Prop := match i with
  | .iconst n => len = 1 ∧ K (pc + 1) lv (.int (Int32.ofInt n) :: st) cs
  | .bipush n => len = 2 ∧ K (pc + 2) lv (.int (Int8.ofInt n).toInt32 :: st) cs
  | .sipush n => len = 3 ∧ K (pc + 3) lv (.int (Int16.ofInt n).toInt32 :: st) cs
  | .ldc ix => len = 2 ∧ ex_o (cx.2.2.1 ix) (fun v => K (pc + 2) lv (.int v :: st) cs)
  | .ldc_w ix => len = 3 ∧ ex_o (cx.2.2.1 ix) (fun v => K (pc + 3) lv (.int v :: st) cs)
  | .lconst n => len = 1 ∧ K (pc + 1) lv (.long (Int64.ofNat n) :: st) cs
  | .iload_n k => len = 1 ∧ ex_gi lv k (fun x => K (pc + 1) lv (.int x :: st) cs)
  | .iload k => len = 2 ∧ ex_gi lv k (fun x => K (pc + 2) lv (.int x :: st) cs)
  | .lload_n k => len = 1 ∧ ex_gl lv k (fun x => K (pc + 1) lv (.long x :: st) cs)
  | .lload k => len = 2 ∧ ex_gl lv k (fun x => K (pc + 2) lv (.long x :: st) cs)
  | .aload_n k => len = 1 ∧ ex_gr lv k (fun x => K (pc + 1) lv (.ref x :: st) cs)
  | .aload k => len = 2 ∧ ex_gr lv k (fun x => K (pc + 2) lv (.ref x :: st) cs)
  | .istore_n k => len = 1 ∧ ex_i1 st (fun x r => ex_so lv k ∧ K (pc + 1) (lv.set k (some (.int x))) r cs)
  | .istore k => len = 2 ∧ ex_i1 st (fun x r => ex_so lv k ∧ K (pc + 2) (lv.set k (some (.int x))) r cs)
  | .astore_n k => len = 1 ∧ ex_r1 st (fun x r => ex_so lv k ∧ K (pc + 1) (lv.set k (some (.ref x))) r cs)
  | .astore k => len = 2 ∧ ex_r1 st (fun x r => ex_so lv k ∧ K (pc + 2) (lv.set k (some (.ref x))) r cs)
  | .lstore_n k => len = 1 ∧ ex_l1 st (fun x r => ex_so lv k ∧ k + 1 < lv.length ∧ K (pc + 1) ((lv.set k (some (.long x))).set (k + 1) none) r cs)
  | .lstore k => len = 2 ∧ ex_l1 st (fun x r => ex_so lv k ∧ k + 1 < lv.length ∧ K (pc + 2) ((lv.set k (some (.long x))).set (k + 1) none) r cs)
  | .iinc k n => len = 3 ∧ ex_gi lv k (fun x => ex_so lv k ∧ K (pc + 3) (lv.set k (some (.int (x + Int32.ofInt n)))) st cs)
  | .iadd => len = 1 ∧ ex_i2 st (fun x y r => K (pc + 1) lv (.int (x + y) :: r) cs)
  | .isub => len = 1 ∧ ex_i2 st (fun x y r => K (pc + 1) lv (.int (x - y) :: r) cs)
  | .imul => len = 1 ∧ ex_i2 st (fun x y r => K (pc + 1) lv (.int (x * y) :: r) cs)
  | .iand => len = 1 ∧ ex_i2 st (fun x y r => K (pc + 1) lv (.int (x &&& y) :: r) cs)
  | .ior => len = 1 ∧ ex_i2 st (fun x y r => K (pc + 1) lv (.int (x ||| y) :: r) cs)
  | .ixor => len = 1 ∧ ex_i2 st (fun x y r => K (pc + 1) lv (.int (x ^^^ y) :: r) cs)
  | .ishl => len = 1 ∧ ex_i2 st (fun x y r => K (pc + 1) lv (.int (x <<< (y &&& 31)) :: r) cs)
  | .ishr => len = 1 ∧ ex_i2 st (fun x y r => K (pc + 1) lv (.int (x >>> (y &&& 31)) :: r) cs)
  | .iushr => len = 1 ∧ ex_i2 st (fun x y r => K (pc + 1) lv (.int (x.toUInt32 >>> (y.toUInt32 &&& Int32.toUInt32 31)).toInt32 :: r) cs)
  | .idiv => len = 1 ∧ ex_i2 st (fun x y r => ¬ y = 0 ∧ K (pc + 1) lv (.int (x / y) :: r) cs)
  | .irem => len = 1 ∧ ex_i2 st (fun x y r => ¬ y = 0 ∧ K (pc + 1) lv (.int (x - x / y * y) :: r) cs)
  | .ineg => len = 1 ∧ ex_i1 st (fun x r => K (pc + 1) lv (.int (-x) :: r) cs)
  | .i2l => len = 1 ∧ ex_i1 st (fun x r => K (pc + 1) lv (.long x.toInt64 :: r) cs)
  | .l2i => len = 1 ∧ ex_l1 st (fun x r => K (pc + 1) lv (.int x.toInt32 :: r) cs)
  | .ladd => len = 1 ∧ ex_l2 st (fun x y r => K (pc + 1) lv (.long (x + y) :: r) cs)
  | .lsub => len = 1 ∧ ex_l2 st (fun x y r => K (pc + 1) lv (.long (x - y) :: r) cs)
  | .lmul => len = 1 ∧ ex_l2 st (fun x y r => K (pc + 1) lv (.long (x * y) :: r) cs)
  | .ldiv => len = 1 ∧ ex_l2 st (fun x y r => ¬ y = 0 ∧ K (pc + 1) lv (.long (x / y) :: r) cs)
  | .dup => len = 1 ∧ ex_v1 st (fun v r => v.category = 1 ∧ K (pc + 1) lv (v :: v :: r) cs)
  | .pop => len = 1 ∧ ex_v1 st (fun v r => v.category = 1 ∧ K (pc + 1) lv r cs)
  | .dup_x1 => len = 1 ∧ ex_v2 st (fun v w r => v.category = 1 ∧ w.category = 1 ∧ K (pc + 1) lv (v :: w :: v :: r) cs)
  | .dup2 => len = 1 ∧ ex_v2 st (fun v w r => v.category = 1 ∧ w.category = 1 ∧ K (pc + 1) lv (v :: w :: v :: w :: r) cs)
  | .ifCond .eq off => len = 3 ∧ ex_i1 st (fun x r => ex_to pc off (fun t => ex_b (x = 0) (K t lv r cs) (K (pc + 3) lv r cs)))
  | .ifCond .ne off => len = 3 ∧ ex_i1 st (fun x r => ex_to pc off (fun t => ex_b (x = 0) (K (pc + 3) lv r cs) (K t lv r cs)))
  | .ifCond .lt off => len = 3 ∧ ex_i1 st (fun x r => ex_to pc off (fun t => ex_b (x < 0) (K t lv r cs) (K (pc + 3) lv r cs)))
  | .ifCond .ge off => len = 3 ∧ ex_i1 st (fun x r => ex_to pc off (fun t => ex_b (0 ≤ x) (K t lv r cs) (K (pc + 3) lv r cs)))
  | .ifCond .gt off => len = 3 ∧ ex_i1 st (fun x r => ex_to pc off (fun t => ex_b (0 < x) (K t lv r cs) (K (pc + 3) lv r cs)))
  | .ifCond .le off => len = 3 ∧ ex_i1 st (fun x r => ex_to pc off (fun t => ex_b (x ≤ 0) (K t lv r cs) (K (pc + 3) lv r cs)))
  | .if_icmp .eq off => len = 3 ∧ ex_i2 st (fun x y r => ex_to pc off (fun t => ex_b (x = y) (K t lv r cs) (K (pc + 3) lv r cs)))
  | .if_icmp .ne off => len = 3 ∧ ex_i2 st (fun x y r => ex_to pc off (fun t => ex_b (x = y) (K (pc + 3) lv r cs) (K t lv r cs)))
  | .if_icmp .lt off => len = 3 ∧ ex_i2 st (fun x y r => ex_to pc off (fun t => ex_b (x < y) (K t lv r cs) (K (pc + 3) lv r cs)))
  | .if_icmp .ge off => len = 3 ∧ ex_i2 st (fun x y r => ex_to pc off (fun t => ex_b (y ≤ x) (K t lv r cs) (K (pc + 3) lv r cs)))
  | .if_icmp .gt off => len = 3 ∧ ex_i2 st (fun x y r => ex_to pc off (fun t => ex_b (y < x) (K t lv r cs) (K (pc + 3) lv r cs)))
  | .if_icmp .le off => len = 3 ∧ ex_i2 st (fun x y r => ex_to pc off (fun t => ex_b (x ≤ y) (K t lv r cs) (K (pc + 3) lv r cs)))
  | .goto off => len = 3 ∧ ex_to pc off (fun t => K t lv st cs)
  | .tableswitch dflt lo hi offs => hi = lo + offs.size - 1 ∧ ex_i1 st (fun x r => (x.toInt < lo ∨ hi < x.toInt → ex_to pc dflt (fun t => K t lv r cs)) ∧ ex_tb x (fun o => ex_to pc o (fun t => K t lv r cs)) lo offs.toList)
  | .lookupswitch dflt ps => (ps.toList.zip (ps.toList.drop 1)).all (fun (a, next) => a.1 < next.1) = true ∧ ps.toList.all (fun q => decide (-2147483648 ≤ q.1 ∧ q.1 < 2147483648)) = true ∧ ex_i1 st (fun x r => (ex_ln x ps.toList → ex_to pc dflt (fun t => K t lv r cs)) ∧ ex_lk x (fun o => ex_to pc o (fun t => K t lv r cs)) ps.toList)
  | .getfield ix => len = 3 ∧ ex_r1 st (fun a r => ex_o (cx.2.1 ix) (fun q => ex_ob cs a q.1 (fun fs => ex_o fs[q.2.1]? (fun v => K (pc + 3) lv (v :: r) cs))))
  | .putfield ix => len = 3 ∧ ex_vr st (fun v a r => ex_o (cx.2.1 ix) (fun q => ex_ob cs a q.1 (fun fs => q.2.1 < fs.length ∧ q.2.2.1 = true ∧ ex_fit q.2.2.2 v ∧ K (pc + 3) lv r (cs.set a (.inr (q.1, fs.set q.2.1 v))))))
  | .getstatic ix => len = 3 ∧ ex_o (cx.2.2.2.1 ix) (fun j => K (pc + 3) lv (.ref (1000 + j) :: st) cs)
  | .iaload => len = 1 ∧ ex_ir st (fun i a r => ex_ax xt cs a (fun n f => vp_in i n ∧ K (pc + 1) lv (.int (f i.toNatClampNeg) :: r) cs))
  | .baload => len = 1 ∧ ex_ir st (fun i a r => ex_ar cs a 1 (fun n f => vp_in i n ∧ K (pc + 1) lv (.int (f i.toNatClampNeg) :: r) cs))
  | .iastore => len = 1 ∧ ex_iir st (fun x i a r => ex_ar cs a 0 (fun n f => vp_in i n ∧ K (pc + 1) lv r (cs.set a (.inl (0, n, .inl (upd f i.toNatClampNeg x))))))
  | .bastore => len = 1 ∧ ex_iir st (fun x i a r => ex_ar cs a 1 (fun n f => vp_in i n ∧ (x = 0 ∨ x = 1) ∧ K (pc + 1) lv r (cs.set a (.inl (1, n, .inl (upd f i.toNatClampNeg x))))))
  | .arraylength => len = 1 ∧ ex_r1 st (fun a r => match cs[a]? with
    | some (.inl (t, n, .inl _)) => (t = 0 ∨ t = 1) ∧ K (pc + 1) lv (.int (Int32.ofNat n) :: r) cs
    | _ => False)
  | .invokevirtual ix => len = 3 ∧ ex_o (cx.2.2.2.2.1 ix) (fun q => q.1 ≤ st.length ∧ ((st.drop q.1).map (fun v => v.category)).sum ≤ 8 ∧ ex_o q.2.1 (fun ci => ex_o (st[q.1 - 1]?) (fun v => match v with
    | .ref a => ex_ob cs a ci (fun _ => q.2.2 (st.take q.1).reverse cs (fun r cs' => K (pc + 3) lv (r.toList ++ st.drop q.1) cs'))
    | _ => False)))
  | .invokestatic ix => len = 3 ∧ if cx.2.2.2.2.2 ix = true then ex_cp cs st (fun r cs' => K (pc + 3) lv r cs') else ex_o (cx.2.2.2.2.1 ix) (fun q => q.1 ≤ st.length ∧ ((st.drop q.1).map (fun v => v.category)).sum ≤ 8 ∧ q.2.1 = none ∧ q.2.2 (st.take q.1).reverse cs (fun r cs' => K (pc + 3) lv (r.toList ++ st.drop q.1) cs'))
  | .ireturn => len = 1 ∧ match st with
    | [.int v] => ex_ret ret v ∧ Q (some (.int v)) cs
    | _ => False
  | .return_ => len = 1 ∧ ret = none ∧ st = [] ∧ Q none cs
  | _ => False
/-- the walk from a place in the code, up to the cut points of I -/
def ex_wp (xt : ex_xt) (cx : ex_K) (cc : ByteArray) (ret : Option FieldType) (I : Nat → Option (ex_L → ex_V → ex_C → Prop)) (Q : ex_Q) : Nat → Nat → ex_L → ex_V → ex_C → Prop
  | 0, _, _, _, _ => False
  | n + 1, pc, lv, st, cs => match decode cc pc with
    | .ok (i, len) => ex_i xt cx ret Q i len pc lv st cs (fun pc' lv' st' cs' => match I pc' with
      | some J => J lv' st' cs'
      | none => ex_wp xt cx cc ret I Q n pc' lv' st' cs')
    | .error _ => False
/-- a call's callee: what is known of it -/
def ex_cok (l : Launch) (own : String) (fr lo ix n : Nat) (rc : Option Nat) (sp : ex_S) : Prop :=
  ∃ (y : MethodName) (bytes : ByteArray) (maxL : Nat) (ret : Option FieldType) (fr' lo' : Nat), fr' + 1 ≤ fr ∧ 8 + (maxL + 11) + lo' ≤ lo ∧ ex_Met l y bytes maxL ret fr' lo' sp ∧ Cond.code y bytes maxL ret ∈ ec_tb ∧ Cond.initialized y.cls ∈ ec_tb ∧ (y.cls ≠ "java/lang/invoke/MethodHandle" ∧ y.cls ≠ "java/lang/invoke/VarHandle") ∧
    (Cond.methodLink own ix y ∈ ec_tb ∨ ∃ host, Cond.methodLinkNest own ix y host ∈ ec_tb) ∧
    (match rc with
      | none => Cond.static y ∈ ec_tb ∧ (parseMethodDescriptor y.desc).map (fun d => d.parameters.length) = some n
      | some ci => (∃ T N, ec_cl[ci]? = some (y.cls, T, N)) ∧ Cond.instanceMethod y ∈ ec_tb ∧ Cond.selects y.cls y y ∈ ec_tb ∧ 1 ≤ n ∧ (parseMethodDescriptor y.desc).map (fun d => d.parameters.length) = some (n - 1))
/-- all that a method links is in the tables -/
def ex_ok (l : Launch) (fr lo : Nat) (cx : ex_K) : Prop :=
  (∀ (ix ci k : Nat) (b : Bool) (ty : FieldType), cx.2.1 ix = some (ci, k, b, ty) → ∃ C T N, ec_cl[ci]? = some (C, T, N) ∧ k < N ∧ (Cond.fieldLink cx.1 ix (T k).1 (T k).2.1 (T k).2.2.1 ∈ ec_tb) ∧ parseFieldDescriptor (T k).2.2.1 = some ty ∧ (b = true → (T k).2.2.2 = false)) ∧
  (∀ (ix : Nat) (v : Int32), cx.2.2.1 ix = some v → Cond.constant cx.1 ix v ∈ ec_tb) ∧
  (∀ (ix j : Nat), cx.2.2.2.1 ix = some j → ∃ C n dd, (C, n, dd, j) ∈ ec_zs ∧ Cond.fieldLink cx.1 ix C n dd ∈ ec_tb) ∧
  (∀ (ix n : Nat) (rc : Option Nat) (sp : ex_S), cx.2.2.2.2.1 ix = some (n, rc, sp) → ex_cok l cx.1 fr lo ix n rc sp) ∧
  (∀ (ix : Nat), cx.2.2.2.2.2 ix = true → Cond.methodLink cx.1 ix arraycopyName ∈ ec_tb ∧ Cond.native arraycopyName ∈ ec_tb ∧ Cond.static arraycopyName ∈ ec_tb ∧ Cond.initialized "java/lang/System" ∈ ec_tb ∧ 1 ≤ fr ∧ 8 + (nativeFrameWords "java/lang/System" "arraycopy" 5 + 11) ≤ lo)
end
section
section EXS
variable {p : Program} {l : Launch} {e : Env} {R : Room} {s : State} {m : MethodId} {args : Array Value} {below : List Frame} {meth : Method} {c : Code}
variable {D : va_G} {ad ca : Nat → Nat} {n0 nL fr lo : Nat} {A : Nat → Prop} {cc : ByteArray} {ret : Option FieldType} {own : String} {Qw : State → Prop} {kc ks : Nat} {xt : ex_xt}
/-- a state of the walk -/
def ex_G (s : State) (D : va_G) (ad ca : Nat → Nat) (n0 nL : Nat) (A : Nat → Prop) (lv : ex_L) (cs : ex_C) (ls : Array Slot) (H : Heap) (locs : List Loc) : Prop := cs.length = n0 ∧ ex_ls ad lv nL ls ∧ va_P D ec_cl (ex_w ad ca cs) H ∧ va_S A s.heap H locs
/-- from here the walk ends, with Q -/
def ex_T (p : Program) (l : Launch) (e : Env) (R : Room) (s : State) (m : MethodId) (args : Array Value) (below : List Frame) (meth : Method) (c : Code) (D : va_G) (ad ca : Nat → Nat) (n0 nL : Nat) (A : Nat → Prop) (kc ks : Nat) (Qw : State → Prop) (pc : Nat) (lv : ex_L) (st : ex_V) (cs : ex_C) : Prop :=
  ∀ (ls : Array Slot) (H : Heap) (locs : List Loc), ex_G s D ad ca n0 nL A lv cs ls H locs → W p l e R s m args below meth c H locs kc ks Qw (F0 m pc ls (st.map (ex_v ad)))
/-- what holds in the whole method -/
def ex_Cx (xt : ex_xt) (p : Program) (R : Room) (s : State) (m : MethodId) (args : Array Value) (meth : Method) (c : Code) (D : va_G) (ad ca : Nat → Nat) (n0 nL fr lo : Nat) (A : Nat → Prop) (cc : ByteArray) (ret : Option FieldType) (own : String) : Prop :=
  p.tables.exec = Jvm.exec ∧ c.code = cc ∧ c.maxLocals = nL ∧ s.vm.findClass own = some m.cls ∧ (∀ w ∈ ec_tb, w.before args s = true) ∧ meth.sig.returnType = ret ∧ meth.locks = false ∧ ex_D ad n0 A ∧ va_K D ec_cl (ex_tys ca) s ∧ ex_X xt ad A s s.heap ∧ ex_Z ad A s s.heap ∧ (∀ q, ex_A ad n0 s.heap.size q → A q) ∧ fr ≤ R.frames ∧ lo ≤ R.locals ∧ ∀ (j : Nat) (q : Nat × (Nat → Int32)), ec_xt[j]? = some q → xt[j]? = some q
theorem ex_s_iconst (C : ex_Cx xt p R s m args meth c D ad ca n0 nL fr lo A cc ret own) {pc : Nat} {lv : ex_L} {cs : ex_C} {k : Int} {r : ex_V} (hd : decode cc pc = .ok (.iconst k, 1)) (k : ex_T p l e R s m args below meth c D ad ca n0 nL A kc ks Qw (pc + 1) lv (.int (Int32.ofInt k) :: r) cs) : ex_T p l e R s m args below meth c D ad ca n0 nL A kc ks Qw pc lv r cs := by
  obtain ⟨hx, hb, hml, hown, hts, hr, hlk, hD, hK, hX, hZ, hAe, hR1, hR2, hxt⟩ := C
  intro ls H locs G
  exact lv_iconst (v := Int32.ofInt _) hx hb hd rfl (k ls H locs G)
theorem ex_s_bipush (C : ex_Cx xt p R s m args meth c D ad ca n0 nL fr lo A cc ret own) {pc : Nat} {lv : ex_L} {cs : ex_C} {k : Int} {r : ex_V} (hd : decode cc pc = .ok (.bipush k, 2)) (k : ex_T p l e R s m args below meth c D ad ca n0 nL A kc ks Qw (pc + 2) lv (.int (Int8.ofInt k).toInt32 :: r) cs) : ex_T p l e R s m args below meth c D ad ca n0 nL A kc ks Qw pc lv r cs := by
  obtain ⟨hx, hb, hml, hown, hts, hr, hlk, hD, hK, hX, hZ, hAe, hR1, hR2, hxt⟩ := C
  intro ls H locs G
  exact lv_bipush (v := (Int8.ofInt _).toInt32) hx hb hd rfl (k ls H locs G)
theorem ex_s_sipush (C : ex_Cx xt p R s m args meth c D ad ca n0 nL fr lo A cc ret own) {pc : Nat} {lv : ex_L} {cs : ex_C} {k : Int} {r : ex_V} (hd : decode cc pc = .ok (.sipush k, 3)) (k : ex_T p l e R s m args below meth c D ad ca n0 nL A kc ks Qw (pc + 3) lv (.int (Int16.ofInt k).toInt32 :: r) cs) : ex_T p l e R s m args below meth c D ad ca n0 nL A kc ks Qw pc lv r cs := by
  obtain ⟨hx, hb, hml, hown, hts, hr, hlk, hD, hK, hX, hZ, hAe, hR1, hR2, hxt⟩ := C
  intro ls H locs G
  exact lv_sipush (v := (Int16.ofInt _).toInt32) hx hb hd rfl (k ls H locs G)
theorem ex_s_lconst (C : ex_Cx xt p R s m args meth c D ad ca n0 nL fr lo A cc ret own) {pc : Nat} {lv : ex_L} {cs : ex_C} {k : Fin 2} {r : ex_V} (hd : decode cc pc = .ok (.lconst k, 1)) (k : ex_T p l e R s m args below meth c D ad ca n0 nL A kc ks Qw (pc + 1) lv (.long (Int64.ofNat k) :: r) cs) : ex_T p l e R s m args below meth c D ad ca n0 nL A kc ks Qw pc lv r cs := by
  obtain ⟨hx, hb, hml, hown, hts, hr, hlk, hD, hK, hX, hZ, hAe, hR1, hR2, hxt⟩ := C
  intro ls H locs G
  exact lv_lconst (v := Int64.ofNat _) hx hb hd rfl (k ls H locs G)
theorem ex_s_iadd (C : ex_Cx xt p R s m args meth c D ad ca n0 nL fr lo A cc ret own) {pc : Nat} {lv : ex_L} {cs : ex_C} {x y : Int32} {r : ex_V} (hd : decode cc pc = .ok (.iadd, 1)) (k : ex_T p l e R s m args below meth c D ad ca n0 nL A kc ks Qw (pc + 1) lv (.int (x + y) :: r) cs) : ex_T p l e R s m args below meth c D ad ca n0 nL A kc ks Qw pc lv (.int y :: .int x :: r) cs := by
  obtain ⟨hx, hb, hml, hown, hts, hr, hlk, hD, hK, hX, hZ, hAe, hR1, hR2, hxt⟩ := C
  intro ls H locs G
  exact lv_iadd (x := x) (y := y) (rest := r.map (ex_v ad)) hx hb hd (k ls H locs G)
theorem ex_s_isub (C : ex_Cx xt p R s m args meth c D ad ca n0 nL fr lo A cc ret own) {pc : Nat} {lv : ex_L} {cs : ex_C} {x y : Int32} {r : ex_V} (hd : decode cc pc = .ok (.isub, 1)) (k : ex_T p l e R s m args below meth c D ad ca n0 nL A kc ks Qw (pc + 1) lv (.int (x - y) :: r) cs) : ex_T p l e R s m args below meth c D ad ca n0 nL A kc ks Qw pc lv (.int y :: .int x :: r) cs := by
  obtain ⟨hx, hb, hml, hown, hts, hr, hlk, hD, hK, hX, hZ, hAe, hR1, hR2, hxt⟩ := C
  intro ls H locs G
  exact lv_isub (x := x) (y := y) (rest := r.map (ex_v ad)) hx hb hd (k ls H locs G)
theorem ex_s_imul (C : ex_Cx xt p R s m args meth c D ad ca n0 nL fr lo A cc ret own) {pc : Nat} {lv : ex_L} {cs : ex_C} {x y : Int32} {r : ex_V} (hd : decode cc pc = .ok (.imul, 1)) (k : ex_T p l e R s m args below meth c D ad ca n0 nL A kc ks Qw (pc + 1) lv (.int (x * y) :: r) cs) : ex_T p l e R s m args below meth c D ad ca n0 nL A kc ks Qw pc lv (.int y :: .int x :: r) cs := by
  obtain ⟨hx, hb, hml, hown, hts, hr, hlk, hD, hK, hX, hZ, hAe, hR1, hR2, hxt⟩ := C
  intro ls H locs G
  exact lv_imul (x := x) (y := y) (rest := r.map (ex_v ad)) hx hb hd (k ls H locs G)
theorem ex_s_iand (C : ex_Cx xt p R s m args meth c D ad ca n0 nL fr lo A cc ret own) {pc : Nat} {lv : ex_L} {cs : ex_C} {x y : Int32} {r : ex_V} (hd : decode cc pc = .ok (.iand, 1)) (k : ex_T p l e R s m args below meth c D ad ca n0 nL A kc ks Qw (pc + 1) lv (.int (x &&& y) :: r) cs) : ex_T p l e R s m args below meth c D ad ca n0 nL A kc ks Qw pc lv (.int y :: .int x :: r) cs := by
  obtain ⟨hx, hb, hml, hown, hts, hr, hlk, hD, hK, hX, hZ, hAe, hR1, hR2, hxt⟩ := C
  intro ls H locs G
  exact lv_iand (x := x) (y := y) (rest := r.map (ex_v ad)) hx hb hd (k ls H locs G)
theorem ex_s_ior (C : ex_Cx xt p R s m args meth c D ad ca n0 nL fr lo A cc ret own) {pc : Nat} {lv : ex_L} {cs : ex_C} {x y : Int32} {r : ex_V} (hd : decode cc pc = .ok (.ior, 1)) (k : ex_T p l e R s m args below meth c D ad ca n0 nL A kc ks Qw (pc + 1) lv (.int (x ||| y) :: r) cs) : ex_T p l e R s m args below meth c D ad ca n0 nL A kc ks Qw pc lv (.int y :: .int x :: r) cs := by
  obtain ⟨hx, hb, hml, hown, hts, hr, hlk, hD, hK, hX, hZ, hAe, hR1, hR2, hxt⟩ := C
  intro ls H locs G
  exact lv_ior (x := x) (y := y) (rest := r.map (ex_v ad)) hx hb hd (k ls H locs G)
theorem ex_s_ixor (C : ex_Cx xt p R s m args meth c D ad ca n0 nL fr lo A cc ret own) {pc : Nat} {lv : ex_L} {cs : ex_C} {x y : Int32} {r : ex_V} (hd : decode cc pc = .ok (.ixor, 1)) (k : ex_T p l e R s m args below meth c D ad ca n0 nL A kc ks Qw (pc + 1) lv (.int (x ^^^ y) :: r) cs) : ex_T p l e R s m args below meth c D ad ca n0 nL A kc ks Qw pc lv (.int y :: .int x :: r) cs := by
  obtain ⟨hx, hb, hml, hown, hts, hr, hlk, hD, hK, hX, hZ, hAe, hR1, hR2, hxt⟩ := C
  intro ls H locs G
  exact lv_ixor (x := x) (y := y) (rest := r.map (ex_v ad)) hx hb hd (k ls H locs G)
theorem ex_s_ishl (C : ex_Cx xt p R s m args meth c D ad ca n0 nL fr lo A cc ret own) {pc : Nat} {lv : ex_L} {cs : ex_C} {x y : Int32} {r : ex_V} (hd : decode cc pc = .ok (.ishl, 1)) (k : ex_T p l e R s m args below meth c D ad ca n0 nL A kc ks Qw (pc + 1) lv (.int (x <<< (y &&& 31)) :: r) cs) : ex_T p l e R s m args below meth c D ad ca n0 nL A kc ks Qw pc lv (.int y :: .int x :: r) cs := by
  obtain ⟨hx, hb, hml, hown, hts, hr, hlk, hD, hK, hX, hZ, hAe, hR1, hR2, hxt⟩ := C
  intro ls H locs G
  exact lv_ishl (x := x) (y := y) (rest := r.map (ex_v ad)) hx hb hd (k ls H locs G)
theorem ex_s_ishr (C : ex_Cx xt p R s m args meth c D ad ca n0 nL fr lo A cc ret own) {pc : Nat} {lv : ex_L} {cs : ex_C} {x y : Int32} {r : ex_V} (hd : decode cc pc = .ok (.ishr, 1)) (k : ex_T p l e R s m args below meth c D ad ca n0 nL A kc ks Qw (pc + 1) lv (.int (x >>> (y &&& 31)) :: r) cs) : ex_T p l e R s m args below meth c D ad ca n0 nL A kc ks Qw pc lv (.int y :: .int x :: r) cs := by
  obtain ⟨hx, hb, hml, hown, hts, hr, hlk, hD, hK, hX, hZ, hAe, hR1, hR2, hxt⟩ := C
  intro ls H locs G
  exact lv_ishr (x := x) (y := y) (rest := r.map (ex_v ad)) hx hb hd (k ls H locs G)
theorem ex_s_iushr (C : ex_Cx xt p R s m args meth c D ad ca n0 nL fr lo A cc ret own) {pc : Nat} {lv : ex_L} {cs : ex_C} {x y : Int32} {r : ex_V} (hd : decode cc pc = .ok (.iushr, 1)) (k : ex_T p l e R s m args below meth c D ad ca n0 nL A kc ks Qw (pc + 1) lv (.int (x.toUInt32 >>> (y.toUInt32 &&& Int32.toUInt32 31)).toInt32 :: r) cs) : ex_T p l e R s m args below meth c D ad ca n0 nL A kc ks Qw pc lv (.int y :: .int x :: r) cs := by
  obtain ⟨hx, hb, hml, hown, hts, hr, hlk, hD, hK, hX, hZ, hAe, hR1, hR2, hxt⟩ := C
  intro ls H locs G
  exact lv_iushr (x := x) (y := y) (rest := r.map (ex_v ad)) hx hb hd rfl (k ls H locs G)
theorem ex_s_idiv (C : ex_Cx xt p R s m args meth c D ad ca n0 nL fr lo A cc ret own) {pc : Nat} {lv : ex_L} {cs : ex_C} {x y : Int32} {r : ex_V} (hy : ¬ y = 0) (hd : decode cc pc = .ok (.idiv, 1)) (k : ex_T p l e R s m args below meth c D ad ca n0 nL A kc ks Qw (pc + 1) lv (.int (x / y) :: r) cs) : ex_T p l e R s m args below meth c D ad ca n0 nL A kc ks Qw pc lv (.int y :: .int x :: r) cs := by
  obtain ⟨hx, hb, hml, hown, hts, hr, hlk, hD, hK, hX, hZ, hAe, hR1, hR2, hxt⟩ := C
  intro ls H locs G
  exact lv_idiv (x := x) (y := y) (rest := r.map (ex_v ad)) hx hb hd hy (k ls H locs G)
theorem ex_s_irem (C : ex_Cx xt p R s m args meth c D ad ca n0 nL fr lo A cc ret own) {pc : Nat} {lv : ex_L} {cs : ex_C} {x y : Int32} {r : ex_V} (hy : ¬ y = 0) (hd : decode cc pc = .ok (.irem, 1)) (k : ex_T p l e R s m args below meth c D ad ca n0 nL A kc ks Qw (pc + 1) lv (.int (x - x / y * y) :: r) cs) : ex_T p l e R s m args below meth c D ad ca n0 nL A kc ks Qw pc lv (.int y :: .int x :: r) cs := by
  obtain ⟨hx, hb, hml, hown, hts, hr, hlk, hD, hK, hX, hZ, hAe, hR1, hR2, hxt⟩ := C
  intro ls H locs G
  exact lv_irem (x := x) (y := y) (rest := r.map (ex_v ad)) hx hb hd hy (k ls H locs G)
theorem ex_s_ineg (C : ex_Cx xt p R s m args meth c D ad ca n0 nL fr lo A cc ret own) {pc : Nat} {lv : ex_L} {cs : ex_C} {x : Int32} {r : ex_V} (hd : decode cc pc = .ok (.ineg, 1)) (k : ex_T p l e R s m args below meth c D ad ca n0 nL A kc ks Qw (pc + 1) lv (.int (-x) :: r) cs) : ex_T p l e R s m args below meth c D ad ca n0 nL A kc ks Qw pc lv (.int x :: r) cs := by
  obtain ⟨hx, hb, hml, hown, hts, hr, hlk, hD, hK, hX, hZ, hAe, hR1, hR2, hxt⟩ := C
  intro ls H locs G
  exact lv_ineg (x := x) (rest := r.map (ex_v ad)) hx hb hd (k ls H locs G)
theorem ex_s_i2l (C : ex_Cx xt p R s m args meth c D ad ca n0 nL fr lo A cc ret own) {pc : Nat} {lv : ex_L} {cs : ex_C} {x : Int32} {r : ex_V} (hd : decode cc pc = .ok (.i2l, 1)) (k : ex_T p l e R s m args below meth c D ad ca n0 nL A kc ks Qw (pc + 1) lv (.long x.toInt64 :: r) cs) : ex_T p l e R s m args below meth c D ad ca n0 nL A kc ks Qw pc lv (.int x :: r) cs := by
  obtain ⟨hx, hb, hml, hown, hts, hr, hlk, hD, hK, hX, hZ, hAe, hR1, hR2, hxt⟩ := C
  intro ls H locs G
  exact lv_i2l (x := x) (rest := r.map (ex_v ad)) hx hb hd rfl (k ls H locs G)
theorem ex_s_l2i (C : ex_Cx xt p R s m args meth c D ad ca n0 nL fr lo A cc ret own) {pc : Nat} {lv : ex_L} {cs : ex_C} {x : Int64} {r : ex_V} (hd : decode cc pc = .ok (.l2i, 1)) (k : ex_T p l e R s m args below meth c D ad ca n0 nL A kc ks Qw (pc + 1) lv (.int x.toInt32 :: r) cs) : ex_T p l e R s m args below meth c D ad ca n0 nL A kc ks Qw pc lv (.long x :: r) cs := by
  obtain ⟨hx, hb, hml, hown, hts, hr, hlk, hD, hK, hX, hZ, hAe, hR1, hR2, hxt⟩ := C
  intro ls H locs G
  exact lv_l2i (x := x) (rest := r.map (ex_v ad)) hx hb hd rfl (k ls H locs G)
theorem ex_s_ladd (C : ex_Cx xt p R s m args meth c D ad ca n0 nL fr lo A cc ret own) {pc : Nat} {lv : ex_L} {cs : ex_C} {x y : Int64} {r : ex_V} (hd : decode cc pc = .ok (.ladd, 1)) (k : ex_T p l e R s m args below meth c D ad ca n0 nL A kc ks Qw (pc + 1) lv (.long (x + y) :: r) cs) : ex_T p l e R s m args below meth c D ad ca n0 nL A kc ks Qw pc lv (.long y :: .long x :: r) cs := by
  obtain ⟨hx, hb, hml, hown, hts, hr, hlk, hD, hK, hX, hZ, hAe, hR1, hR2, hxt⟩ := C
  intro ls H locs G
  exact lv_ladd (x := x) (y := y) (rest := r.map (ex_v ad)) hx hb hd (k ls H locs G)
theorem ex_s_lsub (C : ex_Cx xt p R s m args meth c D ad ca n0 nL fr lo A cc ret own) {pc : Nat} {lv : ex_L} {cs : ex_C} {x y : Int64} {r : ex_V} (hd : decode cc pc = .ok (.lsub, 1)) (k : ex_T p l e R s m args below meth c D ad ca n0 nL A kc ks Qw (pc + 1) lv (.long (x - y) :: r) cs) : ex_T p l e R s m args below meth c D ad ca n0 nL A kc ks Qw pc lv (.long y :: .long x :: r) cs := by
  obtain ⟨hx, hb, hml, hown, hts, hr, hlk, hD, hK, hX, hZ, hAe, hR1, hR2, hxt⟩ := C
  intro ls H locs G
  exact lv_lsub (x := x) (y := y) (rest := r.map (ex_v ad)) hx hb hd (k ls H locs G)
theorem ex_s_lmul (C : ex_Cx xt p R s m args meth c D ad ca n0 nL fr lo A cc ret own) {pc : Nat} {lv : ex_L} {cs : ex_C} {x y : Int64} {r : ex_V} (hd : decode cc pc = .ok (.lmul, 1)) (k : ex_T p l e R s m args below meth c D ad ca n0 nL A kc ks Qw (pc + 1) lv (.long (x * y) :: r) cs) : ex_T p l e R s m args below meth c D ad ca n0 nL A kc ks Qw pc lv (.long y :: .long x :: r) cs := by
  obtain ⟨hx, hb, hml, hown, hts, hr, hlk, hD, hK, hX, hZ, hAe, hR1, hR2, hxt⟩ := C
  intro ls H locs G
  exact lv_lmul (x := x) (y := y) (rest := r.map (ex_v ad)) hx hb hd (k ls H locs G)
theorem ex_s_ldiv (C : ex_Cx xt p R s m args meth c D ad ca n0 nL fr lo A cc ret own) {pc : Nat} {lv : ex_L} {cs : ex_C} {x y : Int64} {r : ex_V} (hy : ¬ y = 0) (hd : decode cc pc = .ok (.ldiv, 1)) (k : ex_T p l e R s m args below meth c D ad ca n0 nL A kc ks Qw (pc + 1) lv (.long (x / y) :: r) cs) : ex_T p l e R s m args below meth c D ad ca n0 nL A kc ks Qw pc lv (.long y :: .long x :: r) cs := by
  obtain ⟨hx, hb, hml, hown, hts, hr, hlk, hD, hK, hX, hZ, hAe, hR1, hR2, hxt⟩ := C
  intro ls H locs G
  exact lv_ldiv (x := x) (y := y) (rest := r.map (ex_v ad)) hx hb hd hy (k ls H locs G)
theorem ex_s_dup (C : ex_Cx xt p R s m args meth c D ad ca n0 nL fr lo A cc ret own) {pc : Nat} {lv : ex_L} {cs : ex_C} {v : Value} {r : ex_V} (h1 : v.category = 1) (hd : decode cc pc = .ok (.dup, 1)) (k : ex_T p l e R s m args below meth c D ad ca n0 nL A kc ks Qw (pc + 1) lv (v :: v :: r) cs) : ex_T p l e R s m args below meth c D ad ca n0 nL A kc ks Qw pc lv (v :: r) cs := by
  obtain ⟨hx, hb, hml, hown, hts, hr, hlk, hD, hK, hX, hZ, hAe, hR1, hR2, hxt⟩ := C
  intro ls H locs G
  exact lv_dup (va := ex_v ad v) (rest := r.map (ex_v ad)) hx hb hd (by rw [ex_v_cat]; exact h1) (k ls H locs G)
theorem ex_s_pop (C : ex_Cx xt p R s m args meth c D ad ca n0 nL fr lo A cc ret own) {pc : Nat} {lv : ex_L} {cs : ex_C} {v : Value} {r : ex_V} (h1 : v.category = 1) (hd : decode cc pc = .ok (.pop, 1)) (k : ex_T p l e R s m args below meth c D ad ca n0 nL A kc ks Qw (pc + 1) lv r cs) : ex_T p l e R s m args below meth c D ad ca n0 nL A kc ks Qw pc lv (v :: r) cs := by
  obtain ⟨hx, hb, hml, hown, hts, hr, hlk, hD, hK, hX, hZ, hAe, hR1, hR2, hxt⟩ := C
  intro ls H locs G
  exact lv_pop (va := ex_v ad v) (rest := r.map (ex_v ad)) hx hb hd (by rw [ex_v_cat]; exact h1) (k ls H locs G)
theorem ex_s_dup_x1 (C : ex_Cx xt p R s m args meth c D ad ca n0 nL fr lo A cc ret own) {pc : Nat} {lv : ex_L} {cs : ex_C} {v w : Value} {r : ex_V} (h1 : v.category = 1) (h2 : w.category = 1) (hd : decode cc pc = .ok (.dup_x1, 1)) (k : ex_T p l e R s m args below meth c D ad ca n0 nL A kc ks Qw (pc + 1) lv (v :: w :: v :: r) cs) : ex_T p l e R s m args below meth c D ad ca n0 nL A kc ks Qw pc lv (v :: w :: r) cs := by
  obtain ⟨hx, hb, hml, hown, hts, hr, hlk, hD, hK, hX, hZ, hAe, hR1, hR2, hxt⟩ := C
  intro ls H locs G
  exact lv_dup_x1 (va := ex_v ad v) (vb := ex_v ad w) (rest := r.map (ex_v ad)) hx hb hd (by rw [ex_v_cat]; exact h1) (by rw [ex_v_cat]; exact h2) (k ls H locs G)
theorem ex_s_dup2 (C : ex_Cx xt p R s m args meth c D ad ca n0 nL fr lo A cc ret own) {pc : Nat} {lv : ex_L} {cs : ex_C} {v w : Value} {r : ex_V} (h1 : v.category = 1) (h2 : w.category = 1) (hd : decode cc pc = .ok (.dup2, 1)) (k : ex_T p l e R s m args below meth c D ad ca n0 nL A kc ks Qw (pc + 1) lv (v :: w :: v :: w :: r) cs) : ex_T p l e R s m args below meth c D ad ca n0 nL A kc ks Qw pc lv (v :: w :: r) cs := by
  obtain ⟨hx, hb, hml, hown, hts, hr, hlk, hD, hK, hX, hZ, hAe, hR1, hR2, hxt⟩ := C
  intro ls H locs G
  exact lv_dup2_11 (va := ex_v ad v) (vb := ex_v ad w) (rest := r.map (ex_v ad)) hx hb hd (by rw [ex_v_cat]; exact h1) (by rw [ex_v_cat]; exact h2) (k ls H locs G)
theorem ex_s_iload_n (C : ex_Cx xt p R s m args meth c D ad ca n0 nL fr lo A cc ret own) {pc : Nat} {lv : ex_L} {cs : ex_C} {k : Fin 4} {x : Int32} {r : ex_V} (hd : decode cc pc = .ok (.iload_n k, 1)) (hv : lv[(k : Nat)]? = some (some (.int x))) (k : ex_T p l e R s m args below meth c D ad ca n0 nL A kc ks Qw (pc + 1) lv (.int x :: r) cs) : ex_T p l e R s m args below meth c D ad ca n0 nL A kc ks Qw pc lv r cs := by
  obtain ⟨hx, hb, hml, hown, hts, hr, hlk, hD, hK, hX, hZ, hAe, hR1, hR2, hxt⟩ := C
  intro ls H locs G
  exact lv_iload_n (x := x) (rest := r.map (ex_v ad)) hx hb hd rfl (G.2.1.2.2.2 _ _ hv) (k ls H locs G)
theorem ex_s_iload (C : ex_Cx xt p R s m args meth c D ad ca n0 nL fr lo A cc ret own) {pc : Nat} {lv : ex_L} {cs : ex_C} {k : Nat} {x : Int32} {r : ex_V} (hd : decode cc pc = .ok (.iload k, 2)) (hv : lv[k]? = some (some (.int x))) (k : ex_T p l e R s m args below meth c D ad ca n0 nL A kc ks Qw (pc + 2) lv (.int x :: r) cs) : ex_T p l e R s m args below meth c D ad ca n0 nL A kc ks Qw pc lv r cs := by
  obtain ⟨hx, hb, hml, hown, hts, hr, hlk, hD, hK, hX, hZ, hAe, hR1, hR2, hxt⟩ := C
  intro ls H locs G
  exact lv_iload (x := x) (rest := r.map (ex_v ad)) hx hb hd (G.2.1.2.2.2 _ _ hv) (k ls H locs G)
theorem ex_s_lload_n (C : ex_Cx xt p R s m args meth c D ad ca n0 nL fr lo A cc ret own) {pc : Nat} {lv : ex_L} {cs : ex_C} {k : Fin 4} {x : Int64} {r : ex_V} (hd : decode cc pc = .ok (.lload_n k, 1)) (hv : lv[(k : Nat)]? = some (some (.long x))) (k : ex_T p l e R s m args below meth c D ad ca n0 nL A kc ks Qw (pc + 1) lv (.long x :: r) cs) : ex_T p l e R s m args below meth c D ad ca n0 nL A kc ks Qw pc lv r cs := by
  obtain ⟨hx, hb, hml, hown, hts, hr, hlk, hD, hK, hX, hZ, hAe, hR1, hR2, hxt⟩ := C
  intro ls H locs G
  exact lv_lload_n (x := x) (rest := r.map (ex_v ad)) hx hb hd rfl (G.2.1.2.2.2 _ _ hv) (k ls H locs G)
theorem ex_s_lload (C : ex_Cx xt p R s m args meth c D ad ca n0 nL fr lo A cc ret own) {pc : Nat} {lv : ex_L} {cs : ex_C} {k : Nat} {x : Int64} {r : ex_V} (hd : decode cc pc = .ok (.lload k, 2)) (hv : lv[k]? = some (some (.long x))) (k : ex_T p l e R s m args below meth c D ad ca n0 nL A kc ks Qw (pc + 2) lv (.long x :: r) cs) : ex_T p l e R s m args below meth c D ad ca n0 nL A kc ks Qw pc lv r cs := by
  obtain ⟨hx, hb, hml, hown, hts, hr, hlk, hD, hK, hX, hZ, hAe, hR1, hR2, hxt⟩ := C
  intro ls H locs G
  exact lv_lload (x := x) (rest := r.map (ex_v ad)) hx hb hd (G.2.1.2.2.2 _ _ hv) (k ls H locs G)
theorem ex_s_aload_n (C : ex_Cx xt p R s m args meth c D ad ca n0 nL fr lo A cc ret own) {pc : Nat} {lv : ex_L} {cs : ex_C} {k : Fin 4} {x : Nat} {r : ex_V} (hd : decode cc pc = .ok (.aload_n k, 1)) (hv : lv[(k : Nat)]? = some (some (.ref x))) (k : ex_T p l e R s m args below meth c D ad ca n0 nL A kc ks Qw (pc + 1) lv (.ref x :: r) cs) : ex_T p l e R s m args below meth c D ad ca n0 nL A kc ks Qw pc lv r cs := by
  obtain ⟨hx, hb, hml, hown, hts, hr, hlk, hD, hK, hX, hZ, hAe, hR1, hR2, hxt⟩ := C
  intro ls H locs G
  exact lv_aload_n (x := ad x) (rest := r.map (ex_v ad)) hx hb hd rfl (G.2.1.2.2.2 _ _ hv) (k ls H locs G)
theorem ex_s_aload (C : ex_Cx xt p R s m args meth c D ad ca n0 nL fr lo A cc ret own) {pc : Nat} {lv : ex_L} {cs : ex_C} {k : Nat} {x : Nat} {r : ex_V} (hd : decode cc pc = .ok (.aload k, 2)) (hv : lv[k]? = some (some (.ref x))) (k : ex_T p l e R s m args below meth c D ad ca n0 nL A kc ks Qw (pc + 2) lv (.ref x :: r) cs) : ex_T p l e R s m args below meth c D ad ca n0 nL A kc ks Qw pc lv r cs := by
  obtain ⟨hx, hb, hml, hown, hts, hr, hlk, hD, hK, hX, hZ, hAe, hR1, hR2, hxt⟩ := C
  intro ls H locs G
  exact lv_aload (x := ad x) (rest := r.map (ex_v ad)) hx hb hd (G.2.1.2.2.2 _ _ hv) (k ls H locs G)
theorem ex_s_istore_n (C : ex_Cx xt p R s m args meth c D ad ca n0 nL fr lo A cc ret own) {pc : Nat} {lv : ex_L} {cs : ex_C} {k : Fin 4} {x : Int32} {r : ex_V} (hd : decode cc pc = .ok (.istore_n k, 1)) (hs : ex_so lv k) (kk : ex_T p l e R s m args below meth c D ad ca n0 nL A kc ks Qw (pc + 1) (lv.set k (some (.int x))) r cs) : ex_T p l e R s m args below meth c D ad ca n0 nL A kc ks Qw pc lv (.int x :: r) cs := by
  obtain ⟨hx, hb, hml, hown, hts, hr, hlk, hD, hK, hX, hZ, hAe, hR1, hR2, hxt⟩ := C
  intro ls H locs G
  refine lv_istore_n (x := x) (rest := r.map (ex_v ad)) hx hb hd rfl G.2.1.has (Nat.lt_of_lt_of_le hs.1 G.2.1.2.2.1) rfl (fun ls' h' => ?_)
  exact kk ls' H locs ⟨G.1, G.2.1.set1 (v := .int x) hs h', G.2.2⟩
theorem ex_s_istore (C : ex_Cx xt p R s m args meth c D ad ca n0 nL fr lo A cc ret own) {pc : Nat} {lv : ex_L} {cs : ex_C} {k : Nat} {x : Int32} {r : ex_V} (hd : decode cc pc = .ok (.istore k, 2)) (hs : ex_so lv k) (kk : ex_T p l e R s m args below meth c D ad ca n0 nL A kc ks Qw (pc + 2) (lv.set k (some (.int x))) r cs) : ex_T p l e R s m args below meth c D ad ca n0 nL A kc ks Qw pc lv (.int x :: r) cs := by
  obtain ⟨hx, hb, hml, hown, hts, hr, hlk, hD, hK, hX, hZ, hAe, hR1, hR2, hxt⟩ := C
  intro ls H locs G
  refine lv_istore (x := x) (rest := r.map (ex_v ad)) hx hb hd G.2.1.has (Nat.lt_of_lt_of_le hs.1 G.2.1.2.2.1) rfl (fun ls' h' => ?_)
  exact kk ls' H locs ⟨G.1, G.2.1.set1 (v := .int x) hs h', G.2.2⟩
theorem ex_s_astore_n (C : ex_Cx xt p R s m args meth c D ad ca n0 nL fr lo A cc ret own) {pc : Nat} {lv : ex_L} {cs : ex_C} {k : Fin 4} {x : Nat} {r : ex_V} (hd : decode cc pc = .ok (.astore_n k, 1)) (hs : ex_so lv k) (kk : ex_T p l e R s m args below meth c D ad ca n0 nL A kc ks Qw (pc + 1) (lv.set k (some (.ref x))) r cs) : ex_T p l e R s m args below meth c D ad ca n0 nL A kc ks Qw pc lv (.ref x :: r) cs := by
  obtain ⟨hx, hb, hml, hown, hts, hr, hlk, hD, hK, hX, hZ, hAe, hR1, hR2, hxt⟩ := C
  intro ls H locs G
  refine lv_astore_n (x := ad x) (rest := r.map (ex_v ad)) hx hb hd rfl G.2.1.has (Nat.lt_of_lt_of_le hs.1 G.2.1.2.2.1) rfl (fun ls' h' => ?_)
  exact kk ls' H locs ⟨G.1, G.2.1.set1 (v := .ref x) hs h', G.2.2⟩
theorem ex_s_astore (C : ex_Cx xt p R s m args meth c D ad ca n0 nL fr lo A cc ret own) {pc : Nat} {lv : ex_L} {cs : ex_C} {k : Nat} {x : Nat} {r : ex_V} (hd : decode cc pc = .ok (.astore k, 2)) (hs : ex_so lv k) (kk : ex_T p l e R s m args below meth c D ad ca n0 nL A kc ks Qw (pc + 2) (lv.set k (some (.ref x))) r cs) : ex_T p l e R s m args below meth c D ad ca n0 nL A kc ks Qw pc lv (.ref x :: r) cs := by
  obtain ⟨hx, hb, hml, hown, hts, hr, hlk, hD, hK, hX, hZ, hAe, hR1, hR2, hxt⟩ := C
  intro ls H locs G
  refine lv_astore (x := ad x) (rest := r.map (ex_v ad)) hx hb hd G.2.1.has (Nat.lt_of_lt_of_le hs.1 G.2.1.2.2.1) rfl (fun ls' h' => ?_)
  exact kk ls' H locs ⟨G.1, G.2.1.set1 (v := .ref x) hs h', G.2.2⟩
theorem ex_s_lstore_n (C : ex_Cx xt p R s m args meth c D ad ca n0 nL fr lo A cc ret own) {pc : Nat} {lv : ex_L} {cs : ex_C} {k : Fin 4} {x : Int64} {r : ex_V} (hd : decode cc pc = .ok (.lstore_n k, 1)) (hs : ex_so lv k) (hs2 : (k : Nat) + 1 < lv.length) (kk : ex_T p l e R s m args below meth c D ad ca n0 nL A kc ks Qw (pc + 1) ((lv.set k (some (.long x))).set (k + 1) none) r cs) : ex_T p l e R s m args below meth c D ad ca n0 nL A kc ks Qw pc lv (.long x :: r) cs := by
  obtain ⟨hx, hb, hml, hown, hts, hr, hlk, hD, hK, hX, hZ, hAe, hR1, hR2, hxt⟩ := C
  intro ls H locs G
  refine lv_lstore_n (x := x) (rest := r.map (ex_v ad)) hx hb hd rfl G.2.1.has (Nat.lt_of_lt_of_le hs2 G.2.1.2.2.1) rfl (fun ls' h' => ?_)
  exact kk ls' H locs ⟨G.1, G.2.1.set2 (v := .long x) hs h', G.2.2⟩
theorem ex_s_lstore (C : ex_Cx xt p R s m args meth c D ad ca n0 nL fr lo A cc ret own) {pc : Nat} {lv : ex_L} {cs : ex_C} {k : Nat} {x : Int64} {r : ex_V} (hd : decode cc pc = .ok (.lstore k, 2)) (hs : ex_so lv k) (hs2 : (k : Nat) + 1 < lv.length) (kk : ex_T p l e R s m args below meth c D ad ca n0 nL A kc ks Qw (pc + 2) ((lv.set k (some (.long x))).set (k + 1) none) r cs) : ex_T p l e R s m args below meth c D ad ca n0 nL A kc ks Qw pc lv (.long x :: r) cs := by
  obtain ⟨hx, hb, hml, hown, hts, hr, hlk, hD, hK, hX, hZ, hAe, hR1, hR2, hxt⟩ := C
  intro ls H locs G
  refine lv_lstore (x := x) (rest := r.map (ex_v ad)) hx hb hd G.2.1.has (Nat.lt_of_lt_of_le hs2 G.2.1.2.2.1) rfl (fun ls' h' => ?_)
  exact kk ls' H locs ⟨G.1, G.2.1.set2 (v := .long x) hs h', G.2.2⟩
theorem ex_s_iinc (C : ex_Cx xt p R s m args meth c D ad ca n0 nL fr lo A cc ret own) {pc : Nat} {lv : ex_L} {cs : ex_C} {k : Nat} {n : Int} {x : Int32} {r : ex_V} (hd : decode cc pc = .ok (.iinc k n, 3)) (hv : lv[k]? = some (some (.int x))) (hs : ex_so lv k) (kk : ex_T p l e R s m args below meth c D ad ca n0 nL A kc ks Qw (pc + 3) (lv.set k (some (.int (x + Int32.ofInt n)))) r cs) : ex_T p l e R s m args below meth c D ad ca n0 nL A kc ks Qw pc lv r cs := by
  obtain ⟨hx, hb, hml, hown, hts, hr, hlk, hD, hK, hX, hZ, hAe, hR1, hR2, hxt⟩ := C
  intro ls H locs G
  obtain ⟨j, hj⟩ := List.getElem?_of_mem (ex_ll_mem (ad := ad) (lv := lv) (q := (k, .int x)) |>.mpr ⟨.int x, hv, rfl⟩)
  refine lv_iinc (x := x) (v := x + Int32.ofInt n) (k := j) (rest := r.map (ex_v ad)) hx hb hd G.2.1.has hj rfl (Nat.lt_of_lt_of_le hs.1 G.2.1.2.2.1) rfl (fun ls' h' => ?_)
  exact kk ls' H locs ⟨G.1, G.2.1.set1 (v := .int (x + Int32.ofInt n)) hs h', G.2.2⟩
theorem ex_s_if_eq (C : ex_Cx xt p R s m args meth c D ad ca n0 nL fr lo A cc ret own) {pc : Nat} {lv : ex_L} {cs : ex_C} {x : Int32} {r : ex_V} {off : Int} {t : Nat} (hd : decode cc pc = .ok (.ifCond .eq off, 3)) (ht : (pc : Int) + off = (t : Int)) (kt : x = 0 → ex_T p l e R s m args below meth c D ad ca n0 nL A kc ks Qw t lv r cs) (kf : ¬ x = 0 → ex_T p l e R s m args below meth c D ad ca n0 nL A kc ks Qw (pc + 3) lv r cs) : ex_T p l e R s m args below meth c D ad ca n0 nL A kc ks Qw pc lv (.int x :: r) cs := by
  obtain ⟨hx, hb, hml, hown, hts, hr, hlk, hD, hK, hX, hZ, hAe, hR1, hR2, hxt⟩ := C
  intro ls H locs G
  exact lv_if_eq (x := x) (rest := r.map (ex_v ad)) (tgt := t) hx hb hd ht (fun h => kt h ls H locs G) (fun h => kf h ls H locs G)
theorem ex_s_icmp_eq (C : ex_Cx xt p R s m args meth c D ad ca n0 nL fr lo A cc ret own) {pc : Nat} {lv : ex_L} {cs : ex_C} {x y : Int32} {r : ex_V} {off : Int} {t : Nat} (hd : decode cc pc = .ok (.if_icmp .eq off, 3)) (ht : (pc : Int) + off = (t : Int)) (kt : x = y → ex_T p l e R s m args below meth c D ad ca n0 nL A kc ks Qw t lv r cs) (kf : ¬ x = y → ex_T p l e R s m args below meth c D ad ca n0 nL A kc ks Qw (pc + 3) lv r cs) : ex_T p l e R s m args below meth c D ad ca n0 nL A kc ks Qw pc lv (.int y :: .int x :: r) cs := by
  obtain ⟨hx, hb, hml, hown, hts, hr, hlk, hD, hK, hX, hZ, hAe, hR1, hR2, hxt⟩ := C
  intro ls H locs G
  exact lv_icmp_eq (x := x) (y := y) (rest := r.map (ex_v ad)) (tgt := t) hx hb hd ht (fun h => kt h ls H locs G) (fun h => kf h ls H locs G)
theorem ex_s_if_ne (C : ex_Cx xt p R s m args meth c D ad ca n0 nL fr lo A cc ret own) {pc : Nat} {lv : ex_L} {cs : ex_C} {x : Int32} {r : ex_V} {off : Int} {t : Nat} (hd : decode cc pc = .ok (.ifCond .ne off, 3)) (ht : (pc : Int) + off = (t : Int)) (kf : x = 0 → ex_T p l e R s m args below meth c D ad ca n0 nL A kc ks Qw (pc + 3) lv r cs) (kt : ¬ x = 0 → ex_T p l e R s m args below meth c D ad ca n0 nL A kc ks Qw t lv r cs) : ex_T p l e R s m args below meth c D ad ca n0 nL A kc ks Qw pc lv (.int x :: r) cs := by
  obtain ⟨hx, hb, hml, hown, hts, hr, hlk, hD, hK, hX, hZ, hAe, hR1, hR2, hxt⟩ := C
  intro ls H locs G
  exact lv_if_ne (x := x) (rest := r.map (ex_v ad)) (tgt := t) hx hb hd ht (fun h => kt h ls H locs G) (fun h => kf h ls H locs G)
theorem ex_s_icmp_ne (C : ex_Cx xt p R s m args meth c D ad ca n0 nL fr lo A cc ret own) {pc : Nat} {lv : ex_L} {cs : ex_C} {x y : Int32} {r : ex_V} {off : Int} {t : Nat} (hd : decode cc pc = .ok (.if_icmp .ne off, 3)) (ht : (pc : Int) + off = (t : Int)) (kf : x = y → ex_T p l e R s m args below meth c D ad ca n0 nL A kc ks Qw (pc + 3) lv r cs) (kt : ¬ x = y → ex_T p l e R s m args below meth c D ad ca n0 nL A kc ks Qw t lv r cs) : ex_T p l e R s m args below meth c D ad ca n0 nL A kc ks Qw pc lv (.int y :: .int x :: r) cs := by
  obtain ⟨hx, hb, hml, hown, hts, hr, hlk, hD, hK, hX, hZ, hAe, hR1, hR2, hxt⟩ := C
  intro ls H locs G
  exact lv_icmp_ne (x := x) (y := y) (rest := r.map (ex_v ad)) (tgt := t) hx hb hd ht (fun h => kt h ls H locs G) (fun h => kf h ls H locs G)
theorem ex_s_if_lt (C : ex_Cx xt p R s m args meth c D ad ca n0 nL fr lo A cc ret own) {pc : Nat} {lv : ex_L} {cs : ex_C} {x : Int32} {r : ex_V} {off : Int} {t : Nat} (hd : decode cc pc = .ok (.ifCond .lt off, 3)) (ht : (pc : Int) + off = (t : Int)) (kt : x < 0 → ex_T p l e R s m args below meth c D ad ca n0 nL A kc ks Qw t lv r cs) (kf : ¬ x < 0 → ex_T p l e R s m args below meth c D ad ca n0 nL A kc ks Qw (pc + 3) lv r cs) : ex_T p l e R s m args below meth c D ad ca n0 nL A kc ks Qw pc lv (.int x :: r) cs := by
  obtain ⟨hx, hb, hml, hown, hts, hr, hlk, hD, hK, hX, hZ, hAe, hR1, hR2, hxt⟩ := C
  intro ls H locs G
  exact lv_if_lt (x := x) (rest := r.map (ex_v ad)) (tgt := t) hx hb hd ht (fun h => kt h ls H locs G) (fun h => kf h ls H locs G)
theorem ex_s_icmp_lt (C : ex_Cx xt p R s m args meth c D ad ca n0 nL fr lo A cc ret own) {pc : Nat} {lv : ex_L} {cs : ex_C} {x y : Int32} {r : ex_V} {off : Int} {t : Nat} (hd : decode cc pc = .ok (.if_icmp .lt off, 3)) (ht : (pc : Int) + off = (t : Int)) (kt : x < y → ex_T p l e R s m args below meth c D ad ca n0 nL A kc ks Qw t lv r cs) (kf : ¬ x < y → ex_T p l e R s m args below meth c D ad ca n0 nL A kc ks Qw (pc + 3) lv r cs) : ex_T p l e R s m args below meth c D ad ca n0 nL A kc ks Qw pc lv (.int y :: .int x :: r) cs := by
  obtain ⟨hx, hb, hml, hown, hts, hr, hlk, hD, hK, hX, hZ, hAe, hR1, hR2, hxt⟩ := C
  intro ls H locs G
  exact lv_icmp_lt (x := x) (y := y) (rest := r.map (ex_v ad)) (tgt := t) hx hb hd ht (fun h => kt h ls H locs G) (fun h => kf h ls H locs G)
theorem ex_s_if_ge (C : ex_Cx xt p R s m args meth c D ad ca n0 nL fr lo A cc ret own) {pc : Nat} {lv : ex_L} {cs : ex_C} {x : Int32} {r : ex_V} {off : Int} {t : Nat} (hd : decode cc pc = .ok (.ifCond .ge off, 3)) (ht : (pc : Int) + off = (t : Int)) (kt : 0 ≤ x → ex_T p l e R s m args below meth c D ad ca n0 nL A kc ks Qw t lv r cs) (kf : ¬ 0 ≤ x → ex_T p l e R s m args below meth c D ad ca n0 nL A kc ks Qw (pc + 3) lv r cs) : ex_T p l e R s m args below meth c D ad ca n0 nL A kc ks Qw pc lv (.int x :: r) cs := by
  obtain ⟨hx, hb, hml, hown, hts, hr, hlk, hD, hK, hX, hZ, hAe, hR1, hR2, hxt⟩ := C
  intro ls H locs G
  exact lv_if_ge (x := x) (rest := r.map (ex_v ad)) (tgt := t) hx hb hd ht (fun h => kt h ls H locs G) (fun h => kf h ls H locs G)
theorem ex_s_icmp_ge (C : ex_Cx xt p R s m args meth c D ad ca n0 nL fr lo A cc ret own) {pc : Nat} {lv : ex_L} {cs : ex_C} {x y : Int32} {r : ex_V} {off : Int} {t : Nat} (hd : decode cc pc = .ok (.if_icmp .ge off, 3)) (ht : (pc : Int) + off = (t : Int)) (kt : y ≤ x → ex_T p l e R s m args below meth c D ad ca n0 nL A kc ks Qw t lv r cs) (kf : ¬ y ≤ x → ex_T p l e R s m args below meth c D ad ca n0 nL A kc ks Qw (pc + 3) lv r cs) : ex_T p l e R s m args below meth c D ad ca n0 nL A kc ks Qw pc lv (.int y :: .int x :: r) cs := by
  obtain ⟨hx, hb, hml, hown, hts, hr, hlk, hD, hK, hX, hZ, hAe, hR1, hR2, hxt⟩ := C
  intro ls H locs G
  exact lv_icmp_ge (x := x) (y := y) (rest := r.map (ex_v ad)) (tgt := t) hx hb hd ht (fun h => kt h ls H locs G) (fun h => kf h ls H locs G)
theorem ex_s_if_gt (C : ex_Cx xt p R s m args meth c D ad ca n0 nL fr lo A cc ret own) {pc : Nat} {lv : ex_L} {cs : ex_C} {x : Int32} {r : ex_V} {off : Int} {t : Nat} (hd : decode cc pc = .ok (.ifCond .gt off, 3)) (ht : (pc : Int) + off = (t : Int)) (kt : 0 < x → ex_T p l e R s m args below meth c D ad ca n0 nL A kc ks Qw t lv r cs) (kf : ¬ 0 < x → ex_T p l e R s m args below meth c D ad ca n0 nL A kc ks Qw (pc + 3) lv r cs) : ex_T p l e R s m args below meth c D ad ca n0 nL A kc ks Qw pc lv (.int x :: r) cs := by
  obtain ⟨hx, hb, hml, hown, hts, hr, hlk, hD, hK, hX, hZ, hAe, hR1, hR2, hxt⟩ := C
  intro ls H locs G
  exact lv_if_gt (x := x) (rest := r.map (ex_v ad)) (tgt := t) hx hb hd ht (fun h => kt h ls H locs G) (fun h => kf h ls H locs G)
theorem ex_s_icmp_gt (C : ex_Cx xt p R s m args meth c D ad ca n0 nL fr lo A cc ret own) {pc : Nat} {lv : ex_L} {cs : ex_C} {x y : Int32} {r : ex_V} {off : Int} {t : Nat} (hd : decode cc pc = .ok (.if_icmp .gt off, 3)) (ht : (pc : Int) + off = (t : Int)) (kt : y < x → ex_T p l e R s m args below meth c D ad ca n0 nL A kc ks Qw t lv r cs) (kf : ¬ y < x → ex_T p l e R s m args below meth c D ad ca n0 nL A kc ks Qw (pc + 3) lv r cs) : ex_T p l e R s m args below meth c D ad ca n0 nL A kc ks Qw pc lv (.int y :: .int x :: r) cs := by
  obtain ⟨hx, hb, hml, hown, hts, hr, hlk, hD, hK, hX, hZ, hAe, hR1, hR2, hxt⟩ := C
  intro ls H locs G
  exact lv_icmp_gt (x := x) (y := y) (rest := r.map (ex_v ad)) (tgt := t) hx hb hd ht (fun h => kt h ls H locs G) (fun h => kf h ls H locs G)
theorem ex_s_if_le (C : ex_Cx xt p R s m args meth c D ad ca n0 nL fr lo A cc ret own) {pc : Nat} {lv : ex_L} {cs : ex_C} {x : Int32} {r : ex_V} {off : Int} {t : Nat} (hd : decode cc pc = .ok (.ifCond .le off, 3)) (ht : (pc : Int) + off = (t : Int)) (kt : x ≤ 0 → ex_T p l e R s m args below meth c D ad ca n0 nL A kc ks Qw t lv r cs) (kf : ¬ x ≤ 0 → ex_T p l e R s m args below meth c D ad ca n0 nL A kc ks Qw (pc + 3) lv r cs) : ex_T p l e R s m args below meth c D ad ca n0 nL A kc ks Qw pc lv (.int x :: r) cs := by
  obtain ⟨hx, hb, hml, hown, hts, hr, hlk, hD, hK, hX, hZ, hAe, hR1, hR2, hxt⟩ := C
  intro ls H locs G
  exact lv_if_le (x := x) (rest := r.map (ex_v ad)) (tgt := t) hx hb hd ht (fun h => kt h ls H locs G) (fun h => kf h ls H locs G)
theorem ex_s_icmp_le (C : ex_Cx xt p R s m args meth c D ad ca n0 nL fr lo A cc ret own) {pc : Nat} {lv : ex_L} {cs : ex_C} {x y : Int32} {r : ex_V} {off : Int} {t : Nat} (hd : decode cc pc = .ok (.if_icmp .le off, 3)) (ht : (pc : Int) + off = (t : Int)) (kt : x ≤ y → ex_T p l e R s m args below meth c D ad ca n0 nL A kc ks Qw t lv r cs) (kf : ¬ x ≤ y → ex_T p l e R s m args below meth c D ad ca n0 nL A kc ks Qw (pc + 3) lv r cs) : ex_T p l e R s m args below meth c D ad ca n0 nL A kc ks Qw pc lv (.int y :: .int x :: r) cs := by
  obtain ⟨hx, hb, hml, hown, hts, hr, hlk, hD, hK, hX, hZ, hAe, hR1, hR2, hxt⟩ := C
  intro ls H locs G
  exact lv_icmp_le (x := x) (y := y) (rest := r.map (ex_v ad)) (tgt := t) hx hb hd ht (fun h => kt h ls H locs G) (fun h => kf h ls H locs G)
theorem ex_s_goto (C : ex_Cx xt p R s m args meth c D ad ca n0 nL fr lo A cc ret own) {pc : Nat} {lv : ex_L} {cs : ex_C} {r : ex_V} {off : Int} {t : Nat} (hd : decode cc pc = .ok (.goto off, 3)) (ht : (pc : Int) + off = (t : Int)) (k : ex_T p l e R s m args below meth c D ad ca n0 nL A kc ks Qw t lv r cs) : ex_T p l e R s m args below meth c D ad ca n0 nL A kc ks Qw pc lv r cs := by
  obtain ⟨hx, hb, hml, hown, hts, hr, hlk, hD, hK, hX, hZ, hAe, hR1, hR2, hxt⟩ := C
  intro ls H locs G
  exact lv_goto (tgt := t) hx hb hd ht (k ls H locs G)
theorem ex_s_ldc (C : ex_Cx xt p R s m args meth c D ad ca n0 nL fr lo A cc ret own) {pc : Nat} {lv : ex_L} {cs : ex_C} {ix : Nat} {v : Int32} {r : ex_V} (hd : decode cc pc = .ok (.ldc ix, 2)) (hc : Cond.constant own ix v ∈ ec_tb) (k : ex_T p l e R s m args below meth c D ad ca n0 nL A kc ks Qw (pc + 2) lv (.int v :: r) cs) : ex_T p l e R s m args below meth c D ad ca n0 nL A kc ks Qw pc lv r cs := by
  obtain ⟨hx, hb, hml, hown, hts, hr, hlk, hD, hK, hX, hZ, hAe, hR1, hR2, hxt⟩ := C
  intro ls H locs G
  exact lv_ldc hx hb hown (hts _ hc) hd (k ls H locs G)
theorem ex_s_ldc_w (C : ex_Cx xt p R s m args meth c D ad ca n0 nL fr lo A cc ret own) {pc : Nat} {lv : ex_L} {cs : ex_C} {ix : Nat} {v : Int32} {r : ex_V} (hd : decode cc pc = .ok (.ldc_w ix, 3)) (hc : Cond.constant own ix v ∈ ec_tb) (k : ex_T p l e R s m args below meth c D ad ca n0 nL A kc ks Qw (pc + 3) lv (.int v :: r) cs) : ex_T p l e R s m args below meth c D ad ca n0 nL A kc ks Qw pc lv r cs := by
  obtain ⟨hx, hb, hml, hown, hts, hr, hlk, hD, hK, hX, hZ, hAe, hR1, hR2, hxt⟩ := C
  intro ls H locs G
  exact lv_ldcw hx hb hown (hts _ hc) hd (k ls H locs G)
theorem ex_s_tableOut (C : ex_Cx xt p R s m args meth c D ad ca n0 nL fr lo A cc ret own) {pc : Nat} {lv : ex_L} {cs : ex_C} {dflt lo hi : Int} {offs : Array Int} {len : Nat} {x : Int32} {t : Nat} {r : ex_V} (hd : decode cc pc = .ok (.tableswitch dflt lo hi offs, len)) (h : x.toInt < lo ∨ hi < x.toInt) (ht : (pc : Int) + dflt = (t : Int)) (k : ex_T p l e R s m args below meth c D ad ca n0 nL A kc ks Qw t lv r cs) : ex_T p l e R s m args below meth c D ad ca n0 nL A kc ks Qw pc lv (.int x :: r) cs := by
  obtain ⟨hx, hb, hml, hown, hts, hr, hlk, hD, hK, hX, hZ, hAe, hR1, hR2, hxt⟩ := C
  intro ls H locs G
  exact lv_tableOut (x := x) (tgt := t) (rest := r.map (ex_v ad)) hx hb hd h ht (k ls H locs G)
theorem ex_s_tableIn (C : ex_Cx xt p R s m args meth c D ad ca n0 nL fr lo A cc ret own) {pc : Nat} {lv : ex_L} {cs : ex_C} {dflt lo hi : Int} {offs : Array Int} {len : Nat} {x : Int32} {off : Int} {t : Nat} {r : ex_V} (hd : decode cc pc = .ok (.tableswitch dflt lo hi offs, len)) (h1 : ¬ x.toInt < lo) (h2 : ¬ hi < x.toInt) (ho : offs[(x.toInt - lo).toNat]? = some off) (ht : (pc : Int) + off = (t : Int)) (k : ex_T p l e R s m args below meth c D ad ca n0 nL A kc ks Qw t lv r cs) : ex_T p l e R s m args below meth c D ad ca n0 nL A kc ks Qw pc lv (.int x :: r) cs := by
  obtain ⟨hx, hb, hml, hown, hts, hr, hlk, hD, hK, hX, hZ, hAe, hR1, hR2, hxt⟩ := C
  intro ls H locs G
  exact lv_tableIn (x := x) (tgt := t) (rest := r.map (ex_v ad)) hx hb hd h1 h2 ho ht (k ls H locs G)
theorem ex_s_lookup (C : ex_Cx xt p R s m args meth c D ad ca n0 nL fr lo A cc ret own) {pc : Nat} {lv : ex_L} {cs : ex_C} {dflt : Int} {ps : Array (Int × Int)} {len : Nat} {x : Int32} {off : Int} {t : Nat} {r : ex_V} (hd : decode cc pc = .ok (.lookupswitch dflt ps, len)) (hp : (ps.toList.zip (ps.toList.drop 1)).all (fun (a, next) => a.1 < next.1) = true) (ho : Op.lookupswitch.offset ps.toList dflt x.toInt = off) (ht : (pc : Int) + off = (t : Int)) (k : ex_T p l e R s m args below meth c D ad ca n0 nL A kc ks Qw t lv r cs) : ex_T p l e R s m args below meth c D ad ca n0 nL A kc ks Qw pc lv (.int x :: r) cs := by
  obtain ⟨hx, hb, hml, hown, hts, hr, hlk, hD, hK, hX, hZ, hAe, hR1, hR2, hxt⟩ := C
  intro ls H locs G
  exact lv_lookup (x := x) (tgt := t) (rest := r.map (ex_v ad)) hx hb hd hp ho ht (k ls H locs G)
theorem ex_tb_at {x : Int32} {k : Int → Prop} : ∀ {offs : List Int} {lo : Int} {j : Nat} {o : Int}, ex_tb x k lo offs → offs[j]? = some o → x = Int32.ofInt (lo + j) → k o
  | [], _, _, _, _, h, _ => by simp at h
  | o1 :: r, lo, 0, o, h, h2, h3 => by
    simp at h2
    subst h2
    exact h.1 (by rw [h3]; simp)
  | o1 :: r, lo, j + 1, o, h, h2, h3 => by
    refine ex_tb_at (j := j) h.2 (by simpa using h2) ?_
    rw [h3]
    congr 1
    omega
theorem ex_lk_at {x : Int32} {k : Int → Prop} {d : Int} : ∀ {ps : List (Int × Int)}, (ex_ln x ps → k d) → ex_lk x k ps → (∀ q ∈ ps, -2147483648 ≤ q.1 ∧ q.1 < 2147483648) → k (Op.lookupswitch.offset ps d x.toInt)
  | [], h, _, _ => by
    have h0 := h trivial
    simpa [Op.lookupswitch.offset] using h0
  | q :: r, h, h2, hq => by
    obtain ⟨a, o⟩ := q
    have ha := hq (a, o) List.mem_cons_self
    rw [Op.lookupswitch.offset_cons]
    by_cases hx : x = Int32.ofInt a
    · have e : x.toInt = a := by rw [hx]; exact Int32.toInt_ofInt_of_le (by simpa using ha.1) (by simpa using ha.2)
      rw [if_pos e.symm]
      exact h2.1 hx
    · rw [if_neg (fun e => hx (by rw [e]; exact (Int32.ofInt_toInt x).symm))]
      exact ex_lk_at (fun hn => h ⟨hx, hn⟩) h2.2 (fun q h' => hq q (List.mem_cons_of_mem _ h'))
end EXS
end
section
section EXW
variable {p : Program} {l : Launch} {e : Env} {R : Room} {s : State} {m : MethodId} {args : Array Value} {below : List Frame} {meth : Method} {c : Code}
variable {D : va_G} {ad ca : Nat → Nat} {n0 nL fr lo : Nat} {A : Nat → Prop} {cc : ByteArray} {ret : Option FieldType} {own : String} {Q : ex_Q} {Qw : State → Prop} {kc ks : Nat} {xt : ex_xt}
theorem ex_s_getfield (C : ex_Cx xt p R s m args meth c D ad ca n0 nL fr lo A cc ret own) {pc : Nat} {lv : ex_L} {cs : ex_C} {ix ci k a : Nat} {fs : List Value} {v : Value} {r : ex_V} (hd : decode cc pc = .ok (.getfield ix, 3)) (ho : cs[a]? = some (.inr (ci, fs))) (hv : fs[k]? = some v)
    (hl : ∃ Cn T N, ec_cl[ci]? = some (Cn, T, N) ∧ k < N ∧ Cond.fieldLink own ix (T k).1 (T k).2.1 (T k).2.2.1 ∈ ec_tb)
    (kk : ex_T p l e R s m args below meth c D ad ca n0 nL A kc ks Qw (pc + 3) lv (v :: r) cs) : ex_T p l e R s m args below meth c D ad ca n0 nL A kc ks Qw pc lv (.ref a :: r) cs := by
  obtain ⟨hx, hb, hml, hown, hts, hr, hlk, hD, hK, hX, hZ, hAe, hR1, hR2, hxt⟩ := C
  obtain ⟨Cn, T, N, h1, h2, h3⟩ := hl
  intro ls H locs G
  exact va_get (D := D) (ci := ci) (v := ex_v ad v) (C := Cn) (T := T) (N := N) (rest := r.map (ex_v ad)) hx hb hts (ec_clok h1).1 hown hK G.2.2.1 a (ex_w_get ho) h1 k h2 (hts _ h3) (fun _ h9 => h9) (by rw [List.getElem?_map, hv]; rfl) hd (kk ls H locs G)
theorem ex_s_putfield (C : ex_Cx xt p R s m args meth c D ad ca n0 nL fr lo A cc ret own) {pc : Nat} {lv : ex_L} {cs : ex_C} {ix ci k a : Nat} {fs : List Value} {v : Value} {r : ex_V} {ty : FieldType} (hd : decode cc pc = .ok (.putfield ix, 3)) (ho : cs[a]? = some (.inr (ci, fs))) (hkl : k < fs.length) (hf : ex_fit ty v)
    (hl : ∃ Cn T N, ec_cl[ci]? = some (Cn, T, N) ∧ k < N ∧ Cond.fieldLink own ix (T k).1 (T k).2.1 (T k).2.2.1 ∈ ec_tb ∧ parseFieldDescriptor (T k).2.2.1 = some ty ∧ (T k).2.2.2 = false)
    (kk : ex_T p l e R s m args below meth c D ad ca n0 nL A kc ks Qw (pc + 3) lv r (cs.set a (.inr (ci, fs.set k v)))) : ex_T p l e R s m args below meth c D ad ca n0 nL A kc ks Qw pc lv (v :: .ref a :: r) cs := by
  obtain ⟨hx, hb, hml, hown, hts, hr, hlk, hD, hK, hX, hZ, hAe, hR1, hR2, hxt⟩ := C
  obtain ⟨Cn, T, N, h1, h2, h3, h4, h5⟩ := hl
  obtain ⟨hin, ty0, hty, hnm⟩ := ec_clok h1
  intro ls H locs G
  refine va_put (D := D) (ci := ci) (v := ex_v ad v) (ty := ty) (C := Cn) (T := T) (N := N) (rest := r.map (ex_v ad)) hx hb hts hin ty0 hty hnm hown hK G.2.2.1 (hD.va G.1) G.2.2.2 a (ex_w_get ho) h1 k h2 (hts _ h3) (fun _ h9 => h9) h5 h4 hf.ok.1 hf.ok.2 (by rw [List.length_map]; exact hkl) hd (fun H1 locs1 hP1 hD1 hS1 => ?_)
  refine kk ls H1 locs1 ⟨by rw [List.length_set]; exact G.1, G.2.1, ?_, hS1⟩
  rw [← ex_w_set]
  show va_P D ec_cl ((ex_w ad ca cs).set a (ad a, .inr (ci, (fs.set k v).map (ex_v ad)))) H1
  rw [List.map_set]
  exact hP1
theorem ex_s_getstatic (C : ex_Cx xt p R s m args meth c D ad ca n0 nL fr lo A cc ret own) {pc : Nat} {lv : ex_L} {cs : ex_C} {ix j : Nat} {r : ex_V} (hd : decode cc pc = .ok (.getstatic ix, 3)) (hl : ∃ Cn n dd, (Cn, n, dd, j) ∈ ec_zs ∧ Cond.fieldLink own ix Cn n dd ∈ ec_tb)
    (kk : ex_T p l e R s m args below meth c D ad ca n0 nL A kc ks Qw (pc + 3) lv (.ref (1000 + j) :: r) cs) : ex_T p l e R s m args below meth c D ad ca n0 nL A kc ks Qw pc lv r cs := by
  obtain ⟨hx, hb, hml, hown, hts, hr, hlk, hD, hK, hX, hZ, hAe, hR1, hR2, hxt⟩ := C
  obtain ⟨Cn, n, dd, h1, h2⟩ := hl
  intro ls H locs G
  exact va_gets (v := .ref (ad (1000 + j))) (rest := r.map (ex_v ad)) hx hb (hZ Cn n dd j h1) G.2.2.2 hown (hts _ h2) (fun _ h9 => h9) hd (kk ls H locs G)
theorem ex_s_iaload (C : ex_Cx xt p R s m args meth c D ad ca n0 nL fr lo A cc ret own) {pc : Nat} {lv : ex_L} {cs : ex_C} {a n : Nat} {f : Nat → Int32} {i : Int32} {r : ex_V} (hd : decode cc pc = .ok (.iaload, 1)) (ho : cs[a]? = some (.inl (0, n, .inl f))) (hi : vp_in i n)
    (kk : ex_T p l e R s m args below meth c D ad ca n0 nL A kc ks Qw (pc + 1) lv (.int (f i.toNatClampNeg) :: r) cs) : ex_T p l e R s m args below meth c D ad ca n0 nL A kc ks Qw pc lv (.int i :: .ref a :: r) cs := by
  obtain ⟨hx, hb, hml, hown, hts, hr, hlk, hD, hK, hX, hZ, hAe, hR1, hR2, hxt⟩ := C
  intro ls H locs G
  exact va_iald (rest := r.map (ex_v ad)) hx hb hK G.2.2.1 a 0 (ex_w_get ho) rfl hi hd (kk ls H locs G)
theorem ex_s_ialoadX (C : ex_Cx xt p R s m args meth c D ad ca n0 nL fr lo A cc ret own) {pc : Nat} {lv : ex_L} {cs : ex_C} {a n : Nat} {f : Nat → Int32} {i : Int32} {r : ex_V} (hd : decode cc pc = .ok (.iaload, 1)) (ha : 1000 ≤ a) (ho : xt[a - 1000]? = some (n, f)) (hi : vp_in i n)
    (kk : ex_T p l e R s m args below meth c D ad ca n0 nL A kc ks Qw (pc + 1) lv (.int (f i.toNatClampNeg) :: r) cs) : ex_T p l e R s m args below meth c D ad ca n0 nL A kc ks Qw pc lv (.int i :: .ref a :: r) cs := by
  obtain ⟨hx, hb, hml, hown, hts, hr, hlk, hD, hK, hX, hZ, hAe, hR1, hR2, hxt⟩ := C
  intro ls H locs G
  have hT := hX (a - 1000) n f ho
  rw [show 1000 + (a - 1000) = a by omega] at hT
  exact va_ti (v := .int (f i.toNatClampNeg)) (rest := r.map (ex_v ad)) hx hb hT G.2.2.2 hi rfl hd (kk ls H locs G)
theorem ex_s_baload (C : ex_Cx xt p R s m args meth c D ad ca n0 nL fr lo A cc ret own) {pc : Nat} {lv : ex_L} {cs : ex_C} {a n : Nat} {f : Nat → Int32} {i : Int32} {r : ex_V} (hd : decode cc pc = .ok (.baload, 1)) (ho : cs[a]? = some (.inl (1, n, .inl f))) (hi : vp_in i n)
    (kk : ex_T p l e R s m args below meth c D ad ca n0 nL A kc ks Qw (pc + 1) lv (.int (f i.toNatClampNeg) :: r) cs) : ex_T p l e R s m args below meth c D ad ca n0 nL A kc ks Qw pc lv (.int i :: .ref a :: r) cs := by
  obtain ⟨hx, hb, hml, hown, hts, hr, hlk, hD, hK, hX, hZ, hAe, hR1, hR2, hxt⟩ := C
  intro ls H locs G
  exact va_zald (rest := r.map (ex_v ad)) hx hb hK G.2.2.1 a 1 (ex_w_get ho) rfl hi hd (kk ls H locs G)
theorem ex_s_iastore (C : ex_Cx xt p R s m args meth c D ad ca n0 nL fr lo A cc ret own) {pc : Nat} {lv : ex_L} {cs : ex_C} {a n : Nat} {f : Nat → Int32} {i x : Int32} {r : ex_V} (hd : decode cc pc = .ok (.iastore, 1)) (ho : cs[a]? = some (.inl (0, n, .inl f))) (hi : vp_in i n)
    (kk : ex_T p l e R s m args below meth c D ad ca n0 nL A kc ks Qw (pc + 1) lv r (cs.set a (.inl (0, n, .inl (upd f i.toNatClampNeg x))))) : ex_T p l e R s m args below meth c D ad ca n0 nL A kc ks Qw pc lv (.int x :: .int i :: .ref a :: r) cs := by
  obtain ⟨hx, hb, hml, hown, hts, hr, hlk, hD, hK, hX, hZ, hAe, hR1, hR2, hxt⟩ := C
  intro ls H locs G
  refine va_iast (rest := r.map (ex_v ad)) hx hb hK G.2.2.1 (hD.va G.1) G.2.2.2 a 0 (ex_w_get ho) rfl hi hd (fun H1 locs1 hP1 hD1 hS1 => ?_)
  refine kk ls H1 locs1 ⟨by rw [List.length_set]; exact G.1, G.2.1, ?_, hS1⟩
  rw [← ex_w_set]
  exact hP1
theorem ex_nar {x : Int32} (h : x = 0 ∨ x = 1) : vp_nar .boolean x = x := by
  rcases h with rfl | rfl <;> decide
theorem ex_s_bastore (C : ex_Cx xt p R s m args meth c D ad ca n0 nL fr lo A cc ret own) {pc : Nat} {lv : ex_L} {cs : ex_C} {a n : Nat} {f : Nat → Int32} {i x : Int32} {r : ex_V} (hd : decode cc pc = .ok (.bastore, 1)) (ho : cs[a]? = some (.inl (1, n, .inl f))) (hi : vp_in i n) (h01 : x = 0 ∨ x = 1)
    (kk : ex_T p l e R s m args below meth c D ad ca n0 nL A kc ks Qw (pc + 1) lv r (cs.set a (.inl (1, n, .inl (upd f i.toNatClampNeg x))))) : ex_T p l e R s m args below meth c D ad ca n0 nL A kc ks Qw pc lv (.int x :: .int i :: .ref a :: r) cs := by
  obtain ⟨hx, hb, hml, hown, hts, hr, hlk, hD, hK, hX, hZ, hAe, hR1, hR2, hxt⟩ := C
  intro ls H locs G
  refine va_zast (rest := r.map (ex_v ad)) hx hb hK G.2.2.1 (hD.va G.1) G.2.2.2 a 1 (ex_w_get ho) rfl hi hd (fun H1 locs1 hP1 hD1 hS1 => ?_)
  refine kk ls H1 locs1 ⟨by rw [List.length_set]; exact G.1, G.2.1, ?_, hS1⟩
  rw [← ex_w_set]
  rw [ex_nar h01] at hP1
  exact hP1
theorem ex_s_arraylength (C : ex_Cx xt p R s m args meth c D ad ca n0 nL fr lo A cc ret own) {pc : Nat} {lv : ex_L} {cs : ex_C} {a t n : Nat} {f : Nat → Int32} {r : ex_V} (hd : decode cc pc = .ok (.arraylength, 1)) (ho : cs[a]? = some (.inl (t, n, .inl f))) (ht : t = 0 ∨ t = 1)
    (kk : ex_T p l e R s m args below meth c D ad ca n0 nL A kc ks Qw (pc + 1) lv (.int (Int32.ofNat n) :: r) cs) : ex_T p l e R s m args below meth c D ad ca n0 nL A kc ks Qw pc lv (.ref a :: r) cs := by
  obtain ⟨hx, hb, hml, hown, hts, hr, hlk, hD, hK, hX, hZ, hAe, hR1, hR2, hxt⟩ := C
  intro ls H locs G
  rcases ht with rfl | rfl
  · exact va_alen (rest := r.map (ex_v ad)) (x := (n, .inl f)) hx hb hK G.2.2.1 a 0 (ex_w_get ho) rfl rfl hd (kk ls H locs G)
  · exact va_alen (rest := r.map (ex_v ad)) (x := (n, .inl f)) hx hb hK G.2.2.1 a 1 (ex_w_get ho) rfl rfl hd (kk ls H locs G)
theorem ex_s_ireturn (C : ex_Cx xt p R s m args meth c D ad ca n0 nL fr lo A cc ret own) {pc : Nat} {lv : ex_L} {cs : ex_C} {v : Int32} (hd : decode cc pc = .ok (.ireturn, 1)) (hv : ex_ret ret v) (hq : Q (some (.int v)) cs) : ex_T p l e R s m args below meth c D ad ca n0 nL A 0 0 (MQ below (ex_Qc D ad ca Q n0 A) args s 0 0 A) pc lv [.int v] cs := by
  obtain ⟨hx, hb, hml, hown, hts, hr, hlk, hD, hK, hX, hZ, hAe, hR1, hR2, hxt⟩ := C
  intro ls H locs G
  unfold ex_ret at hv
  split at hv
  · exact W.zret (ty := .int) hx hb hr rfl (fun t ht hW => ⟨⟨some (.int v), cs, rfl, hq, G.1, by rw [ht]; exact G.2.2.1⟩, G.2.2.2.F ht⟩) G.2.2.2.2.2 hd hlk
  · exact W.zret (ty := .boolean) hx hb hr (by rcases hv with rfl | rfl <;> rfl) (fun t ht hW => ⟨⟨some (.int v), cs, rfl, hq, G.1, by rw [ht]; exact G.2.2.1⟩, G.2.2.2.F ht⟩) G.2.2.2.2.2 hd hlk
  · exact hv.elim
theorem ex_s_return (C : ex_Cx xt p R s m args meth c D ad ca n0 nL fr lo A cc ret own) {pc : Nat} {lv : ex_L} {cs : ex_C} (hd : decode cc pc = .ok (.return_, 1)) (hv : ret = none) (hq : Q none cs) : ex_T p l e R s m args below meth c D ad ca n0 nL A 0 0 (MQ below (ex_Qc D ad ca Q n0 A) args s 0 0 A) pc lv [] cs := by
  obtain ⟨hx, hb, hml, hown, hts, hr, hlk, hD, hK, hX, hZ, hAe, hR1, hR2, hxt⟩ := C
  intro ls H locs G
  exact W.vret hx hb (hr.trans hv) (fun t ht hW => ⟨⟨none, cs, rfl, hq, G.1, by rw [ht]; exact G.2.2.1⟩, G.2.2.2.F ht⟩) G.2.2.2.2.2 hd hlk
/-- behind a call -/
theorem ex_s_run {pc : Nat} {lv : ex_L} {r : ex_V} {Qk : ex_Q} {ls : Array Slot} {H : Heap} {locs : List Loc} {st0 : List Value} {a : Array Value} (hr : va_Run p l e R s m args below meth c H locs kc ks 0 0 (F0 m pc ls st0) (r.map (ex_v ad)) (ex_Qc D ad ca Qk n0 (ex_A ad n0 H.size) a) (ex_A ad n0 H.size))
    (hA : ∀ q, ex_A ad n0 s.heap.size q → A q) (hl : ex_ls ad lv nL ls) (hS : va_S A s.heap H locs) (kk : ∀ (rv : Option Value) (cs' : ex_C), Qk rv cs' → ex_T p l e R s m args below meth c D ad ca n0 nL A kc ks Qw (pc + 3) lv (rv.toList ++ r) cs') :
    W p l e R s m args below meth c H locs kc ks Qw (F0 m pc ls st0) := by
  intro T hT X
  obtain ⟨v, st₀, t, T', L, h0, X', hL, e1, e2, ⟨⟨rv, cs', hv, hq, hn, hp⟩, hz, hk⟩, st⟩ := hr T hT X
  cases hv
  rw [h0] at hz hk
  have hsub : ∀ q, ex_A ad n0 H.size q → A q := by
    intro q h
    rcases h with h | h
    · exact hA q (Or.inl h)
    · exact hA q (Or.inr (Nat.le_trans hS.1 h))
  have hstk : (rv.toList ++ r).map (ex_v ad) = (rv.map (ex_v ad)).toList ++ r.map (ex_v ad) := by cases rv <;> simp
  have k2 := kk rv cs' hq ls T'.heap (locs ++ L) ⟨hn, hl, by rw [e1]; exact hp, Nat.le_trans hS.1 (by rw [e1]; exact hz), fun q h1 h2 => by rw [e1, hk q (Nat.lt_of_lt_of_le h1 hS.1) (fun z => h2 (hsub q z))]; exact hS.2.1 q h1 h2, fun q hq => by
      rcases List.mem_append.mp hq with h | h
      · exact hS.2.2 q h
      · exact hsub _ (hL q h)⟩
  rw [hstk] at k2
  obtain ⟨t2, a1, b1⟩ := k2 T' rfl X'
  exact ⟨t2, st t2 a1, b1⟩
theorem ex_s_copy (C : ex_Cx xt p R s m args meth c D ad ca n0 nL fr lo A cc ret own) {pc : Nat} {lv : ex_L} {cs : ex_C} {ix a a0 m0 m1 : Nat} {f g : Nat → Int32} {sp dp n : Int32} {r : ex_V} (hd : decode cc pc = .ok (.invokestatic ix, 3)) (hl : Cond.methodLink own ix arraycopyName ∈ ec_tb ∧ Cond.native arraycopyName ∈ ec_tb ∧ Cond.static arraycopyName ∈ ec_tb ∧ Cond.initialized "java/lang/System" ∈ ec_tb ∧ 1 ≤ fr ∧ 8 + (nativeFrameWords "java/lang/System" "arraycopy" 5 + 11) ≤ lo)
    (ho0 : cs[a0]? = some (.inl (0, m0, .inl f))) (ho : cs[a]? = some (.inl (0, m1, .inl g))) (h1 : ¬ sp < 0) (h2 : ¬ dp < 0) (h3 : ¬ n < 0) (h4 : sp.toNatClampNeg + n.toNatClampNeg ≤ m0) (h5 : dp.toNatClampNeg + n.toNatClampNeg ≤ m1) (h6 : (r.map (fun v => v.category)).sum ≤ 8)
    (kk : ex_T p l e R s m args below meth c D ad ca n0 nL A kc ks Qw (pc + 3) lv r (cs.set a (.inl (0, m1, .inl (va_cpy f g sp.toNatClampNeg dp.toNatClampNeg n.toNatClampNeg))))) : ex_T p l e R s m args below meth c D ad ca n0 nL A kc ks Qw pc lv (.int n :: .int dp :: .ref a :: .int sp :: .ref a0 :: r) cs := by
  obtain ⟨hx, hb, hml, hown, hts, hr, hlk, hD, hK, hX, hZ, hAe, hR1, hR2, hxt⟩ := C
  intro ls H locs G
  have hcat : ((r.map (ex_v ad)).map fun v => v.category).sum ≤ 8 := by
    rw [List.map_map]
    have : ((fun v : Value => v.category) ∘ ex_v ad) = (fun v => v.category) := by funext v; exact ex_v_cat ad v
    rw [this]
    exact h6
  refine va_copyi (ty := .int) (rest := r.map (ex_v ad)) hx hb (hml.trans G.2.1.1.symm) hown (hts _ hl.1) (hts _ hl.2.1) (hts _ hl.2.2.1) (hts _ hl.2.2.2.1) hK G.2.2.1 (hD.va G.1) G.2.2.2 a0 a 0 0 (ex_w_get ho0) (ex_w_get ho) rfl rfl rfl h1 h2 h3 h4 h5 (fun _ _ => rfl) (Nat.le_trans hl.2.2.2.2.1 hR1) (Nat.le_trans (Nat.add_le_add_right hcat _) (Nat.le_trans hl.2.2.2.2.2 hR2)) hd (fun H1 locs1 hP1 hD1 hS1 => ?_)
  refine kk ls H1 locs1 ⟨by rw [List.length_set]; exact G.1, G.2.1, ?_, hS1⟩
  rw [← ex_w_set]
  exact hP1
theorem ex_start (C : ex_Cx xt p R s m args meth c D ad ca n0 nL fr lo A cc ret own) {cs : ex_C} {H : Heap} {locs : List Loc} {av : ex_V} (hn : cs.length = n0) (hP : va_P D ec_cl (ex_w ad ca cs) H) (hS : va_S A s.heap H locs) : ∀ U : State, U.heap = H → s.WarmedH U.vm → ex_Pc D ad ca av cs n0 H.size (av.map (ex_v ad)).toArray U := by
  obtain ⟨hx, hb, hml, hown, hts, hr, hlk, hD, hK, hX, hZ, hAe, hR1, hR2, hxt⟩ := C
  intro U hU hW
  have hsub : ∀ q, ex_A ad n0 H.size q → A q := by
    intro q h
    rcases h with h | h
    · exact hAe q (Or.inl h)
    · exact hAe q (Or.inr (Nat.le_trans hS.1 h))
  refine ⟨rfl, by rw [hU], hn, by rw [hU]; exact hP, hD.self, va_K.moved hW.alike hK, fun j n f hj => ?_, fun Cn n dd j hj => ?_⟩
  · rw [hU]
    exact (((hX j n f (hxt j (n, f) hj)).moved hW.alike).kept hS.2.1).narrow hsub
  · rw [hU]
    exact (((hZ Cn n dd j hj).moved hW.alike).kept hS.2.1).narrow hsub
theorem ex_good {y : MethodName} {bytes : ByteArray} {maxL : Nat} {ret : Option FieldType} (h : Cond.code y bytes maxL ret ∈ ec_tb) : GoodIn ec_tb (.code y bytes maxL ret :: ec_tb) := by
  intro w hw
  rcases List.mem_cons.mp hw with rfl | hw
  · exact ⟨h, ec_good _ h⟩
  · exact ⟨hw, ec_good _ hw⟩
theorem ex_s_virtual (C : ex_Cx xt p R s m args meth c D ad ca n0 nL fr lo A cc ret own) {pc : Nat} {lv : ex_L} {cs : ex_C} {ix n ci a : Nat} {sp : ex_S} {fs : List Value} {as r : ex_V} {Qk : ex_Q} (hd : decode cc pc = .ok (.invokevirtual ix, 3)) (hrc : kc ≤ R.cells ∧ ks ≤ R.slots) (hcok : ex_cok l own fr lo ix n (some ci) sp) (ho : cs[a]? = some (.inr (ci, fs))) (hn : as.length + 1 = n) (hsum : (r.map (fun v => v.category)).sum ≤ 8)
    (hsp : sp (.ref a :: as) cs Qk) (kk : ∀ (rv : Option Value) (cs' : ex_C), Qk rv cs' → ex_T p l e R s m args below meth c D ad ca n0 nL A kc ks Qw (pc + 3) lv (rv.toList ++ r) cs') : ex_T p l e R s m args below meth c D ad ca n0 nL A kc ks Qw pc lv (as.reverse ++ .ref a :: r) cs := by
  intro ls H locs G
  have hst := ex_start (av := .ref a :: as) C G.1 G.2.2.1 G.2.2.2
  obtain ⟨hx, hb, hml, hown, hts, hr, hlk, hD, hK, hX, hZ, hAe, hR1, hR2, hxt⟩ := C
  obtain ⟨y, bytes, maxL, ret', fr', lo', hd', hmx, hM, hcode, hini, hy, hlink, ⟨T, N, hcl⟩, hinst, hsel, -, hpar⟩ := hcok
  have hM := hM D ad ca n0 H.size (.ref a :: as) cs Qk hsp
  have hroom : (ex_rm fr' lo').frames + 1 ≤ R.frames ∧ 8 + (maxL + 11) + (ex_rm fr' lo').locals ≤ R.locals := by
    exact ⟨Nat.le_trans hd' hR1, Nat.le_trans hmx hR2⟩
  have hp : PreV s H y.cls (ad a) (ex_Pc D ad ca (.ref a :: as) cs n0 H.size) (as.map (ex_v ad)) := ⟨ex_blind, va_recv hK G.2.2.1 hcl (ex_w_get ho), hst⟩
  have hstack : (as.reverse ++ Value.ref a :: r).map (ex_v ad) = (as.map (ex_v ad)).reverse ++ Value.ref (ad a) :: r.map (ex_v ad) := by simp [ex_v]
  have hlen : (as.map (ex_v ad)).length = n - 1 := by rw [List.length_map]; omega
  have hcat : ((r.map (ex_v ad)).map fun v => v.category).sum ≤ 8 := by
    rw [List.map_map]
    have : ((fun v : Value => v.category) ∘ ex_v ad) = (fun v => v.category) := by funext v; exact ex_v_cat ad v
    rw [this]
    exact hsum
  rw [hstack]
  rcases hlink with hlink | ⟨host, hlink⟩
  · refine ex_s_run (va_runV (C := y.cls) (n := n - 1) (ret := ret') ⟨hx, hb, hml, hown, hts⟩ hM ⟨callB_of (n - 1) hts (ex_good hcode) rfl rfl rfl (hts _ hini) (hts _ hlink) ⟨hy.1, hy.2, hpar⟩ hroom, hts _ hinst, hts _ hsel⟩ hp rfl hlen G.2.1.1 rfl (lv_room hcat) hd hrc) hAe G.2.1 G.2.2.2 kk
  · refine ex_s_run (va_runVN (C := y.cls) (n := n - 1) (ret := ret') ⟨hx, hb, hml, hown, hts⟩ hM ⟨va_cnB (n - 1) hts (ex_good hcode) rfl rfl rfl (hts _ hlink) (hts _ hini) ⟨hy.1, hy.2, hpar⟩ hroom, hts _ hinst, hts _ hsel⟩ hp rfl hlen G.2.1.1 rfl (lv_room hcat) hd hrc) hAe G.2.1 G.2.2.2 kk
theorem ex_s_static (C : ex_Cx xt p R s m args meth c D ad ca n0 nL fr lo A cc ret own) {pc : Nat} {lv : ex_L} {cs : ex_C} {ix n : Nat} {sp : ex_S} {as r : ex_V} {Qk : ex_Q} (hd : decode cc pc = .ok (.invokestatic ix, 3)) (hrc : kc ≤ R.cells ∧ ks ≤ R.slots) (hcok : ex_cok l own fr lo ix n none sp) (hn : as.length = n) (hsum : (r.map (fun v => v.category)).sum ≤ 8)
    (hsp : sp as cs Qk) (kk : ∀ (rv : Option Value) (cs' : ex_C), Qk rv cs' → ex_T p l e R s m args below meth c D ad ca n0 nL A kc ks Qw (pc + 3) lv (rv.toList ++ r) cs') : ex_T p l e R s m args below meth c D ad ca n0 nL A kc ks Qw pc lv (as.reverse ++ r) cs := by
  intro ls H locs G
  have hst := ex_start (av := as) C G.1 G.2.2.1 G.2.2.2
  obtain ⟨hx, hb, hml, hown, hts, hr, hlk, hD, hK, hX, hZ, hAe, hR1, hR2, hxt⟩ := C
  obtain ⟨y, bytes, maxL, ret', fr', lo', hd', hmx, hM, hcode, hini, hy, hlink, hstat, hpar⟩ := hcok
  have hM := hM D ad ca n0 H.size as cs Qk hsp
  have hroom : (ex_rm fr' lo').frames + 1 ≤ R.frames ∧ 8 + (maxL + 11) + (ex_rm fr' lo').locals ≤ R.locals := by
    exact ⟨Nat.le_trans hd' hR1, Nat.le_trans hmx hR2⟩
  have hp : PreS s H (ex_Pc D ad ca as cs n0 H.size) (as.map (ex_v ad)) := ⟨ex_blind, hst⟩
  have hstack : (as.reverse ++ r).map (ex_v ad) = (as.map (ex_v ad)).reverse ++ r.map (ex_v ad) := by simp
  have hlen : (as.map (ex_v ad)).length = n := by rw [List.length_map]; exact hn
  have hcat : ((r.map (ex_v ad)).map fun v => v.category).sum ≤ 8 := by
    rw [List.map_map]
    have : ((fun v : Value => v.category) ∘ ex_v ad) = (fun v => v.category) := by funext v; exact ex_v_cat ad v
    rw [this]
    exact hsum
  rw [hstack]
  rcases hlink with hlink | ⟨host, hlink⟩
  · refine ex_s_run (va_runS (n := n) (ret := ret') ⟨hx, hb, hml, hown, hts⟩ hM ⟨callB_of n hts (ex_good hcode) rfl rfl rfl (hts _ hini) (hts _ hlink) ⟨hy.1, hy.2, hpar⟩ hroom, hts _ hstat⟩ hp rfl hlen G.2.1.1 rfl (lv_room hcat) hd hrc) hAe G.2.1 G.2.2.2 kk
  · refine ex_s_run (va_runSN (n := n) (ret := ret') ⟨hx, hb, hml, hown, hts⟩ hM ⟨va_cnB n hts (ex_good hcode) rfl rfl rfl (hts _ hlink) (hts _ hini) ⟨hy.1, hy.2, hpar⟩ hroom, hts _ hstat, trivial⟩ hp rfl hlen G.2.1.1 rfl (lv_room hcat) hd hrc) hAe G.2.1 G.2.2.2 kk
end EXW
end
section
section EXM
variable {p : Program} {l : Launch} {e : Env} {R : Room} {s : State} {m : MethodId} {args : Array Value} {below : List Frame} {meth : Method} {c : Code}
variable {D : va_G} {ad ca : Nat → Nat} {n0 nL fr lo : Nat} {A : Nat → Prop} {cc : ByteArray} {ret : Option FieldType} {Q : ex_Q} {Qw : State → Prop} {kc ks : Nat} {xt : ex_xt}
theorem ex_split {st : ex_V} {n : Nat} {v : Value} (h1 : n ≤ st.length) (hn : 1 ≤ n) (h2 : st[n - 1]? = some v) : st = (st.take (n - 1)).reverse.reverse ++ v :: st.drop n ∧ (st.take n).reverse = v :: (st.take (n - 1)).reverse := by
  obtain ⟨k, rfl⟩ : ∃ k, n = k + 1 := ⟨n - 1, by omega⟩
  rw [Nat.add_sub_cancel] at h2 ⊢
  have hk : k < st.length := by omega
  have hv : st[k] = v := by
    rw [List.getElem?_eq_getElem hk] at h2
    exact Option.some.inj h2
  refine ⟨?_, ?_⟩
  · rw [List.reverse_reverse]
    conv => lhs; rw [← List.take_append_drop k st]
    rw [List.drop_eq_getElem_cons hk, hv]
  · rw [← List.take_append_getElem hk, List.reverse_append, hv]
    rfl
set_option maxHeartbeats 4000000 in
theorem ex_i_sound {cx : ex_K} (C : ex_Cx xt p R s m args meth c D ad ca n0 nL fr lo A cc ret cx.1) (hok : ex_ok l fr lo cx) (hrc : kc ≤ R.cells ∧ ks ≤ R.slots) (hI : ∀ pc lv cs v, decode cc pc = .ok (.ireturn, 1) → ex_ret ret v → Q (some (.int v)) cs → ex_T p l e R s m args below meth c D ad ca n0 nL A kc ks Qw pc lv [.int v] cs) (hV : ∀ pc lv cs, decode cc pc = .ok (.return_, 1) → ret = none → Q none cs → ex_T p l e R s m args below meth c D ad ca n0 nL A kc ks Qw pc lv [] cs) {i : Instr} {len pc : Nat} {lv : ex_L} {st : ex_V} {cs : ex_C} {K : Nat → ex_L → ex_V → ex_C → Prop} (hd : decode cc pc = .ok (i, len)) (h : ex_i xt cx ret Q i len pc lv st cs K)
    (kk : ∀ pc' lv' st' cs', K pc' lv' st' cs' → ex_T p l e R s m args below meth c D ad ca n0 nL A kc ks Qw pc' lv' st' cs') : ex_T p l e R s m args below meth c D ad ca n0 nL A kc ks Qw pc lv st cs := by
  cases i with
  | iconst n => obtain ⟨rfl, h⟩ := h; exact ex_s_iconst C hd (kk _ _ _ _ h)
  | bipush n => obtain ⟨rfl, h⟩ := h; exact ex_s_bipush C hd (kk _ _ _ _ h)
  | sipush n => obtain ⟨rfl, h⟩ := h; exact ex_s_sipush C hd (kk _ _ _ _ h)
  | ldc_w ix => obtain ⟨rfl, h⟩ := h; obtain ⟨v, hv, h⟩ := ex_o.at h; exact ex_s_ldc_w C hd (hok.2.1 _ _ hv) (kk _ _ _ _ h)
  | lconst n => obtain ⟨rfl, h⟩ := h; exact ex_s_lconst C hd (kk _ _ _ _ h)
  | ldc ix => obtain ⟨rfl, h⟩ := h; obtain ⟨v, hv, h⟩ := ex_o.at h; exact ex_s_ldc C hd (hok.2.1 _ _ hv) (kk _ _ _ _ h)
  | iload_n k => obtain ⟨rfl, h⟩ := h; obtain ⟨x, hv, h⟩ := ex_gi.at h; exact ex_s_iload_n C hd hv (kk _ _ _ _ h)
  | iload k => obtain ⟨rfl, h⟩ := h; obtain ⟨x, hv, h⟩ := ex_gi.at h; exact ex_s_iload C hd hv (kk _ _ _ _ h)
  | lload_n k => obtain ⟨rfl, h⟩ := h; obtain ⟨x, hv, h⟩ := ex_gl.at h; exact ex_s_lload_n C hd hv (kk _ _ _ _ h)
  | lload k => obtain ⟨rfl, h⟩ := h; obtain ⟨x, hv, h⟩ := ex_gl.at h; exact ex_s_lload C hd hv (kk _ _ _ _ h)
  | aload_n k => obtain ⟨rfl, h⟩ := h; obtain ⟨x, hv, h⟩ := ex_gr.at h; exact ex_s_aload_n C hd hv (kk _ _ _ _ h)
  | aload k => obtain ⟨rfl, h⟩ := h; obtain ⟨x, hv, h⟩ := ex_gr.at h; exact ex_s_aload C hd hv (kk _ _ _ _ h)
  | istore_n k => obtain ⟨rfl, h⟩ := h; obtain ⟨x, r, rfl, hs, h⟩ := ex_i1.at h; exact ex_s_istore_n C hd hs (kk _ _ _ _ h)
  | istore k => obtain ⟨rfl, h⟩ := h; obtain ⟨x, r, rfl, hs, h⟩ := ex_i1.at h; exact ex_s_istore C hd hs (kk _ _ _ _ h)
  | astore_n k => obtain ⟨rfl, h⟩ := h; obtain ⟨x, r, rfl, hs, h⟩ := ex_r1.at h; exact ex_s_astore_n C hd hs (kk _ _ _ _ h)
  | astore k => obtain ⟨rfl, h⟩ := h; obtain ⟨x, r, rfl, hs, h⟩ := ex_r1.at h; exact ex_s_astore C hd hs (kk _ _ _ _ h)
  | lstore_n k => obtain ⟨rfl, h⟩ := h; obtain ⟨x, r, rfl, hs, hs2, h⟩ := ex_l1.at h; exact ex_s_lstore_n C hd hs hs2 (kk _ _ _ _ h)
  | lstore k => obtain ⟨rfl, h⟩ := h; obtain ⟨x, r, rfl, hs, hs2, h⟩ := ex_l1.at h; exact ex_s_lstore C hd hs hs2 (kk _ _ _ _ h)
  | iinc k n => obtain ⟨rfl, h⟩ := h; obtain ⟨x, hv, hs, h⟩ := ex_gi.at h; exact ex_s_iinc C hd hv hs (kk _ _ _ _ h)
  | iadd => obtain ⟨rfl, h⟩ := h; obtain ⟨x, y, r, rfl, h⟩ := ex_i2.at h; exact ex_s_iadd C hd (kk _ _ _ _ h)
  | isub => obtain ⟨rfl, h⟩ := h; obtain ⟨x, y, r, rfl, h⟩ := ex_i2.at h; exact ex_s_isub C hd (kk _ _ _ _ h)
  | imul => obtain ⟨rfl, h⟩ := h; obtain ⟨x, y, r, rfl, h⟩ := ex_i2.at h; exact ex_s_imul C hd (kk _ _ _ _ h)
  | iand => obtain ⟨rfl, h⟩ := h; obtain ⟨x, y, r, rfl, h⟩ := ex_i2.at h; exact ex_s_iand C hd (kk _ _ _ _ h)
  | ior => obtain ⟨rfl, h⟩ := h; obtain ⟨x, y, r, rfl, h⟩ := ex_i2.at h; exact ex_s_ior C hd (kk _ _ _ _ h)
  | ixor => obtain ⟨rfl, h⟩ := h; obtain ⟨x, y, r, rfl, h⟩ := ex_i2.at h; exact ex_s_ixor C hd (kk _ _ _ _ h)
  | ishl => obtain ⟨rfl, h⟩ := h; obtain ⟨x, y, r, rfl, h⟩ := ex_i2.at h; exact ex_s_ishl C hd (kk _ _ _ _ h)
  | ishr => obtain ⟨rfl, h⟩ := h; obtain ⟨x, y, r, rfl, h⟩ := ex_i2.at h; exact ex_s_ishr C hd (kk _ _ _ _ h)
  | iushr => obtain ⟨rfl, h⟩ := h; obtain ⟨x, y, r, rfl, h⟩ := ex_i2.at h; exact ex_s_iushr C hd (kk _ _ _ _ h)
  | idiv => obtain ⟨rfl, h⟩ := h; obtain ⟨x, y, r, rfl, hy, h⟩ := ex_i2.at h; exact ex_s_idiv C hy hd (kk _ _ _ _ h)
  | irem => obtain ⟨rfl, h⟩ := h; obtain ⟨x, y, r, rfl, hy, h⟩ := ex_i2.at h; exact ex_s_irem C hy hd (kk _ _ _ _ h)
  | ineg => obtain ⟨rfl, h⟩ := h; obtain ⟨x, r, rfl, h⟩ := ex_i1.at h; exact ex_s_ineg C hd (kk _ _ _ _ h)
  | i2l => obtain ⟨rfl, h⟩ := h; obtain ⟨x, r, rfl, h⟩ := ex_i1.at h; exact ex_s_i2l C hd (kk _ _ _ _ h)
  | l2i => obtain ⟨rfl, h⟩ := h; obtain ⟨x, r, rfl, h⟩ := ex_l1.at h; exact ex_s_l2i C hd (kk _ _ _ _ h)
  | ladd => obtain ⟨rfl, h⟩ := h; obtain ⟨x, y, r, rfl, h⟩ := ex_l2.at h; exact ex_s_ladd C hd (kk _ _ _ _ h)
  | lsub => obtain ⟨rfl, h⟩ := h; obtain ⟨x, y, r, rfl, h⟩ := ex_l2.at h; exact ex_s_lsub C hd (kk _ _ _ _ h)
  | lmul => obtain ⟨rfl, h⟩ := h; obtain ⟨x, y, r, rfl, h⟩ := ex_l2.at h; exact ex_s_lmul C hd (kk _ _ _ _ h)
  | ldiv => obtain ⟨rfl, h⟩ := h; obtain ⟨x, y, r, rfl, hy, h⟩ := ex_l2.at h; exact ex_s_ldiv C hy hd (kk _ _ _ _ h)
  | dup => obtain ⟨rfl, h⟩ := h; obtain ⟨v, r, rfl, h1, h⟩ := ex_v1.at h; exact ex_s_dup C h1 hd (kk _ _ _ _ h)
  | pop => obtain ⟨rfl, h⟩ := h; obtain ⟨v, r, rfl, h1, h⟩ := ex_v1.at h; exact ex_s_pop C h1 hd (kk _ _ _ _ h)
  | dup_x1 => obtain ⟨rfl, h⟩ := h; obtain ⟨v, w, r, rfl, h1, h2, h⟩ := ex_v2.at h; exact ex_s_dup_x1 C h1 h2 hd (kk _ _ _ _ h)
  | dup2 => obtain ⟨rfl, h⟩ := h; obtain ⟨v, w, r, rfl, h1, h2, h⟩ := ex_v2.at h; exact ex_s_dup2 C h1 h2 hd (kk _ _ _ _ h)
  | ifCond cnd off =>
    cases cnd with
    | eq => obtain ⟨rfl, h⟩ := h; obtain ⟨x, r, rfl, h3⟩ := ex_i1.at h; obtain ⟨t, ht, h1, h2⟩ := ex_to.at h3; exact ex_s_if_eq C hd ht (fun q => kk _ _ _ _ (h1 q)) (fun q => kk _ _ _ _ (h2 q))
    | ne => obtain ⟨rfl, h⟩ := h; obtain ⟨x, r, rfl, h3⟩ := ex_i1.at h; obtain ⟨t, ht, h1, h2⟩ := ex_to.at h3; exact ex_s_if_ne C hd ht (fun q => kk _ _ _ _ (h1 q)) (fun q => kk _ _ _ _ (h2 q))
    | lt => obtain ⟨rfl, h⟩ := h; obtain ⟨x, r, rfl, h3⟩ := ex_i1.at h; obtain ⟨t, ht, h1, h2⟩ := ex_to.at h3; exact ex_s_if_lt C hd ht (fun q => kk _ _ _ _ (h1 q)) (fun q => kk _ _ _ _ (h2 q))
    | ge => obtain ⟨rfl, h⟩ := h; obtain ⟨x, r, rfl, h3⟩ := ex_i1.at h; obtain ⟨t, ht, h1, h2⟩ := ex_to.at h3; exact ex_s_if_ge C hd ht (fun q => kk _ _ _ _ (h1 q)) (fun q => kk _ _ _ _ (h2 q))
    | gt => obtain ⟨rfl, h⟩ := h; obtain ⟨x, r, rfl, h3⟩ := ex_i1.at h; obtain ⟨t, ht, h1, h2⟩ := ex_to.at h3; exact ex_s_if_gt C hd ht (fun q => kk _ _ _ _ (h1 q)) (fun q => kk _ _ _ _ (h2 q))
    | le => obtain ⟨rfl, h⟩ := h; obtain ⟨x, r, rfl, h3⟩ := ex_i1.at h; obtain ⟨t, ht, h1, h2⟩ := ex_to.at h3; exact ex_s_if_le C hd ht (fun q => kk _ _ _ _ (h1 q)) (fun q => kk _ _ _ _ (h2 q))
  | if_icmp cnd off =>
    cases cnd with
    | eq => obtain ⟨rfl, h⟩ := h; obtain ⟨x, y, r, rfl, h3⟩ := ex_i2.at h; obtain ⟨t, ht, h1, h2⟩ := ex_to.at h3; exact ex_s_icmp_eq C hd ht (fun q => kk _ _ _ _ (h1 q)) (fun q => kk _ _ _ _ (h2 q))
    | ne => obtain ⟨rfl, h⟩ := h; obtain ⟨x, y, r, rfl, h3⟩ := ex_i2.at h; obtain ⟨t, ht, h1, h2⟩ := ex_to.at h3; exact ex_s_icmp_ne C hd ht (fun q => kk _ _ _ _ (h1 q)) (fun q => kk _ _ _ _ (h2 q))
    | lt => obtain ⟨rfl, h⟩ := h; obtain ⟨x, y, r, rfl, h3⟩ := ex_i2.at h; obtain ⟨t, ht, h1, h2⟩ := ex_to.at h3; exact ex_s_icmp_lt C hd ht (fun q => kk _ _ _ _ (h1 q)) (fun q => kk _ _ _ _ (h2 q))
    | ge => obtain ⟨rfl, h⟩ := h; obtain ⟨x, y, r, rfl, h3⟩ := ex_i2.at h; obtain ⟨t, ht, h1, h2⟩ := ex_to.at h3; exact ex_s_icmp_ge C hd ht (fun q => kk _ _ _ _ (h1 q)) (fun q => kk _ _ _ _ (h2 q))
    | gt => obtain ⟨rfl, h⟩ := h; obtain ⟨x, y, r, rfl, h3⟩ := ex_i2.at h; obtain ⟨t, ht, h1, h2⟩ := ex_to.at h3; exact ex_s_icmp_gt C hd ht (fun q => kk _ _ _ _ (h1 q)) (fun q => kk _ _ _ _ (h2 q))
    | le => obtain ⟨rfl, h⟩ := h; obtain ⟨x, y, r, rfl, h3⟩ := ex_i2.at h; obtain ⟨t, ht, h1, h2⟩ := ex_to.at h3; exact ex_s_icmp_le C hd ht (fun q => kk _ _ _ _ (h1 q)) (fun q => kk _ _ _ _ (h2 q))
  | goto off => obtain ⟨rfl, h⟩ := h; obtain ⟨t, ht, h⟩ := ex_to.at h; exact ex_s_goto C hd ht (kk _ _ _ _ h)
  | tableswitch dflt lo hi offs =>
    obtain ⟨hsz, h⟩ := h
    obtain ⟨x, r, rfl, h1, h2⟩ := ex_i1.at h
    by_cases hout : x.toInt < lo ∨ hi < x.toInt
    · obtain ⟨t, ht, h⟩ := ex_to.at (h1 hout)
      exact ex_s_tableOut C hd hout ht (kk _ _ _ _ h)
    · have ha : ¬ x.toInt < lo := fun q => hout (Or.inl q)
      have hb' : ¬ hi < x.toInt := fun q => hout (Or.inr q)
      have hlt : (x.toInt - lo).toNat < offs.size := by omega
      have ho : offs[(x.toInt - lo).toNat]? = some offs[(x.toInt - lo).toNat] := Array.getElem?_eq_getElem hlt
      have hx : x = Int32.ofInt (lo + ((x.toInt - lo).toNat : Int)) := by
        rw [show lo + ((x.toInt - lo).toNat : Int) = x.toInt by omega]
        exact (Int32.ofInt_toInt x).symm
      obtain ⟨t, ht, h⟩ := ex_to.at (ex_tb_at (j := (x.toInt - lo).toNat) h2 (by rw [Array.getElem?_toList]; exact ho) hx)
      exact ex_s_tableIn C hd ha hb' ho ht (kk _ _ _ _ h)
  | lookupswitch dflt ps =>
    obtain ⟨hp, hq, h⟩ := h
    obtain ⟨x, r, rfl, h1, h2⟩ := ex_i1.at h
    have hq' : ∀ q ∈ ps.toList, -2147483648 ≤ q.1 ∧ q.1 < 2147483648 := fun q hm => by
      have := List.all_eq_true.mp hq q hm
      simpa using this
    obtain ⟨t, ht, h⟩ := ex_to.at (ex_lk_at h1 h2 hq')
    exact ex_s_lookup C hd hp rfl ht (kk _ _ _ _ h)
  | getfield ix =>
    obtain ⟨rfl, h⟩ := h
    obtain ⟨a, r, rfl, h⟩ := ex_r1.at h
    obtain ⟨⟨ci, k, b, ty⟩, hq, h⟩ := ex_o.at h
    obtain ⟨fs, ho, h⟩ := ex_ob.at h
    obtain ⟨v, hv, h⟩ := ex_o.at h
    obtain ⟨Cn, T, N, g1, g2, g3, -, -⟩ := hok.1 _ _ _ _ _ hq
    exact ex_s_getfield C hd ho hv ⟨Cn, T, N, g1, g2, g3⟩ (kk _ _ _ _ h)
  | putfield ix =>
    obtain ⟨rfl, h⟩ := h
    obtain ⟨v, a, r, rfl, h⟩ := ex_vr.at h
    obtain ⟨⟨ci, k, b, ty⟩, hq, h⟩ := ex_o.at h
    obtain ⟨fs, ho, hl, hb2, hf, h⟩ := ex_ob.at h
    obtain ⟨Cn, T, N, g1, g2, g3, g4, g5⟩ := hok.1 _ _ _ _ _ hq
    exact ex_s_putfield C hd ho hl hf ⟨Cn, T, N, g1, g2, g3, g4, g5 hb2⟩ (kk _ _ _ _ h)
  | getstatic ix =>
    obtain ⟨rfl, h⟩ := h
    obtain ⟨j, hj, h⟩ := ex_o.at h
    exact ex_s_getstatic C hd (hok.2.2.1 _ _ hj) (kk _ _ _ _ h)
  | iaload =>
    obtain ⟨rfl, h⟩ := h
    obtain ⟨i, a, r, rfl, h3⟩ := ex_ir.at h
    unfold ex_ax at h3
    split at h3
    · rename_i ha
      generalize hq : xt[a - 1000]? = oq at h3
      cases oq with
      | none => exact False.elim h3
      | some q => exact ex_s_ialoadX C hd ha hq h3.1 (kk _ _ _ _ h3.2)
    · obtain ⟨n, f, ho, hi, h4⟩ := ex_ar.at h3
      exact ex_s_iaload C hd ho hi (kk _ _ _ _ h4)
  | baload => obtain ⟨rfl, h⟩ := h; obtain ⟨i, a, r, rfl, h⟩ := ex_ir.at h; obtain ⟨n, f, ho, hi, h⟩ := ex_ar.at h; exact ex_s_baload C hd ho hi (kk _ _ _ _ h)
  | iastore => obtain ⟨rfl, h⟩ := h; obtain ⟨x, i, a, r, rfl, h⟩ := ex_iir.at h; obtain ⟨n, f, ho, hi, h⟩ := ex_ar.at h; exact ex_s_iastore C hd ho hi (kk _ _ _ _ h)
  | bastore => obtain ⟨rfl, h⟩ := h; obtain ⟨x, i, a, r, rfl, h⟩ := ex_iir.at h; obtain ⟨n, f, ho, hi, h01, h⟩ := ex_ar.at h; exact ex_s_bastore C hd ho hi h01 (kk _ _ _ _ h)
  | arraylength =>
    obtain ⟨rfl, h⟩ := h
    obtain ⟨a, r, rfl, h3⟩ := ex_r1.at h
    split at h3
    · rename_i t n f ho
      exact ex_s_arraylength C hd ho h3.1 (kk _ _ _ _ h3.2)
    · exact h3.elim
  | invokevirtual ix =>
    obtain ⟨rfl, h⟩ := h
    obtain ⟨⟨n, rc, sp⟩, hq, hn, hsum, h⟩ := ex_o.at h
    obtain ⟨ci, rfl, h⟩ := ex_o.at h
    obtain ⟨v, hv, h⟩ := ex_o.at h
    split at h
    · rename_i a
      obtain ⟨fs, ho, h⟩ := ex_ob.at h
      have hcok := hok.2.2.2.1 _ _ _ _ hq
      have hn1 : 1 ≤ n := by
        obtain ⟨y, bytes, maxL, ret', fr', lo', -, -, -, -, -, -, -, -, -, -, h1, -⟩ := hcok
        exact h1
      obtain ⟨e1, e2⟩ := ex_split hn hn1 hv
      have h' : sp (.ref a :: (st.take (n - 1)).reverse) cs (fun r cs' => K (pc + 3) lv (r.toList ++ st.drop n) cs') := by
        rw [← e2]; exact h
      have goal := ex_s_virtual (e := e) (below := below) (Qw := Qw) (lv := lv) C hd hrc hcok ho (by rw [List.length_reverse, List.length_take]; omega) hsum h' (fun rv cs' q => kk _ _ _ _ q)
      rw [← e1] at goal
      exact goal
    · exact h.elim
  | invokestatic ix =>
    obtain ⟨rfl, h⟩ := h
    split at h
    · rename_i hcp
      obtain ⟨n, dp, a, sp, a0, r, m0, f, m1, g, rfl, g1, g2, g3, g4, g5, g6, g7, g8, h9⟩ := ex_cp.at h
      exact ex_s_copy C hd (hok.2.2.2.2 ix hcp) g1 g2 g3 g4 g5 g6 g7 g8 (kk _ _ _ _ h9)
    obtain ⟨⟨n, rc, sp⟩, hq, hn, hsum, hrc', h⟩ := ex_o.at h
    dsimp only at hrc' hn hsum h
    subst hrc'
    have hcok := hok.2.2.2.1 _ _ _ _ hq
    have goal := ex_s_static (e := e) (below := below) (Qw := Qw) (lv := lv) C hd hrc hcok (by rw [List.length_reverse, List.length_take]; omega) hsum h (fun rv cs' q => kk _ _ _ _ q)
    rw [List.reverse_reverse, List.take_append_drop] at goal
    exact goal
  | ireturn =>
    obtain ⟨rfl, h⟩ := h
    split at h
    · exact hI _ _ _ _ hd h.1 h.2
    · exact h.elim
  | return_ =>
    obtain ⟨rfl, h1, rfl, h⟩ := h
    exact hV _ _ _ hd h1 h
  | _ => exact False.elim h
theorem ex_wp_sound {cx : ex_K} {I : Nat → Option (ex_L → ex_V → ex_C → Prop)} (C : ex_Cx xt p R s m args meth c D ad ca n0 nL fr lo A cc ret cx.1) (hok : ex_ok l fr lo cx) (hrc : kc ≤ R.cells ∧ ks ≤ R.slots) (hI : ∀ pc lv cs v, decode cc pc = .ok (.ireturn, 1) → ex_ret ret v → Q (some (.int v)) cs → ex_T p l e R s m args below meth c D ad ca n0 nL A kc ks Qw pc lv [.int v] cs) (hV : ∀ pc lv cs, decode cc pc = .ok (.return_, 1) → ret = none → Q none cs → ex_T p l e R s m args below meth c D ad ca n0 nL A kc ks Qw pc lv [] cs)
    (hJ : ∀ pc J lv st cs, I pc = some J → J lv st cs → ex_T p l e R s m args below meth c D ad ca n0 nL A kc ks Qw pc lv st cs) : ∀ n pc lv st cs, ex_wp xt cx cc ret I Q n pc lv st cs → ex_T p l e R s m args below meth c D ad ca n0 nL A kc ks Qw pc lv st cs := by
  intro n
  induction n with
  | zero => intro pc lv st cs h; exact False.elim h
  | succ n ih =>
    intro pc lv st cs h
    unfold ex_wp at h
    split at h
    · rename_i i len hd
      refine ex_i_sound C hok hrc hI hV hd h (fun pc' lv' st' cs' hk => ?_)
      split at hk
      · rename_i J hJ'
        exact hJ _ _ _ _ _ hJ' hk
      · exact ih _ _ _ _ hk
    · exact False.elim h
/-- loops: a measure falls from cut to cut -/
theorem ex_loop {cx : ex_K} {I : Nat → Option (Nat → ex_L → ex_V → ex_C → Prop)} {fuel : Nat} (C : ex_Cx xt p R s m args meth c D ad ca n0 nL fr lo A cc ret cx.1) (hok : ex_ok l fr lo cx) (hrc : kc ≤ R.cells ∧ ks ≤ R.slots) (hI : ∀ pc lv cs v, decode cc pc = .ok (.ireturn, 1) → ex_ret ret v → Q (some (.int v)) cs → ex_T p l e R s m args below meth c D ad ca n0 nL A kc ks Qw pc lv [.int v] cs) (hV : ∀ pc lv cs, decode cc pc = .ok (.return_, 1) → ret = none → Q none cs → ex_T p l e R s m args below meth c D ad ca n0 nL A kc ks Qw pc lv [] cs)
    (hcut : ∀ pc J n lv st cs, I pc = some J → J n lv st cs → ex_wp xt cx cc ret (fun pc' => (I pc').map (fun J' lv st cs => ∃ n', n' < n ∧ J' n' lv st cs)) Q fuel pc lv st cs) :
    ∀ n pc J lv st cs, I pc = some J → J n lv st cs → ex_T p l e R s m args below meth c D ad ca n0 nL A kc ks Qw pc lv st cs := by
  intro n
  induction n using Nat.strongRecOn with
  | ind n ih =>
    intro pc J lv st cs hJ h
    refine ex_wp_sound C hok hrc hI hV (fun pc' J' lv' st' cs' hJ' h' => ?_) _ _ _ _ _ (hcut pc J n lv st cs hJ h)
    cases hIp : I pc' with
    | none => rw [hIp] at hJ'; cases hJ'
    | some J0 =>
      rw [hIp] at hJ'
      cases hJ'
      obtain ⟨n', hlt, h2⟩ := h'
      exact ih n' hlt pc' J0 lv' st' cs' hIp h2
end EXM
/-- the locals at the entry -/
def ex_l0 (av : ex_V) (maxL : Nat) : ex_L := av.map some ++ List.replicate (maxL - av.length) none
theorem ex_args_mem : ∀ (av : List Value) (k i : Nat) (v : Value), (∀ w ∈ av, w.category = 1) → av[i]? = some v → (k + i, v) ∈ lv_args k av
  | [], _, _, _, _, h => by simp at h
  | w :: r, k, 0, v, _, h => by
    simp at h
    subst h
    exact List.mem_cons_self
  | w :: r, k, i + 1, v, hc, h => by
    unfold lv_args
    rw [if_neg (by rw [hc w List.mem_cons_self]; decide)]
    refine List.mem_cons_of_mem _ ?_
    have := ex_args_mem r (k + 1) i v (fun q hq => hc q (List.mem_cons_of_mem _ hq)) (by simpa using h)
    rw [show k + (i + 1) = k + 1 + i by omega]
    exact this
theorem ex_sl_len : ∀ (av : List Value), (∀ w ∈ av, w.category = 1) → (lg_sl av).length = av.length
  | [], _ => rfl
  | w :: r, hc => by
    have h1 := hc w List.mem_cons_self
    have ih := ex_sl_len r (fun q hq => hc q (List.mem_cons_of_mem _ hq))
    show ((if w.category = 2 then [Slot.val w, Slot.second] else [Slot.val w]) ++ lg_sl r).length = r.length + 1
    rw [if_neg (by rw [h1]; decide), List.length_append, ih]
    show 1 + r.length = r.length + 1
    omega
/-- a method's contract out of its walk -/
theorem ex_met {l : Launch} {y : MethodName} {cc : ByteArray} {maxL : Nat} {ret : Option FieldType} {fr lo : Nat} {sp : ex_S} (hy : plainName y.cls = true)
    (h : ∀ av cs Q, sp av cs Q → (∀ w ∈ av, w.category = 1) ∧ av.length ≤ maxL ∧ ∀ (p : Program) (e : Env) (R : Room) (s : State) (m : MethodId) (args : Array Value) (below : List Frame) (meth : Method) (c : Code) (D : va_G) (ad ca : Nat → Nat) (n0 : Nat) (A : Nat → Prop),
      ex_Cx ec_xt p R s m args meth c D ad ca n0 maxL fr lo A cc ret y.cls → ex_T p l e R s m args below meth c D ad ca n0 maxL A 0 0 (MQ below (ex_Qc D ad ca Q n0 A) args s 0 0 A) 0 (ex_l0 av maxL) [] cs) : ex_Met l y cc maxL ret fr lo sp := by
  intro D ad ca n sz av cs Q hsp
  obtain ⟨hcat, hlen, hT⟩ := h av cs Q hsp
  refine Met.ofW (cc := cc) (maxL := maxL) (ret := ret) hy rfl ?_
  intro p e s m args below meth c s₁ B hml hv
  obtain ⟨rfl, hsz, hn, hP, hD, hK, hX, hZ⟩ := hv
  subst hsz
  have hts0 := atoms_spec (ws := .code y cc maxL ret :: ec_tb) B.pre
  have hcx : ex_Cx ec_xt p (headSpec (.code y cc maxL ret :: ec_tb) (ex_rm fr lo)).room s m ((av.map (ex_v ad)).toArray) meth c D ad ca n maxL fr lo (ex_A ad n s.heap.size) cc ret y.cls :=
    ⟨B.exec, B.bytes, hml, findClass_of_methodNamed B.named, fun w hw => hts0 w (List.mem_cons_of_mem _ hw), B.returns, B.notSynchronized, hD, hK, hX, hZ, fun _ h => h, Nat.le_refl _, Nat.le_refl _, fun _ _ h => h⟩
  have hcat' : ∀ w ∈ av.map (ex_v ad), w.category = 1 := by
    intro w hw
    obtain ⟨v, hv, rfl⟩ := List.mem_map.mp hw
    rw [ex_v_cat]
    exact hcat v hv
  have hsl := ex_sl_len _ hcat'
  rw [List.length_map] at hsl
  have hl := lv_entry (av.map (ex_v ad)) (n := maxL) (by rw [hsl]; exact hlen)
  rw [lg_entry_eq]
  refine hT p e _ s m _ below meth c D ad ca n _ hcx _ s.heap [] ⟨hn, ⟨hl.1, hl.2.1, ?_, ?_⟩, hP, va_S.rf⟩
  · unfold ex_l0
    rw [List.length_append, List.length_map, List.length_replicate]
    omega
  · intro i v hi
    unfold ex_l0 at hi
    by_cases hia : i < av.length
    · rw [List.getElem?_append_left (by rw [List.length_map]; exact hia), List.getElem?_map] at hi
      cases hav : av[i]? with
      | none => rw [hav] at hi; cases hi
      | some w =>
        rw [hav] at hi
        have hw : w = v := Option.some.inj (Option.some.inj hi)
        subst hw
        have := ex_args_mem (av.map (ex_v ad)) 0 i (ex_v ad w) hcat' (by rw [List.getElem?_map, hav]; rfl)
        rw [Nat.zero_add] at this
        exact hl.2.2 (i, ex_v ad w) this
    · rw [List.getElem?_append_right (by rw [List.length_map]; omega), List.getElem?_replicate] at hi
      split at hi <;> cases hi
end
section
/-! CONSTRUCTORS: walks that make cells. A new cell's place is the next one. -/
def ex_cv (n : Nat) (v : Value) : Bool := match v with
  | .ref k => decide (k < n)
  | _ => true
def ex_co (n : Nat) (o : Option Value) : Bool := match o with
  | some v => ex_cv n v
  | none => true
def ex_ce (n : Nat) (e : va_E) : Bool := match e with
  | .inl _ => true
  | .inr o => o.2.all (ex_cv n)
/-- no value points beyond the cells -/
def ex_clo (n : Nat) (lv : ex_L) (st : ex_V) (cs : ex_C) : Bool := lv.all (ex_co n) && st.all (ex_cv n) && cs.all (ex_ce n) && decide (n < 1000)
def ex_ext (ad : Nat → Nat) (n q : Nat) : Nat → Nat := fun k => if k = n then q else ad k
theorem ex_v_ext {ad : Nat → Nat} {n q : Nat} {v : Value} (h : ex_cv n v = true) : ex_v (ex_ext ad n q) v = ex_v ad v := by
  cases v with
  | ref k =>
    have hk : k < n := by simpa [ex_cv] using h
    show Value.ref (ex_ext ad n q k) = Value.ref (ad k)
    unfold ex_ext
    rw [if_neg (Nat.ne_of_lt hk)]
  | _ => rfl
theorem ex_e_ext {ad ca : Nat → Nat} {n q : Nat} {e : va_E} (h : ex_ce n e = true) : ex_e (ex_ext ad n q) ca e = ex_e ad ca e := by
  cases e with
  | inl a => rfl
  | inr o =>
    have h2 : o.2.map (ex_v (ex_ext ad n q)) = o.2.map (ex_v ad) := List.map_congr_left (fun v hv => ex_v_ext (List.all_eq_true.mp h v hv))
    show Sum.inr (o.1, o.2.map (ex_v (ex_ext ad n q))) = Sum.inr (o.1, o.2.map (ex_v ad))
    rw [h2]
theorem ex_w_ext {ad ca : Nat → Nat} {q : Nat} {cs : ex_C} {e : va_E} (h : cs.all (ex_ce cs.length) = true) (he : ex_ce cs.length e = true) : ex_w (ex_ext ad cs.length q) ca (cs ++ [e]) = ex_w ad ca cs ++ [(q, ex_e ad ca e)] := by
  apply List.ext_getElem?
  intro i
  by_cases hi : i < cs.length
  · obtain ⟨x, hx⟩ : ∃ x, cs[i]? = some x := ⟨_, List.getElem?_eq_getElem hi⟩
    rw [List.getElem?_append_left (by rw [ex_w_len]; exact hi), ex_w_get hx, ex_w_get (e := x) (by rw [List.getElem?_append_left hi]; exact hx)]
    have hx2 : ex_ce cs.length x = true := List.all_eq_true.mp h x (List.mem_of_getElem? hx)
    rw [ex_e_ext hx2]
    unfold ex_ext
    rw [if_neg (by omega)]
  · by_cases hi2 : i = cs.length
    · subst hi2
      rw [ex_w_get (e := e) (by simp), List.getElem?_append_right (by rw [ex_w_len]; exact Nat.le_refl _), ex_w_len, Nat.sub_self, ex_e_ext he]
      unfold ex_ext
      rw [if_pos rfl]
      rfl
    · rw [List.getElem?_eq_none (by rw [ex_w_len, List.length_append]; simp; omega), List.getElem?_eq_none (by rw [List.length_append, ex_w_len]; simp; omega)]
theorem ex_st_ext {ad : Nat → Nat} {n q : Nat} {st : ex_V} (h : st.all (ex_cv n) = true) : st.map (ex_v (ex_ext ad n q)) = st.map (ex_v ad) := List.map_congr_left (fun v hv => ex_v_ext (List.all_eq_true.mp h v hv))
theorem ex_ls_ext {ad : Nat → Nat} {n q nL : Nat} {lv : ex_L} {ls : Array Slot} (h : lv.all (ex_co n) = true) (hl : ex_ls ad lv nL ls) : ex_ls (ex_ext ad n q) lv nL ls := by
  refine ⟨hl.1, hl.2.1, hl.2.2.1, fun i v hi => ?_⟩
  have h2 : ex_cv n v = true := List.all_eq_true.mp h (some v) (List.mem_of_getElem? hi)
  rw [ex_v_ext h2]
  exact hl.2.2.2 i v hi
section EXN
variable {p : Program} {l : Launch} {e : Env} {R : Room} {s : State} {m : MethodId} {args : Array Value} {below : List Frame} {meth : Method} {c : Code}
variable {D : va_G} {ad ca : Nat → Nat} {n0 nL fr lo : Nat} {A : Nat → Prop} {cc : ByteArray} {ret : Option FieldType} {own : String} {Q : ex_Q} {Qw : State → Prop} {kc ks : Nat} {xt : ex_xt}
theorem ex_Cx.ext {q : Nat} (C : ex_Cx xt p R s m args meth c D ad ca n0 nL fr lo A cc ret own) (hn : n0 < 1000) (hD : ex_D (ex_ext ad n0 q) (n0 + 1) A) (hA : ∀ x, s.heap.size ≤ x → A x) : ex_Cx xt p R s m args meth c D (ex_ext ad n0 q) ca (n0 + 1) nL fr lo A cc ret own := by
  obtain ⟨hx, hb, hml, hown, hts, hr, hlk, hD0, hK, hX, hZ, hAe, hR1, hR2, hxt⟩ := C
  have he : ∀ j, ex_ext ad n0 q (1000 + j) = ad (1000 + j) := fun j => by unfold ex_ext; rw [if_neg (by omega)]
  refine ⟨hx, hb, hml, hown, hts, hr, hlk, hD, hK, fun j n f hj => ?_, fun Cn n dd j hj => ?_, fun x h => ?_, hR1, hR2, hxt⟩
  · rw [he]; exact hX j n f hj
  · rw [he]; exact hZ Cn n dd j hj
  · rcases h with ⟨k, hk, rfl⟩ | h
    · exact hD.2 k hk
    · exact hA x h
theorem ex_D_ext {cs : ex_C} {q : Nat} {ws : va_W} (hlen : cs.length = n0 + 1) (hw : ws = ex_w (ex_ext ad n0 q) ca cs) (hD : va_D A ws) : ex_D (ex_ext ad n0 q) (n0 + 1) A := by
  subst hw
  have gt : ∀ k, k < n0 + 1 → ∃ x, (ex_w (ex_ext ad n0 q) ca cs)[k]? = some (ex_ext ad n0 q k, x) := fun k hk => by
    obtain ⟨x, hx⟩ : ∃ x, cs[k]? = some x := ⟨_, List.getElem?_eq_getElem (by omega)⟩
    exact ⟨_, ex_w_get hx⟩
  refine ⟨fun i j hi hj h => ?_, fun k hk => ?_⟩
  · obtain ⟨x, hx⟩ := gt i hi
    obtain ⟨y, hy⟩ := gt j hj
    exact hD.1 i j _ _ hx hy h
  · obtain ⟨x, hx⟩ := gt k hk
    exact hD.2 k _ hx
theorem ex_s_new (C : ex_Cx xt p R s m args meth c D ad ca n0 nL fr lo A cc ret own) {pc : Nat} {lv : ex_L} {cs : ex_C} {ix ci N : Nat} {fs : List Value} {st : ex_V} {Cn : String} {T : u_T} {ty : Nat → FieldType} (hd : decode cc pc = .ok (.new ix, 3)) (hA : ∀ x, s.heap.size ≤ x → A x) (hcl : ex_clo n0 lv st cs = true) (hlen : cs.length = n0)
    (h1 : ec_cl[ci]? = some (Cn, T, N)) (h2 : Cond.classLink own ix Cn ∈ ec_tb) (h3 : Cond.instantiable Cn N ∈ ec_tb) (h4 : Cond.initialized Cn ∈ ec_tb) (hty : ∀ k, k < N → parseFieldDescriptor (T k).2.2.1 = some (ty k)) (hfs : ∀ j, j < N → defaultValue (ty j) = vp_V fs j) (hfc : fs.all (ex_cv 0) = true)
    (hrc : kc + 1 ≤ R.cells ∧ ks + N ≤ R.slots)
    (kk : ∀ q, ex_Cx xt p R s m args meth c D (ex_ext ad n0 q) ca (n0 + 1) nL fr lo A cc ret own → ex_T p l e R s m args below meth c D (ex_ext ad n0 q) ca (n0 + 1) nL A (kc + 1) (ks + N) Qw (pc + 3) lv (.ref n0 :: st) (cs ++ [.inr (ci, fs)])) : ex_T p l e R s m args below meth c D ad ca n0 nL A kc ks Qw pc lv st cs := by
  have C' := C
  obtain ⟨hx, hb, hml, hown, hts, hr, hlk, hD, hK, hX, hZ, hAe, hR1, hR2, hxt⟩ := C
  simp only [ex_clo, Bool.and_eq_true, decide_eq_true_eq] at hcl
  obtain ⟨⟨⟨c1, c2⟩, c3⟩, c4⟩ := hcl
  subst hlen
  intro ls H locs G
  have hfm : fs.map (ex_v ad) = fs := by
    have : ∀ v ∈ fs, ex_v ad v = v := fun v hv => by
      have := List.all_eq_true.mp hfc v hv
      cases v with
      | ref k => simp [ex_cv] at this
      | _ => rfl
    exact (List.map_congr_left this).trans (List.map_id fs)
  have hce : ex_ce cs.length (.inr (ci, fs)) = true := by
    refine List.all_eq_true.mpr (fun v hv => ?_)
    have := List.all_eq_true.mp hfc v hv
    cases v with
    | ref k => simp [ex_cv] at this
    | _ => rfl
  refine va_new (D := D) (ci := ci) (fs := fs) (C := Cn) (T := T) (N := N) (rest := st.map (ex_v ad)) hx hb hts (ec_clok h1).1 ty hty hown (hts _ h2) (hts _ h3) (hts _ h4) hK G.2.2.1 (hD.va G.1) G.2.2.2 hA h1 hfs hrc.1 hrc.2 hd (fun q H1 hP1 hD1 hS1 => ?_)
  have hw : ex_w (ex_ext ad cs.length q) ca (cs ++ [.inr (ci, fs)]) = ex_w ad ca cs ++ [(q, .inr (ci, fs))] := by
    rw [ex_w_ext c3 hce]
    show _ ++ [(q, Sum.inr (ci, fs.map (ex_v ad)))] = _
    rw [hfm]
  have hlen2 : (cs ++ [Sum.inr (ci, fs)] : ex_C).length = cs.length + 1 := by simp
  have hD2 : ex_D (ex_ext ad cs.length q) (cs.length + 1) A := ex_D_ext hlen2 hw.symm hD1
  have k2 := kk q (C'.ext c4 hD2 hA) ls H1 locs ⟨hlen2, ex_ls_ext c1 G.2.1, by rw [hw]; exact hP1, hS1⟩
  have hst : (Value.ref cs.length :: st).map (ex_v (ex_ext ad cs.length q)) = Value.ref q :: st.map (ex_v ad) := by
    rw [List.map_cons, ex_st_ext c2]
    show Value.ref (ex_ext ad cs.length q cs.length) :: _ = _
    unfold ex_ext
    rw [if_pos rfl]
  rw [hst] at k2
  exact k2
/-- the array type of a tag -/
def ex_at (t : ArrayType) : Option Nat := match t with
  | .int => some 0
  | .boolean => some 1
  | _ => none
theorem ex_s_newarray (C : ex_Cx xt p R s m args meth c D ad ca n0 nL fr lo A cc ret own) {pc : Nat} {lv : ex_L} {cs : ex_C} {t : ArrayType} {tag N : Nat} {x : Int32} {st : ex_V} (hd : decode cc pc = .ok (.newarray t, 2)) (hA : ∀ x, s.heap.size ≤ x → A x) (hcl : ex_clo n0 lv st cs = true) (hlen : cs.length = n0) (ht : ex_at t = some tag) (hx0 : ¬ x < 0) (hN : x.toNatClampNeg = N) (hNb : N ≤ 1000)
    (hac : Cond.arrayClass .int ∈ ec_tb ∧ Cond.arrayClass .boolean ∈ ec_tb) (hrc : kc + 1 ≤ R.cells ∧ ks + N ≤ R.slots)
    (kk : ∀ q, ex_Cx xt p R s m args meth c D (ex_ext ad n0 q) ca (n0 + 1) nL fr lo A cc ret own → ex_T p l e R s m args below meth c D (ex_ext ad n0 q) ca (n0 + 1) nL A (kc + 1) (ks + N) Qw (pc + 2) lv (.ref n0 :: st) (cs ++ [.inl (tag, N, .inl (fun _ => 0))])) : ex_T p l e R s m args below meth c D ad ca n0 nL A kc ks Qw pc lv (.int x :: st) cs := by
  have C' := C
  obtain ⟨hx, hb, hml, hown, hts, hr, hlk, hD, hK, hX, hZ, hAe, hR1, hR2, hxt⟩ := C
  simp only [ex_clo, Bool.and_eq_true, decide_eq_true_eq] at hcl
  obtain ⟨⟨⟨c1, c2⟩, c3⟩, c4⟩ := hcl
  subst hlen
  intro ls H locs G
  have fin : ∀ (q : Nat) (H1 : Heap), va_P D ec_cl (ex_w ad ca cs ++ [(q, .inl (ca tag, N, .inl (fun _ => 0)))]) H1 → va_D A (ex_w ad ca cs ++ [(q, .inl (ca tag, N, .inl (fun _ => 0)))]) → va_S A s.heap H1 locs → W p l e R s m args below meth c H1 locs (kc + 1) (ks + N) Qw (F0 m (pc + 2) ls (.ref q :: st.map (ex_v ad))) := by
    intro q H1 hP1 hD1 hS1
    have hw : ex_w (ex_ext ad cs.length q) ca (cs ++ [.inl (tag, N, .inl (fun _ => 0))]) = ex_w ad ca cs ++ [(q, .inl (ca tag, N, .inl (fun _ => 0)))] := ex_w_ext c3 rfl
    have hlen2 : (cs ++ [Sum.inl (tag, N, .inl (fun _ => 0))] : ex_C).length = cs.length + 1 := by simp
    have hD2 : ex_D (ex_ext ad cs.length q) (cs.length + 1) A := ex_D_ext hlen2 hw.symm hD1
    have k2 := kk q (C'.ext c4 hD2 hA) ls H1 locs ⟨hlen2, ex_ls_ext c1 G.2.1, by rw [hw]; exact hP1, hS1⟩
    have hst : (Value.ref cs.length :: st).map (ex_v (ex_ext ad cs.length q)) = Value.ref q :: st.map (ex_v ad) := by
      rw [List.map_cons, ex_st_ext (by
        exact c2)]
      show Value.ref (ex_ext ad cs.length q cs.length) :: _ = _
      unfold ex_ext
      rw [if_pos rfl]
    rw [hst] at k2
    exact k2
  cases t with
  | int =>
    cases ht
    refine va_newa (D := D) (atype := .int) (ty := .int) (a0 := (N, .inl (fun _ => 0))) (rest := st.map (ex_v ad)) hx hb (hts _ hac.1) rfl hK G.2.2.1 (hD.va G.1) G.2.2.2 hA (fun cA => rfl) hx0 hN (by show N * 4 ≤ _; omega) hrc.1 hrc.2 hd (fun q cA H1 hK1 hP1 hD1 hS1 => ?_)
    have e1 := (hK.2 0 _ rfl).2
    have e2 := (hK1.2 2 (cA, .int) rfl).2
    have e3 : cA = ca 0 := Option.some.inj (e2.symm.trans e1)
    subst e3
    exact fin q H1 hP1 hD1 hS1
  | boolean =>
    cases ht
    refine va_newa (D := D) (atype := .boolean) (ty := .boolean) (a0 := (N, .inl (fun _ => 0))) (rest := st.map (ex_v ad)) hx hb (hts _ hac.2) rfl hK G.2.2.1 (hD.va G.1) G.2.2.2 hA (fun cA => rfl) hx0 hN (by show N * 1 ≤ _; omega) hrc.1 hrc.2 hd (fun q cA H1 hK1 hP1 hD1 hS1 => ?_)
    have e1 := (hK.2 1 _ rfl).2
    have e2 := (hK1.2 2 (cA, .boolean) rfl).2
    have e3 : cA = ca 1 := Option.some.inj (e2.symm.trans e1)
    subst e3
    exact fin q H1 hP1 hD1 hS1
  | _ => cases ht
theorem ex_s_putfinal (C : ex_Cx xt p R s m args meth c D ad ca n0 nL fr lo A cc ret own) (hin2 : meth.name = "<init>") {pc : Nat} {lv : ex_L} {cs : ex_C} {ix ci k a : Nat} {fs : List Value} {v : Value} {r : ex_V} {ty : FieldType} (hd : decode cc pc = .ok (.putfield ix, 3)) (ho : cs[a]? = some (.inr (ci, fs))) (hkl : k < fs.length) (hf : ex_fit ty v)
    (hl : ∃ Cn T N, ec_cl[ci]? = some (Cn, T, N) ∧ k < N ∧ Cond.fieldLink own ix (T k).1 (T k).2.1 (T k).2.2.1 ∈ ec_tb ∧ parseFieldDescriptor (T k).2.2.1 = some ty ∧ (T k).2.2.2 = true ∧ (T k).1 = own)
    (kk : ex_T p l e R s m args below meth c D ad ca n0 nL A kc ks Qw (pc + 3) lv r (cs.set a (.inr (ci, fs.set k v)))) : ex_T p l e R s m args below meth c D ad ca n0 nL A kc ks Qw pc lv (v :: .ref a :: r) cs := by
  obtain ⟨hx, hb, hml, hown, hts, hr, hlk, hD, hK, hX, hZ, hAe, hR1, hR2, hxt⟩ := C
  obtain ⟨Cn, T, N, h1, h2, h3, h4, h5, h6⟩ := hl
  obtain ⟨hin, ty0, hty, hnm⟩ := ec_clok h1
  intro ls H locs G
  refine va_putF (D := D) (ci := ci) (v := ex_v ad v) (ty := ty) (C := Cn) (T := T) (N := N) (rest := r.map (ex_v ad)) hx hb hts hin ty0 hty hnm hown hK G.2.2.1 (hD.va G.1) G.2.2.2 a (ex_w_get ho) h1 k h2 (hts _ h3) (fun _ h9 => h9) h5 hin2 h6 h4 hf.ok.1 hf.ok.2 (by rw [List.length_map]; exact hkl) hd (fun H1 locs1 hP1 hD1 hS1 => ?_)
  refine kk ls H1 locs1 ⟨by rw [List.length_set]; exact G.1, G.2.1, ?_, hS1⟩
  rw [← ex_w_set]
  show va_P D ec_cl ((ex_w ad ca cs).set a (ad a, .inr (ci, (fs.set k v).map (ex_v ad)))) H1
  rw [List.map_set]
  exact hP1
theorem ex_s_objInit (C : ex_Cx xt p R s m args meth c D ad ca n0 nL fr lo A cc ret own) {pc : Nat} {lv : ex_L} {cs : ex_C} {ix a : Nat} {r : ex_V} (hd : decode cc pc = .ok (.invokespecial ix, 3)) (h1 : Cond.methodLink own ix Lib.objectInit ∈ ec_tb) (h2 : Cond.instanceMethod Lib.objectInit ∈ ec_tb) (h3 : Cond.code Lib.objectInit ⟨#[0xb1]⟩ 1 none ∈ ec_tb) (hfr : 1 ≤ fr) (hlo : 8 + 12 ≤ lo) (hsum : (r.map (fun v => v.category)).sum ≤ 8)
    (kk : ex_T p l e R s m args below meth c D ad ca n0 nL A kc ks Qw (pc + 3) lv r cs) : ex_T p l e R s m args below meth c D ad ca n0 nL A kc ks Qw pc lv (.ref a :: r) cs := by
  obtain ⟨hx, hb, hml, hown, hts, hr, hlk, hD, hK, hX, hZ, hAe, hR1, hR2, hxt⟩ := C
  intro ls H locs G
  have hcat : ((r.map (ex_v ad)).map fun v => v.category).sum ≤ 8 := by
    rw [List.map_map]
    have : ((fun v : Value => v.category) ∘ ex_v ad) = (fun v => v.category) := by funext v; exact ex_v_cat ad v
    rw [this]
    exact hsum
  refine W.objInit (rest := r.map (ex_v ad)) hx hb hown (hts _ h1) (hts _ h2) (hts _ h3) rfl (by rw [hml]; exact G.2.1.1) rfl hd (Nat.le_trans hfr hR1) ?_ (kk ls H locs G)
  have h9 := lv_room (m := m) (pc := pc) (ls := ls) (rest := (Value.ref a :: r).map (ex_v ad)) hcat
  exact Nat.le_trans (Nat.add_le_add_right h9 12) (Nat.le_trans hlo hR2)
end EXN
end
section
/-! CONSTRUCTORS' CONTRACTS -/
abbrev ex_SN : Type := ex_V → ex_C → (ex_C → Prop) → Prop
theorem ex_v_agree {ad ad' : Nat → Nat} {n : Nat} {v : Value} (h : ex_cv n v = true) (ha : ∀ k, k < n ∨ 1000 ≤ k → ad' k = ad k) : ex_v ad' v = ex_v ad v := by
  cases v with
  | ref k =>
    have hk : k < n := by simpa [ex_cv] using h
    show Value.ref (ad' k) = Value.ref (ad k)
    rw [ha k (Or.inl hk)]
  | _ => rfl
def ex_QN (D : va_G) (ad ca : Nat → Nat) (Q : ex_C → Prop) (n : Nat) (A : Nat → Prop) : Array Value → State → Outcome → State → Prop := fun _ st oc t => (∃ (cs' : ex_C) (ad' : Nat → Nat), oc = .returned none ∧ Q cs' ∧ (∀ k, k < n ∨ 1000 ≤ k → ad' k = ad k) ∧ va_P D ec_cl (ex_w ad' ca cs') t.heap ∧ ex_D ad' cs'.length A) ∧ va_F A st t
def ex_MetN (l : Launch) (y : MethodName) (bytes : ByteArray) (maxL fr lo mc ms : Nat) (sp : ex_SN) : Prop :=
  ∀ (D : va_G) (ad ca : Nat → Nat) (sz : Nat) (av : ex_V) (cs : ex_C) (Q : ex_C → Prop), sp av cs Q →
    Met l y (.code y bytes maxL none :: ec_tb) { frames := fr, cells := mc, slots := ms, locals := lo } (ex_Pc D ad ca av cs cs.length sz) (ex_QN D ad ca Q cs.length (ex_A ad cs.length sz)) mc ms (ex_A ad cs.length sz)
/-- a constructor's own callee: none is Object's -/
abbrev ex_J : Type := (Nat → Option (Nat × List Value × Nat)) × (Nat → Option (Option (Nat × Nat × Nat × ex_SN)))
def ex_wn (cx : ex_K) (al : ex_J) (cc : ByteArray) (mc ms : Nat) (Q : ex_C → Nat → Nat → Prop) : Nat → Nat → ex_L → ex_V → ex_C → Nat → Nat → Prop
  | 0, _, _, _, _, _, _ => False
  | n + 1, pc, lv, st, cs, kc, ks => match decode cc pc with
    | .ok (.new ix, len) => len = 3 ∧ ex_o (al.1 ix) (fun q => ex_clo cs.length lv st cs = true ∧ kc + 1 ≤ mc ∧ ks + q.2.2 ≤ ms ∧ ex_wn cx al cc mc ms Q n (pc + 3) lv (.ref cs.length :: st) (cs ++ [.inr (q.1, q.2.1)]) (kc + 1) (ks + q.2.2))
    | .ok (.newarray t, len) => len = 2 ∧ ex_o (ex_at t) (fun tag => ex_i1 st (fun x r => ¬ x < 0 ∧ x.toNatClampNeg ≤ 1000 ∧ ex_clo cs.length lv r cs = true ∧ kc + 1 ≤ mc ∧ ks + x.toNatClampNeg ≤ ms ∧ ex_wn cx al cc mc ms Q n (pc + 2) lv (.ref cs.length :: r) (cs ++ [.inl (tag, x.toNatClampNeg, .inl (fun _ => 0))]) (kc + 1) (ks + x.toNatClampNeg)))
    | .ok (.invokespecial ix, len) => len = 3 ∧ ex_o (al.2 ix) (fun o => match o with
      | none => ex_r1 st (fun _ r => (r.map (fun v => v.category)).sum ≤ 8 ∧ ex_wn cx al cc mc ms Q n (pc + 3) lv r cs kc ks)
      | some q => q.1 ≤ st.length ∧ ((st.drop q.1).map (fun v => v.category)).sum ≤ 8 ∧ ex_clo cs.length lv st cs = true ∧ kc + q.2.1 ≤ mc ∧ ks + q.2.2.1 ≤ ms ∧ ex_o (st[q.1 - 1]?) (fun v => match v with
        | .ref _ => q.2.2.2 (st.take q.1).reverse cs (fun cs' => cs.length ≤ cs'.length ∧ ex_wn cx al cc mc ms Q n (pc + 3) lv (st.drop q.1) cs' (kc + q.2.1) (ks + q.2.2.1))
        | _ => False))
    | .ok (.putfield ix, len) => len = 3 ∧ ex_vr st (fun v a r => ex_o (cx.2.1 ix) (fun q => ex_ob cs a q.1 (fun fs => q.2.1 < fs.length ∧ ex_fit q.2.2.2 v ∧ ex_wn cx al cc mc ms Q n (pc + 3) lv r (cs.set a (.inr (q.1, fs.set q.2.1 v))) kc ks)))
    | .ok (.return_, len) => len = 1 ∧ st = [] ∧ Q cs kc ks
    | .ok (i, len) => ex_i ec_xt cx none (fun _ _ => False) i len pc lv st cs (fun pc' lv' st' cs' => ex_wn cx al cc mc ms Q n pc' lv' st' cs' kc ks)
    | .error _ => False
/-- what the tables say of a constructor's links; mc, ms: the most that it makes -/
def ex_nok (l : Launch) (fr lo mc ms : Nat) (cx : ex_K) (al : ex_J) : Prop :=
  (∀ (ix ci : Nat) (fs : List Value) (N : Nat), al.1 ix = some (ci, fs, N) → ∃ Cn T, ∃ ty : Nat → FieldType, ec_cl[ci]? = some (Cn, T, N) ∧ Cond.classLink cx.1 ix Cn ∈ ec_tb ∧ Cond.instantiable Cn N ∈ ec_tb ∧ Cond.initialized Cn ∈ ec_tb ∧ (∀ k, k < N → parseFieldDescriptor (T k).2.2.1 = some (ty k)) ∧ (∀ j, j < N → defaultValue (ty j) = vp_V fs j) ∧ fs.all (ex_cv 0) = true) ∧
  (∀ ix, al.2 ix = some none → Cond.methodLink cx.1 ix Lib.objectInit ∈ ec_tb ∧ Cond.instanceMethod Lib.objectInit ∈ ec_tb ∧ Cond.code Lib.objectInit ⟨#[0xb1]⟩ 1 none ∈ ec_tb ∧ 1 ≤ fr ∧ 8 + 12 ≤ lo) ∧
  (∀ ix n mc' ms' sp, al.2 ix = some (some (n, mc', ms', sp)) → ∃ (y : MethodName) (bytes : ByteArray) (maxL fr' lo' : Nat), fr' + 1 ≤ fr ∧ 8 + (maxL + 11) + lo' ≤ lo ∧ ex_MetN l y bytes maxL fr' lo' mc' ms' sp ∧ Cond.code y bytes maxL none ∈ ec_tb ∧ Cond.initialized y.cls ∈ ec_tb ∧ (y.cls ≠ "java/lang/invoke/MethodHandle" ∧ y.cls ≠ "java/lang/invoke/VarHandle") ∧
    (Cond.methodLink cx.1 ix y ∈ ec_tb ∨ ∃ host, Cond.methodLinkNest cx.1 ix y host ∈ ec_tb) ∧ y.name = "<init>" ∧ Cond.instanceMethod y ∈ ec_tb ∧ 1 ≤ n ∧ (parseMethodDescriptor y.desc).map (fun d => d.parameters.length) = some (n - 1)) ∧
  (∀ (ix ci k : Nat) (b : Bool) (ty : FieldType), cx.2.1 ix = some (ci, k, b, ty) → ∃ C T N, ec_cl[ci]? = some (C, T, N) ∧ k < N ∧ Cond.fieldLink cx.1 ix (T k).1 (T k).2.1 (T k).2.2.1 ∈ ec_tb ∧ parseFieldDescriptor (T k).2.2.1 = some ty ∧ ((T k).2.2.2 = false ∨ (T k).2.2.2 = true ∧ (T k).1 = cx.1)) ∧
  (Cond.arrayClass .int ∈ ec_tb ∧ Cond.arrayClass .boolean ∈ ec_tb)
section EXO
variable {p : Program} {l : Launch} {e : Env} {R : Room} {s : State} {m : MethodId} {args : Array Value} {below : List Frame} {meth : Method} {c : Code}
variable {D : va_G} {ca : Nat → Nat} {nL fr lo : Nat} {A : Nat → Prop} {cc : ByteArray} {Qw : State → Prop} {ret : Option FieldType} {own : String}
theorem ex_s_special {ad : Nat → Nat} {n0 kc ks : Nat} (C : ex_Cx ec_xt p R s m args meth c D ad ca n0 nL fr lo A cc ret own) {pc : Nat} {lv : ex_L} {cs : ex_C} {ix n a mc ms : Nat} {sp : ex_SN} {as r : ex_V} {Qk : ex_C → Prop} (hd : decode cc pc = .ok (.invokespecial ix, 3)) (hlen : cs.length = n0) (hclo : ex_clo n0 lv r cs = true) (hrc : kc + mc ≤ R.cells ∧ ks + ms ≤ R.slots)
    (hcok : ∃ (y : MethodName) (bytes : ByteArray) (maxL fr' lo' : Nat), fr' + 1 ≤ fr ∧ 8 + (maxL + 11) + lo' ≤ lo ∧ ex_MetN l y bytes maxL fr' lo' mc ms sp ∧ Cond.code y bytes maxL none ∈ ec_tb ∧ Cond.initialized y.cls ∈ ec_tb ∧ (y.cls ≠ "java/lang/invoke/MethodHandle" ∧ y.cls ≠ "java/lang/invoke/VarHandle") ∧
      (Cond.methodLink own ix y ∈ ec_tb ∨ ∃ host, Cond.methodLinkNest own ix y host ∈ ec_tb) ∧ y.name = "<init>" ∧ Cond.instanceMethod y ∈ ec_tb ∧ 1 ≤ n ∧ (parseMethodDescriptor y.desc).map (fun d => d.parameters.length) = some (n - 1)) (hn : as.length + 1 = n) (hsum : (r.map (fun v => v.category)).sum ≤ 8)
    (hsp : sp (.ref a :: as) cs Qk) (kk : ∀ (cs' : ex_C) (ad' : Nat → Nat), Qk cs' → (∀ k, k < n0 ∨ 1000 ≤ k → ad' k = ad k) → ex_Cx ec_xt p R s m args meth c D ad' ca cs'.length nL fr lo A cc ret own → ex_T p l e R s m args below meth c D ad' ca cs'.length nL A (kc + mc) (ks + ms) Qw (pc + 3) lv r cs') : ex_T p l e R s m args below meth c D ad ca n0 nL A kc ks Qw pc lv (as.reverse ++ .ref a :: r) cs := by
  intro ls H locs G
  have hst := ex_start (av := .ref a :: as) C G.1 G.2.2.1 G.2.2.2
  have C' := C
  obtain ⟨hx, hb, hml, hown, hts, hr, hlk, hD, hK, hX, hZ, hAe, hR1, hR2, hxt⟩ := C
  obtain ⟨y, bytes, maxL, fr', lo', hd', hmx, hM, hcode, hini, hy, hlink, hyn, hinst, -, hpar⟩ := hcok
  subst hlen
  have hM := hM D ad ca H.size (.ref a :: as) cs Qk hsp
  have hroom : fr' + 1 ≤ R.frames ∧ 8 + (maxL + 11) + lo' ≤ R.locals := ⟨Nat.le_trans hd' hR1, Nat.le_trans hmx hR2⟩
  have hp : PreS s H (ex_Pc D ad ca (.ref a :: as) cs cs.length H.size) (.ref (ad a) :: as.map (ex_v ad)) := ⟨ex_blind, hst⟩
  have hstack : (as.reverse ++ Value.ref a :: r).map (ex_v ad) = (as.map (ex_v ad)).reverse ++ Value.ref (ad a) :: r.map (ex_v ad) := by simp [ex_v]
  have hlen2 : (as.map (ex_v ad)).length = n - 1 := by rw [List.length_map]; omega
  have hcat : ((r.map (ex_v ad)).map fun v => v.category).sum ≤ 8 := by
    rw [List.map_map]
    have : ((fun v : Value => v.category) ∘ ex_v ad) = (fun v => v.category) := by funext v; exact ex_v_cat ad v
    rw [this]
    exact hsum
  simp only [ex_clo, Bool.and_eq_true, decide_eq_true_eq] at hclo
  obtain ⟨⟨⟨c1, c2⟩, c3⟩, c4⟩ := hclo
  rw [hstack]
  have hsub : ∀ q, ex_A ad cs.length H.size q → A q := by
    intro q h
    rcases h with h | h
    · exact hAe q (Or.inl h)
    · exact hAe q (Or.inr (Nat.le_trans G.2.2.2.1 h))
  have fin : va_Run p l e R s m args below meth c H locs kc ks mc ms (F0 m pc ls ((as.map (ex_v ad)).reverse ++ Value.ref (ad a) :: r.map (ex_v ad))) (r.map (ex_v ad)) (ex_QN D ad ca Qk cs.length (ex_A ad cs.length H.size) (Value.ref (ad a) :: as.map (ex_v ad)).toArray) (ex_A ad cs.length H.size) → W p l e R s m args below meth c H locs kc ks Qw (F0 m pc ls ((as.map (ex_v ad)).reverse ++ Value.ref (ad a) :: r.map (ex_v ad))) := by
    intro hr T hT X
    obtain ⟨v, st₀, t, T', L, h0, X', hL, e1, e2, ⟨⟨cs', ad', hv, hq, hag, hP', hD'⟩, hz, hk⟩, st⟩ := hr T hT X
    cases hv
    rw [h0] at hz hk
    have C2 : ex_Cx ec_xt p R s m args meth c D ad' ca cs'.length nL fr lo A cc ret own := by
      refine ⟨hx, hb, hml, hown, hts, by assumption, hlk, ⟨hD'.1, fun k hk => hsub _ (hD'.2 k hk)⟩, hK, fun j n f hj => ?_, fun Cn n dd j hj => ?_, fun x h => ?_, hR1, hR2, hxt⟩
      · rw [hag _ (Or.inr (Nat.le_add_right 1000 j))]; exact hX j n f hj
      · rw [hag _ (Or.inr (Nat.le_add_right 1000 j))]; exact hZ Cn n dd j hj
      · rcases h with ⟨k, hk, rfl⟩ | h
        · exact hsub _ (hD'.2 k hk)
        · exact hAe x (Or.inr h)
    have hl2 : ex_ls ad' lv nL ls := by
      refine ⟨G.2.1.1, G.2.1.2.1, G.2.1.2.2.1, fun i v hi => ?_⟩
      have h2 : ex_cv cs.length v = true := List.all_eq_true.mp c1 (some v) (List.mem_of_getElem? hi)
      rw [ex_v_agree h2 hag]
      exact G.2.1.2.2.2 i v hi
    have hst2 : r.map (ex_v ad') = r.map (ex_v ad) := List.map_congr_left (fun v hv => ex_v_agree (List.all_eq_true.mp c2 v hv) hag)
    have k2 := kk cs' ad' hq hag C2 ls T'.heap (locs ++ L) ⟨rfl, hl2, by rw [e1]; exact hP', Nat.le_trans G.2.2.2.1 (by rw [e1]; exact hz), fun q h1 h2 => by rw [e1, hk q (Nat.lt_of_lt_of_le h1 G.2.2.2.1) (fun z => h2 (hsub q z))]; exact G.2.2.2.2.1 q h1 h2, fun q hq => by
      rcases List.mem_append.mp hq with h | h
      · exact G.2.2.2.2.2 q h
      · exact hsub _ (hL q h)⟩
    rw [hst2] at k2
    obtain ⟨t2, a1, b1⟩ := k2 T' rfl X'
    exact ⟨t2, st t2 a1, b1⟩
  rcases hlink with hlink | ⟨host, hlink⟩
  · exact fin (va_runI (n := n - 1) ⟨hx, hb, hml, hown, hts⟩ hM ⟨callB_of (n - 1) hts (ex_good hcode) rfl rfl rfl (hts _ hini) (hts _ hlink) ⟨hy.1, hy.2, hpar⟩ hroom, hyn, hts _ hinst⟩ hp rfl hlen2 G.2.1.1 rfl (lv_room hcat) hd hrc)
  · exact fin (va_runIN (n := n - 1) ⟨hx, hb, hml, hown, hts⟩ hM ⟨va_cnB (n - 1) hts (ex_good hcode) rfl rfl rfl (hts _ hlink) (hts _ hini) ⟨hy.1, hy.2, hpar⟩ hroom, hyn, hts _ hinst⟩ hp rfl hlen2 G.2.1.1 rfl (lv_room hcat) hd hrc)
end EXO
section EXP
variable {p : Program} {l : Launch} {e : Env} {R : Room} {s : State} {m : MethodId} {args : Array Value} {below : List Frame} {meth : Method} {c : Code}
variable {D : va_G} {ca : Nat → Nat} {nL fr lo mc ms : Nat} {A : Nat → Prop} {cc : ByteArray} {Qw : State → Prop}
theorem ex_T_len {ad : Nat → Nat} {n0 kc ks pc : Nat} {lv : ex_L} {st : ex_V} {cs : ex_C} (h : cs.length = n0 → ex_T p l e R s m args below meth c D ad ca n0 nL A kc ks Qw pc lv st cs) : ex_T p l e R s m args below meth c D ad ca n0 nL A kc ks Qw pc lv st cs := fun ls H locs G => h G.1 ls H locs G
theorem ex_drop_all {n k : Nat} {st : ex_V} (h : st.all (ex_cv n) = true) : (st.drop k).all (ex_cv n) = true := List.all_eq_true.mpr (fun v hv => List.all_eq_true.mp h v (List.mem_of_mem_drop hv))
set_option maxHeartbeats 4000000 in
theorem ex_wn_sound {cx : ex_K} {al : ex_J} {Q : ex_C → Nat → Nat → Prop} {ad0 : Nat → Nat} {n00 : Nat} (hin2 : meth.name = "<init>") (hok : ex_ok l fr lo cx) (hnok : ex_nok l fr lo mc ms cx al) (hA : ∀ x, s.heap.size ≤ x → A x) (hR : mc ≤ R.cells ∧ ms ≤ R.slots)
    (hV : ∀ ad n0 pc lv cs kc ks, decode cc pc = .ok (.return_, 1) → Q cs kc ks → kc ≤ mc ∧ ks ≤ ms → (∀ k, k < n00 ∨ 1000 ≤ k → ad k = ad0 k) → ex_Cx ec_xt p R s m args meth c D ad ca n0 nL fr lo A cc none cx.1 → ex_T p l e R s m args below meth c D ad ca n0 nL A kc ks Qw pc lv [] cs) :
    ∀ n pc lv st cs kc ks, ex_wn cx al cc mc ms Q n pc lv st cs kc ks → kc ≤ mc ∧ ks ≤ ms → ∀ ad n0, n00 ≤ n0 → (∀ k, k < n00 ∨ 1000 ≤ k → ad k = ad0 k) → ex_Cx ec_xt p R s m args meth c D ad ca n0 nL fr lo A cc none cx.1 → ex_T p l e R s m args below meth c D ad ca n0 nL A kc ks Qw pc lv st cs := by
  intro n
  induction n with
  | zero => intro pc lv st cs kc ks h; exact False.elim h
  | succ n ih =>
    intro pc lv st cs kc ks h hk ad n0 hn0 hag C
    refine ex_T_len (fun hlen => ?_)
    unfold ex_wn at h
    split at h
    · rename_i ix len hd
      obtain ⟨rfl, h⟩ := h
      obtain ⟨⟨ci, fs, N⟩, hq, hcl, hk1, hk2, h⟩ := ex_o.at h
      obtain ⟨Cn, T, ty, g1, g2, g3, g4, g5, g6, g7⟩ := hnok.1 _ _ _ _ hq
      have c4 : n0 < 1000 := by
        simp only [ex_clo, Bool.and_eq_true, decide_eq_true_eq] at hcl
        rw [← hlen]; exact hcl.2
      refine ex_s_new C hd hA (by rw [← hlen]; exact hcl) hlen g1 g2 g3 g4 g5 g6 g7 ⟨Nat.le_trans hk1 hR.1, Nat.le_trans hk2 hR.2⟩ (fun q C2 => ?_)
      rw [hlen] at h
      refine ih _ _ _ _ _ _ h ⟨hk1, hk2⟩ _ _ (Nat.le_succ_of_le hn0) (fun k hk => ?_) C2
      unfold ex_ext
      rw [if_neg (by omega)]
      exact hag k hk
    · rename_i t len hd
      obtain ⟨rfl, h⟩ := h
      obtain ⟨tag, ht, h⟩ := ex_o.at h
      obtain ⟨x, r, rfl, hx0, hx1, hcl, hk1, hk2, h3⟩ := ex_i1.at h
      have c4 : n0 < 1000 := by
        simp only [ex_clo, Bool.and_eq_true, decide_eq_true_eq] at hcl
        rw [← hlen]; exact hcl.2
      refine ex_s_newarray C hd hA (by rw [← hlen]; exact hcl) hlen ht hx0 rfl hx1 hnok.2.2.2.2 ⟨Nat.le_trans hk1 hR.1, Nat.le_trans hk2 hR.2⟩ (fun q C2 => ?_)
      rw [hlen] at h3
      refine ih _ _ _ _ _ _ h3 ⟨hk1, hk2⟩ _ _ (Nat.le_succ_of_le hn0) (fun k hk => ?_) C2
      unfold ex_ext
      rw [if_neg (by omega)]
      exact hag k hk
    · rename_i ix len hd
      obtain ⟨rfl, h⟩ := h
      obtain ⟨o, hq, h⟩ := ex_o.at h
      cases o with
      | none =>
        obtain ⟨a, r, rfl, hsum, h3⟩ := ex_r1.at h
        obtain ⟨g1, g2, g3, g4, g5⟩ := hnok.2.1 _ hq
        exact ex_s_objInit C hd g1 g2 g3 g4 g5 hsum (ih _ _ _ _ _ _ h3 hk _ _ hn0 hag C)
      | some q =>
        obtain ⟨nn, mc', ms', sp⟩ := q
        obtain ⟨hn, hsum, hcl, hk1, hk2, h⟩ := h
        obtain ⟨v, hv, h⟩ := ex_o.at h
        split at h
        · rename_i a
          have hcok := hnok.2.2.1 _ _ _ _ _ hq
          have hn1 : 1 ≤ nn := by
            obtain ⟨y, bytes, maxL, fr', lo', -, -, -, -, -, -, -, -, -, h1, -⟩ := hcok
            exact h1
          obtain ⟨e1, e2⟩ := ex_split hn hn1 hv
          dsimp only at h hk1 hk2 hsum
          rw [e2] at h
          have hcl2 : ex_clo n0 lv (st.drop nn) cs = true := by
            simp only [ex_clo, Bool.and_eq_true, decide_eq_true_eq] at hcl ⊢
            rw [← hlen]
            exact ⟨⟨⟨hcl.1.1.1, ex_drop_all hcl.1.1.2⟩, hcl.1.2⟩, hcl.2⟩
          have goal := ex_s_special (e := e) (below := below) (Qw := Qw) (l := l) C hd hlen hcl2 ⟨Nat.le_trans hk1 hR.1, Nat.le_trans hk2 hR.2⟩ hcok (by rw [List.length_reverse, List.length_take]; omega) hsum h (fun cs' ad' hq' hag' C2 => by
            refine ih _ _ _ _ _ _ hq'.2 ⟨hk1, hk2⟩ _ _ ?_ (fun k hk => ?_) C2
            · exact Nat.le_trans hn0 (by rw [← hlen]; exact hq'.1)
            · rw [hag' k (hk.imp (fun h => Nat.lt_of_lt_of_le h hn0) id)]
              exact hag k hk)
          rw [← e1] at goal
          exact goal
        · exact h.elim
    · rename_i ix len hd
      obtain ⟨rfl, h⟩ := h
      obtain ⟨v, a, r, rfl, h3⟩ := ex_vr.at h
      obtain ⟨⟨ci, k, b, ty⟩, hq, h3⟩ := ex_o.at h3
      obtain ⟨fs, ho, hl, hf, h3⟩ := ex_ob.at h3
      obtain ⟨Cn, T, N, g1, g2, g3, g4, g5⟩ := hnok.2.2.2.1 _ _ _ _ _ hq
      have k2 := ih _ _ _ _ _ _ h3 hk ad n0 hn0 hag C
      rcases g5 with g5 | ⟨g5, g6⟩
      · exact ex_s_putfield C hd ho hl hf ⟨Cn, T, N, g1, g2, g3, g4, g5⟩ k2
      · exact ex_s_putfinal C hin2 hd ho hl hf ⟨Cn, T, N, g1, g2, g3, g4, g5, g6⟩ k2
    · rename_i len hd
      obtain ⟨rfl, rfl, h⟩ := h
      exact hV ad n0 pc lv cs kc ks hd h hk hag C
    · rename_i i len hne1 hne2 hne3 hne4 hne5 hd
      exact ex_i_sound C hok ⟨Nat.le_trans hk.1 hR.1, Nat.le_trans hk.2 hR.2⟩ (fun _ _ _ _ _ _ h => False.elim h) (fun _ _ _ _ _ h => False.elim h) hd h (fun pc' lv' st' cs' h' => ih _ _ _ _ _ _ h' hk _ _ hn0 hag C)
    · exact False.elim h
end EXP
/-- a constructor's contract out of its walk -/
theorem ex_metN {l : Launch} {y : MethodName} {cc : ByteArray} {maxL fr lo mc ms fuel : Nat} {cx : ex_K} {al : ex_J} {sp : ex_SN} (hy : plainName y.cls = true) (hyn : y.name = "<init>") (hown : cx.1 = y.cls) (hok : ex_ok l fr lo cx) (hnok : ex_nok l fr lo mc ms cx al)
    (h : ∀ av cs Q, sp av cs Q → (∀ w ∈ av, w.category = 1) ∧ av.length ≤ maxL ∧ ex_wn cx al cc mc ms (fun cs' _ _ => Q cs') fuel 0 (ex_l0 av maxL) [] cs 0 0) : ex_MetN l y cc maxL fr lo mc ms sp := by
  intro D ad ca sz av cs Q hsp
  obtain ⟨hcat, hlen, hT⟩ := h av cs Q hsp
  refine Met.ofW (cc := cc) (maxL := maxL) (ret := none) hy rfl ?_
  intro p e s m args below meth c s₁ B hml hv
  obtain ⟨rfl, hsz, hn, hP, hD, hK, hX, hZ⟩ := hv
  subst hsz
  have hts0 := atoms_spec (ws := .code y cc maxL none :: ec_tb) B.pre
  have hin2 : meth.name = "<init>" := ((name_of_methodNamed B.named B.method).1).trans hyn
  have hcx : ex_Cx ec_xt p (headSpec (.code y cc maxL none :: ec_tb) { frames := fr, cells := mc, slots := ms, locals := lo }).room s m ((av.map (ex_v ad)).toArray) meth c D ad ca cs.length maxL fr lo (ex_A ad cs.length s.heap.size) cc none cx.1 :=
    ⟨B.exec, B.bytes, hml, by rw [hown]; exact findClass_of_methodNamed B.named, fun w hw => hts0 w (List.mem_cons_of_mem _ hw), B.returns, B.notSynchronized, hD, hK, hX, hZ, fun _ h => h, Nat.le_refl _, Nat.le_refl _, fun _ _ h => h⟩
  have hcat' : ∀ w ∈ av.map (ex_v ad), w.category = 1 := by
    intro w hw
    obtain ⟨v, hv, rfl⟩ := List.mem_map.mp hw
    rw [ex_v_cat]
    exact hcat v hv
  have hsl := ex_sl_len _ hcat'
  rw [List.length_map] at hsl
  have hl := lv_entry (av.map (ex_v ad)) (n := maxL) (by rw [hsl]; exact hlen)
  rw [lg_entry_eq]
  have hT2 := ex_wn_sound (e := e) (below := below) (Qw := MQ below (ex_QN D ad ca Q cs.length (ex_A ad cs.length s.heap.size)) ((av.map (ex_v ad)).toArray) s mc ms (ex_A ad cs.length s.heap.size)) (ad0 := ad) (n00 := cs.length) hin2 hok hnok (fun x h => Or.inr h) ⟨Nat.le_refl _, Nat.le_refl _⟩ (fun ad' n0 pc lv cs' kc ks hd hq hk hag C2 => by
    intro ls H locs G
    obtain ⟨hx, hb, hml, hown, hts, hr, hlk, hD2, hK2, hX2, hZ2, hAe, hR1, hR2, hxt⟩ := C2
    refine W.widen (k := mc) (n := ms) hk.1 hk.2 ?_
    exact W.vret hx hb hr (fun t ht hW => ⟨⟨cs', ad', rfl, hq, hag, by rw [ht]; exact G.2.2.1, by rw [G.1]; exact hD2⟩, G.2.2.2.F ht⟩) G.2.2.2.2.2 hd hlk) fuel 0 (ex_l0 av maxL) [] cs 0 0 hT ⟨Nat.zero_le _, Nat.zero_le _⟩ ad cs.length (Nat.le_refl _) (fun _ _ => rfl) hcx
  refine hT2 _ s.heap [] ⟨rfl, ⟨hl.1, hl.2.1, ?_, ?_⟩, hP, va_S.rf⟩
  · unfold ex_l0
    rw [List.length_append, List.length_map, List.length_replicate]
    omega
  · intro i v hi
    unfold ex_l0 at hi
    by_cases hia : i < av.length
    · rw [List.getElem?_append_left (by rw [List.length_map]; exact hia), List.getElem?_map] at hi
      cases hav : av[i]? with
      | none => rw [hav] at hi; cases hi
      | some w =>
        rw [hav] at hi
        have hw : w = v := Option.some.inj (Option.some.inj hi)
        subst hw
        have := ex_args_mem (av.map (ex_v ad)) 0 i (ex_v ad w) hcat' (by rw [List.getElem?_map, hav]; rfl)
        rw [Nat.zero_add] at this
        exact hl.2.2 (i, ex_v ad w) this
    · rw [List.getElem?_append_right (by rw [List.length_map]; omega), List.getElem?_replicate] at hi
      split at hi <;> cases hi
end
