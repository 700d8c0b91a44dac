section
-- ===== PART A: goes FIRST, ahead of the names: the tables' words, and 'selects' of the private methods out of them =====
/-- a private method of a class that the tables say can be made, by its rows of tables_1 -/
def lw_okq (q : MethodName × Nat) : Prop := (q.1.cls ≠ "java/lang/invoke/MethodHandle" ∧ q.1.cls ≠ "java/lang/invoke/VarHandle") ∧ Cond.instantiable q.1.cls q.2 ∈ tables_1 ∧ Cond.privateMethod q.1 ∈ tables_1 ∧ Cond.instanceMethod q.1 ∈ tables_1
theorem lw_p0 : lw_okq (⟨"TinStation", "counted", "(I)I"⟩, 10) := ⟨⟨by decide +kernel, by decide +kernel⟩, List.mem_of_getElem? (i := 16) (by decide +kernel), List.mem_of_getElem? (i := 368) (by decide +kernel), List.mem_of_getElem? (i := 369) (by decide +kernel)⟩
theorem lw_p1 : lw_okq (⟨"TinStation$Plant", "leastHarm", "(I)I"⟩, 15) := ⟨⟨by decide +kernel, by decide +kernel⟩, List.mem_of_getElem? (i := 128) (by decide +kernel), List.mem_of_getElem? (i := 583) (by decide +kernel), List.mem_of_getElem? (i := 584) (by decide +kernel)⟩
theorem lw_p2 : lw_okq (⟨"TinStation$Plant", "readySet", "()I"⟩, 15) := ⟨⟨by decide +kernel, by decide +kernel⟩, List.mem_of_getElem? (i := 128) (by decide +kernel), List.mem_of_getElem? (i := 587) (by decide +kernel), List.mem_of_getElem? (i := 588) (by decide +kernel)⟩
theorem lw_p3 : lw_okq (⟨"TinStation$Plant", "isReady", "(I)Z"⟩, 15) := ⟨⟨by decide +kernel, by decide +kernel⟩, List.mem_of_getElem? (i := 128) (by decide +kernel), List.mem_of_getElem? (i := 591) (by decide +kernel), List.mem_of_getElem? (i := 592) (by decide +kernel)⟩
theorem lw_p4 : lw_okq (⟨"TinStation$Plant", "sumOver", "(I[I)I"⟩, 15) := ⟨⟨by decide +kernel, by decide +kernel⟩, List.mem_of_getElem? (i := 128) (by decide +kernel), List.mem_of_getElem? (i := 595) (by decide +kernel), List.mem_of_getElem? (i := 596) (by decide +kernel)⟩
theorem lw_p5 : lw_okq (⟨"TinStation$World", "doText", "()V"⟩, 7) := ⟨⟨by decide +kernel, by decide +kernel⟩, List.mem_of_getElem? (i := 52) (by decide +kernel), List.mem_of_getElem? (i := 646) (by decide +kernel), List.mem_of_getElem? (i := 647) (by decide +kernel)⟩
theorem lw_p6 : lw_okq (⟨"TinStation$World", "lineAfter", "(I)I"⟩, 7) := ⟨⟨by decide +kernel, by decide +kernel⟩, List.mem_of_getElem? (i := 52) (by decide +kernel), List.mem_of_getElem? (i := 658) (by decide +kernel), List.mem_of_getElem? (i := 659) (by decide +kernel)⟩
theorem lw_p7 : lw_okq (⟨"TinStation$World", "lineAfterCheck", "(I)I"⟩, 7) := ⟨⟨by decide +kernel, by decide +kernel⟩, List.mem_of_getElem? (i := 52) (by decide +kernel), List.mem_of_getElem? (i := 662) (by decide +kernel), List.mem_of_getElem? (i := 663) (by decide +kernel)⟩
theorem lw_p8 : lw_okq (⟨"TinStation$World", "isCheck", "(III)Z"⟩, 7) := ⟨⟨by decide +kernel, by decide +kernel⟩, List.mem_of_getElem? (i := 52) (by decide +kernel), List.mem_of_getElem? (i := 666) (by decide +kernel), List.mem_of_getElem? (i := 667) (by decide +kernel)⟩
theorem lw_p9 : lw_okq (⟨"TinStation$World", "holds", "(III)Z"⟩, 7) := ⟨⟨by decide +kernel, by decide +kernel⟩, List.mem_of_getElem? (i := 52) (by decide +kernel), List.mem_of_getElem? (i := 671) (by decide +kernel), List.mem_of_getElem? (i := 672) (by decide +kernel)⟩
theorem lw_p10 : lw_okq (⟨"TinStation$World", "actByText", "(I)I"⟩, 7) := ⟨⟨by decide +kernel, by decide +kernel⟩, List.mem_of_getElem? (i := 52) (by decide +kernel), List.mem_of_getElem? (i := 679) (by decide +kernel), List.mem_of_getElem? (i := 680) (by decide +kernel)⟩
theorem lw_p11 : lw_okq (⟨"TinStation$Plant", "work", "(ILTinStation$Air;)V"⟩, 15) := ⟨⟨by decide +kernel, by decide +kernel⟩, List.mem_of_getElem? (i := 128) (by decide +kernel), List.mem_of_getElem? (i := 713) (by decide +kernel), List.mem_of_getElem? (i := 714) (by decide +kernel)⟩
theorem lw_p12 : lw_okq (⟨"TinStation$Plant", "split", "(ILTinStation$Air;)V"⟩, 15) := ⟨⟨by decide +kernel, by decide +kernel⟩, List.mem_of_getElem? (i := 128) (by decide +kernel), List.mem_of_getElem? (i := 726) (by decide +kernel), List.mem_of_getElem? (i := 727) (by decide +kernel)⟩
theorem lw_p13 : lw_okq (⟨"TinStation$Plant", "distil", "(ILTinStation$Air;)V"⟩, 15) := ⟨⟨by decide +kernel, by decide +kernel⟩, List.mem_of_getElem? (i := 128) (by decide +kernel), List.mem_of_getElem? (i := 738) (by decide +kernel), List.mem_of_getElem? (i := 739) (by decide +kernel)⟩
theorem lw_p14 : lw_okq (⟨"TinStation$Crew", "breathe", "(ILTinStation$Air;)V"⟩, 7) := ⟨⟨by decide +kernel, by decide +kernel⟩, List.mem_of_getElem? (i := 98) (by decide +kernel), List.mem_of_getElem? (i := 746) (by decide +kernel), List.mem_of_getElem? (i := 747) (by decide +kernel)⟩
theorem lw_p15 : lw_okq (⟨"TinStation$Crew", "drink", "(ILTinStation$Air;)V"⟩, 7) := ⟨⟨by decide +kernel, by decide +kernel⟩, List.mem_of_getElem? (i := 98) (by decide +kernel), List.mem_of_getElem? (i := 755) (by decide +kernel), List.mem_of_getElem? (i := 756) (by decide +kernel)⟩
def lw_privs_1 : List (MethodName × Nat) := [(⟨"TinStation", "counted", "(I)I"⟩, 10), (⟨"TinStation$Plant", "leastHarm", "(I)I"⟩, 15), (⟨"TinStation$Plant", "readySet", "()I"⟩, 15), (⟨"TinStation$Plant", "isReady", "(I)Z"⟩, 15), (⟨"TinStation$Plant", "sumOver", "(I[I)I"⟩, 15), (⟨"TinStation$World", "doText", "()V"⟩, 7), (⟨"TinStation$World", "lineAfter", "(I)I"⟩, 7), (⟨"TinStation$World", "lineAfterCheck", "(I)I"⟩, 7), (⟨"TinStation$World", "isCheck", "(III)Z"⟩, 7), (⟨"TinStation$World", "holds", "(III)Z"⟩, 7), (⟨"TinStation$World", "actByText", "(I)I"⟩, 7), (⟨"TinStation$Plant", "work", "(ILTinStation$Air;)V"⟩, 15), (⟨"TinStation$Plant", "split", "(ILTinStation$Air;)V"⟩, 15), (⟨"TinStation$Plant", "distil", "(ILTinStation$Air;)V"⟩, 15), (⟨"TinStation$Crew", "breathe", "(ILTinStation$Air;)V"⟩, 7), (⟨"TinStation$Crew", "drink", "(ILTinStation$Air;)V"⟩, 7)]
theorem lw_r1 : ∀ q ∈ lw_privs_1, lw_okq q := List.forall_mem_cons.mpr ⟨lw_p0, List.forall_mem_cons.mpr ⟨lw_p1, List.forall_mem_cons.mpr ⟨lw_p2, List.forall_mem_cons.mpr ⟨lw_p3, List.forall_mem_cons.mpr ⟨lw_p4, List.forall_mem_cons.mpr ⟨lw_p5, List.forall_mem_cons.mpr ⟨lw_p6, List.forall_mem_cons.mpr ⟨lw_p7, List.forall_mem_cons.mpr ⟨lw_p8, List.forall_mem_cons.mpr ⟨lw_p9, List.forall_mem_cons.mpr ⟨lw_p10, List.forall_mem_cons.mpr ⟨lw_p11, List.forall_mem_cons.mpr ⟨lw_p12, List.forall_mem_cons.mpr ⟨lw_p13, List.forall_mem_cons.mpr ⟨lw_p14, List.forall_mem_cons.mpr ⟨lw_p15, fun _ h => absurd h List.not_mem_nil⟩⟩⟩⟩⟩⟩⟩⟩⟩⟩⟩⟩⟩⟩⟩⟩
theorem lw_p16 : lw_okq (⟨"TinStation$Air", "mix", "(II)V"⟩, 8) := ⟨⟨by decide +kernel, by decide +kernel⟩, List.mem_of_getElem? (i := 58) (by decide +kernel), List.mem_of_getElem? (i := 774) (by decide +kernel), List.mem_of_getElem? (i := 775) (by decide +kernel)⟩
theorem lw_p17 : lw_okq (⟨"TinStation$Bounds", "breaksIn", "(ILTinStation$Air;)Z"⟩, 6) := ⟨⟨by decide +kernel, by decide +kernel⟩, List.mem_of_getElem? (i := 186) (by decide +kernel), List.mem_of_getElem? (i := 786) (by decide +kernel), List.mem_of_getElem? (i := 787) (by decide +kernel)⟩
theorem lw_p18 : lw_okq (⟨"TinStation$Bounds", "keepFirst", "(II)V"⟩, 6) := ⟨⟨by decide +kernel, by decide +kernel⟩, List.mem_of_getElem? (i := 186) (by decide +kernel), List.mem_of_getElem? (i := 791) (by decide +kernel), List.mem_of_getElem? (i := 792) (by decide +kernel)⟩
theorem lw_p19 : lw_okq (⟨"TinStation$Hunt", "findParts", "(LTinStation$Air;I)V"⟩, 2) := ⟨⟨by decide +kernel, by decide +kernel⟩, List.mem_of_getElem? (i := 274) (by decide +kernel), List.mem_of_getElem? (i := 911) (by decide +kernel), List.mem_of_getElem? (i := 912) (by decide +kernel)⟩
theorem lw_p20 : lw_okq (⟨"TinStation$Hunt", "join", "(LTinStation$Air;I)V"⟩, 2) := ⟨⟨by decide +kernel, by decide +kernel⟩, List.mem_of_getElem? (i := 274) (by decide +kernel), List.mem_of_getElem? (i := 915) (by decide +kernel), List.mem_of_getElem? (i := 916) (by decide +kernel)⟩
theorem lw_p21 : lw_okq (⟨"TinStation$Hunt", "leftAtWorst", "(LTinStation$Air;I)I"⟩, 2) := ⟨⟨by decide +kernel, by decide +kernel⟩, List.mem_of_getElem? (i := 274) (by decide +kernel), List.mem_of_getElem? (i := 928) (by decide +kernel), List.mem_of_getElem? (i := 929) (by decide +kernel)⟩
theorem lw_p22 : lw_okq (⟨"TinStation$Journal", "tooMuch", "(II)I"⟩, 10) := ⟨⟨by decide +kernel, by decide +kernel⟩, List.mem_of_getElem? (i := 288) (by decide +kernel), List.mem_of_getElem? (i := 969) (by decide +kernel), List.mem_of_getElem? (i := 970) (by decide +kernel)⟩
theorem lw_p23 : lw_okq (⟨"TinStation$Journal", "between", "(III)I"⟩, 10) := ⟨⟨by decide +kernel, by decide +kernel⟩, List.mem_of_getElem? (i := 288) (by decide +kernel), List.mem_of_getElem? (i := 973) (by decide +kernel), List.mem_of_getElem? (i := 974) (by decide +kernel)⟩
theorem lw_p24 : lw_okq (⟨"TinStation", "setMass", "(I)I"⟩, 10) := ⟨⟨by decide +kernel, by decide +kernel⟩, List.mem_of_getElem? (i := 16) (by decide +kernel), List.mem_of_getElem? (i := 998) (by decide +kernel), List.mem_of_getElem? (i := 999) (by decide +kernel)⟩
theorem lw_p25 : lw_okq (⟨"TinStation", "setSpeed", "(I)I"⟩, 10) := ⟨⟨by decide +kernel, by decide +kernel⟩, List.mem_of_getElem? (i := 16) (by decide +kernel), List.mem_of_getElem? (i := 1006) (by decide +kernel), List.mem_of_getElem? (i := 1007) (by decide +kernel)⟩
theorem lw_p26 : lw_okq (⟨"TinStationModel", "finding", "(I)I"⟩, 57) := ⟨⟨by decide +kernel, by decide +kernel⟩, List.mem_of_getElem? (i := 1043) (by decide +kernel), List.mem_of_getElem? (i := 1226) (by decide +kernel), List.mem_of_getElem? (i := 1227) (by decide +kernel)⟩
theorem lw_p27 : lw_okq (⟨"TinStationModel", "isModule", "(I)Z"⟩, 57) := ⟨⟨by decide +kernel, by decide +kernel⟩, List.mem_of_getElem? (i := 1043) (by decide +kernel), List.mem_of_getElem? (i := 1235) (by decide +kernel), List.mem_of_getElem? (i := 1236) (by decide +kernel)⟩
theorem lw_p28 : lw_okq (⟨"TinStationModel", "isHatch", "(I)Z"⟩, 57) := ⟨⟨by decide +kernel, by decide +kernel⟩, List.mem_of_getElem? (i := 1043) (by decide +kernel), List.mem_of_getElem? (i := 1243) (by decide +kernel), List.mem_of_getElem? (i := 1244) (by decide +kernel)⟩
theorem lw_p29 : lw_okq (⟨"TinStationModel", "isPerson", "(I)Z"⟩, 57) := ⟨⟨by decide +kernel, by decide +kernel⟩, List.mem_of_getElem? (i := 1043) (by decide +kernel), List.mem_of_getElem? (i := 1276) (by decide +kernel), List.mem_of_getElem? (i := 1277) (by decide +kernel)⟩
theorem lw_p30 : lw_okq (⟨"TinStationModel", "canGo", "(II)Z"⟩, 57) := ⟨⟨by decide +kernel, by decide +kernel⟩, List.mem_of_getElem? (i := 1043) (by decide +kernel), List.mem_of_getElem? (i := 1280) (by decide +kernel), List.mem_of_getElem? (i := 1281) (by decide +kernel)⟩
theorem lw_p31 : lw_okq (⟨"TinStationModel", "isMachine", "(I)Z"⟩, 57) := ⟨⟨by decide +kernel, by decide +kernel⟩, List.mem_of_getElem? (i := 1043) (by decide +kernel), List.mem_of_getElem? (i := 1300) (by decide +kernel), List.mem_of_getElem? (i := 1301) (by decide +kernel)⟩
def lw_privs_2 : List (MethodName × Nat) := [(⟨"TinStation$Air", "mix", "(II)V"⟩, 8), (⟨"TinStation$Bounds", "breaksIn", "(ILTinStation$Air;)Z"⟩, 6), (⟨"TinStation$Bounds", "keepFirst", "(II)V"⟩, 6), (⟨"TinStation$Hunt", "findParts", "(LTinStation$Air;I)V"⟩, 2), (⟨"TinStation$Hunt", "join", "(LTinStation$Air;I)V"⟩, 2), (⟨"TinStation$Hunt", "leftAtWorst", "(LTinStation$Air;I)I"⟩, 2), (⟨"TinStation$Journal", "tooMuch", "(II)I"⟩, 10), (⟨"TinStation$Journal", "between", "(III)I"⟩, 10), (⟨"TinStation", "setMass", "(I)I"⟩, 10), (⟨"TinStation", "setSpeed", "(I)I"⟩, 10), (⟨"TinStationModel", "finding", "(I)I"⟩, 57), (⟨"TinStationModel", "isModule", "(I)Z"⟩, 57), (⟨"TinStationModel", "isHatch", "(I)Z"⟩, 57), (⟨"TinStationModel", "isPerson", "(I)Z"⟩, 57), (⟨"TinStationModel", "canGo", "(II)Z"⟩, 57), (⟨"TinStationModel", "isMachine", "(I)Z"⟩, 57)]
theorem lw_r2 : ∀ q ∈ lw_privs_2, lw_okq q := List.forall_mem_cons.mpr ⟨lw_p16, List.forall_mem_cons.mpr ⟨lw_p17, List.forall_mem_cons.mpr ⟨lw_p18, List.forall_mem_cons.mpr ⟨lw_p19, List.forall_mem_cons.mpr ⟨lw_p20, List.forall_mem_cons.mpr ⟨lw_p21, List.forall_mem_cons.mpr ⟨lw_p22, List.forall_mem_cons.mpr ⟨lw_p23, List.forall_mem_cons.mpr ⟨lw_p24, List.forall_mem_cons.mpr ⟨lw_p25, List.forall_mem_cons.mpr ⟨lw_p26, List.forall_mem_cons.mpr ⟨lw_p27, List.forall_mem_cons.mpr ⟨lw_p28, List.forall_mem_cons.mpr ⟨lw_p29, List.forall_mem_cons.mpr ⟨lw_p30, List.forall_mem_cons.mpr ⟨lw_p31, fun _ h => absurd h List.not_mem_nil⟩⟩⟩⟩⟩⟩⟩⟩⟩⟩⟩⟩⟩⟩⟩⟩
theorem lw_p32 : lw_okq (⟨"TinStationModel", "refusesMend", "(III)I"⟩, 57) := ⟨⟨by decide +kernel, by decide +kernel⟩, List.mem_of_getElem? (i := 1043) (by decide +kernel), List.mem_of_getElem? (i := 1320) (by decide +kernel), List.mem_of_getElem? (i := 1321) (by decide +kernel)⟩
theorem lw_p33 : lw_okq (⟨"TinStationModel", "isMended", "(I)Z"⟩, 57) := ⟨⟨by decide +kernel, by decide +kernel⟩, List.mem_of_getElem? (i := 1043) (by decide +kernel), List.mem_of_getElem? (i := 1324) (by decide +kernel), List.mem_of_getElem? (i := 1325) (by decide +kernel)⟩
theorem lw_p34 : lw_okq (⟨"TinStationModel", "beginMend", "(III)V"⟩, 57) := ⟨⟨by decide +kernel, by decide +kernel⟩, List.mem_of_getElem? (i := 1043) (by decide +kernel), List.mem_of_getElem? (i := 1328) (by decide +kernel), List.mem_of_getElem? (i := 1329) (by decide +kernel)⟩
theorem lw_p35 : lw_okq (⟨"TinStationModel", "canShed", "(I)Z"⟩, 57) := ⟨⟨by decide +kernel, by decide +kernel⟩, List.mem_of_getElem? (i := 1043) (by decide +kernel), List.mem_of_getElem? (i := 1336) (by decide +kernel), List.mem_of_getElem? (i := 1337) (by decide +kernel)⟩
theorem lw_p36 : lw_okq (⟨"TinStationModel", "together", "(IZI)I"⟩, 57) := ⟨⟨by decide +kernel, by decide +kernel⟩, List.mem_of_getElem? (i := 1043) (by decide +kernel), List.mem_of_getElem? (i := 1340) (by decide +kernel), List.mem_of_getElem? (i := 1341) (by decide +kernel)⟩
theorem lw_p37 : lw_okq (⟨"TinStationModel", "abortText", "()V"⟩, 57) := ⟨⟨by decide +kernel, by decide +kernel⟩, List.mem_of_getElem? (i := 1043) (by decide +kernel), List.mem_of_getElem? (i := 1364) (by decide +kernel), List.mem_of_getElem? (i := 1365) (by decide +kernel)⟩
theorem lw_p38 : lw_okq (⟨"TinStationModel", "endText", "(I)V"⟩, 57) := ⟨⟨by decide +kernel, by decide +kernel⟩, List.mem_of_getElem? (i := 1043) (by decide +kernel), List.mem_of_getElem? (i := 1368) (by decide +kernel), List.mem_of_getElem? (i := 1369) (by decide +kernel)⟩
theorem lw_p39 : lw_okq (⟨"TinStationModel", "tick", "()Z"⟩, 57) := ⟨⟨by decide +kernel, by decide +kernel⟩, List.mem_of_getElem? (i := 1043) (by decide +kernel), List.mem_of_getElem? (i := 1395) (by decide +kernel), List.mem_of_getElem? (i := 1396) (by decide +kernel)⟩
theorem lw_p40 : lw_okq (⟨"TinStationModel", "runText", "()V"⟩, 57) := ⟨⟨by decide +kernel, by decide +kernel⟩, List.mem_of_getElem? (i := 1043) (by decide +kernel), List.mem_of_getElem? (i := 1399) (by decide +kernel), List.mem_of_getElem? (i := 1400) (by decide +kernel)⟩
theorem lw_p41 : lw_okq (⟨"TinStationModel", "isLine", "(I)Z"⟩, 57) := ⟨⟨by decide +kernel, by decide +kernel⟩, List.mem_of_getElem? (i := 1043) (by decide +kernel), List.mem_of_getElem? (i := 1403) (by decide +kernel), List.mem_of_getElem? (i := 1404) (by decide +kernel)⟩
theorem lw_p42 : lw_okq (⟨"TinStationModel", "doLine", "(IIII)Z"⟩, 57) := ⟨⟨by decide +kernel, by decide +kernel⟩, List.mem_of_getElem? (i := 1043) (by decide +kernel), List.mem_of_getElem? (i := 1407) (by decide +kernel), List.mem_of_getElem? (i := 1408) (by decide +kernel)⟩
theorem lw_p43 : lw_okq (⟨"TinStationModel", "canCheck", "(III)Z"⟩, 57) := ⟨⟨by decide +kernel, by decide +kernel⟩, List.mem_of_getElem? (i := 1043) (by decide +kernel), List.mem_of_getElem? (i := 1411) (by decide +kernel), List.mem_of_getElem? (i := 1412) (by decide +kernel)⟩
theorem lw_p44 : lw_okq (⟨"TinStationModel", "isSo", "(II)Z"⟩, 57) := ⟨⟨by decide +kernel, by decide +kernel⟩, List.mem_of_getElem? (i := 1043) (by decide +kernel), List.mem_of_getElem? (i := 1415) (by decide +kernel), List.mem_of_getElem? (i := 1416) (by decide +kernel)⟩
theorem lw_p45 : lw_okq (⟨"TinStationModel", "mendAll", "()V"⟩, 57) := ⟨⟨by decide +kernel, by decide +kernel⟩, List.mem_of_getElem? (i := 1043) (by decide +kernel), List.mem_of_getElem? (i := 1419) (by decide +kernel), List.mem_of_getElem? (i := 1420) (by decide +kernel)⟩
theorem lw_p46 : lw_okq (⟨"TinStationModel", "feedAll", "()V"⟩, 57) := ⟨⟨by decide +kernel, by decide +kernel⟩, List.mem_of_getElem? (i := 1043) (by decide +kernel), List.mem_of_getElem? (i := 1423) (by decide +kernel), List.mem_of_getElem? (i := 1424) (by decide +kernel)⟩
theorem lw_p47 : lw_okq (⟨"TinStationModel", "workOf", "(I)V"⟩, 57) := ⟨⟨by decide +kernel, by decide +kernel⟩, List.mem_of_getElem? (i := 1043) (by decide +kernel), List.mem_of_getElem? (i := 1427) (by decide +kernel), List.mem_of_getElem? (i := 1428) (by decide +kernel)⟩
def lw_privs_3 : List (MethodName × Nat) := [(⟨"TinStationModel", "refusesMend", "(III)I"⟩, 57), (⟨"TinStationModel", "isMended", "(I)Z"⟩, 57), (⟨"TinStationModel", "beginMend", "(III)V"⟩, 57), (⟨"TinStationModel", "canShed", "(I)Z"⟩, 57), (⟨"TinStationModel", "together", "(IZI)I"⟩, 57), (⟨"TinStationModel", "abortText", "()V"⟩, 57), (⟨"TinStationModel", "endText", "(I)V"⟩, 57), (⟨"TinStationModel", "tick", "()Z"⟩, 57), (⟨"TinStationModel", "runText", "()V"⟩, 57), (⟨"TinStationModel", "isLine", "(I)Z"⟩, 57), (⟨"TinStationModel", "doLine", "(IIII)Z"⟩, 57), (⟨"TinStationModel", "canCheck", "(III)Z"⟩, 57), (⟨"TinStationModel", "isSo", "(II)Z"⟩, 57), (⟨"TinStationModel", "mendAll", "()V"⟩, 57), (⟨"TinStationModel", "feedAll", "()V"⟩, 57), (⟨"TinStationModel", "workOf", "(I)V"⟩, 57)]
theorem lw_r3 : ∀ q ∈ lw_privs_3, lw_okq q := List.forall_mem_cons.mpr ⟨lw_p32, List.forall_mem_cons.mpr ⟨lw_p33, List.forall_mem_cons.mpr ⟨lw_p34, List.forall_mem_cons.mpr ⟨lw_p35, List.forall_mem_cons.mpr ⟨lw_p36, List.forall_mem_cons.mpr ⟨lw_p37, List.forall_mem_cons.mpr ⟨lw_p38, List.forall_mem_cons.mpr ⟨lw_p39, List.forall_mem_cons.mpr ⟨lw_p40, List.forall_mem_cons.mpr ⟨lw_p41, List.forall_mem_cons.mpr ⟨lw_p42, List.forall_mem_cons.mpr ⟨lw_p43, List.forall_mem_cons.mpr ⟨lw_p44, List.forall_mem_cons.mpr ⟨lw_p45, List.forall_mem_cons.mpr ⟨lw_p46, List.forall_mem_cons.mpr ⟨lw_p47, fun _ h => absurd h List.not_mem_nil⟩⟩⟩⟩⟩⟩⟩⟩⟩⟩⟩⟩⟩⟩⟩⟩
theorem lw_p48 : lw_okq (⟨"TinStationModel", "breathe", "(I)V"⟩, 57) := ⟨⟨by decide +kernel, by decide +kernel⟩, List.mem_of_getElem? (i := 1043) (by decide +kernel), List.mem_of_getElem? (i := 1431) (by decide +kernel), List.mem_of_getElem? (i := 1432) (by decide +kernel)⟩
theorem lw_p49 : lw_okq (⟨"TinStationModel", "leakAll", "()V"⟩, 57) := ⟨⟨by decide +kernel, by decide +kernel⟩, List.mem_of_getElem? (i := 1043) (by decide +kernel), List.mem_of_getElem? (i := 1435) (by decide +kernel), List.mem_of_getElem? (i := 1436) (by decide +kernel)⟩
theorem lw_p50 : lw_okq (⟨"TinStationModel", "mixAll", "()V"⟩, 57) := ⟨⟨by decide +kernel, by decide +kernel⟩, List.mem_of_getElem? (i := 1043) (by decide +kernel), List.mem_of_getElem? (i := 1440) (by decide +kernel), List.mem_of_getElem? (i := 1441) (by decide +kernel)⟩
theorem lw_p51 : lw_okq (⟨"TinStationModel", "brokenAt", "()I"⟩, 57) := ⟨⟨by decide +kernel, by decide +kernel⟩, List.mem_of_getElem? (i := 1043) (by decide +kernel), List.mem_of_getElem? (i := 1444) (by decide +kernel), List.mem_of_getElem? (i := 1445) (by decide +kernel)⟩
theorem lw_p52 : lw_okq (⟨"TinStationModel", "layAside", "(Z)V"⟩, 57) := ⟨⟨by decide +kernel, by decide +kernel⟩, List.mem_of_getElem? (i := 1043) (by decide +kernel), List.mem_of_getElem? (i := 1456) (by decide +kernel), List.mem_of_getElem? (i := 1457) (by decide +kernel)⟩
theorem lw_p53 : lw_okq (⟨"TinStationModel", "lays", "([IZ)V"⟩, 57) := ⟨⟨by decide +kernel, by decide +kernel⟩, List.mem_of_getElem? (i := 1043) (by decide +kernel), List.mem_of_getElem? (i := 1460) (by decide +kernel), List.mem_of_getElem? (i := 1461) (by decide +kernel)⟩
theorem lw_p54 : lw_okq (⟨"TinStationModel", "partOf", "(II)I"⟩, 57) := ⟨⟨by decide +kernel, by decide +kernel⟩, List.mem_of_getElem? (i := 1043) (by decide +kernel), List.mem_of_getElem? (i := 1472) (by decide +kernel), List.mem_of_getElem? (i := 1473) (by decide +kernel)⟩
theorem lw_p55 : lw_okq (⟨"TinStationModel", "worst", "(I)I"⟩, 57) := ⟨⟨by decide +kernel, by decide +kernel⟩, List.mem_of_getElem? (i := 1043) (by decide +kernel), List.mem_of_getElem? (i := 1480) (by decide +kernel), List.mem_of_getElem? (i := 1481) (by decide +kernel)⟩
theorem lw_p56 : lw_okq (⟨"TinStationModel", "tooMuch", "(II)I"⟩, 57) := ⟨⟨by decide +kernel, by decide +kernel⟩, List.mem_of_getElem? (i := 1043) (by decide +kernel), List.mem_of_getElem? (i := 1503) (by decide +kernel), List.mem_of_getElem? (i := 1504) (by decide +kernel)⟩
def lw_privs_4 : List (MethodName × Nat) := [(⟨"TinStationModel", "breathe", "(I)V"⟩, 57), (⟨"TinStationModel", "leakAll", "()V"⟩, 57), (⟨"TinStationModel", "mixAll", "()V"⟩, 57), (⟨"TinStationModel", "brokenAt", "()I"⟩, 57), (⟨"TinStationModel", "layAside", "(Z)V"⟩, 57), (⟨"TinStationModel", "lays", "([IZ)V"⟩, 57), (⟨"TinStationModel", "partOf", "(II)I"⟩, 57), (⟨"TinStationModel", "worst", "(I)I"⟩, 57), (⟨"TinStationModel", "tooMuch", "(II)I"⟩, 57)]
theorem lw_r4 : ∀ q ∈ lw_privs_4, lw_okq q := List.forall_mem_cons.mpr ⟨lw_p48, List.forall_mem_cons.mpr ⟨lw_p49, List.forall_mem_cons.mpr ⟨lw_p50, List.forall_mem_cons.mpr ⟨lw_p51, List.forall_mem_cons.mpr ⟨lw_p52, List.forall_mem_cons.mpr ⟨lw_p53, List.forall_mem_cons.mpr ⟨lw_p54, List.forall_mem_cons.mpr ⟨lw_p55, List.forall_mem_cons.mpr ⟨lw_p56, fun _ h => absurd h List.not_mem_nil⟩⟩⟩⟩⟩⟩⟩⟩⟩
def lw_privs : List (MethodName × Nat) := lw_privs_1 ++ (lw_privs_2 ++ (lw_privs_3 ++ (lw_privs_4)))
def lw_tbl : List Cond := k2_sels lw_privs ++ tables_1
theorem lw_privs_ok : ∀ q ∈ lw_privs, lw_okq q := by
  show ∀ q ∈ lw_privs_1 ++ (lw_privs_2 ++ (lw_privs_3 ++ (lw_privs_4))), lw_okq q
  exact List.forall_mem_append.mpr ⟨lw_r1, List.forall_mem_append.mpr ⟨lw_r2, List.forall_mem_append.mpr ⟨lw_r3, lw_r4⟩⟩⟩
end
section
def RX0 : String := "TinStation$Air"
def TX0 : u_T := fun k => match k with
  | 0 => ("TinStation$Air", "held", "[I", true)
  | 1 => ("TinStation$Air", "leaks", "[I", true)
  | 2 => ("TinStation$Air", "oneEnd", "[I", true)
  | 3 => ("TinStation$Air", "otherEnd", "[I", true)
  | 4 => ("TinStation$Air", "open", "[Z", true)
  | 5 => ("TinStation$Air", "stored", "[I", true)
  | 6 => ("TinStation$Air", "modules", "I", false)
  | _ => ("TinStation$Air", "hatches", "I", false)
def tyX0 : Nat → FieldType := fun k => match k with
  | 0 => .array .int
  | 1 => .array .int
  | 2 => .array .int
  | 3 => .array .int
  | 4 => .array .boolean
  | 5 => .array .int
  | 6 => .int
  | _ => .int
theorem nmX0 : ∀ a, a < 8 → ∀ b, b < 8 → a ≠ b → (TX0 a).2.1 ≠ (TX0 b).2.1 := by decide +kernel
theorem tyX0_ok : ∀ k, k < 8 → parseFieldDescriptor (TX0 k).2.2.1 = some (tyX0 k) := by decide +kernel
abbrev cX0_init : ByteArray := prog_2_method_1_code
def yX0_init : MethodName := ⟨RX0, "<init>", "()V"⟩
abbrev cX0_becomeLike : ByteArray := prog_2_method_2_code
def yX0_becomeLike : MethodName := ⟨RX0, "becomeLike", "(LTinStation$Air;)V"⟩
abbrev cX0_isSort : ByteArray := prog_2_method_3_code
def yX0_isSort : MethodName := ⟨RX0, "isSort", "(I)Z"⟩
abbrev cX0_hasModule : ByteArray := prog_2_method_4_code
def yX0_hasModule : MethodName := ⟨RX0, "hasModule", "(I)Z"⟩
abbrev cX0_hasHatch : ByteArray := prog_2_method_5_code
def yX0_hasHatch : MethodName := ⟨RX0, "hasHatch", "(I)Z"⟩
abbrev cX0_addModule : ByteArray := prog_2_method_6_code
def yX0_addModule : MethodName := ⟨RX0, "addModule", "()I"⟩
abbrev cX0_addHatch : ByteArray := prog_2_method_7_code
def yX0_addHatch : MethodName := ⟨RX0, "addHatch", "(II)I"⟩
abbrev cX0_setOpen : ByteArray := prog_2_method_8_code
def yX0_setOpen : MethodName := ⟨RX0, "setOpen", "(II)I"⟩
abbrev cX0_setHeld : ByteArray := prog_2_method_9_code
def yX0_setHeld : MethodName := ⟨RX0, "setHeld", "(III)I"⟩
abbrev cX0_setLeak : ByteArray := prog_2_method_10_code
def yX0_setLeak : MethodName := ⟨RX0, "setLeak", "(II)I"⟩
abbrev cX0_setStored : ByteArray := prog_2_method_11_code
def yX0_setStored : MethodName := ⟨RX0, "setStored", "(II)I"⟩
abbrev cX0_allGrams : ByteArray := prog_2_method_12_code
def yX0_allGrams : MethodName := ⟨RX0, "allGrams", "()I"⟩
abbrev cX0_amount : ByteArray := prog_2_method_13_code
def yX0_amount : MethodName := ⟨RX0, "amount", "(II)I"⟩
abbrev cX0_give : ByteArray := prog_2_method_14_code
def yX0_give : MethodName := ⟨RX0, "give", "(III)V"⟩
abbrev cX0_take : ByteArray := prog_2_method_15_code
def yX0_take : MethodName := ⟨RX0, "take", "(III)I"⟩
abbrev cX0_fill : ByteArray := prog_2_method_16_code
def yX0_fill : MethodName := ⟨RX0, "fill", "(II)V"⟩
abbrev cX0_draw : ByteArray := prog_2_method_17_code
def yX0_draw : MethodName := ⟨RX0, "draw", "(II)I"⟩
abbrev cX0_openBetween : ByteArray := prog_2_method_18_code
def yX0_openBetween : MethodName := ⟨RX0, "openBetween", "(II)Z"⟩
abbrev cX0_leakOut : ByteArray := prog_2_method_19_code
def yX0_leakOut : MethodName := ⟨RX0, "leakOut", "()V"⟩
abbrev cX0_mixThroughHatches : ByteArray := prog_2_method_20_code
def yX0_mixThroughHatches : MethodName := ⟨RX0, "mixThroughHatches", "()V"⟩
abbrev cX0_mix : ByteArray := prog_2_method_21_code
def yX0_mix : MethodName := ⟨RX0, "mix", "(II)V"⟩
def RX1 : String := "TinStation$Bounds"
def TX1 : u_T := fun k => match k with
  | 0 => ("TinStation$Bounds", "leastOxygen", "I", false)
  | 1 => ("TinStation$Bounds", "mostCarbon", "I", false)
  | 2 => ("TinStation$Bounds", "mostHeat", "I", false)
  | 3 => ("TinStation$Bounds", "broken", "Z", false)
  | 4 => ("TinStation$Bounds", "firstTick", "I", false)
  | _ => ("TinStation$Bounds", "firstModule", "I", false)
def tyX1 : Nat → FieldType := fun k => match k with
  | 0 => .int
  | 1 => .int
  | 2 => .int
  | 3 => .boolean
  | 4 => .int
  | _ => .int
theorem nmX1 : ∀ a, a < 6 → ∀ b, b < 6 → a ≠ b → (TX1 a).2.1 ≠ (TX1 b).2.1 := by decide +kernel
theorem tyX1_ok : ∀ k, k < 6 → parseFieldDescriptor (TX1 k).2.2.1 = some (tyX1 k) := by decide +kernel
abbrev cX1_init : ByteArray := prog_3_method_1_code
def yX1_init : MethodName := ⟨RX1, "<init>", "()V"⟩
abbrev cX1_becomeLike : ByteArray := prog_3_method_2_code
def yX1_becomeLike : MethodName := ⟨RX1, "becomeLike", "(LTinStation$Bounds;)V"⟩
abbrev cX1_setAll : ByteArray := prog_3_method_3_code
def yX1_setAll : MethodName := ⟨RX1, "setAll", "(III)I"⟩
abbrev cX1_isBound : ByteArray := prog_3_method_4_code
def yX1_isBound : MethodName := ⟨RX1, "isBound", "(I)Z"⟩
abbrev cX1_tellFirstBreak : ByteArray := prog_3_method_5_code
def yX1_tellFirstBreak : MethodName := ⟨RX1, "tellFirstBreak", "(I)I"⟩
abbrev cX1_look : ByteArray := prog_3_method_6_code
def yX1_look : MethodName := ⟨RX1, "look", "(LTinStation$Air;LTinStation$Crew;I)Z"⟩
abbrev cX1_breaksIn : ByteArray := prog_3_method_7_code
def yX1_breaksIn : MethodName := ⟨RX1, "breaksIn", "(ILTinStation$Air;)Z"⟩
abbrev cX1_keepFirst : ByteArray := prog_3_method_8_code
def yX1_keepFirst : MethodName := ⟨RX1, "keepFirst", "(II)V"⟩
def RX2 : String := "TinStation$Course"
def TX2 : u_T := fun k => match k with
  | 0 => ("TinStation$Course", "runs", "Z", false)
  | 1 => ("TinStation$Course", "halted", "Z", false)
  | 2 => ("TinStation$Course", "aborting", "Z", false)
  | 3 => ("TinStation$Course", "next", "I", false)
  | 4 => ("TinStation$Course", "safe", "I", false)
  | 5 => ("TinStation$Course", "waitLeft", "I", false)
  | _ => ("TinStation$Course", "ended", "I", false)
def tyX2 : Nat → FieldType := fun k => match k with
  | 0 => .boolean
  | 1 => .boolean
  | 2 => .boolean
  | 3 => .int
  | 4 => .int
  | 5 => .int
  | _ => .int
theorem nmX2 : ∀ a, a < 7 → ∀ b, b < 7 → a ≠ b → (TX2 a).2.1 ≠ (TX2 b).2.1 := by decide +kernel
theorem tyX2_ok : ∀ k, k < 7 → parseFieldDescriptor (TX2 k).2.2.1 = some (tyX2 k) := by decide +kernel
abbrev cX2_init : ByteArray := prog_4_method_1_code
def yX2_init : MethodName := ⟨RX2, "<init>", "()V"⟩
abbrev cX2_becomeLike : ByteArray := prog_4_method_2_code
def yX2_becomeLike : MethodName := ⟨RX2, "becomeLike", "(LTinStation$Course;)V"⟩
abbrev cX2_start : ByteArray := prog_4_method_3_code
def yX2_start : MethodName := ⟨RX2, "start", "()V"⟩
abbrev cX2_finish : ByteArray := prog_4_method_4_code
def yX2_finish : MethodName := ⟨RX2, "finish", "(I)V"⟩
abbrev cX2_goOnAt : ByteArray := prog_4_method_5_code
def yX2_goOnAt : MethodName := ⟨RX2, "goOnAt", "(I)V"⟩
abbrev cX2_giveUp : ByteArray := prog_4_method_6_code
def yX2_giveUp : MethodName := ⟨RX2, "giveUp", "()V"⟩
abbrev cX2_setHalted : ByteArray := prog_4_method_7_code
def yX2_setHalted : MethodName := ⟨RX2, "setHalted", "(I)I"⟩
abbrev cX2_tellOf : ByteArray := prog_4_method_8_code
def yX2_tellOf : MethodName := ⟨RX2, "tellOf", "(I)I"⟩
def RX3 : String := "TinStation$Crew"
def TX3 : u_T := fun k => match k with
  | 0 => ("TinStation$Crew", "place", "[I", true)
  | 1 => ("TinStation$Crew", "does", "[I", true)
  | 2 => ("TinStation$Crew", "mended", "[I", true)
  | 3 => ("TinStation$Crew", "ticksLeft", "[I", true)
  | 4 => ("TinStation$Crew", "shortOfAir", "[I", true)
  | 5 => ("TinStation$Crew", "dry", "[I", true)
  | _ => ("TinStation$Crew", "people", "I", false)
def tyX3 : Nat → FieldType := fun k => match k with
  | 0 => .array .int
  | 1 => .array .int
  | 2 => .array .int
  | 3 => .array .int
  | 4 => .array .int
  | 5 => .array .int
  | _ => .int
theorem nmX3 : ∀ a, a < 7 → ∀ b, b < 7 → a ≠ b → (TX3 a).2.1 ≠ (TX3 b).2.1 := by decide +kernel
theorem tyX3_ok : ∀ k, k < 7 → parseFieldDescriptor (TX3 k).2.2.1 = some (tyX3 k) := by decide +kernel
abbrev cX3_init : ByteArray := prog_5_method_1_code
def yX3_init : MethodName := ⟨RX3, "<init>", "()V"⟩
abbrev cX3_becomeLike : ByteArray := prog_5_method_2_code
def yX3_becomeLike : MethodName := ⟨RX3, "becomeLike", "(LTinStation$Crew;)V"⟩
abbrev cX3_has : ByteArray := prog_5_method_3_code
def yX3_has : MethodName := ⟨RX3, "has", "(I)Z"⟩
abbrev cX3_mends : ByteArray := prog_5_method_4_code
def yX3_mends : MethodName := ⟨RX3, "mends", "(I)Z"⟩
abbrev cX3_addPerson : ByteArray := prog_5_method_5_code
def yX3_addPerson : MethodName := ⟨RX3, "addPerson", "(I)I"⟩
abbrev cX3_setDoing : ByteArray := prog_5_method_6_code
def yX3_setDoing : MethodName := ⟨RX3, "setDoing", "(II)I"⟩
abbrev cX3_tellOf : ByteArray := prog_5_method_7_code
def yX3_tellOf : MethodName := ⟨RX3, "tellOf", "(II)I"⟩
abbrev cX3_startMending : ByteArray := prog_5_method_8_code
def yX3_startMending : MethodName := ⟨RX3, "startMending", "(III)V"⟩
abbrev cX3_isMended : ByteArray := prog_5_method_9_code
def yX3_isMended : MethodName := ⟨RX3, "isMended", "(I)Z"⟩
abbrev cX3_menders : ByteArray := prog_5_method_10_code
def yX3_menders : MethodName := ⟨RX3, "menders", "()I"⟩
abbrev cX3_anyoneIn : ByteArray := prog_5_method_11_code
def yX3_anyoneIn : MethodName := ⟨RX3, "anyoneIn", "(I)Z"⟩
abbrev cX3_mendOn : ByteArray := prog_5_method_12_code
def yX3_mendOn : MethodName := ⟨RX3, "mendOn", "(LTinStation$Plant;)V"⟩
abbrev cX3_live : ByteArray := prog_5_method_13_code
def yX3_live : MethodName := ⟨RX3, "live", "(LTinStation$Air;)V"⟩
abbrev cX3_breathe : ByteArray := prog_5_method_14_code
def yX3_breathe : MethodName := ⟨RX3, "breathe", "(ILTinStation$Air;)V"⟩
abbrev cX3_drink : ByteArray := prog_5_method_15_code
def yX3_drink : MethodName := ⟨RX3, "drink", "(ILTinStation$Air;)V"⟩
def RX4 : String := "TinStation$Hunt"
def TX4 : u_T := fun k => match k with
  | 0 => ("TinStation$Hunt", "part", "[I", true)
  | _ => ("TinStation$Hunt", "suspected", "I", false)
def tyX4 : Nat → FieldType := fun k => match k with
  | 0 => .array .int
  | _ => .int
theorem nmX4 : ∀ a, a < 2 → ∀ b, b < 2 → a ≠ b → (TX4 a).2.1 ≠ (TX4 b).2.1 := by decide +kernel
theorem tyX4_ok : ∀ k, k < 2 → parseFieldDescriptor (TX4 k).2.2.1 = some (tyX4 k) := by decide +kernel
abbrev cX4_init : ByteArray := prog_6_method_1_code
def yX4_init : MethodName := ⟨RX4, "<init>", "()V"⟩
abbrev cX4_startOver : ByteArray := prog_6_method_2_code
def yX4_startOver : MethodName := ⟨RX4, "startOver", "(LTinStation$Air;)I"⟩
abbrev cX4_narrow : ByteArray := prog_6_method_3_code
def yX4_narrow : MethodName := ⟨RX4, "narrow", "(LTinStation$Air;II)I"⟩
abbrev cX4_bestTest : ByteArray := prog_6_method_4_code
def yX4_bestTest : MethodName := ⟨RX4, "bestTest", "(LTinStation$Air;I)I"⟩
abbrev cX4_leftAtWorst : ByteArray := prog_6_method_5_code
def yX4_leftAtWorst : MethodName := ⟨RX4, "leftAtWorst", "(LTinStation$Air;I)I"⟩
abbrev cX4_findParts : ByteArray := prog_6_method_6_code
def yX4_findParts : MethodName := ⟨RX4, "findParts", "(LTinStation$Air;I)V"⟩
abbrev cX4_join : ByteArray := prog_6_method_7_code
def yX4_join : MethodName := ⟨RX4, "join", "(LTinStation$Air;I)V"⟩
def RX5 : String := "TinStation$Journal"
def TX5 : u_T := fun k => match k with
  | 0 => ("TinStation$Journal", "readSensor", "[I", true)
  | 1 => ("TinStation$Journal", "readTick", "[I", true)
  | 2 => ("TinStation$Journal", "readValue", "[I", true)
  | 3 => ("TinStation$Journal", "heardTick", "[I", true)
  | 4 => ("TinStation$Journal", "setSensor", "[I", true)
  | 5 => ("TinStation$Journal", "setTick", "[I", true)
  | 6 => ("TinStation$Journal", "setOver", "[I", true)
  | 7 => ("TinStation$Journal", "readings", "I", false)
  | 8 => ("TinStation$Journal", "calibrations", "I", false)
  | _ => ("TinStation$Journal", "lag", "I", false)
def tyX5 : Nat → FieldType := fun k => match k with
  | 0 => .array .int
  | 1 => .array .int
  | 2 => .array .int
  | 3 => .array .int
  | 4 => .array .int
  | 5 => .array .int
  | 6 => .array .int
  | 7 => .int
  | 8 => .int
  | _ => .int
theorem nmX5 : ∀ a, a < 10 → ∀ b, b < 10 → a ≠ b → (TX5 a).2.1 ≠ (TX5 b).2.1 := by decide +kernel
theorem tyX5_ok : ∀ k, k < 10 → parseFieldDescriptor (TX5 k).2.2.1 = some (tyX5 k) := by decide +kernel
abbrev cX5_init : ByteArray := prog_7_method_1_code
def yX5_init : MethodName := ⟨RX5, "<init>", "()V"⟩
abbrev cX5_isSensor : ByteArray := prog_7_method_2_code
def yX5_isSensor : MethodName := ⟨RX5, "isSensor", "(I)Z"⟩
abbrev cX5_addReading : ByteArray := prog_7_method_3_code
def yX5_addReading : MethodName := ⟨RX5, "addReading", "(III)I"⟩
abbrev cX5_addCalibration : ByteArray := prog_7_method_4_code
def yX5_addCalibration : MethodName := ⟨RX5, "addCalibration", "(III)I"⟩
abbrev cX5_setDelay : ByteArray := prog_7_method_5_code
def yX5_setDelay : MethodName := ⟨RX5, "setDelay", "(I)I"⟩
abbrev cX5_latestHeard : ByteArray := prog_7_method_6_code
def yX5_latestHeard : MethodName := ⟨RX5, "latestHeard", "(II)I"⟩
abbrev cX5_workedBack : ByteArray := prog_7_method_7_code
def yX5_workedBack : MethodName := ⟨RX5, "workedBack", "(I)I"⟩
abbrev cX5_tooMuch : ByteArray := prog_7_method_8_code
def yX5_tooMuch : MethodName := ⟨RX5, "tooMuch", "(II)I"⟩
abbrev cX5_between : ByteArray := prog_7_method_9_code
def yX5_between : MethodName := ⟨RX5, "between", "(III)I"⟩
def RX6 : String := "TinStation$Plant"
def TX6 : u_T := fun k => match k with
  | 0 => ("TinStation$Plant", "kind", "[I", true)
  | 1 => ("TinStation$Plant", "place", "[I", true)
  | 2 => ("TinStation$Plant", "rate", "[I", true)
  | 3 => ("TinStation$Plant", "power", "[I", true)
  | 4 => ("TinStation$Plant", "harm", "[I", true)
  | 5 => ("TinStation$Plant", "life", "[I", true)
  | 6 => ("TinStation$Plant", "wear", "[I", true)
  | 7 => ("TinStation$Plant", "on", "[Z", true)
  | 8 => ("TinStation$Plant", "fault", "[Z", true)
  | 9 => ("TinStation$Plant", "ran", "[Z", true)
  | 10 => ("TinStation$Plant", "sparesLeft", "[I", true)
  | 11 => ("TinStation$Plant", "machines", "I", false)
  | 12 => ("TinStation$Plant", "light", "I", false)
  | 13 => ("TinStation$Plant", "store", "I", false)
  | _ => ("TinStation$Plant", "charge", "I", false)
def tyX6 : Nat → FieldType := fun k => match k with
  | 0 => .array .int
  | 1 => .array .int
  | 2 => .array .int
  | 3 => .array .int
  | 4 => .array .int
  | 5 => .array .int
  | 6 => .array .int
  | 7 => .array .boolean
  | 8 => .array .boolean
  | 9 => .array .boolean
  | 10 => .array .int
  | 11 => .int
  | 12 => .int
  | 13 => .int
  | _ => .int
theorem nmX6 : ∀ a, a < 15 → ∀ b, b < 15 → a ≠ b → (TX6 a).2.1 ≠ (TX6 b).2.1 := by decide +kernel
theorem tyX6_ok : ∀ k, k < 15 → parseFieldDescriptor (TX6 k).2.2.1 = some (tyX6 k) := by decide +kernel
abbrev cX6_init : ByteArray := prog_8_method_1_code
def yX6_init : MethodName := ⟨RX6, "<init>", "()V"⟩
abbrev cX6_becomeLike : ByteArray := prog_8_method_2_code
def yX6_becomeLike : MethodName := ⟨RX6, "becomeLike", "(LTinStation$Plant;)V"⟩
abbrev cX6_isKind : ByteArray := prog_8_method_3_code
def yX6_isKind : MethodName := ⟨RX6, "isKind", "(I)Z"⟩
abbrev cX6_has : ByteArray := prog_8_method_4_code
def yX6_has : MethodName := ⟨RX6, "has", "(I)Z"⟩
abbrev cX6_addMachine : ByteArray := prog_8_method_5_code
def yX6_addMachine : MethodName := ⟨RX6, "addMachine", "(IIII)I"⟩
abbrev cX6_isUse : ByteArray := prog_8_method_6_code
def yX6_isUse : MethodName := ⟨RX6, "isUse", "(I)Z"⟩
abbrev cX6_rateAs : ByteArray := prog_8_method_7_code
def yX6_rateAs : MethodName := ⟨RX6, "rateAs", "(II)I"⟩
abbrev cX6_isUnder : ByteArray := prog_8_method_8_code
def yX6_isUnder : MethodName := ⟨RX6, "isUnder", "(II)Z"⟩
abbrev cX6_setOn : ByteArray := prog_8_method_9_code
def yX6_setOn : MethodName := ⟨RX6, "setOn", "(II)I"⟩
abbrev cX6_tellOf : ByteArray := prog_8_method_10_code
def yX6_tellOf : MethodName := ⟨RX6, "tellOf", "(II)I"⟩
abbrev cX6_setSpares : ByteArray := prog_8_method_11_code
def yX6_setSpares : MethodName := ⟨RX6, "setSpares", "(II)I"⟩
abbrev cX6_setSun : ByteArray := prog_8_method_12_code
def yX6_setSun : MethodName := ⟨RX6, "setSun", "(II)I"⟩
abbrev cX6_setBattery : ByteArray := prog_8_method_13_code
def yX6_setBattery : MethodName := ⟨RX6, "setBattery", "(I)I"⟩
abbrev cX6_makeNew : ByteArray := prog_8_method_14_code
def yX6_makeNew : MethodName := ⟨RX6, "makeNew", "(I)V"⟩
abbrev cX6_isReady : ByteArray := prog_8_method_15_code
def yX6_isReady : MethodName := ⟨RX6, "isReady", "(I)Z"⟩
abbrev cX6_sharePower : ByteArray := prog_8_method_16_code
def yX6_sharePower : MethodName := ⟨RX6, "sharePower", "(I)V"⟩
abbrev cX6_workAll : ByteArray := prog_8_method_17_code
def yX6_workAll : MethodName := ⟨RX6, "workAll", "(LTinStation$Air;)V"⟩
abbrev cX6_work : ByteArray := prog_8_method_18_code
def yX6_work : MethodName := ⟨RX6, "work", "(ILTinStation$Air;)V"⟩
abbrev cX6_split : ByteArray := prog_8_method_19_code
def yX6_split : MethodName := ⟨RX6, "split", "(ILTinStation$Air;)V"⟩
abbrev cX6_distil : ByteArray := prog_8_method_20_code
def yX6_distil : MethodName := ⟨RX6, "distil", "(ILTinStation$Air;)V"⟩
abbrev cX6_shedding : ByteArray := prog_8_method_21_code
def yX6_shedding : MethodName := ⟨RX6, "shedding", "(II)I"⟩
abbrev cX6_readySet : ByteArray := prog_8_method_22_code
def yX6_readySet : MethodName := ⟨RX6, "readySet", "()I"⟩
abbrev cX6_sumOver : ByteArray := prog_8_method_23_code
def yX6_sumOver : MethodName := ⟨RX6, "sumOver", "(I[I)I"⟩
abbrev cX6_leastHarm : ByteArray := prog_8_method_24_code
def yX6_leastHarm : MethodName := ⟨RX6, "leastHarm", "(I)I"⟩
def RX7 : String := "TinStation$Script"
def TX7 : u_T := fun k => match k with
  | 0 => ("TinStation$Script", "op", "[I", true)
  | 1 => ("TinStation$Script", "a", "[I", true)
  | 2 => ("TinStation$Script", "b", "[I", true)
  | 3 => ("TinStation$Script", "c", "[I", true)
  | _ => ("TinStation$Script", "lines", "I", false)
def tyX7 : Nat → FieldType := fun k => match k with
  | 0 => .array .int
  | 1 => .array .int
  | 2 => .array .int
  | 3 => .array .int
  | _ => .int
theorem nmX7 : ∀ a, a < 5 → ∀ b, b < 5 → a ≠ b → (TX7 a).2.1 ≠ (TX7 b).2.1 := by decide +kernel
theorem tyX7_ok : ∀ k, k < 5 → parseFieldDescriptor (TX7 k).2.2.1 = some (tyX7 k) := by decide +kernel
abbrev cX7_init : ByteArray := prog_9_method_1_code
def yX7_init : MethodName := ⟨RX7, "<init>", "()V"⟩
abbrev cX7_has : ByteArray := prog_9_method_2_code
def yX7_has : MethodName := ⟨RX7, "has", "(I)Z"⟩
abbrev cX7_addLine : ByteArray := prog_9_method_3_code
def yX7_addLine : MethodName := ⟨RX7, "addLine", "(IIII)I"⟩
def RX8 : String := "TinStation$World"
def TX8 : u_T := fun k => match k with
  | 0 => ("TinStation$World", "script", "LTinStation$Script;", true)
  | 1 => ("TinStation$World", "air", "LTinStation$Air;", true)
  | 2 => ("TinStation$World", "crew", "LTinStation$Crew;", true)
  | 3 => ("TinStation$World", "plant", "LTinStation$Plant;", true)
  | 4 => ("TinStation$World", "bounds", "LTinStation$Bounds;", true)
  | 5 => ("TinStation$World", "course", "LTinStation$Course;", true)
  | _ => ("TinStation$World", "tick", "I", false)
def tyX8 : Nat → FieldType := fun k => match k with
  | 0 => .object "TinStation$Script"
  | 1 => .object "TinStation$Air"
  | 2 => .object "TinStation$Crew"
  | 3 => .object "TinStation$Plant"
  | 4 => .object "TinStation$Bounds"
  | 5 => .object "TinStation$Course"
  | _ => .int
theorem nmX8 : ∀ a, a < 7 → ∀ b, b < 7 → a ≠ b → (TX8 a).2.1 ≠ (TX8 b).2.1 := by decide +kernel
theorem tyX8_ok : ∀ k, k < 7 → parseFieldDescriptor (TX8 k).2.2.1 = some (tyX8 k) := by decide +kernel
abbrev cX8_init : ByteArray := prog_10_method_1_code
def yX8_init : MethodName := ⟨RX8, "<init>", "(LTinStation$Script;)V"⟩
abbrev cX8_becomeLike : ByteArray := prog_10_method_2_code
def yX8_becomeLike : MethodName := ⟨RX8, "becomeLike", "(LTinStation$World;)V"⟩
abbrev cX8_passTick : ByteArray := prog_10_method_3_code
def yX8_passTick : MethodName := ⟨RX8, "passTick", "()Z"⟩
abbrev cX8_walk : ByteArray := prog_10_method_4_code
def yX8_walk : MethodName := ⟨RX8, "walk", "(II)I"⟩
abbrev cX8_mend : ByteArray := prog_10_method_5_code
def yX8_mend : MethodName := ⟨RX8, "mend", "(III)I"⟩
abbrev cX8_doText : ByteArray := prog_10_method_6_code
def yX8_doText : MethodName := ⟨RX8, "doText", "()V"⟩
abbrev cX8_lineAfter : ByteArray := prog_10_method_7_code
def yX8_lineAfter : MethodName := ⟨RX8, "lineAfter", "(I)I"⟩
abbrev cX8_actByText : ByteArray := prog_10_method_8_code
def yX8_actByText : MethodName := ⟨RX8, "actByText", "(I)I"⟩
abbrev cX8_lineAfterCheck : ByteArray := prog_10_method_9_code
def yX8_lineAfterCheck : MethodName := ⟨RX8, "lineAfterCheck", "(I)I"⟩
abbrev cX8_isCheck : ByteArray := prog_10_method_10_code
def yX8_isCheck : MethodName := ⟨RX8, "isCheck", "(III)Z"⟩
abbrev cX8_holds : ByteArray := prog_10_method_11_code
def yX8_holds : MethodName := ⟨RX8, "holds", "(III)Z"⟩
def RX9 : String := "TinStation"
def TX9 : u_T := fun k => match k with
  | 0 => ("TinStation", "script", "LTinStation$Script;", true)
  | 1 => ("TinStation", "now", "LTinStation$World;", true)
  | 2 => ("TinStation", "later", "LTinStation$World;", true)
  | 3 => ("TinStation", "leakHunt", "LTinStation$Hunt;", true)
  | 4 => ("TinStation", "journal", "LTinStation$Journal;", true)
  | 5 => ("TinStation", "waiting", "[I", true)
  | 6 => ("TinStation", "findings", "[I", true)
  | 7 => ("TinStation", "waitingNumbers", "I", false)
  | 8 => ("TinStation", "stationMass", "I", false)
  | _ => ("TinStation", "stationSpeed", "I", false)
def tyX9 : Nat → FieldType := fun k => match k with
  | 0 => .object "TinStation$Script"
  | 1 => .object "TinStation$World"
  | 2 => .object "TinStation$World"
  | 3 => .object "TinStation$Hunt"
  | 4 => .object "TinStation$Journal"
  | 5 => .array .int
  | 6 => .array .int
  | 7 => .int
  | 8 => .int
  | _ => .int
theorem nmX9 : ∀ a, a < 10 → ∀ b, b < 10 → a ≠ b → (TX9 a).2.1 ≠ (TX9 b).2.1 := by decide +kernel
theorem tyX9_ok : ∀ k, k < 10 → parseFieldDescriptor (TX9 k).2.2.1 = some (tyX9 k) := by decide +kernel
abbrev cX9_init : ByteArray := prog_1_method_1_code
def yX9_init : MethodName := ⟨RX9, "<init>", "()V"⟩
abbrev cX9_module : ByteArray := prog_1_method_2_code
def yX9_module : MethodName := ⟨RX9, "module", "()I"⟩
abbrev cX9_hatch : ByteArray := prog_1_method_3_code
def yX9_hatch : MethodName := ⟨RX9, "hatch", "(II)I"⟩
abbrev cX9_shut : ByteArray := prog_1_method_4_code
def yX9_shut : MethodName := ⟨RX9, "shut", "(II)I"⟩
abbrev cX9_gas : ByteArray := prog_1_method_5_code
def yX9_gas : MethodName := ⟨RX9, "gas", "(III)I"⟩
abbrev cX9_leak : ByteArray := prog_1_method_6_code
def yX9_leak : MethodName := ⟨RX9, "leak", "(II)I"⟩
abbrev cX9_tank : ByteArray := prog_1_method_7_code
def yX9_tank : MethodName := ⟨RX9, "tank", "(II)I"⟩
abbrev cX9_grams : ByteArray := prog_1_method_8_code
def yX9_grams : MethodName := ⟨RX9, "grams", "()I"⟩
abbrev cX9_person : ByteArray := prog_1_method_9_code
def yX9_person : MethodName := ⟨RX9, "person", "(I)I"⟩
abbrev cX9_go : ByteArray := prog_1_method_10_code
def yX9_go : MethodName := ⟨RX9, "go", "(II)I"⟩
abbrev cX9_doing : ByteArray := prog_1_method_11_code
def yX9_doing : MethodName := ⟨RX9, "doing", "(II)I"⟩
abbrev cX9_about : ByteArray := prog_1_method_12_code
def yX9_about : MethodName := ⟨RX9, "about", "(II)I"⟩
abbrev cX9_machine : ByteArray := prog_1_method_13_code
def yX9_machine : MethodName := ⟨RX9, "machine", "(IIII)I"⟩
abbrev cX9_as : ByteArray := prog_1_method_14_code
def yX9_as : MethodName := ⟨RX9, "as", "(II)I"⟩
abbrev cX9_turn : ByteArray := prog_1_method_15_code
def yX9_turn : MethodName := ⟨RX9, "turn", "(II)I"⟩
abbrev cX9_of : ByteArray := prog_1_method_16_code
def yX9_of : MethodName := ⟨RX9, "of", "(II)I"⟩
abbrev cX9_spares : ByteArray := prog_1_method_17_code
def yX9_spares : MethodName := ⟨RX9, "spares", "(II)I"⟩
abbrev cX9_repair : ByteArray := prog_1_method_18_code
def yX9_repair : MethodName := ⟨RX9, "repair", "(III)I"⟩
abbrev cX9_shed : ByteArray := prog_1_method_19_code
def yX9_shed : MethodName := ⟨RX9, "shed", "(II)I"⟩
abbrev cX9_sun : ByteArray := prog_1_method_20_code
def yX9_sun : MethodName := ⟨RX9, "sun", "(II)I"⟩
abbrev cX9_battery : ByteArray := prog_1_method_21_code
def yX9_battery : MethodName := ⟨RX9, "battery", "(I)I"⟩
abbrev cX9_bounds : ByteArray := prog_1_method_22_code
def yX9_bounds : MethodName := ⟨RX9, "bounds", "(III)I"⟩
abbrev cX9_ticks : ByteArray := prog_1_method_23_code
def yX9_ticks : MethodName := ⟨RX9, "ticks", "(I)I"⟩
abbrev cX9_broke : ByteArray := prog_1_method_24_code
def yX9_broke : MethodName := ⟨RX9, "broke", "(I)I"⟩
abbrev cX9_ahead : ByteArray := prog_1_method_25_code
def yX9_ahead : MethodName := ⟨RX9, "ahead", "(I)I"⟩
abbrev cX9_line : ByteArray := prog_1_method_26_code
def yX9_line : MethodName := ⟨RX9, "line", "(IIII)I"⟩
abbrev cX9_erase : ByteArray := prog_1_method_27_code
def yX9_erase : MethodName := ⟨RX9, "erase", "()I"⟩
abbrev cX9_begin : ByteArray := prog_1_method_28_code
def yX9_begin : MethodName := ⟨RX9, "begin", "()I"⟩
abbrev cX9_halt : ByteArray := prog_1_method_29_code
def yX9_halt : MethodName := ⟨RX9, "halt", "(I)I"⟩
abbrev cX9_abort : ByteArray := prog_1_method_30_code
def yX9_abort : MethodName := ⟨RX9, "abort", "()I"⟩
abbrev cX9_text : ByteArray := prog_1_method_31_code
def yX9_text : MethodName := ⟨RX9, "text", "(I)I"⟩
abbrev cX9_hunt : ByteArray := prog_1_method_32_code
def yX9_hunt : MethodName := ⟨RX9, "hunt", "()I"⟩
abbrev cX9_test : ByteArray := prog_1_method_33_code
def yX9_test : MethodName := ⟨RX9, "test", "(II)I"⟩
abbrev cX9_best : ByteArray := prog_1_method_34_code
def yX9_best : MethodName := ⟨RX9, "best", "(I)I"⟩
abbrev cX9_suspects : ByteArray := prog_1_method_35_code
def yX9_suspects : MethodName := ⟨RX9, "suspects", "()I"⟩
abbrev cX9_read : ByteArray := prog_1_method_36_code
def yX9_read : MethodName := ⟨RX9, "read", "(II)I"⟩
abbrev cX9_calibrate : ByteArray := prog_1_method_37_code
def yX9_calibrate : MethodName := ⟨RX9, "calibrate", "(II)I"⟩
abbrev cX9_worked : ByteArray := prog_1_method_38_code
def yX9_worked : MethodName := ⟨RX9, "worked", "(I)I"⟩
abbrev cX9_delay : ByteArray := prog_1_method_39_code
def yX9_delay : MethodName := ⟨RX9, "delay", "(I)I"⟩
abbrev cX9_known : ByteArray := prog_1_method_40_code
def yX9_known : MethodName := ⟨RX9, "known", "(II)I"⟩
abbrev cX9_mass : ByteArray := prog_1_method_41_code
def yX9_mass : MethodName := ⟨RX9, "mass", "(II)I"⟩
abbrev cX9_dock : ByteArray := prog_1_method_42_code
def yX9_dock : MethodName := ⟨RX9, "dock", "(II)I"⟩
abbrev cX9_undock : ByteArray := prog_1_method_43_code
def yX9_undock : MethodName := ⟨RX9, "undock", "(I)I"⟩
abbrev cX9_tell : ByteArray := prog_1_method_44_code
def yX9_tell : MethodName := ⟨RX9, "tell", "(I)I"⟩
abbrev cX9_check : ByteArray := prog_1_method_45_code
def yX9_check : MethodName := ⟨RX9, "check", "(II)I"⟩
abbrev cX9_count : ByteArray := prog_1_method_46_code
def yX9_count : MethodName := ⟨RX9, "count", "(I)I"⟩
abbrev cX9_found : ByteArray := prog_1_method_47_code
def yX9_found : MethodName := ⟨RX9, "found", "(I)I"⟩
abbrev cX9_counted : ByteArray := prog_1_method_48_code
def yX9_counted : MethodName := ⟨RX9, "counted", "(I)I"⟩
abbrev cX9_setMass : ByteArray := prog_1_method_49_code
def yX9_setMass : MethodName := ⟨RX9, "setMass", "(I)I"⟩
abbrev cX9_setSpeed : ByteArray := prog_1_method_50_code
def yX9_setSpeed : MethodName := ⟨RX9, "setSpeed", "(I)I"⟩
abbrev cX9_isMass : ByteArray := prog_1_method_51_code
def yX9_isMass : MethodName := ⟨RX9, "isMass", "(I)Z"⟩
abbrev cX9_isSpeed : ByteArray := prog_1_method_52_code
def yX9_isSpeed : MethodName := ⟨RX9, "isSpeed", "(I)Z"⟩
abbrev cX9_isSwitch : ByteArray := prog_1_method_53_code
def yX9_isSwitch : MethodName := ⟨RX9, "isSwitch", "(I)Z"⟩
abbrev cX9_one : ByteArray := prog_1_method_54_code
def yX9_one : MethodName := ⟨RX9, "one", "(Z)I"⟩
abbrev cX9_copy : ByteArray := prog_1_method_55_code
def yX9_copy : MethodName := ⟨RX9, "copy", "([I[I)V"⟩
abbrev cX9_copyFlags : ByteArray := prog_1_method_56_code
def yX9_copyFlags : MethodName := ⟨RX9, "copyFlags", "([Z[Z)V"⟩
def RX10 : String := "TinStationModel"
def TX10 : u_T := fun k => match k with
  | 0 => ("TinStationModel", "modules", "I", false)
  | 1 => ("TinStationModel", "gas", "[I", true)
  | 2 => ("TinStationModel", "heat", "[I", true)
  | 3 => ("TinStationModel", "leak", "[I", true)
  | 4 => ("TinStationModel", "hatches", "I", false)
  | 5 => ("TinStationModel", "from", "[I", true)
  | 6 => ("TinStationModel", "to", "[I", true)
  | 7 => ("TinStationModel", "isOpen", "[I", true)
  | 8 => ("TinStationModel", "tank", "[I", true)
  | 9 => ("TinStationModel", "people", "I", false)
  | 10 => ("TinStationModel", "place", "[I", true)
  | 11 => ("TinStationModel", "does", "[I", true)
  | 12 => ("TinStationModel", "mends", "[I", true)
  | 13 => ("TinStationModel", "hours", "[I", true)
  | 14 => ("TinStationModel", "shorts", "[I", true)
  | 15 => ("TinStationModel", "dry", "[I", true)
  | 16 => ("TinStationModel", "machines", "I", false)
  | 17 => ("TinStationModel", "kind", "[I", true)
  | 18 => ("TinStationModel", "room", "[I", true)
  | 19 => ("TinStationModel", "rate", "[I", true)
  | 20 => ("TinStationModel", "power", "[I", true)
  | 21 => ("TinStationModel", "harm", "[I", true)
  | 22 => ("TinStationModel", "life", "[I", true)
  | 23 => ("TinStationModel", "wear", "[I", true)
  | 24 => ("TinStationModel", "isOn", "[I", true)
  | 25 => ("TinStationModel", "fault", "[I", true)
  | 26 => ("TinStationModel", "ran", "[I", true)
  | 27 => ("TinStationModel", "spares", "[I", true)
  | 28 => ("TinStationModel", "misc", "[I", true)
  | 29 => ("TinStationModel", "light", "I", false)
  | 30 => ("TinStationModel", "store", "I", false)
  | 31 => ("TinStationModel", "leastOxygen", "I", false)
  | 32 => ("TinStationModel", "mostCarbon", "I", false)
  | 33 => ("TinStationModel", "mostHeat", "I", false)
  | 34 => ("TinStationModel", "lines", "I", false)
  | 35 => ("TinStationModel", "op", "[I", true)
  | 36 => ("TinStationModel", "lineA", "[I", true)
  | 37 => ("TinStationModel", "lineB", "[I", true)
  | 38 => ("TinStationModel", "lineC", "[I", true)
  | 39 => ("TinStationModel", "suspects", "I", false)
  | 40 => ("TinStationModel", "readings", "I", false)
  | 41 => ("TinStationModel", "sensor", "[I", true)
  | 42 => ("TinStationModel", "readAt", "[I", true)
  | 43 => ("TinStationModel", "value", "[I", true)
  | 44 => ("TinStationModel", "heardAt", "[I", true)
  | 45 => ("TinStationModel", "calibrations", "I", false)
  | 46 => ("TinStationModel", "calSensor", "[I", true)
  | 47 => ("TinStationModel", "calAt", "[I", true)
  | 48 => ("TinStationModel", "over", "[I", true)
  | 49 => ("TinStationModel", "delay", "I", false)
  | 50 => ("TinStationModel", "mass", "I", false)
  | 51 => ("TinStationModel", "speed", "I", false)
  | 52 => ("TinStationModel", "waits", "I", false)
  | 53 => ("TinStationModel", "waiting", "[I", true)
  | 54 => ("TinStationModel", "found", "[I", true)
  | 55 => ("TinStationModel", "aside", "[I", true)
  | _ => ("TinStationModel", "asideAt", "I", false)
def tyX10 : Nat → FieldType := fun k => match k with
  | 0 => .int
  | 1 => .array .int
  | 2 => .array .int
  | 3 => .array .int
  | 4 => .int
  | 5 => .array .int
  | 6 => .array .int
  | 7 => .array .int
  | 8 => .array .int
  | 9 => .int
  | 10 => .array .int
  | 11 => .array .int
  | 12 => .array .int
  | 13 => .array .int
  | 14 => .array .int
  | 15 => .array .int
  | 16 => .int
  | 17 => .array .int
  | 18 => .array .int
  | 19 => .array .int
  | 20 => .array .int
  | 21 => .array .int
  | 22 => .array .int
  | 23 => .array .int
  | 24 => .array .int
  | 25 => .array .int
  | 26 => .array .int
  | 27 => .array .int
  | 28 => .array .int
  | 29 => .int
  | 30 => .int
  | 31 => .int
  | 32 => .int
  | 33 => .int
  | 34 => .int
  | 35 => .array .int
  | 36 => .array .int
  | 37 => .array .int
  | 38 => .array .int
  | 39 => .int
  | 40 => .int
  | 41 => .array .int
  | 42 => .array .int
  | 43 => .array .int
  | 44 => .array .int
  | 45 => .int
  | 46 => .array .int
  | 47 => .array .int
  | 48 => .array .int
  | 49 => .int
  | 50 => .int
  | 51 => .int
  | 52 => .int
  | 53 => .array .int
  | 54 => .array .int
  | 55 => .array .int
  | _ => .int
theorem nmX10 : ∀ a, a < 57 → ∀ b, b < 57 → a ≠ b → (TX10 a).2.1 ≠ (TX10 b).2.1 := by decide +kernel
theorem tyX10_ok : ∀ k, k < 57 → parseFieldDescriptor (TX10 k).2.2.1 = some (tyX10 k) := by decide +kernel
abbrev cX10_init : ByteArray := prog_12_method_1_code
def yX10_init : MethodName := ⟨RX10, "<init>", "()V"⟩
abbrev cX10_finding : ByteArray := prog_12_method_2_code
def yX10_finding : MethodName := ⟨RX10, "finding", "(I)I"⟩
abbrev cX10_isIn : ByteArray := prog_12_method_3_code
def yX10_isIn : MethodName := ⟨RX10, "isIn", "(III)Z"⟩
abbrev cX10_isModule : ByteArray := prog_12_method_4_code
def yX10_isModule : MethodName := ⟨RX10, "isModule", "(I)Z"⟩
abbrev cX10_isHatch : ByteArray := prog_12_method_5_code
def yX10_isHatch : MethodName := ⟨RX10, "isHatch", "(I)Z"⟩
abbrev cX10_isPerson : ByteArray := prog_12_method_6_code
def yX10_isPerson : MethodName := ⟨RX10, "isPerson", "(I)Z"⟩
abbrev cX10_isMachine : ByteArray := prog_12_method_7_code
def yX10_isMachine : MethodName := ⟨RX10, "isMachine", "(I)Z"⟩
abbrev cX10_module : ByteArray := prog_12_method_8_code
def yX10_module : MethodName := ⟨RX10, "module", "()I"⟩
abbrev cX10_hatch : ByteArray := prog_12_method_9_code
def yX10_hatch : MethodName := ⟨RX10, "hatch", "(II)I"⟩
abbrev cX10_shut : ByteArray := prog_12_method_10_code
def yX10_shut : MethodName := ⟨RX10, "shut", "(II)I"⟩
abbrev cX10_gas : ByteArray := prog_12_method_11_code
def yX10_gas : MethodName := ⟨RX10, "gas", "(III)I"⟩
abbrev cX10_leak : ByteArray := prog_12_method_12_code
def yX10_leak : MethodName := ⟨RX10, "leak", "(II)I"⟩
abbrev cX10_tank : ByteArray := prog_12_method_13_code
def yX10_tank : MethodName := ⟨RX10, "tank", "(II)I"⟩
abbrev cX10_grams : ByteArray := prog_12_method_14_code
def yX10_grams : MethodName := ⟨RX10, "grams", "()I"⟩
abbrev cX10_person : ByteArray := prog_12_method_15_code
def yX10_person : MethodName := ⟨RX10, "person", "(I)I"⟩
abbrev cX10_canGo : ByteArray := prog_12_method_16_code
def yX10_canGo : MethodName := ⟨RX10, "canGo", "(II)Z"⟩
abbrev cX10_go : ByteArray := prog_12_method_17_code
def yX10_go : MethodName := ⟨RX10, "go", "(II)I"⟩
abbrev cX10_doing : ByteArray := prog_12_method_18_code
def yX10_doing : MethodName := ⟨RX10, "doing", "(II)I"⟩
abbrev cX10_about : ByteArray := prog_12_method_19_code
def yX10_about : MethodName := ⟨RX10, "about", "(II)I"⟩
abbrev cX10_machine : ByteArray := prog_12_method_20_code
def yX10_machine : MethodName := ⟨RX10, "machine", "(IIII)I"⟩
abbrev cX10_as : ByteArray := prog_12_method_21_code
def yX10_as : MethodName := ⟨RX10, "as", "(II)I"⟩
abbrev cX10_turn : ByteArray := prog_12_method_22_code
def yX10_turn : MethodName := ⟨RX10, "turn", "(II)I"⟩
abbrev cX10_of : ByteArray := prog_12_method_23_code
def yX10_of : MethodName := ⟨RX10, "of", "(II)I"⟩
abbrev cX10_spares : ByteArray := prog_12_method_24_code
def yX10_spares : MethodName := ⟨RX10, "spares", "(II)I"⟩
abbrev cX10_isMended : ByteArray := prog_12_method_25_code
def yX10_isMended : MethodName := ⟨RX10, "isMended", "(I)Z"⟩
abbrev cX10_refusesMend : ByteArray := prog_12_method_26_code
def yX10_refusesMend : MethodName := ⟨RX10, "refusesMend", "(III)I"⟩
abbrev cX10_beginMend : ByteArray := prog_12_method_27_code
def yX10_beginMend : MethodName := ⟨RX10, "beginMend", "(III)V"⟩
abbrev cX10_repair : ByteArray := prog_12_method_28_code
def yX10_repair : MethodName := ⟨RX10, "repair", "(III)I"⟩
abbrev cX10_canShed : ByteArray := prog_12_method_29_code
def yX10_canShed : MethodName := ⟨RX10, "canShed", "(I)Z"⟩
abbrev cX10_together : ByteArray := prog_12_method_30_code
def yX10_together : MethodName := ⟨RX10, "together", "(IZI)I"⟩
abbrev cX10_shed : ByteArray := prog_12_method_31_code
def yX10_shed : MethodName := ⟨RX10, "shed", "(II)I"⟩
abbrev cX10_endText : ByteArray := prog_12_method_32_code
def yX10_endText : MethodName := ⟨RX10, "endText", "(I)V"⟩
abbrev cX10_abortText : ByteArray := prog_12_method_33_code
def yX10_abortText : MethodName := ⟨RX10, "abortText", "()V"⟩
abbrev cX10_isLine : ByteArray := prog_12_method_34_code
def yX10_isLine : MethodName := ⟨RX10, "isLine", "(I)Z"⟩
abbrev cX10_canCheck : ByteArray := prog_12_method_35_code
def yX10_canCheck : MethodName := ⟨RX10, "canCheck", "(III)Z"⟩
abbrev cX10_isSo : ByteArray := prog_12_method_36_code
def yX10_isSo : MethodName := ⟨RX10, "isSo", "(II)Z"⟩
abbrev cX10_doLine : ByteArray := prog_12_method_37_code
def yX10_doLine : MethodName := ⟨RX10, "doLine", "(IIII)Z"⟩
abbrev cX10_runText : ByteArray := prog_12_method_38_code
def yX10_runText : MethodName := ⟨RX10, "runText", "()V"⟩
abbrev cX10_line : ByteArray := prog_12_method_39_code
def yX10_line : MethodName := ⟨RX10, "line", "(IIII)I"⟩
abbrev cX10_erase : ByteArray := prog_12_method_40_code
def yX10_erase : MethodName := ⟨RX10, "erase", "()I"⟩
abbrev cX10_begin : ByteArray := prog_12_method_41_code
def yX10_begin : MethodName := ⟨RX10, "begin", "()I"⟩
abbrev cX10_halt : ByteArray := prog_12_method_42_code
def yX10_halt : MethodName := ⟨RX10, "halt", "(I)I"⟩
abbrev cX10_abort : ByteArray := prog_12_method_43_code
def yX10_abort : MethodName := ⟨RX10, "abort", "()I"⟩
abbrev cX10_text : ByteArray := prog_12_method_44_code
def yX10_text : MethodName := ⟨RX10, "text", "(I)I"⟩
abbrev cX10_mendAll : ByteArray := prog_12_method_45_code
def yX10_mendAll : MethodName := ⟨RX10, "mendAll", "()V"⟩
abbrev cX10_feedAll : ByteArray := prog_12_method_46_code
def yX10_feedAll : MethodName := ⟨RX10, "feedAll", "()V"⟩
abbrev cX10_lesser : ByteArray := prog_12_method_47_code
def yX10_lesser : MethodName := ⟨RX10, "lesser", "(II)I"⟩
abbrev cX10_workOf : ByteArray := prog_12_method_48_code
def yX10_workOf : MethodName := ⟨RX10, "workOf", "(I)V"⟩
abbrev cX10_breathe : ByteArray := prog_12_method_49_code
def yX10_breathe : MethodName := ⟨RX10, "breathe", "(I)V"⟩
abbrev cX10_leakAll : ByteArray := prog_12_method_50_code
def yX10_leakAll : MethodName := ⟨RX10, "leakAll", "()V"⟩
abbrev cX10_mixAll : ByteArray := prog_12_method_51_code
def yX10_mixAll : MethodName := ⟨RX10, "mixAll", "()V"⟩
abbrev cX10_brokenAt : ByteArray := prog_12_method_52_code
def yX10_brokenAt : MethodName := ⟨RX10, "brokenAt", "()I"⟩
abbrev cX10_tick : ByteArray := prog_12_method_53_code
def yX10_tick : MethodName := ⟨RX10, "tick", "()Z"⟩
abbrev cX10_sun : ByteArray := prog_12_method_54_code
def yX10_sun : MethodName := ⟨RX10, "sun", "(II)I"⟩
abbrev cX10_battery : ByteArray := prog_12_method_55_code
def yX10_battery : MethodName := ⟨RX10, "battery", "(I)I"⟩
abbrev cX10_bounds : ByteArray := prog_12_method_56_code
def yX10_bounds : MethodName := ⟨RX10, "bounds", "(III)I"⟩
abbrev cX10_ticks : ByteArray := prog_12_method_57_code
def yX10_ticks : MethodName := ⟨RX10, "ticks", "(I)I"⟩
abbrev cX10_broke : ByteArray := prog_12_method_58_code
def yX10_broke : MethodName := ⟨RX10, "broke", "(I)I"⟩
abbrev cX10_lays : ByteArray := prog_12_method_59_code
def yX10_lays : MethodName := ⟨RX10, "lays", "([IZ)V"⟩
abbrev cX10_layAside : ByteArray := prog_12_method_60_code
def yX10_layAside : MethodName := ⟨RX10, "layAside", "(Z)V"⟩
abbrev cX10_ahead : ByteArray := prog_12_method_61_code
def yX10_ahead : MethodName := ⟨RX10, "ahead", "(I)I"⟩
abbrev cX10_partOf : ByteArray := prog_12_method_62_code
def yX10_partOf : MethodName := ⟨RX10, "partOf", "(II)I"⟩
abbrev cX10_ones : ByteArray := prog_12_method_63_code
def yX10_ones : MethodName := ⟨RX10, "ones", "(I)I"⟩
abbrev cX10_hunt : ByteArray := prog_12_method_64_code
def yX10_hunt : MethodName := ⟨RX10, "hunt", "()I"⟩
abbrev cX10_test : ByteArray := prog_12_method_65_code
def yX10_test : MethodName := ⟨RX10, "test", "(II)I"⟩
abbrev cX10_worst : ByteArray := prog_12_method_66_code
def yX10_worst : MethodName := ⟨RX10, "worst", "(I)I"⟩
abbrev cX10_best : ByteArray := prog_12_method_67_code
def yX10_best : MethodName := ⟨RX10, "best", "(I)I"⟩
abbrev cX10_suspects : ByteArray := prog_12_method_68_code
def yX10_suspects : MethodName := ⟨RX10, "suspects", "()I"⟩
abbrev cX10_read : ByteArray := prog_12_method_69_code
def yX10_read : MethodName := ⟨RX10, "read", "(II)I"⟩
abbrev cX10_calibrate : ByteArray := prog_12_method_70_code
def yX10_calibrate : MethodName := ⟨RX10, "calibrate", "(II)I"⟩
abbrev cX10_tooMuch : ByteArray := prog_12_method_71_code
def yX10_tooMuch : MethodName := ⟨RX10, "tooMuch", "(II)I"⟩
abbrev cX10_worked : ByteArray := prog_12_method_72_code
def yX10_worked : MethodName := ⟨RX10, "worked", "(I)I"⟩
abbrev cX10_delay : ByteArray := prog_12_method_73_code
def yX10_delay : MethodName := ⟨RX10, "delay", "(I)I"⟩
abbrev cX10_known : ByteArray := prog_12_method_74_code
def yX10_known : MethodName := ⟨RX10, "known", "(II)I"⟩
abbrev cX10_mass : ByteArray := prog_12_method_75_code
def yX10_mass : MethodName := ⟨RX10, "mass", "(II)I"⟩
abbrev cX10_dock : ByteArray := prog_12_method_76_code
def yX10_dock : MethodName := ⟨RX10, "dock", "(II)I"⟩
abbrev cX10_undock : ByteArray := prog_12_method_77_code
def yX10_undock : MethodName := ⟨RX10, "undock", "(I)I"⟩
abbrev cX10_tell : ByteArray := prog_12_method_78_code
def yX10_tell : MethodName := ⟨RX10, "tell", "(I)I"⟩
abbrev cX10_check : ByteArray := prog_12_method_79_code
def yX10_check : MethodName := ⟨RX10, "check", "(II)I"⟩
abbrev cX10_count : ByteArray := prog_12_method_80_code
def yX10_count : MethodName := ⟨RX10, "count", "(I)I"⟩
abbrev cX10_found : ByteArray := prog_12_method_81_code
def yX10_found : MethodName := ⟨RX10, "found", "(I)I"⟩
def RJ6 : String := "java/lang/Integer"
def TJ6 : u_T := fun k => match k with
  | _ => ("", "", "", false)
def tyJ6 : Nat → FieldType := fun k => match k with
  | _ => .int
theorem tyJ6_ok : ∀ k, k < 0 → parseFieldDescriptor (TJ6 k).2.2.1 = some (tyJ6 k) := by decide +kernel
abbrev cJ6_bitCount_0f7a4 : ByteArray := prog_13_method_49_code
def yJ6_bitCount_0f7a4 : MethodName := ⟨RJ6, "bitCount", "(I)I"⟩
def RJ9 : String := "java/lang/Math"
def TJ9 : u_T := fun k => match k with
  | _ => ("", "", "", false)
def tyJ9 : Nat → FieldType := fun k => match k with
  | _ => .int
theorem tyJ9_ok : ∀ k, k < 0 → parseFieldDescriptor (TJ9 k).2.2.1 = some (tyJ9 k) := by decide +kernel
abbrev cJ9_max_7cf53 : ByteArray := prog_14_method_65_code
def yJ9_max_7cf53 : MethodName := ⟨RJ9, "max", "(II)I"⟩
abbrev cJ9_min_7cf53 : ByteArray := prog_14_method_69_code
def yJ9_min_7cf53 : MethodName := ⟨RJ9, "min", "(II)I"⟩
def RJ10 : String := "java/lang/System"
def TJ10 : u_T := fun k => match k with
  | _ => ("", "", "", false)
def tyJ10 : Nat → FieldType := fun k => match k with
  | _ => .int
theorem tyJ10_ok : ∀ k, k < 0 → parseFieldDescriptor (TJ10 k).2.2.1 = some (tyJ10 k) := by decide +kernel
def RL : String := "TinStationLaw"
abbrev cL_law : ByteArray := code
def yL_law : MethodName := ⟨RL, "law", "([I)Z"⟩
abbrev vwCl : List vw_C := [(RX0, TX0, 8), (RX1, TX1, 6), (RX2, TX2, 7), (RX3, TX3, 7), (RX4, TX4, 2), (RX5, TX5, 10), (RX6, TX6, 15), (RX7, TX7, 5), (RX8, TX8, 7), (RX9, TX9, 10), (RX10, TX10, 57)]
end
section
/-- the words, the kinds of objects, the static arrays that the engine speaks of -/
def ec_tb : List Cond := lw_tbl.filter goodWord
abbrev ec_cl : List vw_C := vwCl
def ec_xt : List (Nat × (Nat → Int32)) := [(6, fun i => match i with
  | 0 => -1
  | 4 => 3
  | _ => 0), (3, fun i => match i with
  | 0 => 4
  | 1 => 6
  | _ => 14), (3, fun i => match i with
  | 0 => 10
  | 1 => 15
  | _ => 40)]
def ec_zs : List (String × String × String × Nat) := [("TinStation$Plant", "KIND_ABOVE", "[I", 0), ("TinStation$Crew", "BREATH", "[I", 1), ("TinStation$Crew", "WARMTH", "[I", 2)]
theorem ec_good : ∀ w ∈ ec_tb, (w.onTables && w.keeps) = true ∨ ∃ ty, w = .arrayClass ty := fun w hw => good_of_word (List.mem_filter.mp hw).2
theorem ec_sub : ∀ w ∈ ec_tb, w ∈ lw_tbl := fun w hw => (List.mem_filter.mp hw).1
theorem ec_in {w : Cond} {i : Nat} (h : lw_tbl[i]? = some w) (hg : goodWord w = true) : w ∈ ec_tb := List.mem_filter.mpr ⟨List.mem_of_getElem? h, hg⟩
theorem ec_ins {ws : List Cond} (h : ws.all (fun w => decide (w ∈ lw_tbl) && goodWord w) = true) : ∀ w ∈ ws, w ∈ ec_tb := fun w hw => by
  have h1 := List.all_eq_true.mp h w hw
  simp only [Bool.and_eq_true, decide_eq_true_eq] at h1
  exact List.mem_filter.mpr h1
theorem ec_k0 : ∀ w ∈ u_ws RX0 TX0 8, w ∈ ec_tb := ec_ins (by decide +kernel)
theorem ec_k1 : ∀ w ∈ u_ws RX1 TX1 6, w ∈ ec_tb := ec_ins (by decide +kernel)
theorem ec_k2 : ∀ w ∈ u_ws RX2 TX2 7, w ∈ ec_tb := ec_ins (by decide +kernel)
theorem ec_k3 : ∀ w ∈ u_ws RX3 TX3 7, w ∈ ec_tb := ec_ins (by decide +kernel)
theorem ec_k4 : ∀ w ∈ u_ws RX4 TX4 2, w ∈ ec_tb := ec_ins (by decide +kernel)
theorem ec_k5 : ∀ w ∈ u_ws RX5 TX5 10, w ∈ ec_tb := ec_ins (by decide +kernel)
theorem ec_k6 : ∀ w ∈ u_ws RX6 TX6 15, w ∈ ec_tb := ec_ins (by decide +kernel)
theorem ec_k7 : ∀ w ∈ u_ws RX7 TX7 5, w ∈ ec_tb := ec_ins (by decide +kernel)
theorem ec_k8 : ∀ w ∈ u_ws RX8 TX8 7, w ∈ ec_tb := ec_ins (by decide +kernel)
theorem ec_k9 : ∀ w ∈ u_ws RX9 TX9 10, w ∈ ec_tb := ec_ins (by decide +kernel)
theorem ec_k10 : ∀ w ∈ u_ws RX10 TX10 57, w ∈ ec_tb := ec_ins (by decide +kernel)
theorem ec_clok {ci : Nat} {C : String} {T : u_T} {N : Nat} (h : ec_cl[ci]? = some (C, T, N)) : (∀ w ∈ u_ws C T N, w ∈ ec_tb) ∧ ∃ ty0 : Nat → FieldType, (∀ k, k < N → parseFieldDescriptor (T k).2.2.1 = some (ty0 k)) ∧ (∀ a, a < N → ∀ b, b < N → a ≠ b → (T a).2.1 ≠ (T b).2.1) := by
  match ci, h with
  | 0, h => cases h; exact ⟨ec_k0, tyX0, tyX0_ok, nmX0⟩
  | 1, h => cases h; exact ⟨ec_k1, tyX1, tyX1_ok, nmX1⟩
  | 2, h => cases h; exact ⟨ec_k2, tyX2, tyX2_ok, nmX2⟩
  | 3, h => cases h; exact ⟨ec_k3, tyX3, tyX3_ok, nmX3⟩
  | 4, h => cases h; exact ⟨ec_k4, tyX4, tyX4_ok, nmX4⟩
  | 5, h => cases h; exact ⟨ec_k5, tyX5, tyX5_ok, nmX5⟩
  | 6, h => cases h; exact ⟨ec_k6, tyX6, tyX6_ok, nmX6⟩
  | 7, h => cases h; exact ⟨ec_k7, tyX7, tyX7_ok, nmX7⟩
  | 8, h => cases h; exact ⟨ec_k8, tyX8, tyX8_ok, nmX8⟩
  | 9, h => cases h; exact ⟨ec_k9, tyX9, tyX9_ok, nmX9⟩
  | 10, h => cases h; exact ⟨ec_k10, tyX10, tyX10_ok, nmX10⟩
  | k + 11, h => simp [ec_cl, vwCl] at h
/-- links to nest mates -/
def ec_ns : List (String × Nat × MethodName × String) := [(RX0, 31, yX9_copy, "TinStation"), (RX0, 35, yX9_copyFlags, "TinStation"), (RX0, 55, yX9_isSwitch, "TinStation"), (RX0, 58, yX9_one, "TinStation"), (RX2, 41, yX9_isSwitch, "TinStation"), (RX2, 47, yX9_one, "TinStation"), (RX3, 30, yX9_copy, "TinStation"), (RX3, 48, yX9_one, "TinStation"), (RX6, 50, yX9_copy, "TinStation"), (RX6, 54, yX9_copyFlags, "TinStation"), (RX6, 88, yX9_isSwitch, "TinStation"), (RX6, 91, yX9_one, "TinStation"), (RX8, 11, yX0_init, "TinStation"), (RX8, 20, yX3_init, "TinStation"), (RX8, 27, yX6_init, "TinStation"), (RX8, 34, yX1_init, "TinStation"), (RX8, 41, yX2_init, "TinStation"), (RX9, 11, yX7_init, "TinStation"), (RX9, 30, yX4_init, "TinStation"), (RX9, 37, yX5_init, "TinStation")]
end
section
/-! THE ENGINE: walks over abstract states. A ref is a PLACE in the list of cells; ad says its address; ca says which array kind a tag is (0: int, 1: boolean). -/
abbrev ex_V : Type := List Value
abbrev ex_C : Type := List va_E
abbrev ex_Q : Type := Option Value → ex_C → Prop
abbrev ex_S : Type := ex_V → ex_C → ex_Q → Prop
abbrev ex_L : Type := List (Option Value)
def ex_v (ad : Nat → Nat) (v : Value) : Value := match v with
  | .ref k => .ref (ad k)
  | w => w
theorem ex_v_cat (ad : Nat → Nat) (v : Value) : (ex_v ad v).category = v.category := by cases v <;> rfl
def ex_e (ad ca : Nat → Nat) (e : va_E) : va_E := match e with
  | .inl a => .inl (ca a.1, a.2)
  | .inr o => .inr (o.1, o.2.map (ex_v ad))
def ex_w (ad ca : Nat → Nat) (cs : ex_C) : va_W := cs.mapIdx (fun k e => (ad k, ex_e ad ca e))
theorem ex_w_get {ad ca : Nat → Nat} {cs : ex_C} {k : Nat} {e : va_E} (h : cs[k]? = some e) : (ex_w ad ca cs)[k]? = some (ad k, ex_e ad ca e) := by
  unfold ex_w
  rw [List.getElem?_mapIdx, h]
  rfl
theorem ex_w_at {ad ca : Nat → Nat} {cs : ex_C} {k : Nat} {q : Nat × va_E} (h : (ex_w ad ca cs)[k]? = some q) : ∃ e, cs[k]? = some e ∧ q = (ad k, ex_e ad ca e) := by
  unfold ex_w at h
  rw [List.getElem?_mapIdx] at h
  cases hc : cs[k]? with
  | none => rw [hc] at h; cases h
  | some e => rw [hc] at h; exact ⟨e, rfl, (Option.some.inj h).symm⟩
theorem ex_w_len {ad ca : Nat → Nat} {cs : ex_C} : (ex_w ad ca cs).length = cs.length := by
  unfold ex_w
  exact List.length_mapIdx
theorem ex_w_set {ad ca : Nat → Nat} {cs : ex_C} {k : Nat} {e : va_E} : (ex_w ad ca cs).set k (ad k, ex_e ad ca e) = ex_w ad ca (cs.set k e) := by
  apply List.ext_getElem?
  intro i
  unfold ex_w
  rw [List.getElem?_mapIdx, List.getElem?_set, List.getElem?_set, List.getElem?_mapIdx, List.length_mapIdx]
  by_cases hk : k = i
  · subst hk
    simp only [if_true]
    split <;> rfl
  · simp only [if_neg hk]
/-- the places' addresses are apart, and of a kind -/
def ex_D (ad : Nat → Nat) (n : Nat) (A : Nat → Prop) : Prop := (∀ i j, i < n → j < n → ad i = ad j → i = j) ∧ ∀ k, k < n → A (ad k)
theorem ex_D.va {ad ca : Nat → Nat} {cs : ex_C} {n : Nat} {A : Nat → Prop} (h : ex_D ad n A) (hn : cs.length = n) : va_D A (ex_w ad ca cs) := by
  have lt : ∀ {k : Nat} {q : Nat × va_E}, (ex_w ad ca cs)[k]? = some q → k < n ∧ q.1 = ad k := by
    intro k q hq
    obtain ⟨e, he, hqe⟩ := ex_w_at hq
    exact ⟨by rw [← hn]; exact (List.getElem?_eq_some_iff.mp he).1, by rw [hqe]⟩
  refine ⟨fun i j p q hi hj hpq => ?_, fun k q hk => ?_⟩
  · obtain ⟨h1, e1⟩ := lt hi
    obtain ⟨h2, e2⟩ := lt hj
    exact h.1 i j h1 h2 (by rw [← e1, ← e2]; exact hpq)
  · obtain ⟨h1, e1⟩ := lt hk
    rw [e1]
    exact h.2 k h1
/-- which cells a walk may change -/
def ex_A (ad : Nat → Nat) (n sz : Nat) : Nat → Prop := fun q => (∃ k, k < n ∧ q = ad k) ∨ sz ≤ q
theorem ex_D.self {ad : Nat → Nat} {n sz : Nat} {A : Nat → Prop} (h : ex_D ad n A) : ex_D ad n (ex_A ad n sz) := ⟨h.1, fun k hk => Or.inl ⟨k, hk, rfl⟩⟩
/-- what is known of the locals -/
def ex_ls (ad : Nat → Nat) (lv : ex_L) (nL : Nat) (ls : Array Slot) : Prop := ls.size = nL ∧ lv_wf ls ∧ lv.length ≤ nL ∧ ∀ (i : Nat) (v : Value), lv[i]? = some (some v) → ls[i]? = some (.val (ex_v ad v))
def ex_ll (ad : Nat → Nat) (lv : ex_L) : List (Nat × Value) := lv.zipIdx.filterMap (fun q => q.1.map (fun v => (q.2, ex_v ad v)))
theorem ex_ll_mem {ad : Nat → Nat} {lv : ex_L} {q : Nat × Value} : q ∈ ex_ll ad lv ↔ ∃ v, lv[q.1]? = some (some v) ∧ q.2 = ex_v ad v := by
  unfold ex_ll
  rw [List.mem_filterMap]
  constructor
  · rintro ⟨⟨o, i⟩, h1, h2⟩
    rw [List.mk_mem_zipIdx_iff_getElem?] at h1
    cases o with
    | none => cases h2
    | some v =>
      have := (Option.some.inj h2)
      subst this
      exact ⟨v, h1, rfl⟩
  · rintro ⟨v, h1, h2⟩
    refine ⟨(some v, q.1), ?_, ?_⟩
    · rw [List.mk_mem_zipIdx_iff_getElem?]; exact h1
    · show some (q.1, ex_v ad v) = some q
      rw [← h2]
theorem ex_ls.has {ad : Nat → Nat} {lv : ex_L} {nL : Nat} {ls : Array Slot} (h : ex_ls ad lv nL ls) : lv_has ls nL (ex_ll ad lv) := by
  refine ⟨h.1, h.2.1, fun q hq => ?_⟩
  obtain ⟨v, h1, h2⟩ := ex_ll_mem.mp hq
  rw [h2]
  exact h.2.2.2 _ _ h1
/-- no value of two slots begins just below i -/
def ex_so (lv : ex_L) (i : Nat) : Prop := i < lv.length ∧ match i with
  | 0 => True
  | j + 1 => match lv[j]? with
    | some (some w) => w.category = 1
    | _ => True
theorem ex_so.at {lv : ex_L} {i j : Nat} {w : Value} (h : ex_so lv i) (hj : j + 1 = i) (hw : lv[j]? = some (some w)) : w.category = 1 := by
  subst hj
  have h2 := h.2
  simp only [hw] at h2
  exact h2
theorem ex_ls.set1 {ad : Nat → Nat} {lv : ex_L} {nL i : Nat} {ls ls' : Array Slot} {v : Value} (h : ex_ls ad lv nL ls) (hs : ex_so lv i) (h' : lv_has ls' nL ((i, ex_v ad v) :: (ex_ll ad lv).filter (fun q => !(q.1 == i) && !(q.1 + 1 == i && q.2.category == 2)))) : ex_ls ad (lv.set i (some v)) nL ls' := by
  refine ⟨h'.1, h'.2.1, by rw [List.length_set]; exact h.2.2.1, fun j w hj => ?_⟩
  by_cases hij : j = i
  · subst hij
    rw [List.getElem?_set_self hs.1] at hj
    cases hj
    exact h'.2.2 (j, ex_v ad v) List.mem_cons_self
  · rw [List.getElem?_set_ne (Ne.symm hij)] at hj
    refine h'.2.2 (j, ex_v ad w) (List.mem_cons_of_mem _ (List.mem_filter.mpr ⟨ex_ll_mem.mpr ⟨w, hj, rfl⟩, ?_⟩))
    by_cases hj1 : j + 1 = i
    · have hc := hs.at hj1 hj
      simp [hij, ex_v_cat, hc]
    · simp [hij, hj1]
theorem ex_ls.set2 {ad : Nat → Nat} {lv : ex_L} {nL i : Nat} {ls ls' : Array Slot} {v : Value} (h : ex_ls ad lv nL ls) (hs : ex_so lv i) (h' : lv_has ls' nL ((i, ex_v ad v) :: (ex_ll ad lv).filter (fun q => !(q.1 == i) && (!(q.1 == i + 1) && !(q.1 + 1 == i && q.2.category == 2))))) : ex_ls ad ((lv.set i (some v)).set (i + 1) none) nL ls' := by
  refine ⟨h'.1, h'.2.1, by rw [List.length_set, List.length_set]; exact h.2.2.1, fun j w hj => ?_⟩
  by_cases hi1 : j = i + 1
  · subst hi1
    rw [List.getElem?_set] at hj
    split at hj
    · split at hj <;> cases hj
    · exact absurd rfl (by assumption)
  · rw [List.getElem?_set_ne (Ne.symm hi1)] at hj
    by_cases hij : j = i
    · subst hij
      rw [List.getElem?_set_self hs.1] at hj
      cases hj
      exact h'.2.2 (j, ex_v ad v) List.mem_cons_self
    · rw [List.getElem?_set_ne (Ne.symm hij)] at hj
      refine h'.2.2 (j, ex_v ad w) (List.mem_cons_of_mem _ (List.mem_filter.mpr ⟨ex_ll_mem.mpr ⟨w, hj, rfl⟩, ?_⟩))
      by_cases hj1 : j + 1 = i
      · have hc := hs.at hj1 hj
        simp [hij, hi1, ex_v_cat, hc]
      · simp [hij, hi1, hj1]
/-- static arrays: places from 1000 on; nobody writes them -/
abbrev ex_xt : Type := List (Nat × (Nat → Int32))
def ex_X (xt : ex_xt) (ad : Nat → Nat) (A : Nat → Prop) (U : State) (H : Heap) : Prop := ∀ (j n : Nat) (f : Nat → Int32), xt[j]? = some (n, f) → va_T .int (ad (1000 + j)) n (fun i => .int (f i)) A U H
def ex_Z (ad : Nat → Nat) (A : Nat → Prop) (U : State) (H : Heap) : Prop := ∀ (C n d : String) (j : Nat), (C, n, d, j) ∈ ec_zs → va_Z C n d (.ref (ad (1000 + j))) A U H
def ex_Nw (U : State) : Prop := ∀ q ∈ ec_ns, va_Nw (.methodLinkNest q.1 q.2.1 q.2.2.1 q.2.2.2) U
abbrev ex_tys (ca : Nat → Nat) : List (ClassId × FieldType) := [(ca 0, .int), (ca 1, .boolean)]
/-- the world of a state -/
def ex_U (D : va_G) (ad ca : Nat → Nat) (cs : ex_C) (n : Nat) (A : Nat → Prop) (U : State) : Prop := cs.length = n ∧ va_P D ec_cl (ex_w ad ca cs) U.heap ∧ ex_D ad n A ∧ va_K D ec_cl (ex_tys ca) U ∧ ex_X ec_xt ad A U U.heap ∧ ex_Z ad A U U.heap ∧ ex_Nw U
def ex_Pc (D : va_G) (ad ca : Nat → Nat) (av : ex_V) (cs : ex_C) (n sz : Nat) : Array Value → State → Prop := fun v U => v = (av.map (ex_v ad)).toArray ∧ U.heap.size = sz ∧ ex_U D ad ca cs n (ex_A ad n sz) U
def ex_Qc (D : va_G) (ad ca : Nat → Nat) (Q : ex_Q) (n : Nat) (A : Nat → Prop) : Array Value → State → Outcome → State → Prop := fun _ st oc t => (∃ (r : Option Value) (cs' : ex_C), oc = .returned (r.map (ex_v ad)) ∧ Q r cs' ∧ cs'.length = n ∧ va_P D ec_cl (ex_w ad ca cs') t.heap) ∧ va_F A st t
abbrev ex_rm (fr lo : Nat) : Room := { frames := fr, cells := 0, slots := 0, locals := lo }
def ex_Met (l : Launch) (y : MethodName) (bytes : ByteArray) (maxL : Nat) (ret : Option FieldType) (fr lo : Nat) (sp : ex_S) : Prop :=
  ∀ (D : va_G) (ad ca : Nat → Nat) (n sz : Nat) (av : ex_V) (cs : ex_C) (Q : ex_Q), sp av cs Q →
    Met l y (.code y bytes maxL ret :: ec_tb) (ex_rm fr lo) (ex_Pc D ad ca av cs n sz) (ex_Qc D ad ca Q n (ex_A ad n sz)) 0 0 (ex_A ad n sz)
theorem ex_blind {D : va_G} {ad ca : Nat → Nat} {av : ex_V} {cs : ex_C} {n sz : Nat} : FrameBlind (ex_Pc D ad ca av cs n sz) := by
  intro a U g mk ⟨h1, h2, h3, h4, h5, h6, h7, h8, h9⟩
  refine ⟨h1, h2, h3, h4, h5, va_K.moved (u := U) (U := U.calling g mk a) (Vm.Alike.refl U.vm) h6, fun j m f hj => ?_, fun C m d j hj => ?_, fun q hq => va_Nw.same (u := U) (U := U.calling g mk a) rfl rfl (h9 q hq)⟩
  · exact va_T.moved (u := U) (U := U.calling g mk a) (Vm.Alike.refl U.vm) (h7 j m f hj)
  · exact va_Z.moved (u := U) (U := U.calling g mk a) (Vm.Alike.refl U.vm) (h8 C m d j hj)
/-! what a method's instructions link: its own name; fields (kind number, slot, may it be written, type); int constants; static arrays; calls (how many values with the receiver, the receiver's kind number, the callee's spec); which call is System.arraycopy (1), Math.min (2), Math.max (3); long constants -/
abbrev ex_K : Type := String × (Nat → Option (Nat × Nat × Bool × FieldType)) × (Nat → Option Int32) × (Nat → Option Nat) × (Nat → Option (Nat × Option Nat × ex_S)) × (Nat → Nat) × (Nat → Option Int64)
def ex_o {α : Type} (o : Option α) (k : α → Prop) : Prop := match o with
  | some a => k a
  | none => False
theorem ex_o.at {α : Type} {o : Option α} {k : α → Prop} (h : ex_o o k) : ∃ a, o = some a ∧ k a := by
  cases o with
  | none => exact h.elim
  | some a => exact ⟨a, rfl, h⟩
def ex_i1 (st : ex_V) (k : Int32 → ex_V → Prop) : Prop := match st with
  | .int x :: r => k x r
  | _ => False
def ex_i2 (st : ex_V) (k : Int32 → Int32 → ex_V → Prop) : Prop := match st with
  | .int y :: .int x :: r => k x y r
  | _ => False
def ex_l1 (st : ex_V) (k : Int64 → ex_V → Prop) : Prop := match st with
  | .long x :: r => k x r
  | _ => False
def ex_l2 (st : ex_V) (k : Int64 → Int64 → ex_V → Prop) : Prop := match st with
  | .long y :: .long x :: r => k x y r
  | _ => False
def ex_r1 (st : ex_V) (k : Nat → ex_V → Prop) : Prop := match st with
  | .ref a :: r => k a r
  | _ => False
def ex_ir (st : ex_V) (k : Int32 → Nat → ex_V → Prop) : Prop := match st with
  | .int i :: .ref a :: r => k i a r
  | _ => False
def ex_iir (st : ex_V) (k : Int32 → Int32 → Nat → ex_V → Prop) : Prop := match st with
  | .int x :: .int i :: .ref a :: r => k x i a r
  | _ => False
def ex_vr (st : ex_V) (k : Value → Nat → ex_V → Prop) : Prop := match st with
  | v :: .ref a :: r => k v a r
  | _ => False
def ex_v1 (st : ex_V) (k : Value → ex_V → Prop) : Prop := match st with
  | v :: r => k v r
  | _ => False
def ex_v2 (st : ex_V) (k : Value → Value → ex_V → Prop) : Prop := match st with
  | v :: w :: r => k v w r
  | _ => False
theorem ex_i1.at {st : ex_V} {k : Int32 → ex_V → Prop} (h : ex_i1 st k) : ∃ x r, st = .int x :: r ∧ k x r := by
  unfold ex_i1 at h
  split at h
  · exact ⟨_, _, rfl, h⟩
  · exact h.elim
theorem ex_i2.at {st : ex_V} {k : Int32 → Int32 → ex_V → Prop} (h : ex_i2 st k) : ∃ x y r, st = .int y :: .int x :: r ∧ k x y r := by
  unfold ex_i2 at h
  split at h
  · exact ⟨_, _, _, rfl, h⟩
  · exact h.elim
theorem ex_l1.at {st : ex_V} {k : Int64 → ex_V → Prop} (h : ex_l1 st k) : ∃ x r, st = .long x :: r ∧ k x r := by
  unfold ex_l1 at h
  split at h
  · exact ⟨_, _, rfl, h⟩
  · exact h.elim
theorem ex_l2.at {st : ex_V} {k : Int64 → Int64 → ex_V → Prop} (h : ex_l2 st k) : ∃ x y r, st = .long y :: .long x :: r ∧ k x y r := by
  unfold ex_l2 at h
  split at h
  · exact ⟨_, _, _, rfl, h⟩
  · exact h.elim
theorem ex_r1.at {st : ex_V} {k : Nat → ex_V → Prop} (h : ex_r1 st k) : ∃ a r, st = .ref a :: r ∧ k a r := by
  unfold ex_r1 at h
  split at h
  · exact ⟨_, _, rfl, h⟩
  · exact h.elim
theorem ex_ir.at {st : ex_V} {k : Int32 → Nat → ex_V → Prop} (h : ex_ir st k) : ∃ i a r, st = .int i :: .ref a :: r ∧ k i a r := by
  unfold ex_ir at h
  split at h
  · exact ⟨_, _, _, rfl, h⟩
  · exact h.elim
theorem ex_iir.at {st : ex_V} {k : Int32 → Int32 → Nat → ex_V → Prop} (h : ex_iir st k) : ∃ x i a r, st = .int x :: .int i :: .ref a :: r ∧ k x i a r := by
  unfold ex_iir at h
  split at h
  · exact ⟨_, _, _, _, rfl, h⟩
  · exact h.elim
theorem ex_vr.at {st : ex_V} {k : Value → Nat → ex_V → Prop} (h : ex_vr st k) : ∃ v a r, st = v :: .ref a :: r ∧ k v a r := by
  unfold ex_vr at h
  split at h
  · exact ⟨_, _, _, rfl, h⟩
  · exact h.elim
theorem ex_v1.at {st : ex_V} {k : Value → ex_V → Prop} (h : ex_v1 st k) : ∃ v r, st = v :: r ∧ k v r := by
  unfold ex_v1 at h
  split at h
  · exact ⟨_, _, rfl, h⟩
  · exact h.elim
theorem ex_v2.at {st : ex_V} {k : Value → Value → ex_V → Prop} (h : ex_v2 st k) : ∃ v w r, st = v :: w :: r ∧ k v w r := by
  unfold ex_v2 at h
  split at h
  · exact ⟨_, _, _, rfl, h⟩
  · exact h.elim
def ex_gi (lv : ex_L) (i : Nat) (k : Int32 → Prop) : Prop := match lv[i]? with
  | some (some (.int x)) => k x
  | _ => False
def ex_gl (lv : ex_L) (i : Nat) (k : Int64 → Prop) : Prop := match lv[i]? with
  | some (some (.long x)) => k x
  | _ => False
def ex_gr (lv : ex_L) (i : Nat) (k : Nat → Prop) : Prop := match lv[i]? with
  | some (some (.ref a)) => k a
  | _ => False
theorem ex_gi.at {lv : ex_L} {i : Nat} {k : Int32 → Prop} (h : ex_gi lv i k) : ∃ x, lv[i]? = some (some (.int x)) ∧ k x := by
  unfold ex_gi at h
  split at h
  · rename_i x e; exact ⟨x, e, h⟩
  · exact h.elim
theorem ex_gl.at {lv : ex_L} {i : Nat} {k : Int64 → Prop} (h : ex_gl lv i k) : ∃ x, lv[i]? = some (some (.long x)) ∧ k x := by
  unfold ex_gl at h
  split at h
  · rename_i x e; exact ⟨x, e, h⟩
  · exact h.elim
theorem ex_gr.at {lv : ex_L} {i : Nat} {k : Nat → Prop} (h : ex_gr lv i k) : ∃ a, lv[i]? = some (some (.ref a)) ∧ k a := by
  unfold ex_gr at h
  split at h
  · rename_i x e; exact ⟨x, e, h⟩
  · exact h.elim
/-- the object at a place -/
def ex_ob (cs : ex_C) (a ci : Nat) (k : List Value → Prop) : Prop := match cs[a]? with
  | some (.inr (c2, fs)) => c2 = ci ∧ k fs
  | _ => False
theorem ex_ob.at {cs : ex_C} {a ci : Nat} {k : List Value → Prop} (h : ex_ob cs a ci k) : ∃ fs, cs[a]? = some (.inr (ci, fs)) ∧ k fs := by
  unfold ex_ob at h
  split at h
  · rename_i c2 fs e
    obtain ⟨rfl, h⟩ := h
    exact ⟨fs, e, h⟩
  · exact h.elim
/-- the array of tag t at a place -/
def ex_ar (cs : ex_C) (a t : Nat) (k : Nat → (Nat → Int32) → Prop) : Prop := match cs[a]? with
  | some (.inl (t2, n, .inl f)) => t2 = t ∧ k n f
  | _ => False
theorem ex_ar.at {cs : ex_C} {a t : Nat} {k : Nat → (Nat → Int32) → Prop} (h : ex_ar cs a t k) : ∃ n f, cs[a]? = some (.inl (t, n, .inl f)) ∧ k n f := by
  unfold ex_ar at h
  split at h
  · rename_i t2 n f e
    obtain ⟨rfl, h⟩ := h
    exact ⟨n, f, e, h⟩
  · exact h.elim
/-- an array of ints at a place, or a static one -/
def ex_ax (xt : ex_xt) (cs : ex_C) (a : Nat) (k : Nat → (Nat → Int32) → Prop) : Prop := if 1000 ≤ a then ex_o xt[a - 1000]? (fun q => k q.1 q.2) else ex_ar cs a 0 k
/-- may a value be stored in a field of this type -/
def ex_fit (ty : FieldType) (v : Value) : Prop := match ty, v with
  | .int, .int _ => True
  | .long, .long _ => True
  | .boolean, .int x => x = 0 ∨ x = 1
  | .object _, .ref _ => True
  | .array _, .ref _ => True
  | _, _ => False
theorem ex_fit.ok {ad : Nat → Nat} {ty : FieldType} {v : Value} (h : ex_fit ty v) : narrow ty (ex_v ad v) = ex_v ad v ∧ fits ty (ex_v ad v) = true := by
  unfold ex_fit at h
  split at h
  · exact ⟨rfl, rfl⟩
  · exact ⟨rfl, rfl⟩
  · rcases h with rfl | rfl
    · exact ⟨(by decide : narrow .boolean (.int 0) = .int 0), (by decide : fits .boolean (.int 0) = true)⟩
    · exact ⟨(by decide : narrow .boolean (.int 1) = .int 1), (by decide : fits .boolean (.int 1) = true)⟩
  · exact ⟨rfl, rfl⟩
  · exact ⟨rfl, rfl⟩
  · exact h.elim
def ex_ret (ret : Option FieldType) (v : Int32) : Prop := match ret with
  | some .int => True
  | some .boolean => v = 0 ∨ v = 1
  | _ => False
/-- a jump -/
def ex_to (pc : Nat) (off : Int) (k : Nat → Prop) : Prop := 0 ≤ (pc : Int) + off ∧ k ((pc : Int) + off).toNat
theorem ex_to.at {pc : Nat} {off : Int} {k : Nat → Prop} (h : ex_to pc off k) : ∃ t : Nat, (pc : Int) + off = (t : Int) ∧ k t := ⟨_, (Int.toNat_of_nonneg h.1).symm, h.2⟩
def ex_tb (x : Int32) (k : Int → Prop) : Int → List Int → Prop
  | _, [] => True
  | lo, o :: r => (x = Int32.ofInt lo → k o) ∧ ex_tb x k (lo + 1) r
def ex_lk (x : Int32) (k : Int → Prop) : List (Int × Int) → Prop
  | [] => True
  | q :: r => (x = Int32.ofInt q.1 → k q.2) ∧ ex_lk x k r
def ex_ln (x : Int32) : List (Int × Int) → Prop
  | [] => True
  | q :: r => ¬ x = Int32.ofInt q.1 ∧ ex_ln x r
def ex_b (A B C : Prop) : Prop := (A → B) ∧ (¬ A → C)
end
section
/-- System.arraycopy of ints -/
def ex_cp (cs : ex_C) (st : ex_V) (k : ex_V → ex_C → Prop) : Prop := match st with
  | .int n :: .int dp :: .ref a :: .int sp :: .ref a0 :: r => ex_ar cs a0 0 (fun n0 f => ex_ar cs a 0 (fun n1 g => ¬ sp < 0 ∧ ¬ dp < 0 ∧ ¬ n < 0 ∧ sp.toNatClampNeg + n.toNatClampNeg ≤ n0 ∧ dp.toNatClampNeg + n.toNatClampNeg ≤ n1 ∧ (r.map (fun v => v.category)).sum ≤ 8 ∧ k r (cs.set a (.inl (0, n1, .inl (va_cpy f g sp.toNatClampNeg dp.toNatClampNeg n.toNatClampNeg))))))
  | _ => False
theorem ex_cp.at {cs : ex_C} {st : ex_V} {k : ex_V → ex_C → Prop} (h : ex_cp cs st k) : ∃ n dp a sp a0 r n0 f n1 g, st = .int n :: .int dp :: .ref a :: .int sp :: .ref a0 :: r ∧ cs[a0]? = some (.inl (0, n0, .inl f)) ∧ cs[a]? = some (.inl (0, n1, .inl g)) ∧ ¬ sp < 0 ∧ ¬ dp < 0 ∧ ¬ n < 0 ∧ sp.toNatClampNeg + n.toNatClampNeg ≤ n0 ∧ dp.toNatClampNeg + n.toNatClampNeg ≤ n1 ∧ (r.map (fun v => v.category)).sum ≤ 8 ∧ k r (cs.set a (.inl (0, n1, .inl (va_cpy f g sp.toNatClampNeg dp.toNatClampNeg n.toNatClampNeg)))) := by
  unfold ex_cp at h
  split at h
  · obtain ⟨n0, f, h1, h⟩ := ex_ar.at h
    obtain ⟨n1, g, h2, h⟩ := ex_ar.at h
    exact ⟨_, _, _, _, _, _, n0, f, n1, g, rfl, h1, h2, h⟩
  · exact h.elim
/-- one instruction: what must hold so that the walk goes on (K) or ends (Q) -/
def ex_i (xt : ex_xt) (cx : ex_K) (ret : Option FieldType) (Q : ex_Q) (i : Instr) (len pc : Nat) (lv : ex_L) (st : ex_V) (cs : ex_C) (K : Nat → ex_L → ex_V → ex_C → Prop) : Prop := match i with
  | .iconst n => len = 1 ∧ K (pc + 1) lv (.int (Int32.ofInt n) :: st) cs
  | .bipush n => len = 2 ∧ K (pc + 2) lv (.int (Int8.ofInt n).toInt32 :: st) cs
  | .sipush n => len = 3 ∧ K (pc + 3) lv (.int (Int16.ofInt n).toInt32 :: st) cs
  | .ldc ix => len = 2 ∧ ex_o (cx.2.2.1 ix) (fun v => K (pc + 2) lv (.int v :: st) cs)
  | .ldc_w ix => len = 3 ∧ ex_o (cx.2.2.1 ix) (fun v => K (pc + 3) lv (.int v :: st) cs)
  | .ldc2_w ix => len = 3 ∧ ex_o (cx.2.2.2.2.2.2 ix) (fun v => K (pc + 3) lv (.long v :: st) cs)
  | .lconst n => len = 1 ∧ K (pc + 1) lv (.long (Int64.ofNat n) :: st) cs
  | .iload_n k => len = 1 ∧ ex_gi lv k (fun x => K (pc + 1) lv (.int x :: st) cs)
  | .iload k => len = 2 ∧ ex_gi lv k (fun x => K (pc + 2) lv (.int x :: st) cs)
  | .lload_n k => len = 1 ∧ ex_gl lv k (fun x => K (pc + 1) lv (.long x :: st) cs)
  | .lload k => len = 2 ∧ ex_gl lv k (fun x => K (pc + 2) lv (.long x :: st) cs)
  | .aload_n k => len = 1 ∧ ex_gr lv k (fun x => K (pc + 1) lv (.ref x :: st) cs)
  | .aload k => len = 2 ∧ ex_gr lv k (fun x => K (pc + 2) lv (.ref x :: st) cs)
  | .istore_n k => len = 1 ∧ ex_i1 st (fun x r => ex_so lv k ∧ K (pc + 1) (lv.set k (some (.int x))) r cs)
  | .istore k => len = 2 ∧ ex_i1 st (fun x r => ex_so lv k ∧ K (pc + 2) (lv.set k (some (.int x))) r cs)
  | .astore_n k => len = 1 ∧ ex_r1 st (fun x r => ex_so lv k ∧ K (pc + 1) (lv.set k (some (.ref x))) r cs)
  | .astore k => len = 2 ∧ ex_r1 st (fun x r => ex_so lv k ∧ K (pc + 2) (lv.set k (some (.ref x))) r cs)
  | .lstore_n k => len = 1 ∧ ex_l1 st (fun x r => ex_so lv k ∧ k + 1 < lv.length ∧ K (pc + 1) ((lv.set k (some (.long x))).set (k + 1) none) r cs)
  | .lstore k => len = 2 ∧ ex_l1 st (fun x r => ex_so lv k ∧ k + 1 < lv.length ∧ K (pc + 2) ((lv.set k (some (.long x))).set (k + 1) none) r cs)
  | .iinc k n => len = 3 ∧ ex_gi lv k (fun x => ex_so lv k ∧ K (pc + 3) (lv.set k (some (.int (x + Int32.ofInt n)))) st cs)
  | .iadd => len = 1 ∧ ex_i2 st (fun x y r => K (pc + 1) lv (.int (x + y) :: r) cs)
  | .isub => len = 1 ∧ ex_i2 st (fun x y r => K (pc + 1) lv (.int (x - y) :: r) cs)
  | .imul => len = 1 ∧ ex_i2 st (fun x y r => K (pc + 1) lv (.int (x * y) :: r) cs)
  | .iand => len = 1 ∧ ex_i2 st (fun x y r => K (pc + 1) lv (.int (x &&& y) :: r) cs)
  | .ior => len = 1 ∧ ex_i2 st (fun x y r => K (pc + 1) lv (.int (x ||| y) :: r) cs)
  | .ixor => len = 1 ∧ ex_i2 st (fun x y r => K (pc + 1) lv (.int (x ^^^ y) :: r) cs)
  | .ishl => len = 1 ∧ ex_i2 st (fun x y r => K (pc + 1) lv (.int (x <<< (y &&& 31)) :: r) cs)
  | .ishr => len = 1 ∧ ex_i2 st (fun x y r => K (pc + 1) lv (.int (x >>> (y &&& 31)) :: r) cs)
  | .iushr => len = 1 ∧ ex_i2 st (fun x y r => K (pc + 1) lv (.int (x.toUInt32 >>> (y.toUInt32 &&& Int32.toUInt32 31)).toInt32 :: r) cs)
  | .idiv => len = 1 ∧ ex_i2 st (fun x y r => ¬ y = 0 ∧ K (pc + 1) lv (.int (x / y) :: r) cs)
  | .irem => len = 1 ∧ ex_i2 st (fun x y r => ¬ y = 0 ∧ K (pc + 1) lv (.int (x - x / y * y) :: r) cs)
  | .ineg => len = 1 ∧ ex_i1 st (fun x r => K (pc + 1) lv (.int (-x) :: r) cs)
  | .i2l => len = 1 ∧ ex_i1 st (fun x r => K (pc + 1) lv (.long x.toInt64 :: r) cs)
  | .l2i => len = 1 ∧ ex_l1 st (fun x r => K (pc + 1) lv (.int x.toInt32 :: r) cs)
  | .ladd => len = 1 ∧ ex_l2 st (fun x y r => K (pc + 1) lv (.long (x + y) :: r) cs)
  | .lsub => len = 1 ∧ ex_l2 st (fun x y r => K (pc + 1) lv (.long (x - y) :: r) cs)
  | .lmul => len = 1 ∧ ex_l2 st (fun x y r => K (pc + 1) lv (.long (x * y) :: r) cs)
  | .ldiv => len = 1 ∧ ex_l2 st (fun x y r => ¬ y = 0 ∧ K (pc + 1) lv (.long (x / y) :: r) cs)
  | .dup => len = 1 ∧ ex_v1 st (fun v r => v.category = 1 ∧ K (pc + 1) lv (v :: v :: r) cs)
  | .pop => len = 1 ∧ ex_v1 st (fun v r => v.category = 1 ∧ K (pc + 1) lv r cs)
  | .dup_x1 => len = 1 ∧ ex_v2 st (fun v w r => v.category = 1 ∧ w.category = 1 ∧ K (pc + 1) lv (v :: w :: v :: r) cs)
  | .dup2 => len = 1 ∧ ex_v2 st (fun v w r => v.category = 1 ∧ w.category = 1 ∧ K (pc + 1) lv (v :: w :: v :: w :: r) cs)
  | .ifCond .eq off => len = 3 ∧ ex_i1 st (fun x r => ex_to pc off (fun t => ex_b (x = 0) (K t lv r cs) (K (pc + 3) lv r cs)))
  | .ifCond .ne off => len = 3 ∧ ex_i1 st (fun x r => ex_to pc off (fun t => ex_b (x = 0) (K (pc + 3) lv r cs) (K t lv r cs)))
  | .ifCond .lt off => len = 3 ∧ ex_i1 st (fun x r => ex_to pc off (fun t => ex_b (x < 0) (K t lv r cs) (K (pc + 3) lv r cs)))
  | .ifCond .ge off => len = 3 ∧ ex_i1 st (fun x r => ex_to pc off (fun t => ex_b (0 ≤ x) (K t lv r cs) (K (pc + 3) lv r cs)))
  | .ifCond .gt off => len = 3 ∧ ex_i1 st (fun x r => ex_to pc off (fun t => ex_b (0 < x) (K t lv r cs) (K (pc + 3) lv r cs)))
  | .ifCond .le off => len = 3 ∧ ex_i1 st (fun x r => ex_to pc off (fun t => ex_b (x ≤ 0) (K t lv r cs) (K (pc + 3) lv r cs)))
  | .if_icmp .eq off => len = 3 ∧ ex_i2 st (fun x y r => ex_to pc off (fun t => ex_b (x = y) (K t lv r cs) (K (pc + 3) lv r cs)))
  | .if_icmp .ne off => len = 3 ∧ ex_i2 st (fun x y r => ex_to pc off (fun t => ex_b (x = y) (K (pc + 3) lv r cs) (K t lv r cs)))
  | .if_icmp .lt off => len = 3 ∧ ex_i2 st (fun x y r => ex_to pc off (fun t => ex_b (x < y) (K t lv r cs) (K (pc + 3) lv r cs)))
  | .if_icmp .ge off => len = 3 ∧ ex_i2 st (fun x y r => ex_to pc off (fun t => ex_b (y ≤ x) (K t lv r cs) (K (pc + 3) lv r cs)))
  | .if_icmp .gt off => len = 3 ∧ ex_i2 st (fun x y r => ex_to pc off (fun t => ex_b (y < x) (K t lv r cs) (K (pc + 3) lv r cs)))
  | .if_icmp .le off => len = 3 ∧ ex_i2 st (fun x y r => ex_to pc off (fun t => ex_b (x ≤ y) (K t lv r cs) (K (pc + 3) lv r cs)))
  | .goto off => len = 3 ∧ ex_to pc off (fun t => K t lv st cs)
  | .tableswitch dflt lo hi offs => hi = lo + offs.size - 1 ∧ ex_i1 st (fun x r => (x.toInt < lo ∨ hi < x.toInt → ex_to pc dflt (fun t => K t lv r cs)) ∧ ex_tb x (fun o => ex_to pc o (fun t => K t lv r cs)) lo offs.toList)
  | .lookupswitch dflt ps => (ps.toList.zip (ps.toList.drop 1)).all (fun (a, next) => a.1 < next.1) = true ∧ ps.toList.all (fun q => decide (-2147483648 ≤ q.1 ∧ q.1 < 2147483648)) = true ∧ ex_i1 st (fun x r => (ex_ln x ps.toList → ex_to pc dflt (fun t => K t lv r cs)) ∧ ex_lk x (fun o => ex_to pc o (fun t => K t lv r cs)) ps.toList)
  | .getfield ix => len = 3 ∧ ex_r1 st (fun a r => ex_o (cx.2.1 ix) (fun q => ex_ob cs a q.1 (fun fs => ex_o fs[q.2.1]? (fun v => K (pc + 3) lv (v :: r) cs))))
  | .putfield ix => len = 3 ∧ ex_vr st (fun v a r => ex_o (cx.2.1 ix) (fun q => ex_ob cs a q.1 (fun fs => q.2.1 < fs.length ∧ q.2.2.1 = true ∧ ex_fit q.2.2.2 v ∧ K (pc + 3) lv r (cs.set a (.inr (q.1, fs.set q.2.1 v))))))
  | .getstatic ix => len = 3 ∧ ex_o (cx.2.2.2.1 ix) (fun j => K (pc + 3) lv (.ref (1000 + j) :: st) cs)
  | .iaload => len = 1 ∧ ex_ir st (fun i a r => ex_ax xt cs a (fun n f => vp_in i n ∧ K (pc + 1) lv (.int (f i.toNatClampNeg) :: r) cs))
  | .baload => len = 1 ∧ ex_ir st (fun i a r => ex_ar cs a 1 (fun n f => vp_in i n ∧ K (pc + 1) lv (.int (f i.toNatClampNeg) :: r) cs))
  | .iastore => len = 1 ∧ ex_iir st (fun x i a r => ex_ar cs a 0 (fun n f => vp_in i n ∧ K (pc + 1) lv r (cs.set a (.inl (0, n, .inl (upd f i.toNatClampNeg x))))))
  | .bastore => len = 1 ∧ ex_iir st (fun x i a r => ex_ar cs a 1 (fun n f => vp_in i n ∧ (x = 0 ∨ x = 1) ∧ K (pc + 1) lv r (cs.set a (.inl (1, n, .inl (upd f i.toNatClampNeg x))))))
  | .arraylength => len = 1 ∧ ex_r1 st (fun a r => match cs[a]? with
    | some (.inl (t, n, .inl _)) => (t = 0 ∨ t = 1) ∧ K (pc + 1) lv (.int (Int32.ofNat n) :: r) cs
    | _ => False)
  | .invokevirtual ix => len = 3 ∧ ex_o (cx.2.2.2.2.1 ix) (fun q => q.1 ≤ st.length ∧ ((st.drop q.1).map (fun v => v.category)).sum ≤ 8 ∧ ex_o q.2.1 (fun ci => ex_o (st[q.1 - 1]?) (fun v => match v with
    | .ref a => ex_ob cs a ci (fun _ => q.2.2 (st.take q.1).reverse cs (fun r cs' => K (pc + 3) lv (r.toList ++ st.drop q.1) cs'))
    | _ => False)))
  | .invokestatic ix => len = 3 ∧ (match cx.2.2.2.2.2.1 ix with
    | 1 => ex_cp cs st (fun r cs' => K (pc + 3) lv r cs')
    | 2 => ex_i2 st (fun x y r => (r.map (fun v => v.category)).sum ≤ 8 ∧ K (pc + 3) lv (.int (if y < x then y else x) :: r) cs)
    | 3 => ex_i2 st (fun x y r => (r.map (fun v => v.category)).sum ≤ 8 ∧ K (pc + 3) lv (.int (if x < y then y else x) :: r) cs)
    | _ => ex_o (cx.2.2.2.2.1 ix) (fun q => q.1 ≤ st.length ∧ ((st.drop q.1).map (fun v => v.category)).sum ≤ 8 ∧ q.2.1 = none ∧ q.2.2 (st.take q.1).reverse cs (fun r cs' => K (pc + 3) lv (r.toList ++ st.drop q.1) cs')))
  | .ireturn => len = 1 ∧ match st with
    | [.int v] => ex_ret ret v ∧ Q (some (.int v)) cs
    | _ => False
  | .return_ => len = 1 ∧ ret = none ∧ st = [] ∧ Q none cs
  | _ => False
/-- the walk from a place in the code, up to the cut points of I -/
def ex_wp (xt : ex_xt) (cx : ex_K) (cc : ByteArray) (ret : Option FieldType) (I : Nat → Option (ex_L → ex_V → ex_C → Prop)) (Q : ex_Q) : Nat → Nat → ex_L → ex_V → ex_C → Prop
  | 0, _, _, _, _ => False
  | n + 1, pc, lv, st, cs => match decode cc pc with
    | .ok (i, len) => ex_i xt cx ret Q i len pc lv st cs (fun pc' lv' st' cs' => match I pc' with
      | some J => J lv' st' cs'
      | none => ex_wp xt cx cc ret I Q n pc' lv' st' cs')
    | .error _ => False
/-- a call's callee: what is known of it -/
def ex_cok (l : Launch) (own : String) (fr lo ix n : Nat) (rc : Option Nat) (sp : ex_S) : Prop :=
  ∃ (y : MethodName) (bytes : ByteArray) (maxL : Nat) (ret : Option FieldType) (fr' lo' : Nat), fr' + 1 ≤ fr ∧ 8 + (maxL + 11) + lo' ≤ lo ∧ ex_Met l y bytes maxL ret fr' lo' sp ∧ Cond.code y bytes maxL ret ∈ ec_tb ∧ Cond.initialized y.cls ∈ ec_tb ∧ (y.cls ≠ "java/lang/invoke/MethodHandle" ∧ y.cls ≠ "java/lang/invoke/VarHandle") ∧
    (Cond.methodLink own ix y ∈ ec_tb ∨ ∃ host, (own, ix, y, host) ∈ ec_ns) ∧
    (match rc with
      | none => Cond.static y ∈ ec_tb ∧ (parseMethodDescriptor y.desc).map (fun d => d.parameters.length) = some n
      | some ci => (∃ T N, ec_cl[ci]? = some (y.cls, T, N)) ∧ Cond.instanceMethod y ∈ ec_tb ∧ Cond.selects y.cls y y ∈ ec_tb ∧ 1 ≤ n ∧ (parseMethodDescriptor y.desc).map (fun d => d.parameters.length) = some (n - 1))
/-- all that a method links is in the tables -/
def ex_ok (l : Launch) (fr lo : Nat) (cx : ex_K) : Prop :=
  (∀ (ix ci k : Nat) (b : Bool) (ty : FieldType), cx.2.1 ix = some (ci, k, b, ty) → ∃ C T N, ec_cl[ci]? = some (C, T, N) ∧ k < N ∧ (Cond.fieldLink cx.1 ix (T k).1 (T k).2.1 (T k).2.2.1 ∈ ec_tb) ∧ parseFieldDescriptor (T k).2.2.1 = some ty ∧ (b = true → (T k).2.2.2 = false)) ∧
  (∀ (ix : Nat) (v : Int32), cx.2.2.1 ix = some v → Cond.constant cx.1 ix v ∈ ec_tb) ∧
  (∀ (ix j : Nat), cx.2.2.2.1 ix = some j → ∃ C n dd, (C, n, dd, j) ∈ ec_zs ∧ Cond.fieldLink cx.1 ix C n dd ∈ ec_tb) ∧
  (∀ (ix n : Nat) (rc : Option Nat) (sp : ex_S), cx.2.2.2.2.1 ix = some (n, rc, sp) → ex_cok l cx.1 fr lo ix n rc sp) ∧
  (∀ (ix : Nat), cx.2.2.2.2.2.1 ix = 2 → Cond.methodLink cx.1 ix Lib.Math.min.name ∈ ec_tb ∧ Cond.static Lib.Math.min.name ∈ ec_tb ∧ Cond.initialized "java/lang/Math" ∈ ec_tb ∧ Cond.code Lib.Math.min.name Lib.Math.min.code 2 (some .int) ∈ ec_tb ∧ 1 ≤ fr ∧ 21 ≤ lo) ∧
  (∀ (ix : Nat), cx.2.2.2.2.2.1 ix = 3 → Cond.methodLink cx.1 ix Lib.Math.max.name ∈ ec_tb ∧ Cond.static Lib.Math.max.name ∈ ec_tb ∧ Cond.initialized "java/lang/Math" ∈ ec_tb ∧ Cond.code Lib.Math.max.name Lib.Math.max.code 2 (some .int) ∈ ec_tb ∧ 1 ≤ fr ∧ 21 ≤ lo) ∧
  (∀ (ix : Nat), cx.2.2.2.2.2.1 ix = 1 → Cond.methodLink cx.1 ix arraycopyName ∈ ec_tb ∧ Cond.native arraycopyName ∈ ec_tb ∧ Cond.static arraycopyName ∈ ec_tb ∧ Cond.initialized "java/lang/System" ∈ ec_tb ∧ 1 ≤ fr ∧ 8 + (nativeFrameWords "java/lang/System" "arraycopy" 5 + 11) ≤ lo) ∧
  (∀ (ix : Nat) (v : Int64), cx.2.2.2.2.2.2 ix = some v → Cond.constantLong cx.1 ix v ∈ ec_tb)
end
section
section EXS
variable {p : Program} {l : Launch} {e : Env} {R : Room} {s : State} {m : MethodId} {args : Array Value} {below : List Frame} {meth : Method} {c : Code}
variable {D : va_G} {ad ca : Nat → Nat} {n0 nL fr lo : Nat} {A : Nat → Prop} {cc : ByteArray} {ret : Option FieldType} {own : String} {Qw : State → Prop} {kc ks : Nat} {xt : ex_xt}
/-- a state of the walk -/
def ex_G (s : State) (D : va_G) (ad ca : Nat → Nat) (n0 nL : Nat) (A : Nat → Prop) (lv : ex_L) (cs : ex_C) (ls : Array Slot) (H : Heap) (locs : List Loc) : Prop := cs.length = n0 ∧ ex_ls ad lv nL ls ∧ va_P D ec_cl (ex_w ad ca cs) H ∧ va_S A s.heap H locs
/-- from here the walk ends, with Q -/
def ex_T (p : Program) (l : Launch) (e : Env) (R : Room) (s : State) (m : MethodId) (args : Array Value) (below : List Frame) (meth : Method) (c : Code) (D : va_G) (ad ca : Nat → Nat) (n0 nL : Nat) (A : Nat → Prop) (kc ks : Nat) (Qw : State → Prop) (pc : Nat) (lv : ex_L) (st : ex_V) (cs : ex_C) : Prop :=
  ∀ (ls : Array Slot) (H : Heap) (locs : List Loc), ex_G s D ad ca n0 nL A lv cs ls H locs → W p l e R s m args below meth c H locs kc ks Qw (F0 m pc ls (st.map (ex_v ad)))
/-- what holds in the whole method -/
def ex_Cx (xt : ex_xt) (p : Program) (R : Room) (s : State) (m : MethodId) (args : Array Value) (meth : Method) (c : Code) (D : va_G) (ad ca : Nat → Nat) (n0 nL fr lo : Nat) (A : Nat → Prop) (cc : ByteArray) (ret : Option FieldType) (own : String) : Prop :=
  p.tables.exec = Jvm.exec ∧ c.code = cc ∧ c.maxLocals = nL ∧ s.vm.findClass own = some m.cls ∧ (∀ w ∈ ec_tb, w.before args s = true) ∧ meth.sig.returnType = ret ∧ meth.locks = false ∧ ex_D ad n0 A ∧ va_K D ec_cl (ex_tys ca) s ∧ ex_X xt ad A s s.heap ∧ ex_Z ad A s s.heap ∧ (∀ q, ex_A ad n0 s.heap.size q → A q) ∧ fr ≤ R.frames ∧ lo ≤ R.locals ∧ (∀ (j : Nat) (q : Nat × (Nat → Int32)), ec_xt[j]? = some q → xt[j]? = some q) ∧ ex_Nw s
theorem ex_s_iconst (C : ex_Cx xt p R s m args meth c D ad ca n0 nL fr lo A cc ret own) {pc : Nat} {lv : ex_L} {cs : ex_C} {k : Int} {r : ex_V} (hd : decode cc pc = .ok (.iconst k, 1)) (k : ex_T p l e R s m args below meth c D ad ca n0 nL A kc ks Qw (pc + 1) lv (.int (Int32.ofInt k) :: r) cs) : ex_T p l e R s m args below meth c D ad ca n0 nL A kc ks Qw pc lv r cs := by
  obtain ⟨hx, hb, hml, hown, hts, hr, hlk, hD, hK, hX, hZ, hAe, hR1, hR2, hxt, hNw⟩ := C
  intro ls H locs G
  exact lv_iconst (v := Int32.ofInt _) hx hb hd rfl (k ls H locs G)
theorem ex_s_bipush (C : ex_Cx xt p R s m args meth c D ad ca n0 nL fr lo A cc ret own) {pc : Nat} {lv : ex_L} {cs : ex_C} {k : Int} {r : ex_V} (hd : decode cc pc = .ok (.bipush k, 2)) (k : ex_T p l e R s m args below meth c D ad ca n0 nL A kc ks Qw (pc + 2) lv (.int (Int8.ofInt k).toInt32 :: r) cs) : ex_T p l e R s m args below meth c D ad ca n0 nL A kc ks Qw pc lv r cs := by
  obtain ⟨hx, hb, hml, hown, hts, hr, hlk, hD, hK, hX, hZ, hAe, hR1, hR2, hxt, hNw⟩ := C
  intro ls H locs G
  exact lv_bipush (v := (Int8.ofInt _).toInt32) hx hb hd rfl (k ls H locs G)
theorem ex_s_sipush (C : ex_Cx xt p R s m args meth c D ad ca n0 nL fr lo A cc ret own) {pc : Nat} {lv : ex_L} {cs : ex_C} {k : Int} {r : ex_V} (hd : decode cc pc = .ok (.sipush k, 3)) (k : ex_T p l e R s m args below meth c D ad ca n0 nL A kc ks Qw (pc + 3) lv (.int (Int16.ofInt k).toInt32 :: r) cs) : ex_T p l e R s m args below meth c D ad ca n0 nL A kc ks Qw pc lv r cs := by
  obtain ⟨hx, hb, hml, hown, hts, hr, hlk, hD, hK, hX, hZ, hAe, hR1, hR2, hxt, hNw⟩ := C
  intro ls H locs G
  exact lv_sipush (v := (Int16.ofInt _).toInt32) hx hb hd rfl (k ls H locs G)
theorem ex_s_lconst (C : ex_Cx xt p R s m args meth c D ad ca n0 nL fr lo A cc ret own) {pc : Nat} {lv : ex_L} {cs : ex_C} {k : Fin 2} {r : ex_V} (hd : decode cc pc = .ok (.lconst k, 1)) (k : ex_T p l e R s m args below meth c D ad ca n0 nL A kc ks Qw (pc + 1) lv (.long (Int64.ofNat k) :: r) cs) : ex_T p l e R s m args below meth c D ad ca n0 nL A kc ks Qw pc lv r cs := by
  obtain ⟨hx, hb, hml, hown, hts, hr, hlk, hD, hK, hX, hZ, hAe, hR1, hR2, hxt, hNw⟩ := C
  intro ls H locs G
  exact lv_lconst (v := Int64.ofNat _) hx hb hd rfl (k ls H locs G)
theorem ex_s_iadd (C : ex_Cx xt p R s m args meth c D ad ca n0 nL fr lo A cc ret own) {pc : Nat} {lv : ex_L} {cs : ex_C} {x y : Int32} {r : ex_V} (hd : decode cc pc = .ok (.iadd, 1)) (k : ex_T p l e R s m args below meth c D ad ca n0 nL A kc ks Qw (pc + 1) lv (.int (x + y) :: r) cs) : ex_T p l e R s m args below meth c D ad ca n0 nL A kc ks Qw pc lv (.int y :: .int x :: r) cs := by
  obtain ⟨hx, hb, hml, hown, hts, hr, hlk, hD, hK, hX, hZ, hAe, hR1, hR2, hxt, hNw⟩ := C
  intro ls H locs G
  exact lv_iadd (x := x) (y := y) (rest := r.map (ex_v ad)) hx hb hd (k ls H locs G)
theorem ex_s_isub (C : ex_Cx xt p R s m args meth c D ad ca n0 nL fr lo A cc ret own) {pc : Nat} {lv : ex_L} {cs : ex_C} {x y : Int32} {r : ex_V} (hd : decode cc pc = .ok (.isub, 1)) (k : ex_T p l e R s m args below meth c D ad ca n0 nL A kc ks Qw (pc + 1) lv (.int (x - y) :: r) cs) : ex_T p l e R s m args below meth c D ad ca n0 nL A kc ks Qw pc lv (.int y :: .int x :: r) cs := by
  obtain ⟨hx, hb, hml, hown, hts, hr, hlk, hD, hK, hX, hZ, hAe, hR1, hR2, hxt, hNw⟩ := C
  intro ls H locs G
  exact lv_isub (x := x) (y := y) (rest := r.map (ex_v ad)) hx hb hd (k ls H locs G)
theorem ex_s_imul (C : ex_Cx xt p R s m args meth c D ad ca n0 nL fr lo A cc ret own) {pc : Nat} {lv : ex_L} {cs : ex_C} {x y : Int32} {r : ex_V} (hd : decode cc pc = .ok (.imul, 1)) (k : ex_T p l e R s m args below meth c D ad ca n0 nL A kc ks Qw (pc + 1) lv (.int (x * y) :: r) cs) : ex_T p l e R s m args below meth c D ad ca n0 nL A kc ks Qw pc lv (.int y :: .int x :: r) cs := by
  obtain ⟨hx, hb, hml, hown, hts, hr, hlk, hD, hK, hX, hZ, hAe, hR1, hR2, hxt, hNw⟩ := C
  intro ls H locs G
  exact lv_imul (x := x) (y := y) (rest := r.map (ex_v ad)) hx hb hd (k ls H locs G)
theorem ex_s_iand (C : ex_Cx xt p R s m args meth c D ad ca n0 nL fr lo A cc ret own) {pc : Nat} {lv : ex_L} {cs : ex_C} {x y : Int32} {r : ex_V} (hd : decode cc pc = .ok (.iand, 1)) (k : ex_T p l e R s m args below meth c D ad ca n0 nL A kc ks Qw (pc + 1) lv (.int (x &&& y) :: r) cs) : ex_T p l e R s m args below meth c D ad ca n0 nL A kc ks Qw pc lv (.int y :: .int x :: r) cs := by
  obtain ⟨hx, hb, hml, hown, hts, hr, hlk, hD, hK, hX, hZ, hAe, hR1, hR2, hxt, hNw⟩ := C
  intro ls H locs G
  exact lv_iand (x := x) (y := y) (rest := r.map (ex_v ad)) hx hb hd (k ls H locs G)
theorem ex_s_ior (C : ex_Cx xt p R s m args meth c D ad ca n0 nL fr lo A cc ret own) {pc : Nat} {lv : ex_L} {cs : ex_C} {x y : Int32} {r : ex_V} (hd : decode cc pc = .ok (.ior, 1)) (k : ex_T p l e R s m args below meth c D ad ca n0 nL A kc ks Qw (pc + 1) lv (.int (x ||| y) :: r) cs) : ex_T p l e R s m args below meth c D ad ca n0 nL A kc ks Qw pc lv (.int y :: .int x :: r) cs := by
  obtain ⟨hx, hb, hml, hown, hts, hr, hlk, hD, hK, hX, hZ, hAe, hR1, hR2, hxt, hNw⟩ := C
  intro ls H locs G
  exact lv_ior (x := x) (y := y) (rest := r.map (ex_v ad)) hx hb hd (k ls H locs G)
theorem ex_s_ixor (C : ex_Cx xt p R s m args meth c D ad ca n0 nL fr lo A cc ret own) {pc : Nat} {lv : ex_L} {cs : ex_C} {x y : Int32} {r : ex_V} (hd : decode cc pc = .ok (.ixor, 1)) (k : ex_T p l e R s m args below meth c D ad ca n0 nL A kc ks Qw (pc + 1) lv (.int (x ^^^ y) :: r) cs) : ex_T p l e R s m args below meth c D ad ca n0 nL A kc ks Qw pc lv (.int y :: .int x :: r) cs := by
  obtain ⟨hx, hb, hml, hown, hts, hr, hlk, hD, hK, hX, hZ, hAe, hR1, hR2, hxt, hNw⟩ := C
  intro ls H locs G
  exact lv_ixor (x := x) (y := y) (rest := r.map (ex_v ad)) hx hb hd (k ls H locs G)
theorem ex_s_ishl (C : ex_Cx xt p R s m args meth c D ad ca n0 nL fr lo A cc ret own) {pc : Nat} {lv : ex_L} {cs : ex_C} {x y : Int32} {r : ex_V} (hd : decode cc pc = .ok (.ishl, 1)) (k : ex_T p l e R s m args below meth c D ad ca n0 nL A kc ks Qw (pc + 1) lv (.int (x <<< (y &&& 31)) :: r) cs) : ex_T p l e R s m args below meth c D ad ca n0 nL A kc ks Qw pc lv (.int y :: .int x :: r) cs := by
  obtain ⟨hx, hb, hml, hown, hts, hr, hlk, hD, hK, hX, hZ, hAe, hR1, hR2, hxt, hNw⟩ := C
  intro ls H locs G
  exact lv_ishl (x := x) (y := y) (rest := r.map (ex_v ad)) hx hb hd (k ls H locs G)
theorem ex_s_ishr (C : ex_Cx xt p R s m args meth c D ad ca n0 nL fr lo A cc ret own) {pc : Nat} {lv : ex_L} {cs : ex_C} {x y : Int32} {r : ex_V} (hd : decode cc pc = .ok (.ishr, 1)) (k : ex_T p l e R s m args below meth c D ad ca n0 nL A kc ks Qw (pc + 1) lv (.int (x >>> (y &&& 31)) :: r) cs) : ex_T p l e R s m args below meth c D ad ca n0 nL A kc ks Qw pc lv (.int y :: .int x :: r) cs := by
  obtain ⟨hx, hb, hml, hown, hts, hr, hlk, hD, hK, hX, hZ, hAe, hR1, hR2, hxt, hNw⟩ := C
  intro ls H locs G
  exact lv_ishr (x := x) (y := y) (rest := r.map (ex_v ad)) hx hb hd (k ls H locs G)
theorem ex_s_iushr (C : ex_Cx xt p R s m args meth c D ad ca n0 nL fr lo A cc ret own) {pc : Nat} {lv : ex_L} {cs : ex_C} {x y : Int32} {r : ex_V} (hd : decode cc pc = .ok (.iushr, 1)) (k : ex_T p l e R s m args below meth c D ad ca n0 nL A kc ks Qw (pc + 1) lv (.int (x.toUInt32 >>> (y.toUInt32 &&& Int32.toUInt32 31)).toInt32 :: r) cs) : ex_T p l e R s m args below meth c D ad ca n0 nL A kc ks Qw pc lv (.int y :: .int x :: r) cs := by
  obtain ⟨hx, hb, hml, hown, hts, hr, hlk, hD, hK, hX, hZ, hAe, hR1, hR2, hxt, hNw⟩ := C
  intro ls H locs G
  exact lv_iushr (x := x) (y := y) (rest := r.map (ex_v ad)) hx hb hd rfl (k ls H locs G)
theorem ex_s_idiv (C : ex_Cx xt p R s m args meth c D ad ca n0 nL fr lo A cc ret own) {pc : Nat} {lv : ex_L} {cs : ex_C} {x y : Int32} {r : ex_V} (hy : ¬ y = 0) (hd : decode cc pc = .ok (.idiv, 1)) (k : ex_T p l e R s m args below meth c D ad ca n0 nL A kc ks Qw (pc + 1) lv (.int (x / y) :: r) cs) : ex_T p l e R s m args below meth c D ad ca n0 nL A kc ks Qw pc lv (.int y :: .int x :: r) cs := by
  obtain ⟨hx, hb, hml, hown, hts, hr, hlk, hD, hK, hX, hZ, hAe, hR1, hR2, hxt, hNw⟩ := C
  intro ls H locs G
  exact lv_idiv (x := x) (y := y) (rest := r.map (ex_v ad)) hx hb hd hy (k ls H locs G)
theorem ex_s_irem (C : ex_Cx xt p R s m args meth c D ad ca n0 nL fr lo A cc ret own) {pc : Nat} {lv : ex_L} {cs : ex_C} {x y : Int32} {r : ex_V} (hy : ¬ y = 0) (hd : decode cc pc = .ok (.irem, 1)) (k : ex_T p l e R s m args below meth c D ad ca n0 nL A kc ks Qw (pc + 1) lv (.int (x - x / y * y) :: r) cs) : ex_T p l e R s m args below meth c D ad ca n0 nL A kc ks Qw pc lv (.int y :: .int x :: r) cs := by
  obtain ⟨hx, hb, hml, hown, hts, hr, hlk, hD, hK, hX, hZ, hAe, hR1, hR2, hxt, hNw⟩ := C
  intro ls H locs G
  exact lv_irem (x := x) (y := y) (rest := r.map (ex_v ad)) hx hb hd hy (k ls H locs G)
theorem ex_s_ineg (C : ex_Cx xt p R s m args meth c D ad ca n0 nL fr lo A cc ret own) {pc : Nat} {lv : ex_L} {cs : ex_C} {x : Int32} {r : ex_V} (hd : decode cc pc = .ok (.ineg, 1)) (k : ex_T p l e R s m args below meth c D ad ca n0 nL A kc ks Qw (pc + 1) lv (.int (-x) :: r) cs) : ex_T p l e R s m args below meth c D ad ca n0 nL A kc ks Qw pc lv (.int x :: r) cs := by
  obtain ⟨hx, hb, hml, hown, hts, hr, hlk, hD, hK, hX, hZ, hAe, hR1, hR2, hxt, hNw⟩ := C
  intro ls H locs G
  exact lv_ineg (x := x) (rest := r.map (ex_v ad)) hx hb hd (k ls H locs G)
theorem ex_s_i2l (C : ex_Cx xt p R s m args meth c D ad ca n0 nL fr lo A cc ret own) {pc : Nat} {lv : ex_L} {cs : ex_C} {x : Int32} {r : ex_V} (hd : decode cc pc = .ok (.i2l, 1)) (k : ex_T p l e R s m args below meth c D ad ca n0 nL A kc ks Qw (pc + 1) lv (.long x.toInt64 :: r) cs) : ex_T p l e R s m args below meth c D ad ca n0 nL A kc ks Qw pc lv (.int x :: r) cs := by
  obtain ⟨hx, hb, hml, hown, hts, hr, hlk, hD, hK, hX, hZ, hAe, hR1, hR2, hxt, hNw⟩ := C
  intro ls H locs G
  exact lv_i2l (x := x) (rest := r.map (ex_v ad)) hx hb hd rfl (k ls H locs G)
theorem ex_s_l2i (C : ex_Cx xt p R s m args meth c D ad ca n0 nL fr lo A cc ret own) {pc : Nat} {lv : ex_L} {cs : ex_C} {x : Int64} {r : ex_V} (hd : decode cc pc = .ok (.l2i, 1)) (k : ex_T p l e R s m args below meth c D ad ca n0 nL A kc ks Qw (pc + 1) lv (.int x.toInt32 :: r) cs) : ex_T p l e R s m args below meth c D ad ca n0 nL A kc ks Qw pc lv (.long x :: r) cs := by
  obtain ⟨hx, hb, hml, hown, hts, hr, hlk, hD, hK, hX, hZ, hAe, hR1, hR2, hxt, hNw⟩ := C
  intro ls H locs G
  exact lv_l2i (x := x) (rest := r.map (ex_v ad)) hx hb hd rfl (k ls H locs G)
theorem ex_s_ladd (C : ex_Cx xt p R s m args meth c D ad ca n0 nL fr lo A cc ret own) {pc : Nat} {lv : ex_L} {cs : ex_C} {x y : Int64} {r : ex_V} (hd : decode cc pc = .ok (.ladd, 1)) (k : ex_T p l e R s m args below meth c D ad ca n0 nL A kc ks Qw (pc + 1) lv (.long (x + y) :: r) cs) : ex_T p l e R s m args below meth c D ad ca n0 nL A kc ks Qw pc lv (.long y :: .long x :: r) cs := by
  obtain ⟨hx, hb, hml, hown, hts, hr, hlk, hD, hK, hX, hZ, hAe, hR1, hR2, hxt, hNw⟩ := C
  intro ls H locs G
  exact lv_ladd (x := x) (y := y) (rest := r.map (ex_v ad)) hx hb hd (k ls H locs G)
theorem ex_s_lsub (C : ex_Cx xt p R s m args meth c D ad ca n0 nL fr lo A cc ret own) {pc : Nat} {lv : ex_L} {cs : ex_C} {x y : Int64} {r : ex_V} (hd : decode cc pc = .ok (.lsub, 1)) (k : ex_T p l e R s m args below meth c D ad ca n0 nL A kc ks Qw (pc + 1) lv (.long (x - y) :: r) cs) : ex_T p l e R s m args below meth c D ad ca n0 nL A kc ks Qw pc lv (.long y :: .long x :: r) cs := by
  obtain ⟨hx, hb, hml, hown, hts, hr, hlk, hD, hK, hX, hZ, hAe, hR1, hR2, hxt, hNw⟩ := C
  intro ls H locs G
  exact lv_lsub (x := x) (y := y) (rest := r.map (ex_v ad)) hx hb hd (k ls H locs G)
theorem ex_s_lmul (C : ex_Cx xt p R s m args meth c D ad ca n0 nL fr lo A cc ret own) {pc : Nat} {lv : ex_L} {cs : ex_C} {x y : Int64} {r : ex_V} (hd : decode cc pc = .ok (.lmul, 1)) (k : ex_T p l e R s m args below meth c D ad ca n0 nL A kc ks Qw (pc + 1) lv (.long (x * y) :: r) cs) : ex_T p l e R s m args below meth c D ad ca n0 nL A kc ks Qw pc lv (.long y :: .long x :: r) cs := by
  obtain ⟨hx, hb, hml, hown, hts, hr, hlk, hD, hK, hX, hZ, hAe, hR1, hR2, hxt, hNw⟩ := C
  intro ls H locs G
  exact lv_lmul (x := x) (y := y) (rest := r.map (ex_v ad)) hx hb hd (k ls H locs G)
theorem ex_s_ldiv (C : ex_Cx xt p R s m args meth c D ad ca n0 nL fr lo A cc ret own) {pc : Nat} {lv : ex_L} {cs : ex_C} {x y : Int64} {r : ex_V} (hy : ¬ y = 0) (hd : decode cc pc = .ok (.ldiv, 1)) (k : ex_T p l e R s m args below meth c D ad ca n0 nL A kc ks Qw (pc + 1) lv (.long (x / y) :: r) cs) : ex_T p l e R s m args below meth c D ad ca n0 nL A kc ks Qw pc lv (.long y :: .long x :: r) cs := by
  obtain ⟨hx, hb, hml, hown, hts, hr, hlk, hD, hK, hX, hZ, hAe, hR1, hR2, hxt, hNw⟩ := C
  intro ls H locs G
  exact lv_ldiv (x := x) (y := y) (rest := r.map (ex_v ad)) hx hb hd hy (k ls H locs G)
theorem ex_s_dup (C : ex_Cx xt p R s m args meth c D ad ca n0 nL fr lo A cc ret own) {pc : Nat} {lv : ex_L} {cs : ex_C} {v : Value} {r : ex_V} (h1 : v.category = 1) (hd : decode cc pc = .ok (.dup, 1)) (k : ex_T p l e R s m args below meth c D ad ca n0 nL A kc ks Qw (pc + 1) lv (v :: v :: r) cs) : ex_T p l e R s m args below meth c D ad ca n0 nL A kc ks Qw pc lv (v :: r) cs := by
  obtain ⟨hx, hb, hml, hown, hts, hr, hlk, hD, hK, hX, hZ, hAe, hR1, hR2, hxt, hNw⟩ := C
  intro ls H locs G
  exact lv_dup (va := ex_v ad v) (rest := r.map (ex_v ad)) hx hb hd (by rw [ex_v_cat]; exact h1) (k ls H locs G)
theorem ex_s_pop (C : ex_Cx xt p R s m args meth c D ad ca n0 nL fr lo A cc ret own) {pc : Nat} {lv : ex_L} {cs : ex_C} {v : Value} {r : ex_V} (h1 : v.category = 1) (hd : decode cc pc = .ok (.pop, 1)) (k : ex_T p l e R s m args below meth c D ad ca n0 nL A kc ks Qw (pc + 1) lv r cs) : ex_T p l e R s m args below meth c D ad ca n0 nL A kc ks Qw pc lv (v :: r) cs := by
  obtain ⟨hx, hb, hml, hown, hts, hr, hlk, hD, hK, hX, hZ, hAe, hR1, hR2, hxt, hNw⟩ := C
  intro ls H locs G
  exact lv_pop (va := ex_v ad v) (rest := r.map (ex_v ad)) hx hb hd (by rw [ex_v_cat]; exact h1) (k ls H locs G)
theorem ex_s_dup_x1 (C : ex_Cx xt p R s m args meth c D ad ca n0 nL fr lo A cc ret own) {pc : Nat} {lv : ex_L} {cs : ex_C} {v w : Value} {r : ex_V} (h1 : v.category = 1) (h2 : w.category = 1) (hd : decode cc pc = .ok (.dup_x1, 1)) (k : ex_T p l e R s m args below meth c D ad ca n0 nL A kc ks Qw (pc + 1) lv (v :: w :: v :: r) cs) : ex_T p l e R s m args below meth c D ad ca n0 nL A kc ks Qw pc lv (v :: w :: r) cs := by
  obtain ⟨hx, hb, hml, hown, hts, hr, hlk, hD, hK, hX, hZ, hAe, hR1, hR2, hxt, hNw⟩ := C
  intro ls H locs G
  exact lv_dup_x1 (va := ex_v ad v) (vb := ex_v ad w) (rest := r.map (ex_v ad)) hx hb hd (by rw [ex_v_cat]; exact h1) (by rw [ex_v_cat]; exact h2) (k ls H locs G)
theorem ex_s_dup2 (C : ex_Cx xt p R s m args meth c D ad ca n0 nL fr lo A cc ret own) {pc : Nat} {lv : ex_L} {cs : ex_C} {v w : Value} {r : ex_V} (h1 : v.category = 1) (h2 : w.category = 1) (hd : decode cc pc = .ok (.dup2, 1)) (k : ex_T p l e R s m args below meth c D ad ca n0 nL A kc ks Qw (pc + 1) lv (v :: w :: v :: w :: r) cs) : ex_T p l e R s m args below meth c D ad ca n0 nL A kc ks Qw pc lv (v :: w :: r) cs := by
  obtain ⟨hx, hb, hml, hown, hts, hr, hlk, hD, hK, hX, hZ, hAe, hR1, hR2, hxt, hNw⟩ := C
  intro ls H locs G
  exact lv_dup2_11 (va := ex_v ad v) (vb := ex_v ad w) (rest := r.map (ex_v ad)) hx hb hd (by rw [ex_v_cat]; exact h1) (by rw [ex_v_cat]; exact h2) (k ls H locs G)
theorem ex_s_iload_n (C : ex_Cx xt p R s m args meth c D ad ca n0 nL fr lo A cc ret own) {pc : Nat} {lv : ex_L} {cs : ex_C} {k : Fin 4} {x : Int32} {r : ex_V} (hd : decode cc pc = .ok (.iload_n k, 1)) (hv : lv[(k : Nat)]? = some (some (.int x))) (k : ex_T p l e R s m args below meth c D ad ca n0 nL A kc ks Qw (pc + 1) lv (.int x :: r) cs) : ex_T p l e R s m args below meth c D ad ca n0 nL A kc ks Qw pc lv r cs := by
  obtain ⟨hx, hb, hml, hown, hts, hr, hlk, hD, hK, hX, hZ, hAe, hR1, hR2, hxt, hNw⟩ := C
  intro ls H locs G
  exact lv_iload_n (x := x) (rest := r.map (ex_v ad)) hx hb hd rfl (G.2.1.2.2.2 _ _ hv) (k ls H locs G)
theorem ex_s_iload (C : ex_Cx xt p R s m args meth c D ad ca n0 nL fr lo A cc ret own) {pc : Nat} {lv : ex_L} {cs : ex_C} {k : Nat} {x : Int32} {r : ex_V} (hd : decode cc pc = .ok (.iload k, 2)) (hv : lv[k]? = some (some (.int x))) (k : ex_T p l e R s m args below meth c D ad ca n0 nL A kc ks Qw (pc + 2) lv (.int x :: r) cs) : ex_T p l e R s m args below meth c D ad ca n0 nL A kc ks Qw pc lv r cs := by
  obtain ⟨hx, hb, hml, hown, hts, hr, hlk, hD, hK, hX, hZ, hAe, hR1, hR2, hxt, hNw⟩ := C
  intro ls H locs G
  exact lv_iload (x := x) (rest := r.map (ex_v ad)) hx hb hd (G.2.1.2.2.2 _ _ hv) (k ls H locs G)
theorem ex_s_lload_n (C : ex_Cx xt p R s m args meth c D ad ca n0 nL fr lo A cc ret own) {pc : Nat} {lv : ex_L} {cs : ex_C} {k : Fin 4} {x : Int64} {r : ex_V} (hd : decode cc pc = .ok (.lload_n k, 1)) (hv : lv[(k : Nat)]? = some (some (.long x))) (k : ex_T p l e R s m args below meth c D ad ca n0 nL A kc ks Qw (pc + 1) lv (.long x :: r) cs) : ex_T p l e R s m args below meth c D ad ca n0 nL A kc ks Qw pc lv r cs := by
  obtain ⟨hx, hb, hml, hown, hts, hr, hlk, hD, hK, hX, hZ, hAe, hR1, hR2, hxt, hNw⟩ := C
  intro ls H locs G
  exact lv_lload_n (x := x) (rest := r.map (ex_v ad)) hx hb hd rfl (G.2.1.2.2.2 _ _ hv) (k ls H locs G)
theorem ex_s_lload (C : ex_Cx xt p R s m args meth c D ad ca n0 nL fr lo A cc ret own) {pc : Nat} {lv : ex_L} {cs : ex_C} {k : Nat} {x : Int64} {r : ex_V} (hd : decode cc pc = .ok (.lload k, 2)) (hv : lv[k]? = some (some (.long x))) (k : ex_T p l e R s m args below meth c D ad ca n0 nL A kc ks Qw (pc + 2) lv (.long x :: r) cs) : ex_T p l e R s m args below meth c D ad ca n0 nL A kc ks Qw pc lv r cs := by
  obtain ⟨hx, hb, hml, hown, hts, hr, hlk, hD, hK, hX, hZ, hAe, hR1, hR2, hxt, hNw⟩ := C
  intro ls H locs G
  exact lv_lload (x := x) (rest := r.map (ex_v ad)) hx hb hd (G.2.1.2.2.2 _ _ hv) (k ls H locs G)
theorem ex_s_aload_n (C : ex_Cx xt p R s m args meth c D ad ca n0 nL fr lo A cc ret own) {pc : Nat} {lv : ex_L} {cs : ex_C} {k : Fin 4} {x : Nat} {r : ex_V} (hd : decode cc pc = .ok (.aload_n k, 1)) (hv : lv[(k : Nat)]? = some (some (.ref x))) (k : ex_T p l e R s m args below meth c D ad ca n0 nL A kc ks Qw (pc + 1) lv (.ref x :: r) cs) : ex_T p l e R s m args below meth c D ad ca n0 nL A kc ks Qw pc lv r cs := by
  obtain ⟨hx, hb, hml, hown, hts, hr, hlk, hD, hK, hX, hZ, hAe, hR1, hR2, hxt, hNw⟩ := C
  intro ls H locs G
  exact lv_aload_n (x := ad x) (rest := r.map (ex_v ad)) hx hb hd rfl (G.2.1.2.2.2 _ _ hv) (k ls H locs G)
theorem ex_s_aload (C : ex_Cx xt p R s m args meth c D ad ca n0 nL fr lo A cc ret own) {pc : Nat} {lv : ex_L} {cs : ex_C} {k : Nat} {x : Nat} {r : ex_V} (hd : decode cc pc = .ok (.aload k, 2)) (hv : lv[k]? = some (some (.ref x))) (k : ex_T p l e R s m args below meth c D ad ca n0 nL A kc ks Qw (pc + 2) lv (.ref x :: r) cs) : ex_T p l e R s m args below meth c D ad ca n0 nL A kc ks Qw pc lv r cs := by
  obtain ⟨hx, hb, hml, hown, hts, hr, hlk, hD, hK, hX, hZ, hAe, hR1, hR2, hxt, hNw⟩ := C
  intro ls H locs G
  exact lv_aload (x := ad x) (rest := r.map (ex_v ad)) hx hb hd (G.2.1.2.2.2 _ _ hv) (k ls H locs G)
theorem ex_s_istore_n (C : ex_Cx xt p R s m args meth c D ad ca n0 nL fr lo A cc ret own) {pc : Nat} {lv : ex_L} {cs : ex_C} {k : Fin 4} {x : Int32} {r : ex_V} (hd : decode cc pc = .ok (.istore_n k, 1)) (hs : ex_so lv k) (kk : ex_T p l e R s m args below meth c D ad ca n0 nL A kc ks Qw (pc + 1) (lv.set k (some (.int x))) r cs) : ex_T p l e R s m args below meth c D ad ca n0 nL A kc ks Qw pc lv (.int x :: r) cs := by
  obtain ⟨hx, hb, hml, hown, hts, hr, hlk, hD, hK, hX, hZ, hAe, hR1, hR2, hxt, hNw⟩ := C
  intro ls H locs G
  refine lv_istore_n (x := x) (rest := r.map (ex_v ad)) hx hb hd rfl G.2.1.has (Nat.lt_of_lt_of_le hs.1 G.2.1.2.2.1) rfl (fun ls' h' => ?_)
  exact kk ls' H locs ⟨G.1, G.2.1.set1 (v := .int x) hs h', G.2.2⟩
theorem ex_s_istore (C : ex_Cx xt p R s m args meth c D ad ca n0 nL fr lo A cc ret own) {pc : Nat} {lv : ex_L} {cs : ex_C} {k : Nat} {x : Int32} {r : ex_V} (hd : decode cc pc = .ok (.istore k, 2)) (hs : ex_so lv k) (kk : ex_T p l e R s m args below meth c D ad ca n0 nL A kc ks Qw (pc + 2) (lv.set k (some (.int x))) r cs) : ex_T p l e R s m args below meth c D ad ca n0 nL A kc ks Qw pc lv (.int x :: r) cs := by
  obtain ⟨hx, hb, hml, hown, hts, hr, hlk, hD, hK, hX, hZ, hAe, hR1, hR2, hxt, hNw⟩ := C
  intro ls H locs G
  refine lv_istore (x := x) (rest := r.map (ex_v ad)) hx hb hd G.2.1.has (Nat.lt_of_lt_of_le hs.1 G.2.1.2.2.1) rfl (fun ls' h' => ?_)
  exact kk ls' H locs ⟨G.1, G.2.1.set1 (v := .int x) hs h', G.2.2⟩
theorem ex_s_astore_n (C : ex_Cx xt p R s m args meth c D ad ca n0 nL fr lo A cc ret own) {pc : Nat} {lv : ex_L} {cs : ex_C} {k : Fin 4} {x : Nat} {r : ex_V} (hd : decode cc pc = .ok (.astore_n k, 1)) (hs : ex_so lv k) (kk : ex_T p l e R s m args below meth c D ad ca n0 nL A kc ks Qw (pc + 1) (lv.set k (some (.ref x))) r cs) : ex_T p l e R s m args below meth c D ad ca n0 nL A kc ks Qw pc lv (.ref x :: r) cs := by
  obtain ⟨hx, hb, hml, hown, hts, hr, hlk, hD, hK, hX, hZ, hAe, hR1, hR2, hxt, hNw⟩ := C
  intro ls H locs G
  refine lv_astore_n (x := ad x) (rest := r.map (ex_v ad)) hx hb hd rfl G.2.1.has (Nat.lt_of_lt_of_le hs.1 G.2.1.2.2.1) rfl (fun ls' h' => ?_)
  exact kk ls' H locs ⟨G.1, G.2.1.set1 (v := .ref x) hs h', G.2.2⟩
theorem ex_s_astore (C : ex_Cx xt p R s m args meth c D ad ca n0 nL fr lo A cc ret own) {pc : Nat} {lv : ex_L} {cs : ex_C} {k : Nat} {x : Nat} {r : ex_V} (hd : decode cc pc = .ok (.astore k, 2)) (hs : ex_so lv k) (kk : ex_T p l e R s m args below meth c D ad ca n0 nL A kc ks Qw (pc + 2) (lv.set k (some (.ref x))) r cs) : ex_T p l e R s m args below meth c D ad ca n0 nL A kc ks Qw pc lv (.ref x :: r) cs := by
  obtain ⟨hx, hb, hml, hown, hts, hr, hlk, hD, hK, hX, hZ, hAe, hR1, hR2, hxt, hNw⟩ := C
  intro ls H locs G
  refine lv_astore (x := ad x) (rest := r.map (ex_v ad)) hx hb hd G.2.1.has (Nat.lt_of_lt_of_le hs.1 G.2.1.2.2.1) rfl (fun ls' h' => ?_)
  exact kk ls' H locs ⟨G.1, G.2.1.set1 (v := .ref x) hs h', G.2.2⟩
theorem ex_s_lstore_n (C : ex_Cx xt p R s m args meth c D ad ca n0 nL fr lo A cc ret own) {pc : Nat} {lv : ex_L} {cs : ex_C} {k : Fin 4} {x : Int64} {r : ex_V} (hd : decode cc pc = .ok (.lstore_n k, 1)) (hs : ex_so lv k) (hs2 : (k : Nat) + 1 < lv.length) (kk : ex_T p l e R s m args below meth c D ad ca n0 nL A kc ks Qw (pc + 1) ((lv.set k (some (.long x))).set (k + 1) none) r cs) : ex_T p l e R s m args below meth c D ad ca n0 nL A kc ks Qw pc lv (.long x :: r) cs := by
  obtain ⟨hx, hb, hml, hown, hts, hr, hlk, hD, hK, hX, hZ, hAe, hR1, hR2, hxt, hNw⟩ := C
  intro ls H locs G
  refine lv_lstore_n (x := x) (rest := r.map (ex_v ad)) hx hb hd rfl G.2.1.has (Nat.lt_of_lt_of_le hs2 G.2.1.2.2.1) rfl (fun ls' h' => ?_)
  exact kk ls' H locs ⟨G.1, G.2.1.set2 (v := .long x) hs h', G.2.2⟩
theorem ex_s_lstore (C : ex_Cx xt p R s m args meth c D ad ca n0 nL fr lo A cc ret own) {pc : Nat} {lv : ex_L} {cs : ex_C} {k : Nat} {x : Int64} {r : ex_V} (hd : decode cc pc = .ok (.lstore k, 2)) (hs : ex_so lv k) (hs2 : (k : Nat) + 1 < lv.length) (kk : ex_T p l e R s m args below meth c D ad ca n0 nL A kc ks Qw (pc + 2) ((lv.set k (some (.long x))).set (k + 1) none) r cs) : ex_T p l e R s m args below meth c D ad ca n0 nL A kc ks Qw pc lv (.long x :: r) cs := by
  obtain ⟨hx, hb, hml, hown, hts, hr, hlk, hD, hK, hX, hZ, hAe, hR1, hR2, hxt, hNw⟩ := C
  intro ls H locs G
  refine lv_lstore (x := x) (rest := r.map (ex_v ad)) hx hb hd G.2.1.has (Nat.lt_of_lt_of_le hs2 G.2.1.2.2.1) rfl (fun ls' h' => ?_)
  exact kk ls' H locs ⟨G.1, G.2.1.set2 (v := .long x) hs h', G.2.2⟩
theorem ex_s_iinc (C : ex_Cx xt p R s m args meth c D ad ca n0 nL fr lo A cc ret own) {pc : Nat} {lv : ex_L} {cs : ex_C} {k : Nat} {n : Int} {x : Int32} {r : ex_V} (hd : decode cc pc = .ok (.iinc k n, 3)) (hv : lv[k]? = some (some (.int x))) (hs : ex_so lv k) (kk : ex_T p l e R s m args below meth c D ad ca n0 nL A kc ks Qw (pc + 3) (lv.set k (some (.int (x + Int32.ofInt n)))) r cs) : ex_T p l e R s m args below meth c D ad ca n0 nL A kc ks Qw pc lv r cs := by
  obtain ⟨hx, hb, hml, hown, hts, hr, hlk, hD, hK, hX, hZ, hAe, hR1, hR2, hxt, hNw⟩ := C
  intro ls H locs G
  obtain ⟨j, hj⟩ := List.getElem?_of_mem (ex_ll_mem (ad := ad) (lv := lv) (q := (k, .int x)) |>.mpr ⟨.int x, hv, rfl⟩)
  refine lv_iinc (x := x) (v := x + Int32.ofInt n) (k := j) (rest := r.map (ex_v ad)) hx hb hd G.2.1.has hj rfl (Nat.lt_of_lt_of_le hs.1 G.2.1.2.2.1) rfl (fun ls' h' => ?_)
  exact kk ls' H locs ⟨G.1, G.2.1.set1 (v := .int (x + Int32.ofInt n)) hs h', G.2.2⟩
theorem ex_s_if_eq (C : ex_Cx xt p R s m args meth c D ad ca n0 nL fr lo A cc ret own) {pc : Nat} {lv : ex_L} {cs : ex_C} {x : Int32} {r : ex_V} {off : Int} {t : Nat} (hd : decode cc pc = .ok (.ifCond .eq off, 3)) (ht : (pc : Int) + off = (t : Int)) (kt : x = 0 → ex_T p l e R s m args below meth c D ad ca n0 nL A kc ks Qw t lv r cs) (kf : ¬ x = 0 → ex_T p l e R s m args below meth c D ad ca n0 nL A kc ks Qw (pc + 3) lv r cs) : ex_T p l e R s m args below meth c D ad ca n0 nL A kc ks Qw pc lv (.int x :: r) cs := by
  obtain ⟨hx, hb, hml, hown, hts, hr, hlk, hD, hK, hX, hZ, hAe, hR1, hR2, hxt, hNw⟩ := C
  intro ls H locs G
  exact lv_if_eq (x := x) (rest := r.map (ex_v ad)) (tgt := t) hx hb hd ht (fun h => kt h ls H locs G) (fun h => kf h ls H locs G)
theorem ex_s_icmp_eq (C : ex_Cx xt p R s m args meth c D ad ca n0 nL fr lo A cc ret own) {pc : Nat} {lv : ex_L} {cs : ex_C} {x y : Int32} {r : ex_V} {off : Int} {t : Nat} (hd : decode cc pc = .ok (.if_icmp .eq off, 3)) (ht : (pc : Int) + off = (t : Int)) (kt : x = y → ex_T p l e R s m args below meth c D ad ca n0 nL A kc ks Qw t lv r cs) (kf : ¬ x = y → ex_T p l e R s m args below meth c D ad ca n0 nL A kc ks Qw (pc + 3) lv r cs) : ex_T p l e R s m args below meth c D ad ca n0 nL A kc ks Qw pc lv (.int y :: .int x :: r) cs := by
  obtain ⟨hx, hb, hml, hown, hts, hr, hlk, hD, hK, hX, hZ, hAe, hR1, hR2, hxt, hNw⟩ := C
  intro ls H locs G
  exact lv_icmp_eq (x := x) (y := y) (rest := r.map (ex_v ad)) (tgt := t) hx hb hd ht (fun h => kt h ls H locs G) (fun h => kf h ls H locs G)
theorem ex_s_if_ne (C : ex_Cx xt p R s m args meth c D ad ca n0 nL fr lo A cc ret own) {pc : Nat} {lv : ex_L} {cs : ex_C} {x : Int32} {r : ex_V} {off : Int} {t : Nat} (hd : decode cc pc = .ok (.ifCond .ne off, 3)) (ht : (pc : Int) + off = (t : Int)) (kf : x = 0 → ex_T p l e R s m args below meth c D ad ca n0 nL A kc ks Qw (pc + 3) lv r cs) (kt : ¬ x = 0 → ex_T p l e R s m args below meth c D ad ca n0 nL A kc ks Qw t lv r cs) : ex_T p l e R s m args below meth c D ad ca n0 nL A kc ks Qw pc lv (.int x :: r) cs := by
  obtain ⟨hx, hb, hml, hown, hts, hr, hlk, hD, hK, hX, hZ, hAe, hR1, hR2, hxt, hNw⟩ := C
  intro ls H locs G
  exact lv_if_ne (x := x) (rest := r.map (ex_v ad)) (tgt := t) hx hb hd ht (fun h => kt h ls H locs G) (fun h => kf h ls H locs G)
theorem ex_s_icmp_ne (C : ex_Cx xt p R s m args meth c D ad ca n0 nL fr lo A cc ret own) {pc : Nat} {lv : ex_L} {cs : ex_C} {x y : Int32} {r : ex_V} {off : Int} {t : Nat} (hd : decode cc pc = .ok (.if_icmp .ne off, 3)) (ht : (pc : Int) + off = (t : Int)) (kf : x = y → ex_T p l e R s m args below meth c D ad ca n0 nL A kc ks Qw (pc + 3) lv r cs) (kt : ¬ x = y → ex_T p l e R s m args below meth c D ad ca n0 nL A kc ks Qw t lv r cs) : ex_T p l e R s m args below meth c D ad ca n0 nL A kc ks Qw pc lv (.int y :: .int x :: r) cs := by
  obtain ⟨hx, hb, hml, hown, hts, hr, hlk, hD, hK, hX, hZ, hAe, hR1, hR2, hxt, hNw⟩ := C
  intro ls H locs G
  exact lv_icmp_ne (x := x) (y := y) (rest := r.map (ex_v ad)) (tgt := t) hx hb hd ht (fun h => kt h ls H locs G) (fun h => kf h ls H locs G)
theorem ex_s_if_lt (C : ex_Cx xt p R s m args meth c D ad ca n0 nL fr lo A cc ret own) {pc : Nat} {lv : ex_L} {cs : ex_C} {x : Int32} {r : ex_V} {off : Int} {t : Nat} (hd : decode cc pc = .ok (.ifCond .lt off, 3)) (ht : (pc : Int) + off = (t : Int)) (kt : x < 0 → ex_T p l e R s m args below meth c D ad ca n0 nL A kc ks Qw t lv r cs) (kf : ¬ x < 0 → ex_T p l e R s m args below meth c D ad ca n0 nL A kc ks Qw (pc + 3) lv r cs) : ex_T p l e R s m args below meth c D ad ca n0 nL A kc ks Qw pc lv (.int x :: r) cs := by
  obtain ⟨hx, hb, hml, hown, hts, hr, hlk, hD, hK, hX, hZ, hAe, hR1, hR2, hxt, hNw⟩ := C
  intro ls H locs G
  exact lv_if_lt (x := x) (rest := r.map (ex_v ad)) (tgt := t) hx hb hd ht (fun h => kt h ls H locs G) (fun h => kf h ls H locs G)
theorem ex_s_icmp_lt (C : ex_Cx xt p R s m args meth c D ad ca n0 nL fr lo A cc ret own) {pc : Nat} {lv : ex_L} {cs : ex_C} {x y : Int32} {r : ex_V} {off : Int} {t : Nat} (hd : decode cc pc = .ok (.if_icmp .lt off, 3)) (ht : (pc : Int) + off = (t : Int)) (kt : x < y → ex_T p l e R s m args below meth c D ad ca n0 nL A kc ks Qw t lv r cs) (kf : ¬ x < y → ex_T p l e R s m args below meth c D ad ca n0 nL A kc ks Qw (pc + 3) lv r cs) : ex_T p l e R s m args below meth c D ad ca n0 nL A kc ks Qw pc lv (.int y :: .int x :: r) cs := by
  obtain ⟨hx, hb, hml, hown, hts, hr, hlk, hD, hK, hX, hZ, hAe, hR1, hR2, hxt, hNw⟩ := C
  intro ls H locs G
  exact lv_icmp_lt (x := x) (y := y) (rest := r.map (ex_v ad)) (tgt := t) hx hb hd ht (fun h => kt h ls H locs G) (fun h => kf h ls H locs G)
theorem ex_s_if_ge (C : ex_Cx xt p R s m args meth c D ad ca n0 nL fr lo A cc ret own) {pc : Nat} {lv : ex_L} {cs : ex_C} {x : Int32} {r : ex_V} {off : Int} {t : Nat} (hd : decode cc pc = .ok (.ifCond .ge off, 3)) (ht : (pc : Int) + off = (t : Int)) (kt : 0 ≤ x → ex_T p l e R s m args below meth c D ad ca n0 nL A kc ks Qw t lv r cs) (kf : ¬ 0 ≤ x → ex_T p l e R s m args below meth c D ad ca n0 nL A kc ks Qw (pc + 3) lv r cs) : ex_T p l e R s m args below meth c D ad ca n0 nL A kc ks Qw pc lv (.int x :: r) cs := by
  obtain ⟨hx, hb, hml, hown, hts, hr, hlk, hD, hK, hX, hZ, hAe, hR1, hR2, hxt, hNw⟩ := C
  intro ls H locs G
  exact lv_if_ge (x := x) (rest := r.map (ex_v ad)) (tgt := t) hx hb hd ht (fun h => kt h ls H locs G) (fun h => kf h ls H locs G)
theorem ex_s_icmp_ge (C : ex_Cx xt p R s m args meth c D ad ca n0 nL fr lo A cc ret own) {pc : Nat} {lv : ex_L} {cs : ex_C} {x y : Int32} {r : ex_V} {off : Int} {t : Nat} (hd : decode cc pc = .ok (.if_icmp .ge off, 3)) (ht : (pc : Int) + off = (t : Int)) (kt : y ≤ x → ex_T p l e R s m args below meth c D ad ca n0 nL A kc ks Qw t lv r cs) (kf : ¬ y ≤ x → ex_T p l e R s m args below meth c D ad ca n0 nL A kc ks Qw (pc + 3) lv r cs) : ex_T p l e R s m args below meth c D ad ca n0 nL A kc ks Qw pc lv (.int y :: .int x :: r) cs := by
  obtain ⟨hx, hb, hml, hown, hts, hr, hlk, hD, hK, hX, hZ, hAe, hR1, hR2, hxt, hNw⟩ := C
  intro ls H locs G
  exact lv_icmp_ge (x := x) (y := y) (rest := r.map (ex_v ad)) (tgt := t) hx hb hd ht (fun h => kt h ls H locs G) (fun h => kf h ls H locs G)
theorem ex_s_if_gt (C : ex_Cx xt p R s m args meth c D ad ca n0 nL fr lo A cc ret own) {pc : Nat} {lv : ex_L} {cs : ex_C} {x : Int32} {r : ex_V} {off : Int} {t : Nat} (hd : decode cc pc = .ok (.ifCond .gt off, 3)) (ht : (pc : Int) + off = (t : Int)) (kt : 0 < x → ex_T p l e R s m args below meth c D ad ca n0 nL A kc ks Qw t lv r cs) (kf : ¬ 0 < x → ex_T p l e R s m args below meth c D ad ca n0 nL A kc ks Qw (pc + 3) lv r cs) : ex_T p l e R s m args below meth c D ad ca n0 nL A kc ks Qw pc lv (.int x :: r) cs := by
  obtain ⟨hx, hb, hml, hown, hts, hr, hlk, hD, hK, hX, hZ, hAe, hR1, hR2, hxt, hNw⟩ := C
  intro ls H locs G
  exact lv_if_gt (x := x) (rest := r.map (ex_v ad)) (tgt := t) hx hb hd ht (fun h => kt h ls H locs G) (fun h => kf h ls H locs G)
theorem ex_s_icmp_gt (C : ex_Cx xt p R s m args meth c D ad ca n0 nL fr lo A cc ret own) {pc : Nat} {lv : ex_L} {cs : ex_C} {x y : Int32} {r : ex_V} {off : Int} {t : Nat} (hd : decode cc pc = .ok (.if_icmp .gt off, 3)) (ht : (pc : Int) + off = (t : Int)) (kt : y < x → ex_T p l e R s m args below meth c D ad ca n0 nL A kc ks Qw t lv r cs) (kf : ¬ y < x → ex_T p l e R s m args below meth c D ad ca n0 nL A kc ks Qw (pc + 3) lv r cs) : ex_T p l e R s m args below meth c D ad ca n0 nL A kc ks Qw pc lv (.int y :: .int x :: r) cs := by
  obtain ⟨hx, hb, hml, hown, hts, hr, hlk, hD, hK, hX, hZ, hAe, hR1, hR2, hxt, hNw⟩ := C
  intro ls H locs G
  exact lv_icmp_gt (x := x) (y := y) (rest := r.map (ex_v ad)) (tgt := t) hx hb hd ht (fun h => kt h ls H locs G) (fun h => kf h ls H locs G)
theorem ex_s_if_le (C : ex_Cx xt p R s m args meth c D ad ca n0 nL fr lo A cc ret own) {pc : Nat} {lv : ex_L} {cs : ex_C} {x : Int32} {r : ex_V} {off : Int} {t : Nat} (hd : decode cc pc = .ok (.ifCond .le off, 3)) (ht : (pc : Int) + off = (t : Int)) (kt : x ≤ 0 → ex_T p l e R s m args below meth c D ad ca n0 nL A kc ks Qw t lv r cs) (kf : ¬ x ≤ 0 → ex_T p l e R s m args below meth c D ad ca n0 nL A kc ks Qw (pc + 3) lv r cs) : ex_T p l e R s m args below meth c D ad ca n0 nL A kc ks Qw pc lv (.int x :: r) cs := by
  obtain ⟨hx, hb, hml, hown, hts, hr, hlk, hD, hK, hX, hZ, hAe, hR1, hR2, hxt, hNw⟩ := C
  intro ls H locs G
  exact lv_if_le (x := x) (rest := r.map (ex_v ad)) (tgt := t) hx hb hd ht (fun h => kt h ls H locs G) (fun h => kf h ls H locs G)
theorem ex_s_icmp_le (C : ex_Cx xt p R s m args meth c D ad ca n0 nL fr lo A cc ret own) {pc : Nat} {lv : ex_L} {cs : ex_C} {x y : Int32} {r : ex_V} {off : Int} {t : Nat} (hd : decode cc pc = .ok (.if_icmp .le off, 3)) (ht : (pc : Int) + off = (t : Int)) (kt : x ≤ y → ex_T p l e R s m args below meth c D ad ca n0 nL A kc ks Qw t lv r cs) (kf : ¬ x ≤ y → ex_T p l e R s m args below meth c D ad ca n0 nL A kc ks Qw (pc + 3) lv r cs) : ex_T p l e R s m args below meth c D ad ca n0 nL A kc ks Qw pc lv (.int y :: .int x :: r) cs := by
  obtain ⟨hx, hb, hml, hown, hts, hr, hlk, hD, hK, hX, hZ, hAe, hR1, hR2, hxt, hNw⟩ := C
  intro ls H locs G
  exact lv_icmp_le (x := x) (y := y) (rest := r.map (ex_v ad)) (tgt := t) hx hb hd ht (fun h => kt h ls H locs G) (fun h => kf h ls H locs G)
theorem ex_s_goto (C : ex_Cx xt p R s m args meth c D ad ca n0 nL fr lo A cc ret own) {pc : Nat} {lv : ex_L} {cs : ex_C} {r : ex_V} {off : Int} {t : Nat} (hd : decode cc pc = .ok (.goto off, 3)) (ht : (pc : Int) + off = (t : Int)) (k : ex_T p l e R s m args below meth c D ad ca n0 nL A kc ks Qw t lv r cs) : ex_T p l e R s m args below meth c D ad ca n0 nL A kc ks Qw pc lv r cs := by
  obtain ⟨hx, hb, hml, hown, hts, hr, hlk, hD, hK, hX, hZ, hAe, hR1, hR2, hxt, hNw⟩ := C
  intro ls H locs G
  exact lv_goto (tgt := t) hx hb hd ht (k ls H locs G)
theorem ex_s_ldc (C : ex_Cx xt p R s m args meth c D ad ca n0 nL fr lo A cc ret own) {pc : Nat} {lv : ex_L} {cs : ex_C} {ix : Nat} {v : Int32} {r : ex_V} (hd : decode cc pc = .ok (.ldc ix, 2)) (hc : Cond.constant own ix v ∈ ec_tb) (k : ex_T p l e R s m args below meth c D ad ca n0 nL A kc ks Qw (pc + 2) lv (.int v :: r) cs) : ex_T p l e R s m args below meth c D ad ca n0 nL A kc ks Qw pc lv r cs := by
  obtain ⟨hx, hb, hml, hown, hts, hr, hlk, hD, hK, hX, hZ, hAe, hR1, hR2, hxt, hNw⟩ := C
  intro ls H locs G
  exact lv_ldc hx hb hown (hts _ hc) hd (k ls H locs G)
theorem ex_s_ldc_w (C : ex_Cx xt p R s m args meth c D ad ca n0 nL fr lo A cc ret own) {pc : Nat} {lv : ex_L} {cs : ex_C} {ix : Nat} {v : Int32} {r : ex_V} (hd : decode cc pc = .ok (.ldc_w ix, 3)) (hc : Cond.constant own ix v ∈ ec_tb) (k : ex_T p l e R s m args below meth c D ad ca n0 nL A kc ks Qw (pc + 3) lv (.int v :: r) cs) : ex_T p l e R s m args below meth c D ad ca n0 nL A kc ks Qw pc lv r cs := by
  obtain ⟨hx, hb, hml, hown, hts, hr, hlk, hD, hK, hX, hZ, hAe, hR1, hR2, hxt, hNw⟩ := C
  intro ls H locs G
  exact lv_ldcw hx hb hown (hts _ hc) hd (k ls H locs G)
theorem ex_s_ldc2_w (C : ex_Cx xt p R s m args meth c D ad ca n0 nL fr lo A cc ret own) {pc : Nat} {lv : ex_L} {cs : ex_C} {ix : Nat} {v : Int64} {r : ex_V} (hd : decode cc pc = .ok (.ldc2_w ix, 3)) (hc : Cond.constantLong own ix v ∈ ec_tb) (k : ex_T p l e R s m args below meth c D ad ca n0 nL A kc ks Qw (pc + 3) lv (.long v :: r) cs) : ex_T p l e R s m args below meth c D ad ca n0 nL A kc ks Qw pc lv r cs := by
  obtain ⟨hx, hb, hml, hown, hts, hr, hlk, hD, hK, hX, hZ, hAe, hR1, hR2, hxt, hNw⟩ := C
  intro ls H locs G
  exact lv_ldc2 hx hb hown (hts _ hc) hd (k ls H locs G)
theorem ex_s_tableOut (C : ex_Cx xt p R s m args meth c D ad ca n0 nL fr lo A cc ret own) {pc : Nat} {lv : ex_L} {cs : ex_C} {dflt lo hi : Int} {offs : Array Int} {len : Nat} {x : Int32} {t : Nat} {r : ex_V} (hd : decode cc pc = .ok (.tableswitch dflt lo hi offs, len)) (h : x.toInt < lo ∨ hi < x.toInt) (ht : (pc : Int) + dflt = (t : Int)) (k : ex_T p l e R s m args below meth c D ad ca n0 nL A kc ks Qw t lv r cs) : ex_T p l e R s m args below meth c D ad ca n0 nL A kc ks Qw pc lv (.int x :: r) cs := by
  obtain ⟨hx, hb, hml, hown, hts, hr, hlk, hD, hK, hX, hZ, hAe, hR1, hR2, hxt, hNw⟩ := C
  intro ls H locs G
  exact lv_tableOut (x := x) (tgt := t) (rest := r.map (ex_v ad)) hx hb hd h ht (k ls H locs G)
theorem ex_s_tableIn (C : ex_Cx xt p R s m args meth c D ad ca n0 nL fr lo A cc ret own) {pc : Nat} {lv : ex_L} {cs : ex_C} {dflt lo hi : Int} {offs : Array Int} {len : Nat} {x : Int32} {off : Int} {t : Nat} {r : ex_V} (hd : decode cc pc = .ok (.tableswitch dflt lo hi offs, len)) (h1 : ¬ x.toInt < lo) (h2 : ¬ hi < x.toInt) (ho : offs[(x.toInt - lo).toNat]? = some off) (ht : (pc : Int) + off = (t : Int)) (k : ex_T p l e R s m args below meth c D ad ca n0 nL A kc ks Qw t lv r cs) : ex_T p l e R s m args below meth c D ad ca n0 nL A kc ks Qw pc lv (.int x :: r) cs := by
  obtain ⟨hx, hb, hml, hown, hts, hr, hlk, hD, hK, hX, hZ, hAe, hR1, hR2, hxt, hNw⟩ := C
  intro ls H locs G
  exact lv_tableIn (x := x) (tgt := t) (rest := r.map (ex_v ad)) hx hb hd h1 h2 ho ht (k ls H locs G)
theorem ex_s_lookup (C : ex_Cx xt p R s m args meth c D ad ca n0 nL fr lo A cc ret own) {pc : Nat} {lv : ex_L} {cs : ex_C} {dflt : Int} {ps : Array (Int × Int)} {len : Nat} {x : Int32} {off : Int} {t : Nat} {r : ex_V} (hd : decode cc pc = .ok (.lookupswitch dflt ps, len)) (hp : (ps.toList.zip (ps.toList.drop 1)).all (fun (a, next) => a.1 < next.1) = true) (ho : Op.lookupswitch.offset ps.toList dflt x.toInt = off) (ht : (pc : Int) + off = (t : Int)) (k : ex_T p l e R s m args below meth c D ad ca n0 nL A kc ks Qw t lv r cs) : ex_T p l e R s m args below meth c D ad ca n0 nL A kc ks Qw pc lv (.int x :: r) cs := by
  obtain ⟨hx, hb, hml, hown, hts, hr, hlk, hD, hK, hX, hZ, hAe, hR1, hR2, hxt, hNw⟩ := C
  intro ls H locs G
  exact lv_lookup (x := x) (tgt := t) (rest := r.map (ex_v ad)) hx hb hd hp ho ht (k ls H locs G)
theorem ex_tb_at {x : Int32} {k : Int → Prop} : ∀ {offs : List Int} {lo : Int} {j : Nat} {o : Int}, ex_tb x k lo offs → offs[j]? = some o → x = Int32.ofInt (lo + j) → k o
  | [], _, _, _, _, h, _ => by simp at h
  | o1 :: r, lo, 0, o, h, h2, h3 => by
    simp at h2
    subst h2
    exact h.1 (by rw [h3]; simp)
  | o1 :: r, lo, j + 1, o, h, h2, h3 => by
    refine ex_tb_at (j := j) h.2 (by simpa using h2) ?_
    rw [h3]
    congr 1
    omega
theorem ex_lk_at {x : Int32} {k : Int → Prop} {d : Int} : ∀ {ps : List (Int × Int)}, (ex_ln x ps → k d) → ex_lk x k ps → (∀ q ∈ ps, -2147483648 ≤ q.1 ∧ q.1 < 2147483648) → k (Op.lookupswitch.offset ps d x.toInt)
  | [], h, _, _ => by
    have h0 := h trivial
    simpa [Op.lookupswitch.offset] using h0
  | q :: r, h, h2, hq => by
    obtain ⟨a, o⟩ := q
    have ha := hq (a, o) List.mem_cons_self
    rw [Op.lookupswitch.offset_cons]
    by_cases hx : x = Int32.ofInt a
    · have e : x.toInt = a := by rw [hx]; exact Int32.toInt_ofInt_of_le (by simpa using ha.1) (by simpa using ha.2)
      rw [if_pos e.symm]
      exact h2.1 hx
    · rw [if_neg (fun e => hx (by rw [e]; exact (Int32.ofInt_toInt x).symm))]
      exact ex_lk_at (fun hn => h ⟨hx, hn⟩) h2.2 (fun q h' => hq q (List.mem_cons_of_mem _ h'))
end EXS
end
section
section EXW
variable {p : Program} {l : Launch} {e : Env} {R : Room} {s : State} {m : MethodId} {args : Array Value} {below : List Frame} {meth : Method} {c : Code}
variable {D : va_G} {ad ca : Nat → Nat} {n0 nL fr lo : Nat} {A : Nat → Prop} {cc : ByteArray} {ret : Option FieldType} {own : String} {Q : ex_Q} {Qw : State → Prop} {kc ks : Nat} {xt : ex_xt}
theorem ex_s_getfield (C : ex_Cx xt p R s m args meth c D ad ca n0 nL fr lo A cc ret own) {pc : Nat} {lv : ex_L} {cs : ex_C} {ix ci k a : Nat} {fs : List Value} {v : Value} {r : ex_V} (hd : decode cc pc = .ok (.getfield ix, 3)) (ho : cs[a]? = some (.inr (ci, fs))) (hv : fs[k]? = some v)
    (hl : ∃ Cn T N, ec_cl[ci]? = some (Cn, T, N) ∧ k < N ∧ Cond.fieldLink own ix (T k).1 (T k).2.1 (T k).2.2.1 ∈ ec_tb)
    (kk : ex_T p l e R s m args below meth c D ad ca n0 nL A kc ks Qw (pc + 3) lv (v :: r) cs) : ex_T p l e R s m args below meth c D ad ca n0 nL A kc ks Qw pc lv (.ref a :: r) cs := by
  obtain ⟨hx, hb, hml, hown, hts, hr, hlk, hD, hK, hX, hZ, hAe, hR1, hR2, hxt, hNw⟩ := C
  obtain ⟨Cn, T, N, h1, h2, h3⟩ := hl
  intro ls H locs G
  exact va_get (D := D) (ci := ci) (v := ex_v ad v) (C := Cn) (T := T) (N := N) (rest := r.map (ex_v ad)) hx hb hts (ec_clok h1).1 hown hK G.2.2.1 a (ex_w_get ho) h1 k h2 (hts _ h3) (fun _ h9 => h9) (by rw [List.getElem?_map, hv]; rfl) hd (kk ls H locs G)
theorem ex_s_putfield (C : ex_Cx xt p R s m args meth c D ad ca n0 nL fr lo A cc ret own) {pc : Nat} {lv : ex_L} {cs : ex_C} {ix ci k a : Nat} {fs : List Value} {v : Value} {r : ex_V} {ty : FieldType} (hd : decode cc pc = .ok (.putfield ix, 3)) (ho : cs[a]? = some (.inr (ci, fs))) (hkl : k < fs.length) (hf : ex_fit ty v)
    (hl : ∃ Cn T N, ec_cl[ci]? = some (Cn, T, N) ∧ k < N ∧ Cond.fieldLink own ix (T k).1 (T k).2.1 (T k).2.2.1 ∈ ec_tb ∧ parseFieldDescriptor (T k).2.2.1 = some ty ∧ (T k).2.2.2 = false)
    (kk : ex_T p l e R s m args below meth c D ad ca n0 nL A kc ks Qw (pc + 3) lv r (cs.set a (.inr (ci, fs.set k v)))) : ex_T p l e R s m args below meth c D ad ca n0 nL A kc ks Qw pc lv (v :: .ref a :: r) cs := by
  obtain ⟨hx, hb, hml, hown, hts, hr, hlk, hD, hK, hX, hZ, hAe, hR1, hR2, hxt, hNw⟩ := C
  obtain ⟨Cn, T, N, h1, h2, h3, h4, h5⟩ := hl
  obtain ⟨hin, ty0, hty, hnm⟩ := ec_clok h1
  intro ls H locs G
  refine va_put (D := D) (ci := ci) (v := ex_v ad v) (ty := ty) (C := Cn) (T := T) (N := N) (rest := r.map (ex_v ad)) hx hb hts hin ty0 hty hnm hown hK G.2.2.1 (hD.va G.1) G.2.2.2 a (ex_w_get ho) h1 k h2 (hts _ h3) (fun _ h9 => h9) h5 h4 hf.ok.1 hf.ok.2 (by rw [List.length_map]; exact hkl) hd (fun H1 locs1 hP1 hD1 hS1 => ?_)
  refine kk ls H1 locs1 ⟨by rw [List.length_set]; exact G.1, G.2.1, ?_, hS1⟩
  rw [← ex_w_set]
  show va_P D ec_cl ((ex_w ad ca cs).set a (ad a, .inr (ci, (fs.set k v).map (ex_v ad)))) H1
  rw [List.map_set]
  exact hP1
theorem ex_s_getstatic (C : ex_Cx xt p R s m args meth c D ad ca n0 nL fr lo A cc ret own) {pc : Nat} {lv : ex_L} {cs : ex_C} {ix j : Nat} {r : ex_V} (hd : decode cc pc = .ok (.getstatic ix, 3)) (hl : ∃ Cn n dd, (Cn, n, dd, j) ∈ ec_zs ∧ Cond.fieldLink own ix Cn n dd ∈ ec_tb)
    (kk : ex_T p l e R s m args below meth c D ad ca n0 nL A kc ks Qw (pc + 3) lv (.ref (1000 + j) :: r) cs) : ex_T p l e R s m args below meth c D ad ca n0 nL A kc ks Qw pc lv r cs := by
  obtain ⟨hx, hb, hml, hown, hts, hr, hlk, hD, hK, hX, hZ, hAe, hR1, hR2, hxt, hNw⟩ := C
  obtain ⟨Cn, n, dd, h1, h2⟩ := hl
  intro ls H locs G
  exact va_gets (v := .ref (ad (1000 + j))) (rest := r.map (ex_v ad)) hx hb (hZ Cn n dd j h1) G.2.2.2 hown (hts _ h2) (fun _ h9 => h9) hd (kk ls H locs G)
theorem ex_s_iaload (C : ex_Cx xt p R s m args meth c D ad ca n0 nL fr lo A cc ret own) {pc : Nat} {lv : ex_L} {cs : ex_C} {a n : Nat} {f : Nat → Int32} {i : Int32} {r : ex_V} (hd : decode cc pc = .ok (.iaload, 1)) (ho : cs[a]? = some (.inl (0, n, .inl f))) (hi : vp_in i n)
    (kk : ex_T p l e R s m args below meth c D ad ca n0 nL A kc ks Qw (pc + 1) lv (.int (f i.toNatClampNeg) :: r) cs) : ex_T p l e R s m args below meth c D ad ca n0 nL A kc ks Qw pc lv (.int i :: .ref a :: r) cs := by
  obtain ⟨hx, hb, hml, hown, hts, hr, hlk, hD, hK, hX, hZ, hAe, hR1, hR2, hxt, hNw⟩ := C
  intro ls H locs G
  exact va_iald (rest := r.map (ex_v ad)) hx hb hK G.2.2.1 a 0 (ex_w_get ho) rfl hi hd (kk ls H locs G)
theorem ex_s_ialoadX (C : ex_Cx xt p R s m args meth c D ad ca n0 nL fr lo A cc ret own) {pc : Nat} {lv : ex_L} {cs : ex_C} {a n : Nat} {f : Nat → Int32} {i : Int32} {r : ex_V} (hd : decode cc pc = .ok (.iaload, 1)) (ha : 1000 ≤ a) (ho : xt[a - 1000]? = some (n, f)) (hi : vp_in i n)
    (kk : ex_T p l e R s m args below meth c D ad ca n0 nL A kc ks Qw (pc + 1) lv (.int (f i.toNatClampNeg) :: r) cs) : ex_T p l e R s m args below meth c D ad ca n0 nL A kc ks Qw pc lv (.int i :: .ref a :: r) cs := by
  obtain ⟨hx, hb, hml, hown, hts, hr, hlk, hD, hK, hX, hZ, hAe, hR1, hR2, hxt, hNw⟩ := C
  intro ls H locs G
  have hT := hX (a - 1000) n f ho
  rw [show 1000 + (a - 1000) = a by omega] at hT
  exact va_ti (v := .int (f i.toNatClampNeg)) (rest := r.map (ex_v ad)) hx hb hT G.2.2.2 hi rfl hd (kk ls H locs G)
theorem ex_s_baload (C : ex_Cx xt p R s m args meth c D ad ca n0 nL fr lo A cc ret own) {pc : Nat} {lv : ex_L} {cs : ex_C} {a n : Nat} {f : Nat → Int32} {i : Int32} {r : ex_V} (hd : decode cc pc = .ok (.baload, 1)) (ho : cs[a]? = some (.inl (1, n, .inl f))) (hi : vp_in i n)
    (kk : ex_T p l e R s m args below meth c D ad ca n0 nL A kc ks Qw (pc + 1) lv (.int (f i.toNatClampNeg) :: r) cs) : ex_T p l e R s m args below meth c D ad ca n0 nL A kc ks Qw pc lv (.int i :: .ref a :: r) cs := by
  obtain ⟨hx, hb, hml, hown, hts, hr, hlk, hD, hK, hX, hZ, hAe, hR1, hR2, hxt, hNw⟩ := C
  intro ls H locs G
  exact va_zald (rest := r.map (ex_v ad)) hx hb hK G.2.2.1 a 1 (ex_w_get ho) rfl hi hd (kk ls H locs G)
theorem ex_s_iastore (C : ex_Cx xt p R s m args meth c D ad ca n0 nL fr lo A cc ret own) {pc : Nat} {lv : ex_L} {cs : ex_C} {a n : Nat} {f : Nat → Int32} {i x : Int32} {r : ex_V} (hd : decode cc pc = .ok (.iastore, 1)) (ho : cs[a]? = some (.inl (0, n, .inl f))) (hi : vp_in i n)
    (kk : ex_T p l e R s m args below meth c D ad ca n0 nL A kc ks Qw (pc + 1) lv r (cs.set a (.inl (0, n, .inl (upd f i.toNatClampNeg x))))) : ex_T p l e R s m args below meth c D ad ca n0 nL A kc ks Qw pc lv (.int x :: .int i :: .ref a :: r) cs := by
  obtain ⟨hx, hb, hml, hown, hts, hr, hlk, hD, hK, hX, hZ, hAe, hR1, hR2, hxt, hNw⟩ := C
  intro ls H locs G
  refine va_iast (rest := r.map (ex_v ad)) hx hb hK G.2.2.1 (hD.va G.1) G.2.2.2 a 0 (ex_w_get ho) rfl hi hd (fun H1 locs1 hP1 hD1 hS1 => ?_)
  refine kk ls H1 locs1 ⟨by rw [List.length_set]; exact G.1, G.2.1, ?_, hS1⟩
  rw [← ex_w_set]
  exact hP1
theorem ex_nar {x : Int32} (h : x = 0 ∨ x = 1) : vp_nar .boolean x = x := by
  rcases h with rfl | rfl <;> decide
theorem ex_s_bastore (C : ex_Cx xt p R s m args meth c D ad ca n0 nL fr lo A cc ret own) {pc : Nat} {lv : ex_L} {cs : ex_C} {a n : Nat} {f : Nat → Int32} {i x : Int32} {r : ex_V} (hd : decode cc pc = .ok (.bastore, 1)) (ho : cs[a]? = some (.inl (1, n, .inl f))) (hi : vp_in i n) (h01 : x = 0 ∨ x = 1)
    (kk : ex_T p l e R s m args below meth c D ad ca n0 nL A kc ks Qw (pc + 1) lv r (cs.set a (.inl (1, n, .inl (upd f i.toNatClampNeg x))))) : ex_T p l e R s m args below meth c D ad ca n0 nL A kc ks Qw pc lv (.int x :: .int i :: .ref a :: r) cs := by
  obtain ⟨hx, hb, hml, hown, hts, hr, hlk, hD, hK, hX, hZ, hAe, hR1, hR2, hxt, hNw⟩ := C
  intro ls H locs G
  refine va_zast (rest := r.map (ex_v ad)) hx hb hK G.2.2.1 (hD.va G.1) G.2.2.2 a 1 (ex_w_get ho) rfl hi hd (fun H1 locs1 hP1 hD1 hS1 => ?_)
  refine kk ls H1 locs1 ⟨by rw [List.length_set]; exact G.1, G.2.1, ?_, hS1⟩
  rw [← ex_w_set]
  rw [ex_nar h01] at hP1
  exact hP1
theorem ex_s_arraylength (C : ex_Cx xt p R s m args meth c D ad ca n0 nL fr lo A cc ret own) {pc : Nat} {lv : ex_L} {cs : ex_C} {a t n : Nat} {f : Nat → Int32} {r : ex_V} (hd : decode cc pc = .ok (.arraylength, 1)) (ho : cs[a]? = some (.inl (t, n, .inl f))) (ht : t = 0 ∨ t = 1)
    (kk : ex_T p l e R s m args below meth c D ad ca n0 nL A kc ks Qw (pc + 1) lv (.int (Int32.ofNat n) :: r) cs) : ex_T p l e R s m args below meth c D ad ca n0 nL A kc ks Qw pc lv (.ref a :: r) cs := by
  obtain ⟨hx, hb, hml, hown, hts, hr, hlk, hD, hK, hX, hZ, hAe, hR1, hR2, hxt, hNw⟩ := C
  intro ls H locs G
  rcases ht with rfl | rfl
  · exact va_alen (rest := r.map (ex_v ad)) (x := (n, .inl f)) hx hb hK G.2.2.1 a 0 (ex_w_get ho) rfl rfl hd (kk ls H locs G)
  · exact va_alen (rest := r.map (ex_v ad)) (x := (n, .inl f)) hx hb hK G.2.2.1 a 1 (ex_w_get ho) rfl rfl hd (kk ls H locs G)
theorem ex_s_ireturn (C : ex_Cx xt p R s m args meth c D ad ca n0 nL fr lo A cc ret own) {pc : Nat} {lv : ex_L} {cs : ex_C} {v : Int32} (hd : decode cc pc = .ok (.ireturn, 1)) (hv : ex_ret ret v) (hq : Q (some (.int v)) cs) : ex_T p l e R s m args below meth c D ad ca n0 nL A 0 0 (MQ below (ex_Qc D ad ca Q n0 A) args s 0 0 A) pc lv [.int v] cs := by
  obtain ⟨hx, hb, hml, hown, hts, hr, hlk, hD, hK, hX, hZ, hAe, hR1, hR2, hxt, hNw⟩ := C
  intro ls H locs G
  unfold ex_ret at hv
  split at hv
  · exact W.zret (ty := .int) hx hb hr rfl (fun t ht hW => ⟨⟨some (.int v), cs, rfl, hq, G.1, by rw [ht]; exact G.2.2.1⟩, G.2.2.2.F ht⟩) G.2.2.2.2.2 hd hlk
  · exact W.zret (ty := .boolean) hx hb hr (by rcases hv with rfl | rfl <;> rfl) (fun t ht hW => ⟨⟨some (.int v), cs, rfl, hq, G.1, by rw [ht]; exact G.2.2.1⟩, G.2.2.2.F ht⟩) G.2.2.2.2.2 hd hlk
  · exact hv.elim
theorem ex_s_return (C : ex_Cx xt p R s m args meth c D ad ca n0 nL fr lo A cc ret own) {pc : Nat} {lv : ex_L} {cs : ex_C} (hd : decode cc pc = .ok (.return_, 1)) (hv : ret = none) (hq : Q none cs) : ex_T p l e R s m args below meth c D ad ca n0 nL A 0 0 (MQ below (ex_Qc D ad ca Q n0 A) args s 0 0 A) pc lv [] cs := by
  obtain ⟨hx, hb, hml, hown, hts, hr, hlk, hD, hK, hX, hZ, hAe, hR1, hR2, hxt, hNw⟩ := C
  intro ls H locs G
  exact W.vret hx hb (hr.trans hv) (fun t ht hW => ⟨⟨none, cs, rfl, hq, G.1, by rw [ht]; exact G.2.2.1⟩, G.2.2.2.F ht⟩) G.2.2.2.2.2 hd hlk
/-- behind a call -/
theorem ex_s_run {pc : Nat} {lv : ex_L} {r : ex_V} {Qk : ex_Q} {ls : Array Slot} {H : Heap} {locs : List Loc} {st0 : List Value} {a : Array Value} (hr : va_Run p l e R s m args below meth c H locs kc ks 0 0 (F0 m pc ls st0) (r.map (ex_v ad)) (ex_Qc D ad ca Qk n0 (ex_A ad n0 H.size) a) (ex_A ad n0 H.size))
    (hA : ∀ q, ex_A ad n0 s.heap.size q → A q) (hl : ex_ls ad lv nL ls) (hS : va_S A s.heap H locs) (kk : ∀ (rv : Option Value) (cs' : ex_C), Qk rv cs' → ex_T p l e R s m args below meth c D ad ca n0 nL A kc ks Qw (pc + 3) lv (rv.toList ++ r) cs') :
    W p l e R s m args below meth c H locs kc ks Qw (F0 m pc ls st0) := by
  intro T hT X
  obtain ⟨v, st₀, t, T', L, h0, X', hL, e1, e2, ⟨⟨rv, cs', hv, hq, hn, hp⟩, hz, hk⟩, st⟩ := hr T hT X
  cases hv
  rw [h0] at hz hk
  have hsub : ∀ q, ex_A ad n0 H.size q → A q := by
    intro q h
    rcases h with h | h
    · exact hA q (Or.inl h)
    · exact hA q (Or.inr (Nat.le_trans hS.1 h))
  have hstk : (rv.toList ++ r).map (ex_v ad) = (rv.map (ex_v ad)).toList ++ r.map (ex_v ad) := by cases rv <;> simp
  have k2 := kk rv cs' hq ls T'.heap (locs ++ L) ⟨hn, hl, by rw [e1]; exact hp, Nat.le_trans hS.1 (by rw [e1]; exact hz), fun q h1 h2 => by rw [e1, hk q (Nat.lt_of_lt_of_le h1 hS.1) (fun z => h2 (hsub q z))]; exact hS.2.1 q h1 h2, fun q hq => by
      rcases List.mem_append.mp hq with h | h
      · exact hS.2.2 q h
      · exact hsub _ (hL q h)⟩
  rw [hstk] at k2
  obtain ⟨t2, a1, b1⟩ := k2 T' rfl X'
  exact ⟨t2, st t2 a1, b1⟩
theorem ex_s_copy (C : ex_Cx xt p R s m args meth c D ad ca n0 nL fr lo A cc ret own) {pc : Nat} {lv : ex_L} {cs : ex_C} {ix a a0 m0 m1 : Nat} {f g : Nat → Int32} {sp dp n : Int32} {r : ex_V} (hd : decode cc pc = .ok (.invokestatic ix, 3)) (hl : Cond.methodLink own ix arraycopyName ∈ ec_tb ∧ Cond.native arraycopyName ∈ ec_tb ∧ Cond.static arraycopyName ∈ ec_tb ∧ Cond.initialized "java/lang/System" ∈ ec_tb ∧ 1 ≤ fr ∧ 8 + (nativeFrameWords "java/lang/System" "arraycopy" 5 + 11) ≤ lo)
    (ho0 : cs[a0]? = some (.inl (0, m0, .inl f))) (ho : cs[a]? = some (.inl (0, m1, .inl g))) (h1 : ¬ sp < 0) (h2 : ¬ dp < 0) (h3 : ¬ n < 0) (h4 : sp.toNatClampNeg + n.toNatClampNeg ≤ m0) (h5 : dp.toNatClampNeg + n.toNatClampNeg ≤ m1) (h6 : (r.map (fun v => v.category)).sum ≤ 8)
    (kk : ex_T p l e R s m args below meth c D ad ca n0 nL A kc ks Qw (pc + 3) lv r (cs.set a (.inl (0, m1, .inl (va_cpy f g sp.toNatClampNeg dp.toNatClampNeg n.toNatClampNeg))))) : ex_T p l e R s m args below meth c D ad ca n0 nL A kc ks Qw pc lv (.int n :: .int dp :: .ref a :: .int sp :: .ref a0 :: r) cs := by
  obtain ⟨hx, hb, hml, hown, hts, hr, hlk, hD, hK, hX, hZ, hAe, hR1, hR2, hxt, hNw⟩ := C
  intro ls H locs G
  have hcat : ((r.map (ex_v ad)).map fun v => v.category).sum ≤ 8 := by
    rw [List.map_map]
    have : ((fun v : Value => v.category) ∘ ex_v ad) = (fun v => v.category) := by funext v; exact ex_v_cat ad v
    rw [this]
    exact h6
  refine va_copyi (ty := .int) (rest := r.map (ex_v ad)) hx hb (hml.trans G.2.1.1.symm) hown (hts _ hl.1) (hts _ hl.2.1) (hts _ hl.2.2.1) (hts _ hl.2.2.2.1) hK G.2.2.1 (hD.va G.1) G.2.2.2 a0 a 0 0 (ex_w_get ho0) (ex_w_get ho) rfl rfl rfl h1 h2 h3 h4 h5 (fun _ _ => rfl) (Nat.le_trans hl.2.2.2.2.1 hR1) (Nat.le_trans (Nat.add_le_add_right hcat _) (Nat.le_trans hl.2.2.2.2.2 hR2)) hd (fun H1 locs1 hP1 hD1 hS1 => ?_)
  refine kk ls H1 locs1 ⟨by rw [List.length_set]; exact G.1, G.2.1, ?_, hS1⟩
  rw [← ex_w_set]
  exact hP1
theorem ex_cat8 {ad : Nat → Nat} {r : ex_V} (h6 : (r.map (fun v => v.category)).sum ≤ 8) : ((r.map (ex_v ad)).map fun v => v.category).sum ≤ 8 := by
  rw [List.map_map]
  have : ((fun v : Value => v.category) ∘ ex_v ad) = (fun v => v.category) := by funext v; exact ex_v_cat ad v
  rw [this]
  exact h6
theorem ex_s_min (C : ex_Cx xt p R s m args meth c D ad ca n0 nL fr lo A cc ret own) {pc : Nat} {lv : ex_L} {cs : ex_C} {ix : Nat} {x y : Int32} {r : ex_V} (hd : decode cc pc = .ok (.invokestatic ix, 3)) (hrc : kc ≤ R.cells ∧ ks ≤ R.slots) (hl : Cond.methodLink own ix Lib.Math.min.name ∈ ec_tb ∧ Cond.static Lib.Math.min.name ∈ ec_tb ∧ Cond.initialized "java/lang/Math" ∈ ec_tb ∧ Cond.code Lib.Math.min.name Lib.Math.min.code 2 (some .int) ∈ ec_tb ∧ 1 ≤ fr ∧ 21 ≤ lo) (h6 : (r.map (fun v => v.category)).sum ≤ 8)
    (kk : ex_T p l e R s m args below meth c D ad ca n0 nL A kc ks Qw (pc + 3) lv (.int (if y < x then y else x) :: r) cs) : ex_T p l e R s m args below meth c D ad ca n0 nL A kc ks Qw pc lv (.int y :: .int x :: r) cs := by
  obtain ⟨hx, hb, hml, hown, hts, hr, hlk, hD, hK, hX, hZ, hAe, hR1, hR2, hxt, hNw⟩ := C
  intro ls H locs G
  exact va_mmin (x := x) (y := y) (rest := r.map (ex_v ad)) hx hb (hml.trans G.2.1.1.symm) hown (hts _ hl.1) (hts _ hl.2.1) (hts _ hl.2.2.1) (hts _ hl.2.2.2.1) (Nat.le_trans hl.2.2.2.2.1 hR1) (Nat.le_trans (Nat.add_le_add_right (ex_cat8 h6) 13) (Nat.le_trans hl.2.2.2.2.2 hR2)) hrc.1 hrc.2 hd (kk ls H locs G)
theorem ex_s_max (C : ex_Cx xt p R s m args meth c D ad ca n0 nL fr lo A cc ret own) {pc : Nat} {lv : ex_L} {cs : ex_C} {ix : Nat} {x y : Int32} {r : ex_V} (hd : decode cc pc = .ok (.invokestatic ix, 3)) (hrc : kc ≤ R.cells ∧ ks ≤ R.slots) (hl : Cond.methodLink own ix Lib.Math.max.name ∈ ec_tb ∧ Cond.static Lib.Math.max.name ∈ ec_tb ∧ Cond.initialized "java/lang/Math" ∈ ec_tb ∧ Cond.code Lib.Math.max.name Lib.Math.max.code 2 (some .int) ∈ ec_tb ∧ 1 ≤ fr ∧ 21 ≤ lo) (h6 : (r.map (fun v => v.category)).sum ≤ 8)
    (kk : ex_T p l e R s m args below meth c D ad ca n0 nL A kc ks Qw (pc + 3) lv (.int (if x < y then y else x) :: r) cs) : ex_T p l e R s m args below meth c D ad ca n0 nL A kc ks Qw pc lv (.int y :: .int x :: r) cs := by
  obtain ⟨hx, hb, hml, hown, hts, hr, hlk, hD, hK, hX, hZ, hAe, hR1, hR2, hxt, hNw⟩ := C
  intro ls H locs G
  exact va_mmax (x := x) (y := y) (rest := r.map (ex_v ad)) hx hb (hml.trans G.2.1.1.symm) hown (hts _ hl.1) (hts _ hl.2.1) (hts _ hl.2.2.1) (hts _ hl.2.2.2.1) (Nat.le_trans hl.2.2.2.2.1 hR1) (Nat.le_trans (Nat.add_le_add_right (ex_cat8 h6) 13) (Nat.le_trans hl.2.2.2.2.2 hR2)) hrc.1 hrc.2 hd (kk ls H locs G)
theorem ex_start (C : ex_Cx xt p R s m args meth c D ad ca n0 nL fr lo A cc ret own) {cs : ex_C} {H : Heap} {locs : List Loc} {av : ex_V} (hn : cs.length = n0) (hP : va_P D ec_cl (ex_w ad ca cs) H) (hS : va_S A s.heap H locs) : ∀ U : State, U.heap = H → s.WarmedH U.vm → ex_Pc D ad ca av cs n0 H.size (av.map (ex_v ad)).toArray U := by
  obtain ⟨hx, hb, hml, hown, hts, hr, hlk, hD, hK, hX, hZ, hAe, hR1, hR2, hxt, hNw⟩ := C
  intro U hU hW
  have hsub : ∀ q, ex_A ad n0 H.size q → A q := by
    intro q h
    rcases h with h | h
    · exact hAe q (Or.inl h)
    · exact hAe q (Or.inr (Nat.le_trans hS.1 h))
  refine ⟨rfl, by rw [hU], hn, by rw [hU]; exact hP, hD.self, va_K.moved hW.alike hK, fun j n f hj => ?_, fun Cn n dd j hj => ?_, fun q hq => va_Nw.warmM hW (hNw q hq)⟩
  · rw [hU]
    exact (((hX j n f (hxt j (n, f) hj)).moved hW.alike).kept hS.2.1).narrow hsub
  · rw [hU]
    exact (((hZ Cn n dd j hj).moved hW.alike).kept hS.2.1).narrow hsub
theorem ex_good {y : MethodName} {bytes : ByteArray} {maxL : Nat} {ret : Option FieldType} (h : Cond.code y bytes maxL ret ∈ ec_tb) : GoodIn ec_tb (.code y bytes maxL ret :: ec_tb) := by
  intro w hw
  rcases List.mem_cons.mp hw with rfl | hw
  · exact ⟨h, ec_good _ h⟩
  · exact ⟨hw, ec_good _ hw⟩
theorem ex_s_virtual (C : ex_Cx xt p R s m args meth c D ad ca n0 nL fr lo A cc ret own) {pc : Nat} {lv : ex_L} {cs : ex_C} {ix n ci a : Nat} {sp : ex_S} {fs : List Value} {as r : ex_V} {Qk : ex_Q} (hd : decode cc pc = .ok (.invokevirtual ix, 3)) (hrc : kc ≤ R.cells ∧ ks ≤ R.slots) (hcok : ex_cok l own fr lo ix n (some ci) sp) (ho : cs[a]? = some (.inr (ci, fs))) (hn : as.length + 1 = n) (hsum : (r.map (fun v => v.category)).sum ≤ 8)
    (hsp : sp (.ref a :: as) cs Qk) (kk : ∀ (rv : Option Value) (cs' : ex_C), Qk rv cs' → ex_T p l e R s m args below meth c D ad ca n0 nL A kc ks Qw (pc + 3) lv (rv.toList ++ r) cs') : ex_T p l e R s m args below meth c D ad ca n0 nL A kc ks Qw pc lv (as.reverse ++ .ref a :: r) cs := by
  intro ls H locs G
  have hst := ex_start (av := .ref a :: as) C G.1 G.2.2.1 G.2.2.2
  obtain ⟨hx, hb, hml, hown, hts, hr, hlk, hD, hK, hX, hZ, hAe, hR1, hR2, hxt, hNw⟩ := C
  obtain ⟨y, bytes, maxL, ret', fr', lo', hd', hmx, hM, hcode, hini, hy, hlink, ⟨T, N, hcl⟩, hinst, hsel, -, hpar⟩ := hcok
  have hM := hM D ad ca n0 H.size (.ref a :: as) cs Qk hsp
  have hroom : (ex_rm fr' lo').frames + 1 ≤ R.frames ∧ 8 + (maxL + 11) + (ex_rm fr' lo').locals ≤ R.locals := by
    exact ⟨Nat.le_trans hd' hR1, Nat.le_trans hmx hR2⟩
  have hp : PreV s H y.cls (ad a) (ex_Pc D ad ca (.ref a :: as) cs n0 H.size) (as.map (ex_v ad)) := ⟨ex_blind, va_recv hK G.2.2.1 hcl (ex_w_get ho), hst⟩
  have hstack : (as.reverse ++ Value.ref a :: r).map (ex_v ad) = (as.map (ex_v ad)).reverse ++ Value.ref (ad a) :: r.map (ex_v ad) := by simp [ex_v]
  have hlen : (as.map (ex_v ad)).length = n - 1 := by rw [List.length_map]; omega
  have hcat : ((r.map (ex_v ad)).map fun v => v.category).sum ≤ 8 := by
    rw [List.map_map]
    have : ((fun v : Value => v.category) ∘ ex_v ad) = (fun v => v.category) := by funext v; exact ex_v_cat ad v
    rw [this]
    exact hsum
  rw [hstack]
  rcases hlink with hlink | ⟨host, hlink⟩
  · refine ex_s_run (va_runV (C := y.cls) (n := n - 1) (ret := ret') ⟨hx, hb, hml, hown, hts⟩ hM ⟨callB_of (n - 1) hts (ex_good hcode) rfl rfl rfl (hts _ hini) (hts _ hlink) ⟨hy.1, hy.2, hpar⟩ hroom, hts _ hinst, hts _ hsel⟩ hp rfl hlen G.2.1.1 rfl (lv_room hcat) hd hrc) hAe G.2.1 G.2.2.2 kk
  · refine ex_s_run (va_runVN (C := y.cls) (n := n - 1) (ret := ret') ⟨hx, hb, hml, hown, hts⟩ hM ⟨va_cnB (n - 1) hts (ex_good hcode) rfl rfl rfl (hNw _ hlink) (hts _ hini) ⟨hy.1, hy.2, hpar⟩ hroom, hts _ hinst, hts _ hsel⟩ hp rfl hlen G.2.1.1 rfl (lv_room hcat) hd hrc) hAe G.2.1 G.2.2.2 kk
theorem ex_s_static (C : ex_Cx xt p R s m args meth c D ad ca n0 nL fr lo A cc ret own) {pc : Nat} {lv : ex_L} {cs : ex_C} {ix n : Nat} {sp : ex_S} {as r : ex_V} {Qk : ex_Q} (hd : decode cc pc = .ok (.invokestatic ix, 3)) (hrc : kc ≤ R.cells ∧ ks ≤ R.slots) (hcok : ex_cok l own fr lo ix n none sp) (hn : as.length = n) (hsum : (r.map (fun v => v.category)).sum ≤ 8)
    (hsp : sp as cs Qk) (kk : ∀ (rv : Option Value) (cs' : ex_C), Qk rv cs' → ex_T p l e R s m args below meth c D ad ca n0 nL A kc ks Qw (pc + 3) lv (rv.toList ++ r) cs') : ex_T p l e R s m args below meth c D ad ca n0 nL A kc ks Qw pc lv (as.reverse ++ r) cs := by
  intro ls H locs G
  have hst := ex_start (av := as) C G.1 G.2.2.1 G.2.2.2
  obtain ⟨hx, hb, hml, hown, hts, hr, hlk, hD, hK, hX, hZ, hAe, hR1, hR2, hxt, hNw⟩ := C
  obtain ⟨y, bytes, maxL, ret', fr', lo', hd', hmx, hM, hcode, hini, hy, hlink, hstat, hpar⟩ := hcok
  have hM := hM D ad ca n0 H.size as cs Qk hsp
  have hroom : (ex_rm fr' lo').frames + 1 ≤ R.frames ∧ 8 + (maxL + 11) + (ex_rm fr' lo').locals ≤ R.locals := by
    exact ⟨Nat.le_trans hd' hR1, Nat.le_trans hmx hR2⟩
  have hp : PreS s H (ex_Pc D ad ca as cs n0 H.size) (as.map (ex_v ad)) := ⟨ex_blind, hst⟩
  have hstack : (as.reverse ++ r).map (ex_v ad) = (as.map (ex_v ad)).reverse ++ r.map (ex_v ad) := by simp
  have hlen : (as.map (ex_v ad)).length = n := by rw [List.length_map]; exact hn
  have hcat : ((r.map (ex_v ad)).map fun v => v.category).sum ≤ 8 := by
    rw [List.map_map]
    have : ((fun v : Value => v.category) ∘ ex_v ad) = (fun v => v.category) := by funext v; exact ex_v_cat ad v
    rw [this]
    exact hsum
  rw [hstack]
  rcases hlink with hlink | ⟨host, hlink⟩
  · refine ex_s_run (va_runS (n := n) (ret := ret') ⟨hx, hb, hml, hown, hts⟩ hM ⟨callB_of n hts (ex_good hcode) rfl rfl rfl (hts _ hini) (hts _ hlink) ⟨hy.1, hy.2, hpar⟩ hroom, hts _ hstat⟩ hp rfl hlen G.2.1.1 rfl (lv_room hcat) hd hrc) hAe G.2.1 G.2.2.2 kk
  · refine ex_s_run (va_runSN (n := n) (ret := ret') ⟨hx, hb, hml, hown, hts⟩ hM ⟨va_cnB n hts (ex_good hcode) rfl rfl rfl (hNw _ hlink) (hts _ hini) ⟨hy.1, hy.2, hpar⟩ hroom, hts _ hstat, trivial⟩ hp rfl hlen G.2.1.1 rfl (lv_room hcat) hd hrc) hAe G.2.1 G.2.2.2 kk
end EXW
end
section
section EXM
variable {p : Program} {l : Launch} {e : Env} {R : Room} {s : State} {m : MethodId} {args : Array Value} {below : List Frame} {meth : Method} {c : Code}
variable {D : va_G} {ad ca : Nat → Nat} {n0 nL fr lo : Nat} {A : Nat → Prop} {cc : ByteArray} {ret : Option FieldType} {Q : ex_Q} {Qw : State → Prop} {kc ks : Nat} {xt : ex_xt}
theorem ex_split {st : ex_V} {n : Nat} {v : Value} (h1 : n ≤ st.length) (hn : 1 ≤ n) (h2 : st[n - 1]? = some v) : st = (st.take (n - 1)).reverse.reverse ++ v :: st.drop n ∧ (st.take n).reverse = v :: (st.take (n - 1)).reverse := by
  obtain ⟨k, rfl⟩ : ∃ k, n = k + 1 := ⟨n - 1, by omega⟩
  rw [Nat.add_sub_cancel] at h2 ⊢
  have hk : k < st.length := by omega
  have hv : st[k] = v := by
    rw [List.getElem?_eq_getElem hk] at h2
    exact Option.some.inj h2
  refine ⟨?_, ?_⟩
  · rw [List.reverse_reverse]
    conv => lhs; rw [← List.take_append_drop k st]
    rw [List.drop_eq_getElem_cons hk, hv]
  · rw [← List.take_append_getElem hk, List.reverse_append, hv]
    rfl
set_option maxHeartbeats 4000000 in
theorem ex_i_sound {cx : ex_K} (C : ex_Cx xt p R s m args meth c D ad ca n0 nL fr lo A cc ret cx.1) (hok : ex_ok l fr lo cx) (hrc : kc ≤ R.cells ∧ ks ≤ R.slots) (hI : ∀ pc lv cs v, decode cc pc = .ok (.ireturn, 1) → ex_ret ret v → Q (some (.int v)) cs → ex_T p l e R s m args below meth c D ad ca n0 nL A kc ks Qw pc lv [.int v] cs) (hV : ∀ pc lv cs, decode cc pc = .ok (.return_, 1) → ret = none → Q none cs → ex_T p l e R s m args below meth c D ad ca n0 nL A kc ks Qw pc lv [] cs) {i : Instr} {len pc : Nat} {lv : ex_L} {st : ex_V} {cs : ex_C} {K : Nat → ex_L → ex_V → ex_C → Prop} (hd : decode cc pc = .ok (i, len)) (h : ex_i xt cx ret Q i len pc lv st cs K)
    (kk : ∀ pc' lv' st' cs', K pc' lv' st' cs' → ex_T p l e R s m args below meth c D ad ca n0 nL A kc ks Qw pc' lv' st' cs') : ex_T p l e R s m args below meth c D ad ca n0 nL A kc ks Qw pc lv st cs := by
  cases i with
  | iconst n => obtain ⟨rfl, h⟩ := h; exact ex_s_iconst C hd (kk _ _ _ _ h)
  | bipush n => obtain ⟨rfl, h⟩ := h; exact ex_s_bipush C hd (kk _ _ _ _ h)
  | sipush n => obtain ⟨rfl, h⟩ := h; exact ex_s_sipush C hd (kk _ _ _ _ h)
  | ldc_w ix => obtain ⟨rfl, h⟩ := h; obtain ⟨v, hv, h⟩ := ex_o.at h; exact ex_s_ldc_w C hd (hok.2.1 _ _ hv) (kk _ _ _ _ h)
  | ldc2_w ix => obtain ⟨rfl, h⟩ := h; obtain ⟨v, hv, h⟩ := ex_o.at h; exact ex_s_ldc2_w C hd (hok.2.2.2.2.2.2.2 _ _ hv) (kk _ _ _ _ h)
  | lconst n => obtain ⟨rfl, h⟩ := h; exact ex_s_lconst C hd (kk _ _ _ _ h)
  | ldc ix => obtain ⟨rfl, h⟩ := h; obtain ⟨v, hv, h⟩ := ex_o.at h; exact ex_s_ldc C hd (hok.2.1 _ _ hv) (kk _ _ _ _ h)
  | iload_n k => obtain ⟨rfl, h⟩ := h; obtain ⟨x, hv, h⟩ := ex_gi.at h; exact ex_s_iload_n C hd hv (kk _ _ _ _ h)
  | iload k => obtain ⟨rfl, h⟩ := h; obtain ⟨x, hv, h⟩ := ex_gi.at h; exact ex_s_iload C hd hv (kk _ _ _ _ h)
  | lload_n k => obtain ⟨rfl, h⟩ := h; obtain ⟨x, hv, h⟩ := ex_gl.at h; exact ex_s_lload_n C hd hv (kk _ _ _ _ h)
  | lload k => obtain ⟨rfl, h⟩ := h; obtain ⟨x, hv, h⟩ := ex_gl.at h; exact ex_s_lload C hd hv (kk _ _ _ _ h)
  | aload_n k => obtain ⟨rfl, h⟩ := h; obtain ⟨x, hv, h⟩ := ex_gr.at h; exact ex_s_aload_n C hd hv (kk _ _ _ _ h)
  | aload k => obtain ⟨rfl, h⟩ := h; obtain ⟨x, hv, h⟩ := ex_gr.at h; exact ex_s_aload C hd hv (kk _ _ _ _ h)
  | istore_n k => obtain ⟨rfl, h⟩ := h; obtain ⟨x, r, rfl, hs, h⟩ := ex_i1.at h; exact ex_s_istore_n C hd hs (kk _ _ _ _ h)
  | istore k => obtain ⟨rfl, h⟩ := h; obtain ⟨x, r, rfl, hs, h⟩ := ex_i1.at h; exact ex_s_istore C hd hs (kk _ _ _ _ h)
  | astore_n k => obtain ⟨rfl, h⟩ := h; obtain ⟨x, r, rfl, hs, h⟩ := ex_r1.at h; exact ex_s_astore_n C hd hs (kk _ _ _ _ h)
  | astore k => obtain ⟨rfl, h⟩ := h; obtain ⟨x, r, rfl, hs, h⟩ := ex_r1.at h; exact ex_s_astore C hd hs (kk _ _ _ _ h)
  | lstore_n k => obtain ⟨rfl, h⟩ := h; obtain ⟨x, r, rfl, hs, hs2, h⟩ := ex_l1.at h; exact ex_s_lstore_n C hd hs hs2 (kk _ _ _ _ h)
  | lstore k => obtain ⟨rfl, h⟩ := h; obtain ⟨x, r, rfl, hs, hs2, h⟩ := ex_l1.at h; exact ex_s_lstore C hd hs hs2 (kk _ _ _ _ h)
  | iinc k n => obtain ⟨rfl, h⟩ := h; obtain ⟨x, hv, hs, h⟩ := ex_gi.at h; exact ex_s_iinc C hd hv hs (kk _ _ _ _ h)
  | iadd => obtain ⟨rfl, h⟩ := h; obtain ⟨x, y, r, rfl, h⟩ := ex_i2.at h; exact ex_s_iadd C hd (kk _ _ _ _ h)
  | isub => obtain ⟨rfl, h⟩ := h; obtain ⟨x, y, r, rfl, h⟩ := ex_i2.at h; exact ex_s_isub C hd (kk _ _ _ _ h)
  | imul => obtain ⟨rfl, h⟩ := h; obtain ⟨x, y, r, rfl, h⟩ := ex_i2.at h; exact ex_s_imul C hd (kk _ _ _ _ h)
  | iand => obtain ⟨rfl, h⟩ := h; obtain ⟨x, y, r, rfl, h⟩ := ex_i2.at h; exact ex_s_iand C hd (kk _ _ _ _ h)
  | ior => obtain ⟨rfl, h⟩ := h; obtain ⟨x, y, r, rfl, h⟩ := ex_i2.at h; exact ex_s_ior C hd (kk _ _ _ _ h)
  | ixor => obtain ⟨rfl, h⟩ := h; obtain ⟨x, y, r, rfl, h⟩ := ex_i2.at h; exact ex_s_ixor C hd (kk _ _ _ _ h)
  | ishl => obtain ⟨rfl, h⟩ := h; obtain ⟨x, y, r, rfl, h⟩ := ex_i2.at h; exact ex_s_ishl C hd (kk _ _ _ _ h)
  | ishr => obtain ⟨rfl, h⟩ := h; obtain ⟨x, y, r, rfl, h⟩ := ex_i2.at h; exact ex_s_ishr C hd (kk _ _ _ _ h)
  | iushr => obtain ⟨rfl, h⟩ := h; obtain ⟨x, y, r, rfl, h⟩ := ex_i2.at h; exact ex_s_iushr C hd (kk _ _ _ _ h)
  | idiv => obtain ⟨rfl, h⟩ := h; obtain ⟨x, y, r, rfl, hy, h⟩ := ex_i2.at h; exact ex_s_idiv C hy hd (kk _ _ _ _ h)
  | irem => obtain ⟨rfl, h⟩ := h; obtain ⟨x, y, r, rfl, hy, h⟩ := ex_i2.at h; exact ex_s_irem C hy hd (kk _ _ _ _ h)
  | ineg => obtain ⟨rfl, h⟩ := h; obtain ⟨x, r, rfl, h⟩ := ex_i1.at h; exact ex_s_ineg C hd (kk _ _ _ _ h)
  | i2l => obtain ⟨rfl, h⟩ := h; obtain ⟨x, r, rfl, h⟩ := ex_i1.at h; exact ex_s_i2l C hd (kk _ _ _ _ h)
  | l2i => obtain ⟨rfl, h⟩ := h; obtain ⟨x, r, rfl, h⟩ := ex_l1.at h; exact ex_s_l2i C hd (kk _ _ _ _ h)
  | ladd => obtain ⟨rfl, h⟩ := h; obtain ⟨x, y, r, rfl, h⟩ := ex_l2.at h; exact ex_s_ladd C hd (kk _ _ _ _ h)
  | lsub => obtain ⟨rfl, h⟩ := h; obtain ⟨x, y, r, rfl, h⟩ := ex_l2.at h; exact ex_s_lsub C hd (kk _ _ _ _ h)
  | lmul => obtain ⟨rfl, h⟩ := h; obtain ⟨x, y, r, rfl, h⟩ := ex_l2.at h; exact ex_s_lmul C hd (kk _ _ _ _ h)
  | ldiv => obtain ⟨rfl, h⟩ := h; obtain ⟨x, y, r, rfl, hy, h⟩ := ex_l2.at h; exact ex_s_ldiv C hy hd (kk _ _ _ _ h)
  | dup => obtain ⟨rfl, h⟩ := h; obtain ⟨v, r, rfl, h1, h⟩ := ex_v1.at h; exact ex_s_dup C h1 hd (kk _ _ _ _ h)
  | pop => obtain ⟨rfl, h⟩ := h; obtain ⟨v, r, rfl, h1, h⟩ := ex_v1.at h; exact ex_s_pop C h1 hd (kk _ _ _ _ h)
  | dup_x1 => obtain ⟨rfl, h⟩ := h; obtain ⟨v, w, r, rfl, h1, h2, h⟩ := ex_v2.at h; exact ex_s_dup_x1 C h1 h2 hd (kk _ _ _ _ h)
  | dup2 => obtain ⟨rfl, h⟩ := h; obtain ⟨v, w, r, rfl, h1, h2, h⟩ := ex_v2.at h; exact ex_s_dup2 C h1 h2 hd (kk _ _ _ _ h)
  | ifCond cnd off =>
    cases cnd with
    | eq => obtain ⟨rfl, h⟩ := h; obtain ⟨x, r, rfl, h3⟩ := ex_i1.at h; obtain ⟨t, ht, h1, h2⟩ := ex_to.at h3; exact ex_s_if_eq C hd ht (fun q => kk _ _ _ _ (h1 q)) (fun q => kk _ _ _ _ (h2 q))
    | ne => obtain ⟨rfl, h⟩ := h; obtain ⟨x, r, rfl, h3⟩ := ex_i1.at h; obtain ⟨t, ht, h1, h2⟩ := ex_to.at h3; exact ex_s_if_ne C hd ht (fun q => kk _ _ _ _ (h1 q)) (fun q => kk _ _ _ _ (h2 q))
    | lt => obtain ⟨rfl, h⟩ := h; obtain ⟨x, r, rfl, h3⟩ := ex_i1.at h; obtain ⟨t, ht, h1, h2⟩ := ex_to.at h3; exact ex_s_if_lt C hd ht (fun q => kk _ _ _ _ (h1 q)) (fun q => kk _ _ _ _ (h2 q))
    | ge => obtain ⟨rfl, h⟩ := h; obtain ⟨x, r, rfl, h3⟩ := ex_i1.at h; obtain ⟨t, ht, h1, h2⟩ := ex_to.at h3; exact ex_s_if_ge C hd ht (fun q => kk _ _ _ _ (h1 q)) (fun q => kk _ _ _ _ (h2 q))
    | gt => obtain ⟨rfl, h⟩ := h; obtain ⟨x, r, rfl, h3⟩ := ex_i1.at h; obtain ⟨t, ht, h1, h2⟩ := ex_to.at h3; exact ex_s_if_gt C hd ht (fun q => kk _ _ _ _ (h1 q)) (fun q => kk _ _ _ _ (h2 q))
    | le => obtain ⟨rfl, h⟩ := h; obtain ⟨x, r, rfl, h3⟩ := ex_i1.at h; obtain ⟨t, ht, h1, h2⟩ := ex_to.at h3; exact ex_s_if_le C hd ht (fun q => kk _ _ _ _ (h1 q)) (fun q => kk _ _ _ _ (h2 q))
  | if_icmp cnd off =>
    cases cnd with
    | eq => obtain ⟨rfl, h⟩ := h; obtain ⟨x, y, r, rfl, h3⟩ := ex_i2.at h; obtain ⟨t, ht, h1, h2⟩ := ex_to.at h3; exact ex_s_icmp_eq C hd ht (fun q => kk _ _ _ _ (h1 q)) (fun q => kk _ _ _ _ (h2 q))
    | ne => obtain ⟨rfl, h⟩ := h; obtain ⟨x, y, r, rfl, h3⟩ := ex_i2.at h; obtain ⟨t, ht, h1, h2⟩ := ex_to.at h3; exact ex_s_icmp_ne C hd ht (fun q => kk _ _ _ _ (h1 q)) (fun q => kk _ _ _ _ (h2 q))
    | lt => obtain ⟨rfl, h⟩ := h; obtain ⟨x, y, r, rfl, h3⟩ := ex_i2.at h; obtain ⟨t, ht, h1, h2⟩ := ex_to.at h3; exact ex_s_icmp_lt C hd ht (fun q => kk _ _ _ _ (h1 q)) (fun q => kk _ _ _ _ (h2 q))
    | ge => obtain ⟨rfl, h⟩ := h; obtain ⟨x, y, r, rfl, h3⟩ := ex_i2.at h; obtain ⟨t, ht, h1, h2⟩ := ex_to.at h3; exact ex_s_icmp_ge C hd ht (fun q => kk _ _ _ _ (h1 q)) (fun q => kk _ _ _ _ (h2 q))
    | gt => obtain ⟨rfl, h⟩ := h; obtain ⟨x, y, r, rfl, h3⟩ := ex_i2.at h; obtain ⟨t, ht, h1, h2⟩ := ex_to.at h3; exact ex_s_icmp_gt C hd ht (fun q => kk _ _ _ _ (h1 q)) (fun q => kk _ _ _ _ (h2 q))
    | le => obtain ⟨rfl, h⟩ := h; obtain ⟨x, y, r, rfl, h3⟩ := ex_i2.at h; obtain ⟨t, ht, h1, h2⟩ := ex_to.at h3; exact ex_s_icmp_le C hd ht (fun q => kk _ _ _ _ (h1 q)) (fun q => kk _ _ _ _ (h2 q))
  | goto off => obtain ⟨rfl, h⟩ := h; obtain ⟨t, ht, h⟩ := ex_to.at h; exact ex_s_goto C hd ht (kk _ _ _ _ h)
  | tableswitch dflt lo hi offs =>
    obtain ⟨hsz, h⟩ := h
    obtain ⟨x, r, rfl, h1, h2⟩ := ex_i1.at h
    by_cases hout : x.toInt < lo ∨ hi < x.toInt
    · obtain ⟨t, ht, h⟩ := ex_to.at (h1 hout)
      exact ex_s_tableOut C hd hout ht (kk _ _ _ _ h)
    · have ha : ¬ x.toInt < lo := fun q => hout (Or.inl q)
      have hb' : ¬ hi < x.toInt := fun q => hout (Or.inr q)
      have hlt : (x.toInt - lo).toNat < offs.size := by omega
      have ho : offs[(x.toInt - lo).toNat]? = some offs[(x.toInt - lo).toNat] := Array.getElem?_eq_getElem hlt
      have hx : x = Int32.ofInt (lo + ((x.toInt - lo).toNat : Int)) := by
        rw [show lo + ((x.toInt - lo).toNat : Int) = x.toInt by omega]
        exact (Int32.ofInt_toInt x).symm
      obtain ⟨t, ht, h⟩ := ex_to.at (ex_tb_at (j := (x.toInt - lo).toNat) h2 (by rw [Array.getElem?_toList]; exact ho) hx)
      exact ex_s_tableIn C hd ha hb' ho ht (kk _ _ _ _ h)
  | lookupswitch dflt ps =>
    obtain ⟨hp, hq, h⟩ := h
    obtain ⟨x, r, rfl, h1, h2⟩ := ex_i1.at h
    have hq' : ∀ q ∈ ps.toList, -2147483648 ≤ q.1 ∧ q.1 < 2147483648 := fun q hm => by
      have := List.all_eq_true.mp hq q hm
      simpa using this
    obtain ⟨t, ht, h⟩ := ex_to.at (ex_lk_at h1 h2 hq')
    exact ex_s_lookup C hd hp rfl ht (kk _ _ _ _ h)
  | getfield ix =>
    obtain ⟨rfl, h⟩ := h
    obtain ⟨a, r, rfl, h⟩ := ex_r1.at h
    obtain ⟨⟨ci, k, b, ty⟩, hq, h⟩ := ex_o.at h
    obtain ⟨fs, ho, h⟩ := ex_ob.at h
    obtain ⟨v, hv, h⟩ := ex_o.at h
    obtain ⟨Cn, T, N, g1, g2, g3, -, -⟩ := hok.1 _ _ _ _ _ hq
    exact ex_s_getfield C hd ho hv ⟨Cn, T, N, g1, g2, g3⟩ (kk _ _ _ _ h)
  | putfield ix =>
    obtain ⟨rfl, h⟩ := h
    obtain ⟨v, a, r, rfl, h⟩ := ex_vr.at h
    obtain ⟨⟨ci, k, b, ty⟩, hq, h⟩ := ex_o.at h
    obtain ⟨fs, ho, hl, hb2, hf, h⟩ := ex_ob.at h
    obtain ⟨Cn, T, N, g1, g2, g3, g4, g5⟩ := hok.1 _ _ _ _ _ hq
    exact ex_s_putfield C hd ho hl hf ⟨Cn, T, N, g1, g2, g3, g4, g5 hb2⟩ (kk _ _ _ _ h)
  | getstatic ix =>
    obtain ⟨rfl, h⟩ := h
    obtain ⟨j, hj, h⟩ := ex_o.at h
    exact ex_s_getstatic C hd (hok.2.2.1 _ _ hj) (kk _ _ _ _ h)
  | iaload =>
    obtain ⟨rfl, h⟩ := h
    obtain ⟨i, a, r, rfl, h3⟩ := ex_ir.at h
    unfold ex_ax at h3
    split at h3
    · rename_i ha
      generalize hq : xt[a - 1000]? = oq at h3
      cases oq with
      | none => exact False.elim h3
      | some q => exact ex_s_ialoadX C hd ha hq h3.1 (kk _ _ _ _ h3.2)
    · obtain ⟨n, f, ho, hi, h4⟩ := ex_ar.at h3
      exact ex_s_iaload C hd ho hi (kk _ _ _ _ h4)
  | baload => obtain ⟨rfl, h⟩ := h; obtain ⟨i, a, r, rfl, h⟩ := ex_ir.at h; obtain ⟨n, f, ho, hi, h⟩ := ex_ar.at h; exact ex_s_baload C hd ho hi (kk _ _ _ _ h)
  | iastore => obtain ⟨rfl, h⟩ := h; obtain ⟨x, i, a, r, rfl, h⟩ := ex_iir.at h; obtain ⟨n, f, ho, hi, h⟩ := ex_ar.at h; exact ex_s_iastore C hd ho hi (kk _ _ _ _ h)
  | bastore => obtain ⟨rfl, h⟩ := h; obtain ⟨x, i, a, r, rfl, h⟩ := ex_iir.at h; obtain ⟨n, f, ho, hi, h01, h⟩ := ex_ar.at h; exact ex_s_bastore C hd ho hi h01 (kk _ _ _ _ h)
  | arraylength =>
    obtain ⟨rfl, h⟩ := h
    obtain ⟨a, r, rfl, h3⟩ := ex_r1.at h
    split at h3
    · rename_i t n f ho
      exact ex_s_arraylength C hd ho h3.1 (kk _ _ _ _ h3.2)
    · exact h3.elim
  | invokevirtual ix =>
    obtain ⟨rfl, h⟩ := h
    obtain ⟨⟨n, rc, sp⟩, hq, hn, hsum, h⟩ := ex_o.at h
    obtain ⟨ci, rfl, h⟩ := ex_o.at h
    obtain ⟨v, hv, h⟩ := ex_o.at h
    split at h
    · rename_i a
      obtain ⟨fs, ho, h⟩ := ex_ob.at h
      have hcok := hok.2.2.2.1 _ _ _ _ hq
      have hn1 : 1 ≤ n := by
        obtain ⟨y, bytes, maxL, ret', fr', lo', -, -, -, -, -, -, -, -, -, -, h1, -⟩ := hcok
        exact h1
      obtain ⟨e1, e2⟩ := ex_split hn hn1 hv
      have h' : sp (.ref a :: (st.take (n - 1)).reverse) cs (fun r cs' => K (pc + 3) lv (r.toList ++ st.drop n) cs') := by
        rw [← e2]; exact h
      have goal := ex_s_virtual (e := e) (below := below) (Qw := Qw) (lv := lv) C hd hrc hcok ho (by rw [List.length_reverse, List.length_take]; omega) hsum h' (fun rv cs' q => kk _ _ _ _ q)
      rw [← e1] at goal
      exact goal
    · exact h.elim
  | invokestatic ix =>
    obtain ⟨rfl, h⟩ := h
    split at h
    · rename_i hcp
      obtain ⟨n, dp, a, sp, a0, r, m0, f, m1, g, rfl, g1, g2, g3, g4, g5, g6, g7, g8, h9⟩ := ex_cp.at h
      exact ex_s_copy C hd (hok.2.2.2.2.2.2.1 ix hcp) g1 g2 g3 g4 g5 g6 g7 g8 (kk _ _ _ _ h9)
    · rename_i hcp
      obtain ⟨x, y, r, rfl, g1, h9⟩ := ex_i2.at h
      exact ex_s_min C hd hrc (hok.2.2.2.2.1 ix hcp) g1 (kk _ _ _ _ h9)
    · rename_i hcp
      obtain ⟨x, y, r, rfl, g1, h9⟩ := ex_i2.at h
      exact ex_s_max C hd hrc (hok.2.2.2.2.2.1 ix hcp) g1 (kk _ _ _ _ h9)
    obtain ⟨⟨n, rc, sp⟩, hq, hn, hsum, hrc', h⟩ := ex_o.at h
    dsimp only at hrc' hn hsum h
    subst hrc'
    have hcok := hok.2.2.2.1 _ _ _ _ hq
    have goal := ex_s_static (e := e) (below := below) (Qw := Qw) (lv := lv) C hd hrc hcok (by rw [List.length_reverse, List.length_take]; omega) hsum h (fun rv cs' q => kk _ _ _ _ q)
    rw [List.reverse_reverse, List.take_append_drop] at goal
    exact goal
  | ireturn =>
    obtain ⟨rfl, h⟩ := h
    split at h
    · exact hI _ _ _ _ hd h.1 h.2
    · exact h.elim
  | return_ =>
    obtain ⟨rfl, h1, rfl, h⟩ := h
    exact hV _ _ _ hd h1 h
  | _ => exact False.elim h
theorem ex_wp_sound {cx : ex_K} {I : Nat → Option (ex_L → ex_V → ex_C → Prop)} (C : ex_Cx xt p R s m args meth c D ad ca n0 nL fr lo A cc ret cx.1) (hok : ex_ok l fr lo cx) (hrc : kc ≤ R.cells ∧ ks ≤ R.slots) (hI : ∀ pc lv cs v, decode cc pc = .ok (.ireturn, 1) → ex_ret ret v → Q (some (.int v)) cs → ex_T p l e R s m args below meth c D ad ca n0 nL A kc ks Qw pc lv [.int v] cs) (hV : ∀ pc lv cs, decode cc pc = .ok (.return_, 1) → ret = none → Q none cs → ex_T p l e R s m args below meth c D ad ca n0 nL A kc ks Qw pc lv [] cs)
    (hJ : ∀ pc J lv st cs, I pc = some J → J lv st cs → ex_T p l e R s m args below meth c D ad ca n0 nL A kc ks Qw pc lv st cs) : ∀ n pc lv st cs, ex_wp xt cx cc ret I Q n pc lv st cs → ex_T p l e R s m args below meth c D ad ca n0 nL A kc ks Qw pc lv st cs := by
  intro n
  induction n with
  | zero => intro pc lv st cs h; exact False.elim h
  | succ n ih =>
    intro pc lv st cs h
    unfold ex_wp at h
    split at h
    · rename_i i len hd
      refine ex_i_sound C hok hrc hI hV hd h (fun pc' lv' st' cs' hk => ?_)
      split at hk
      · rename_i J hJ'
        exact hJ _ _ _ _ _ hJ' hk
      · exact ih _ _ _ _ hk
    · exact False.elim h
/-- loops: a measure falls from cut to cut -/
theorem ex_loop {cx : ex_K} {I : Nat → Option (Nat → ex_L → ex_V → ex_C → Prop)} {fuel : Nat} (C : ex_Cx xt p R s m args meth c D ad ca n0 nL fr lo A cc ret cx.1) (hok : ex_ok l fr lo cx) (hrc : kc ≤ R.cells ∧ ks ≤ R.slots) (hI : ∀ pc lv cs v, decode cc pc = .ok (.ireturn, 1) → ex_ret ret v → Q (some (.int v)) cs → ex_T p l e R s m args below meth c D ad ca n0 nL A kc ks Qw pc lv [.int v] cs) (hV : ∀ pc lv cs, decode cc pc = .ok (.return_, 1) → ret = none → Q none cs → ex_T p l e R s m args below meth c D ad ca n0 nL A kc ks Qw pc lv [] cs)
    (hcut : ∀ pc J n lv st cs, I pc = some J → J n lv st cs → ex_wp xt cx cc ret (fun pc' => (I pc').map (fun J' lv st cs => ∃ n', n' < n ∧ J' n' lv st cs)) Q fuel pc lv st cs) :
    ∀ n pc J lv st cs, I pc = some J → J n lv st cs → ex_T p l e R s m args below meth c D ad ca n0 nL A kc ks Qw pc lv st cs := by
  intro n
  induction n using Nat.strongRecOn with
  | ind n ih =>
    intro pc J lv st cs hJ h
    refine ex_wp_sound C hok hrc hI hV (fun pc' J' lv' st' cs' hJ' h' => ?_) _ _ _ _ _ (hcut pc J n lv st cs hJ h)
    cases hIp : I pc' with
    | none => rw [hIp] at hJ'; cases hJ'
    | some J0 =>
      rw [hIp] at hJ'
      cases hJ'
      obtain ⟨n', hlt, h2⟩ := h'
      exact ih n' hlt pc' J0 lv' st' cs' hIp h2
end EXM
/-- the locals at the entry -/
def ex_l0 (av : ex_V) (maxL : Nat) : ex_L := av.map some ++ List.replicate (maxL - av.length) none
theorem ex_args_mem : ∀ (av : List Value) (k i : Nat) (v : Value), (∀ w ∈ av, w.category = 1) → av[i]? = some v → (k + i, v) ∈ lv_args k av
  | [], _, _, _, _, h => by simp at h
  | w :: r, k, 0, v, _, h => by
    simp at h
    subst h
    exact List.mem_cons_self
  | w :: r, k, i + 1, v, hc, h => by
    unfold lv_args
    rw [if_neg (by rw [hc w List.mem_cons_self]; decide)]
    refine List.mem_cons_of_mem _ ?_
    have := ex_args_mem r (k + 1) i v (fun q hq => hc q (List.mem_cons_of_mem _ hq)) (by simpa using h)
    rw [show k + (i + 1) = k + 1 + i by omega]
    exact this
theorem ex_sl_len : ∀ (av : List Value), (∀ w ∈ av, w.category = 1) → (lg_sl av).length = av.length
  | [], _ => rfl
  | w :: r, hc => by
    have h1 := hc w List.mem_cons_self
    have ih := ex_sl_len r (fun q hq => hc q (List.mem_cons_of_mem _ hq))
    show ((if w.category = 2 then [Slot.val w, Slot.second] else [Slot.val w]) ++ lg_sl r).length = r.length + 1
    rw [if_neg (by rw [h1]; decide), List.length_append, ih]
    show 1 + r.length = r.length + 1
    omega
/-- a method's contract out of its walk -/
theorem ex_met {l : Launch} {y : MethodName} {cc : ByteArray} {maxL : Nat} {ret : Option FieldType} {fr lo : Nat} {sp : ex_S} (hy : plainName y.cls = true)
    (h : ∀ av cs Q, sp av cs Q → (∀ w ∈ av, w.category = 1) ∧ av.length ≤ maxL ∧ ∀ (p : Program) (e : Env) (R : Room) (s : State) (m : MethodId) (args : Array Value) (below : List Frame) (meth : Method) (c : Code) (D : va_G) (ad ca : Nat → Nat) (n0 : Nat) (A : Nat → Prop),
      ex_Cx ec_xt p R s m args meth c D ad ca n0 maxL fr lo A cc ret y.cls → ex_T p l e R s m args below meth c D ad ca n0 maxL A 0 0 (MQ below (ex_Qc D ad ca Q n0 A) args s 0 0 A) 0 (ex_l0 av maxL) [] cs) : ex_Met l y cc maxL ret fr lo sp := by
  intro D ad ca n sz av cs Q hsp
  obtain ⟨hcat, hlen, hT⟩ := h av cs Q hsp
  refine Met.ofW (cc := cc) (maxL := maxL) (ret := ret) hy rfl ?_
  intro p e s m args below meth c s₁ B hml hv
  obtain ⟨rfl, hsz, hn, hP, hD, hK, hX, hZ, hNw0⟩ := hv
  subst hsz
  have hts0 := atoms_spec (ws := .code y cc maxL ret :: ec_tb) B.pre
  have hcx : ex_Cx ec_xt p (headSpec (.code y cc maxL ret :: ec_tb) (ex_rm fr lo)).room s m ((av.map (ex_v ad)).toArray) meth c D ad ca n maxL fr lo (ex_A ad n s.heap.size) cc ret y.cls :=
    ⟨B.exec, B.bytes, hml, findClass_of_methodNamed B.named, fun w hw => hts0 w (List.mem_cons_of_mem _ hw), B.returns, B.notSynchronized, hD, hK, hX, hZ, fun _ h => h, Nat.le_refl _, Nat.le_refl _, fun _ _ h => h, hNw0⟩
  have hcat' : ∀ w ∈ av.map (ex_v ad), w.category = 1 := by
    intro w hw
    obtain ⟨v, hv, rfl⟩ := List.mem_map.mp hw
    rw [ex_v_cat]
    exact hcat v hv
  have hsl := ex_sl_len _ hcat'
  rw [List.length_map] at hsl
  have hl := lv_entry (av.map (ex_v ad)) (n := maxL) (by rw [hsl]; exact hlen)
  rw [lg_entry_eq]
  refine hT p e _ s m _ below meth c D ad ca n _ hcx _ s.heap [] ⟨hn, ⟨hl.1, hl.2.1, ?_, ?_⟩, hP, va_S.rf⟩
  · unfold ex_l0
    rw [List.length_append, List.length_map, List.length_replicate]
    omega
  · intro i v hi
    unfold ex_l0 at hi
    by_cases hia : i < av.length
    · rw [List.getElem?_append_left (by rw [List.length_map]; exact hia), List.getElem?_map] at hi
      cases hav : av[i]? with
      | none => rw [hav] at hi; cases hi
      | some w =>
        rw [hav] at hi
        have hw : w = v := Option.some.inj (Option.some.inj hi)
        subst hw
        have := ex_args_mem (av.map (ex_v ad)) 0 i (ex_v ad w) hcat' (by rw [List.getElem?_map, hav]; rfl)
        rw [Nat.zero_add] at this
        exact hl.2.2 (i, ex_v ad w) this
    · rw [List.getElem?_append_right (by rw [List.length_map]; omega), List.getElem?_replicate] at hi
      split at hi <;> cases hi
end
section
/-! CONSTRUCTORS: walks that make cells. A new cell's place is the next one. -/
def ex_cv (n : Nat) (v : Value) : Bool := match v with
  | .ref k => decide (k < n)
  | _ => true
def ex_co (n : Nat) (o : Option Value) : Bool := match o with
  | some v => ex_cv n v
  | none => true
def ex_ce (n : Nat) (e : va_E) : Bool := match e with
  | .inl _ => true
  | .inr o => o.2.all (ex_cv n)
/-- no value points beyond the cells -/
def ex_clo (n : Nat) (lv : ex_L) (st : ex_V) (cs : ex_C) : Bool := lv.all (ex_co n) && st.all (ex_cv n) && cs.all (ex_ce n) && decide (n < 1000)
def ex_ext (ad : Nat → Nat) (n q : Nat) : Nat → Nat := fun k => if k = n then q else ad k
theorem ex_v_ext {ad : Nat → Nat} {n q : Nat} {v : Value} (h : ex_cv n v = true) : ex_v (ex_ext ad n q) v = ex_v ad v := by
  cases v with
  | ref k =>
    have hk : k < n := by simpa [ex_cv] using h
    show Value.ref (ex_ext ad n q k) = Value.ref (ad k)
    unfold ex_ext
    rw [if_neg (Nat.ne_of_lt hk)]
  | _ => rfl
theorem ex_e_ext {ad ca : Nat → Nat} {n q : Nat} {e : va_E} (h : ex_ce n e = true) : ex_e (ex_ext ad n q) ca e = ex_e ad ca e := by
  cases e with
  | inl a => rfl
  | inr o =>
    have h2 : o.2.map (ex_v (ex_ext ad n q)) = o.2.map (ex_v ad) := List.map_congr_left (fun v hv => ex_v_ext (List.all_eq_true.mp h v hv))
    show Sum.inr (o.1, o.2.map (ex_v (ex_ext ad n q))) = Sum.inr (o.1, o.2.map (ex_v ad))
    rw [h2]
theorem ex_w_ext {ad ca : Nat → Nat} {q : Nat} {cs : ex_C} {e : va_E} (h : cs.all (ex_ce cs.length) = true) (he : ex_ce cs.length e = true) : ex_w (ex_ext ad cs.length q) ca (cs ++ [e]) = ex_w ad ca cs ++ [(q, ex_e ad ca e)] := by
  apply List.ext_getElem?
  intro i
  by_cases hi : i < cs.length
  · obtain ⟨x, hx⟩ : ∃ x, cs[i]? = some x := ⟨_, List.getElem?_eq_getElem hi⟩
    rw [List.getElem?_append_left (by rw [ex_w_len]; exact hi), ex_w_get hx, ex_w_get (e := x) (by rw [List.getElem?_append_left hi]; exact hx)]
    have hx2 : ex_ce cs.length x = true := List.all_eq_true.mp h x (List.mem_of_getElem? hx)
    rw [ex_e_ext hx2]
    unfold ex_ext
    rw [if_neg (by omega)]
  · by_cases hi2 : i = cs.length
    · subst hi2
      rw [ex_w_get (e := e) (by simp), List.getElem?_append_right (by rw [ex_w_len]; exact Nat.le_refl _), ex_w_len, Nat.sub_self, ex_e_ext he]
      unfold ex_ext
      rw [if_pos rfl]
      rfl
    · rw [List.getElem?_eq_none (by rw [ex_w_len, List.length_append]; simp; omega), List.getElem?_eq_none (by rw [List.length_append, ex_w_len]; simp; omega)]
theorem ex_st_ext {ad : Nat → Nat} {n q : Nat} {st : ex_V} (h : st.all (ex_cv n) = true) : st.map (ex_v (ex_ext ad n q)) = st.map (ex_v ad) := List.map_congr_left (fun v hv => ex_v_ext (List.all_eq_true.mp h v hv))
theorem ex_ls_ext {ad : Nat → Nat} {n q nL : Nat} {lv : ex_L} {ls : Array Slot} (h : lv.all (ex_co n) = true) (hl : ex_ls ad lv nL ls) : ex_ls (ex_ext ad n q) lv nL ls := by
  refine ⟨hl.1, hl.2.1, hl.2.2.1, fun i v hi => ?_⟩
  have h2 : ex_cv n v = true := List.all_eq_true.mp h (some v) (List.mem_of_getElem? hi)
  rw [ex_v_ext h2]
  exact hl.2.2.2 i v hi
section EXN
variable {p : Program} {l : Launch} {e : Env} {R : Room} {s : State} {m : MethodId} {args : Array Value} {below : List Frame} {meth : Method} {c : Code}
variable {D : va_G} {ad ca : Nat → Nat} {n0 nL fr lo : Nat} {A : Nat → Prop} {cc : ByteArray} {ret : Option FieldType} {own : String} {Q : ex_Q} {Qw : State → Prop} {kc ks : Nat} {xt : ex_xt}
theorem ex_Cx.ext {q : Nat} (C : ex_Cx xt p R s m args meth c D ad ca n0 nL fr lo A cc ret own) (hn : n0 < 1000) (hD : ex_D (ex_ext ad n0 q) (n0 + 1) A) (hA : ∀ x, s.heap.size ≤ x → A x) : ex_Cx xt p R s m args meth c D (ex_ext ad n0 q) ca (n0 + 1) nL fr lo A cc ret own := by
  obtain ⟨hx, hb, hml, hown, hts, hr, hlk, hD0, hK, hX, hZ, hAe, hR1, hR2, hxt, hNw⟩ := C
  have he : ∀ j, ex_ext ad n0 q (1000 + j) = ad (1000 + j) := fun j => by unfold ex_ext; rw [if_neg (by omega)]
  refine ⟨hx, hb, hml, hown, hts, hr, hlk, hD, hK, fun j n f hj => ?_, fun Cn n dd j hj => ?_, fun x h => ?_, hR1, hR2, hxt, hNw⟩
  · rw [he]; exact hX j n f hj
  · rw [he]; exact hZ Cn n dd j hj
  · rcases h with ⟨k, hk, rfl⟩ | h
    · exact hD.2 k hk
    · exact hA x h
theorem ex_D_ext {cs : ex_C} {q : Nat} {ws : va_W} (hlen : cs.length = n0 + 1) (hw : ws = ex_w (ex_ext ad n0 q) ca cs) (hD : va_D A ws) : ex_D (ex_ext ad n0 q) (n0 + 1) A := by
  subst hw
  have gt : ∀ k, k < n0 + 1 → ∃ x, (ex_w (ex_ext ad n0 q) ca cs)[k]? = some (ex_ext ad n0 q k, x) := fun k hk => by
    obtain ⟨x, hx⟩ : ∃ x, cs[k]? = some x := ⟨_, List.getElem?_eq_getElem (by omega)⟩
    exact ⟨_, ex_w_get hx⟩
  refine ⟨fun i j hi hj h => ?_, fun k hk => ?_⟩
  · obtain ⟨x, hx⟩ := gt i hi
    obtain ⟨y, hy⟩ := gt j hj
    exact hD.1 i j _ _ hx hy h
  · obtain ⟨x, hx⟩ := gt k hk
    exact hD.2 k _ hx
theorem ex_s_new (C : ex_Cx xt p R s m args meth c D ad ca n0 nL fr lo A cc ret own) {pc : Nat} {lv : ex_L} {cs : ex_C} {ix ci N : Nat} {fs : List Value} {st : ex_V} {Cn : String} {T : u_T} {ty : Nat → FieldType} (hd : decode cc pc = .ok (.new ix, 3)) (hA : ∀ x, s.heap.size ≤ x → A x) (hcl : ex_clo n0 lv st cs = true) (hlen : cs.length = n0)
    (h1 : ec_cl[ci]? = some (Cn, T, N)) (h2 : Cond.classLink own ix Cn ∈ ec_tb) (h3 : Cond.instantiable Cn N ∈ ec_tb) (h4 : Cond.initialized Cn ∈ ec_tb) (hty : ∀ k, k < N → parseFieldDescriptor (T k).2.2.1 = some (ty k)) (hfs : ∀ j, j < N → defaultValue (ty j) = vp_V fs j) (hfc : fs.all (ex_cv 0) = true)
    (hrc : kc + 1 ≤ R.cells ∧ ks + N ≤ R.slots)
    (kk : ∀ q, ex_Cx xt p R s m args meth c D (ex_ext ad n0 q) ca (n0 + 1) nL fr lo A cc ret own → ex_T p l e R s m args below meth c D (ex_ext ad n0 q) ca (n0 + 1) nL A (kc + 1) (ks + N) Qw (pc + 3) lv (.ref n0 :: st) (cs ++ [.inr (ci, fs)])) : ex_T p l e R s m args below meth c D ad ca n0 nL A kc ks Qw pc lv st cs := by
  have C' := C
  obtain ⟨hx, hb, hml, hown, hts, hr, hlk, hD, hK, hX, hZ, hAe, hR1, hR2, hxt, hNw⟩ := C
  simp only [ex_clo, Bool.and_eq_true, decide_eq_true_eq] at hcl
  obtain ⟨⟨⟨c1, c2⟩, c3⟩, c4⟩ := hcl
  subst hlen
  intro ls H locs G
  have hfm : fs.map (ex_v ad) = fs := by
    have : ∀ v ∈ fs, ex_v ad v = v := fun v hv => by
      have := List.all_eq_true.mp hfc v hv
      cases v with
      | ref k => simp [ex_cv] at this
      | _ => rfl
    exact (List.map_congr_left this).trans (List.map_id fs)
  have hce : ex_ce cs.length (.inr (ci, fs)) = true := by
    refine List.all_eq_true.mpr (fun v hv => ?_)
    have := List.all_eq_true.mp hfc v hv
    cases v with
    | ref k => simp [ex_cv] at this
    | _ => rfl
  refine va_new (D := D) (ci := ci) (fs := fs) (C := Cn) (T := T) (N := N) (rest := st.map (ex_v ad)) hx hb hts (ec_clok h1).1 ty hty hown (hts _ h2) (hts _ h3) (hts _ h4) hK G.2.2.1 (hD.va G.1) G.2.2.2 hA h1 hfs hrc.1 hrc.2 hd (fun q H1 hP1 hD1 hS1 => ?_)
  have hw : ex_w (ex_ext ad cs.length q) ca (cs ++ [.inr (ci, fs)]) = ex_w ad ca cs ++ [(q, .inr (ci, fs))] := by
    rw [ex_w_ext c3 hce]
    show _ ++ [(q, Sum.inr (ci, fs.map (ex_v ad)))] = _
    rw [hfm]
  have hlen2 : (cs ++ [Sum.inr (ci, fs)] : ex_C).length = cs.length + 1 := by simp
  have hD2 : ex_D (ex_ext ad cs.length q) (cs.length + 1) A := ex_D_ext hlen2 hw.symm hD1
  have k2 := kk q (C'.ext c4 hD2 hA) ls H1 locs ⟨hlen2, ex_ls_ext c1 G.2.1, by rw [hw]; exact hP1, hS1⟩
  have hst : (Value.ref cs.length :: st).map (ex_v (ex_ext ad cs.length q)) = Value.ref q :: st.map (ex_v ad) := by
    rw [List.map_cons, ex_st_ext c2]
    show Value.ref (ex_ext ad cs.length q cs.length) :: _ = _
    unfold ex_ext
    rw [if_pos rfl]
  rw [hst] at k2
  exact k2
/-- the array type of a tag -/
def ex_at (t : ArrayType) : Option Nat := match t with
  | .int => some 0
  | .boolean => some 1
  | _ => none
theorem ex_s_newarray (C : ex_Cx xt p R s m args meth c D ad ca n0 nL fr lo A cc ret own) {pc : Nat} {lv : ex_L} {cs : ex_C} {t : ArrayType} {tag N : Nat} {x : Int32} {st : ex_V} (hd : decode cc pc = .ok (.newarray t, 2)) (hA : ∀ x, s.heap.size ≤ x → A x) (hcl : ex_clo n0 lv st cs = true) (hlen : cs.length = n0) (ht : ex_at t = some tag) (hx0 : ¬ x < 0) (hN : x.toNatClampNeg = N) (hNb : N ≤ 1000)
    (hac : Cond.arrayClass .int ∈ ec_tb ∧ Cond.arrayClass .boolean ∈ ec_tb) (hrc : kc + 1 ≤ R.cells ∧ ks + N ≤ R.slots)
    (kk : ∀ q, ex_Cx xt p R s m args meth c D (ex_ext ad n0 q) ca (n0 + 1) nL fr lo A cc ret own → ex_T p l e R s m args below meth c D (ex_ext ad n0 q) ca (n0 + 1) nL A (kc + 1) (ks + N) Qw (pc + 2) lv (.ref n0 :: st) (cs ++ [.inl (tag, N, .inl (fun _ => 0))])) : ex_T p l e R s m args below meth c D ad ca n0 nL A kc ks Qw pc lv (.int x :: st) cs := by
  have C' := C
  obtain ⟨hx, hb, hml, hown, hts, hr, hlk, hD, hK, hX, hZ, hAe, hR1, hR2, hxt, hNw⟩ := C
  simp only [ex_clo, Bool.and_eq_true, decide_eq_true_eq] at hcl
  obtain ⟨⟨⟨c1, c2⟩, c3⟩, c4⟩ := hcl
  subst hlen
  intro ls H locs G
  have fin : ∀ (q : Nat) (H1 : Heap), va_P D ec_cl (ex_w ad ca cs ++ [(q, .inl (ca tag, N, .inl (fun _ => 0)))]) H1 → va_D A (ex_w ad ca cs ++ [(q, .inl (ca tag, N, .inl (fun _ => 0)))]) → va_S A s.heap H1 locs → W p l e R s m args below meth c H1 locs (kc + 1) (ks + N) Qw (F0 m (pc + 2) ls (.ref q :: st.map (ex_v ad))) := by
    intro q H1 hP1 hD1 hS1
    have hw : ex_w (ex_ext ad cs.length q) ca (cs ++ [.inl (tag, N, .inl (fun _ => 0))]) = ex_w ad ca cs ++ [(q, .inl (ca tag, N, .inl (fun _ => 0)))] := ex_w_ext c3 rfl
    have hlen2 : (cs ++ [Sum.inl (tag, N, .inl (fun _ => 0))] : ex_C).length = cs.length + 1 := by simp
    have hD2 : ex_D (ex_ext ad cs.length q) (cs.length + 1) A := ex_D_ext hlen2 hw.symm hD1
    have k2 := kk q (C'.ext c4 hD2 hA) ls H1 locs ⟨hlen2, ex_ls_ext c1 G.2.1, by rw [hw]; exact hP1, hS1⟩
    have hst : (Value.ref cs.length :: st).map (ex_v (ex_ext ad cs.length q)) = Value.ref q :: st.map (ex_v ad) := by
      rw [List.map_cons, ex_st_ext (by
        exact c2)]
      show Value.ref (ex_ext ad cs.length q cs.length) :: _ = _
      unfold ex_ext
      rw [if_pos rfl]
    rw [hst] at k2
    exact k2
  cases t with
  | int =>
    cases ht
    refine va_newa (D := D) (atype := .int) (ty := .int) (a0 := (N, .inl (fun _ => 0))) (rest := st.map (ex_v ad)) hx hb (hts _ hac.1) rfl hK G.2.2.1 (hD.va G.1) G.2.2.2 hA (fun cA => rfl) hx0 hN (by show N * 4 ≤ _; omega) hrc.1 hrc.2 hd (fun q cA H1 hK1 hP1 hD1 hS1 => ?_)
    have e1 := (hK.2 0 _ rfl).2
    have e2 := (hK1.2 2 (cA, .int) rfl).2
    have e3 : cA = ca 0 := Option.some.inj (e2.symm.trans e1)
    subst e3
    exact fin q H1 hP1 hD1 hS1
  | boolean =>
    cases ht
    refine va_newa (D := D) (atype := .boolean) (ty := .boolean) (a0 := (N, .inl (fun _ => 0))) (rest := st.map (ex_v ad)) hx hb (hts _ hac.2) rfl hK G.2.2.1 (hD.va G.1) G.2.2.2 hA (fun cA => rfl) hx0 hN (by show N * 1 ≤ _; omega) hrc.1 hrc.2 hd (fun q cA H1 hK1 hP1 hD1 hS1 => ?_)
    have e1 := (hK.2 1 _ rfl).2
    have e2 := (hK1.2 2 (cA, .boolean) rfl).2
    have e3 : cA = ca 1 := Option.some.inj (e2.symm.trans e1)
    subst e3
    exact fin q H1 hP1 hD1 hS1
  | _ => cases ht
theorem ex_s_putfinal (C : ex_Cx xt p R s m args meth c D ad ca n0 nL fr lo A cc ret own) (hin2 : meth.name = "<init>") {pc : Nat} {lv : ex_L} {cs : ex_C} {ix ci k a : Nat} {fs : List Value} {v : Value} {r : ex_V} {ty : FieldType} (hd : decode cc pc = .ok (.putfield ix, 3)) (ho : cs[a]? = some (.inr (ci, fs))) (hkl : k < fs.length) (hf : ex_fit ty v)
    (hl : ∃ Cn T N, ec_cl[ci]? = some (Cn, T, N) ∧ k < N ∧ Cond.fieldLink own ix (T k).1 (T k).2.1 (T k).2.2.1 ∈ ec_tb ∧ parseFieldDescriptor (T k).2.2.1 = some ty ∧ (T k).2.2.2 = true ∧ (T k).1 = own)
    (kk : ex_T p l e R s m args below meth c D ad ca n0 nL A kc ks Qw (pc + 3) lv r (cs.set a (.inr (ci, fs.set k v)))) : ex_T p l e R s m args below meth c D ad ca n0 nL A kc ks Qw pc lv (v :: .ref a :: r) cs := by
  obtain ⟨hx, hb, hml, hown, hts, hr, hlk, hD, hK, hX, hZ, hAe, hR1, hR2, hxt, hNw⟩ := C
  obtain ⟨Cn, T, N, h1, h2, h3, h4, h5, h6⟩ := hl
  obtain ⟨hin, ty0, hty, hnm⟩ := ec_clok h1
  intro ls H locs G
  refine va_putF (D := D) (ci := ci) (v := ex_v ad v) (ty := ty) (C := Cn) (T := T) (N := N) (rest := r.map (ex_v ad)) hx hb hts hin ty0 hty hnm hown hK G.2.2.1 (hD.va G.1) G.2.2.2 a (ex_w_get ho) h1 k h2 (hts _ h3) (fun _ h9 => h9) h5 hin2 h6 h4 hf.ok.1 hf.ok.2 (by rw [List.length_map]; exact hkl) hd (fun H1 locs1 hP1 hD1 hS1 => ?_)
  refine kk ls H1 locs1 ⟨by rw [List.length_set]; exact G.1, G.2.1, ?_, hS1⟩
  rw [← ex_w_set]
  show va_P D ec_cl ((ex_w ad ca cs).set a (ad a, .inr (ci, (fs.set k v).map (ex_v ad)))) H1
  rw [List.map_set]
  exact hP1
theorem ex_s_objInit (C : ex_Cx xt p R s m args meth c D ad ca n0 nL fr lo A cc ret own) {pc : Nat} {lv : ex_L} {cs : ex_C} {ix a : Nat} {r : ex_V} (hd : decode cc pc = .ok (.invokespecial ix, 3)) (h1 : Cond.methodLink own ix Lib.objectInit ∈ ec_tb) (h2 : Cond.instanceMethod Lib.objectInit ∈ ec_tb) (h3 : Cond.code Lib.objectInit ⟨#[0xb1]⟩ 1 none ∈ ec_tb) (hfr : 1 ≤ fr) (hlo : 8 + 12 ≤ lo) (hsum : (r.map (fun v => v.category)).sum ≤ 8)
    (kk : ex_T p l e R s m args below meth c D ad ca n0 nL A kc ks Qw (pc + 3) lv r cs) : ex_T p l e R s m args below meth c D ad ca n0 nL A kc ks Qw pc lv (.ref a :: r) cs := by
  obtain ⟨hx, hb, hml, hown, hts, hr, hlk, hD, hK, hX, hZ, hAe, hR1, hR2, hxt, hNw⟩ := C
  intro ls H locs G
  have hcat : ((r.map (ex_v ad)).map fun v => v.category).sum ≤ 8 := by
    rw [List.map_map]
    have : ((fun v : Value => v.category) ∘ ex_v ad) = (fun v => v.category) := by funext v; exact ex_v_cat ad v
    rw [this]
    exact hsum
  refine W.objInit (rest := r.map (ex_v ad)) hx hb hown (hts _ h1) (hts _ h2) (hts _ h3) rfl (by rw [hml]; exact G.2.1.1) rfl hd (Nat.le_trans hfr hR1) ?_ (kk ls H locs G)
  have h9 := lv_room (m := m) (pc := pc) (ls := ls) (rest := (Value.ref a :: r).map (ex_v ad)) hcat
  exact Nat.le_trans (Nat.add_le_add_right h9 12) (Nat.le_trans hlo hR2)
end EXN
end
section
/-! CONSTRUCTORS' CONTRACTS -/
abbrev ex_SN : Type := ex_V → ex_C → (ex_C → Prop) → Prop
theorem ex_v_agree {ad ad' : Nat → Nat} {n : Nat} {v : Value} (h : ex_cv n v = true) (ha : ∀ k, k < n ∨ 1000 ≤ k → ad' k = ad k) : ex_v ad' v = ex_v ad v := by
  cases v with
  | ref k =>
    have hk : k < n := by simpa [ex_cv] using h
    show Value.ref (ad' k) = Value.ref (ad k)
    rw [ha k (Or.inl hk)]
  | _ => rfl
def ex_QN (D : va_G) (ad ca : Nat → Nat) (Q : ex_C → Prop) (n : Nat) (A : Nat → Prop) : Array Value → State → Outcome → State → Prop := fun _ st oc t => (∃ (cs' : ex_C) (ad' : Nat → Nat), oc = .returned none ∧ Q cs' ∧ (∀ k, k < n ∨ 1000 ≤ k → ad' k = ad k) ∧ va_P D ec_cl (ex_w ad' ca cs') t.heap ∧ ex_D ad' cs'.length A) ∧ va_F A st t
def ex_MetN (l : Launch) (y : MethodName) (bytes : ByteArray) (maxL fr lo mc ms : Nat) (sp : ex_SN) : Prop :=
  ∀ (D : va_G) (ad ca : Nat → Nat) (sz : Nat) (av : ex_V) (cs : ex_C) (Q : ex_C → Prop), sp av cs Q →
    Met l y (.code y bytes maxL none :: ec_tb) { frames := fr, cells := mc, slots := ms, locals := lo } (ex_Pc D ad ca av cs cs.length sz) (ex_QN D ad ca Q cs.length (ex_A ad cs.length sz)) mc ms (ex_A ad cs.length sz)
/-- a constructor's own callee: none is Object's -/
abbrev ex_J : Type := (Nat → Option (Nat × List Value × Nat)) × (Nat → Option (Option (Nat × Nat × Nat × ex_SN)))
def ex_wn (cx : ex_K) (al : ex_J) (cc : ByteArray) (mc ms : Nat) (Q : ex_C → Nat → Nat → Prop) : Nat → Nat → ex_L → ex_V → ex_C → Nat → Nat → Prop
  | 0, _, _, _, _, _, _ => False
  | n + 1, pc, lv, st, cs, kc, ks => match decode cc pc with
    | .ok (.new ix, len) => len = 3 ∧ ex_o (al.1 ix) (fun q => ex_clo cs.length lv st cs = true ∧ kc + 1 ≤ mc ∧ ks + q.2.2 ≤ ms ∧ ex_wn cx al cc mc ms Q n (pc + 3) lv (.ref cs.length :: st) (cs ++ [.inr (q.1, q.2.1)]) (kc + 1) (ks + q.2.2))
    | .ok (.newarray t, len) => len = 2 ∧ ex_o (ex_at t) (fun tag => ex_i1 st (fun x r => ¬ x < 0 ∧ x.toNatClampNeg ≤ 1000 ∧ ex_clo cs.length lv r cs = true ∧ kc + 1 ≤ mc ∧ ks + x.toNatClampNeg ≤ ms ∧ ex_wn cx al cc mc ms Q n (pc + 2) lv (.ref cs.length :: r) (cs ++ [.inl (tag, x.toNatClampNeg, .inl (fun _ => 0))]) (kc + 1) (ks + x.toNatClampNeg)))
    | .ok (.invokespecial ix, len) => len = 3 ∧ ex_o (al.2 ix) (fun o => match o with
      | none => ex_r1 st (fun _ r => (r.map (fun v => v.category)).sum ≤ 8 ∧ ex_wn cx al cc mc ms Q n (pc + 3) lv r cs kc ks)
      | some q => q.1 ≤ st.length ∧ ((st.drop q.1).map (fun v => v.category)).sum ≤ 8 ∧ ex_clo cs.length lv st cs = true ∧ kc + q.2.1 ≤ mc ∧ ks + q.2.2.1 ≤ ms ∧ ex_o (st[q.1 - 1]?) (fun v => match v with
        | .ref _ => q.2.2.2 (st.take q.1).reverse cs (fun cs' => cs.length ≤ cs'.length ∧ ex_wn cx al cc mc ms Q n (pc + 3) lv (st.drop q.1) cs' (kc + q.2.1) (ks + q.2.2.1))
        | _ => False))
    | .ok (.putfield ix, len) => len = 3 ∧ ex_vr st (fun v a r => ex_o (cx.2.1 ix) (fun q => ex_ob cs a q.1 (fun fs => q.2.1 < fs.length ∧ ex_fit q.2.2.2 v ∧ ex_wn cx al cc mc ms Q n (pc + 3) lv r (cs.set a (.inr (q.1, fs.set q.2.1 v))) kc ks)))
    | .ok (.return_, len) => len = 1 ∧ st = [] ∧ Q cs kc ks
    | .ok (i, len) => ex_i ec_xt cx none (fun _ _ => False) i len pc lv st cs (fun pc' lv' st' cs' => ex_wn cx al cc mc ms Q n pc' lv' st' cs' kc ks)
    | .error _ => False
/-- what the tables say of a constructor's links; mc, ms: the most that it makes -/
def ex_nok (l : Launch) (fr lo mc ms : Nat) (cx : ex_K) (al : ex_J) : Prop :=
  (∀ (ix ci : Nat) (fs : List Value) (N : Nat), al.1 ix = some (ci, fs, N) → ∃ Cn T, ∃ ty : Nat → FieldType, ec_cl[ci]? = some (Cn, T, N) ∧ Cond.classLink cx.1 ix Cn ∈ ec_tb ∧ Cond.instantiable Cn N ∈ ec_tb ∧ Cond.initialized Cn ∈ ec_tb ∧ (∀ k, k < N → parseFieldDescriptor (T k).2.2.1 = some (ty k)) ∧ (∀ j, j < N → defaultValue (ty j) = vp_V fs j) ∧ fs.all (ex_cv 0) = true) ∧
  (∀ ix, al.2 ix = some none → Cond.methodLink cx.1 ix Lib.objectInit ∈ ec_tb ∧ Cond.instanceMethod Lib.objectInit ∈ ec_tb ∧ Cond.code Lib.objectInit ⟨#[0xb1]⟩ 1 none ∈ ec_tb ∧ 1 ≤ fr ∧ 8 + 12 ≤ lo) ∧
  (∀ ix n mc' ms' sp, al.2 ix = some (some (n, mc', ms', sp)) → ∃ (y : MethodName) (bytes : ByteArray) (maxL fr' lo' : Nat), fr' + 1 ≤ fr ∧ 8 + (maxL + 11) + lo' ≤ lo ∧ ex_MetN l y bytes maxL fr' lo' mc' ms' sp ∧ Cond.code y bytes maxL none ∈ ec_tb ∧ Cond.initialized y.cls ∈ ec_tb ∧ (y.cls ≠ "java/lang/invoke/MethodHandle" ∧ y.cls ≠ "java/lang/invoke/VarHandle") ∧
    (Cond.methodLink cx.1 ix y ∈ ec_tb ∨ ∃ host, (cx.1, ix, y, host) ∈ ec_ns) ∧ y.name = "<init>" ∧ Cond.instanceMethod y ∈ ec_tb ∧ 1 ≤ n ∧ (parseMethodDescriptor y.desc).map (fun d => d.parameters.length) = some (n - 1)) ∧
  (∀ (ix ci k : Nat) (b : Bool) (ty : FieldType), cx.2.1 ix = some (ci, k, b, ty) → ∃ C T N, ec_cl[ci]? = some (C, T, N) ∧ k < N ∧ Cond.fieldLink cx.1 ix (T k).1 (T k).2.1 (T k).2.2.1 ∈ ec_tb ∧ parseFieldDescriptor (T k).2.2.1 = some ty ∧ ((T k).2.2.2 = false ∨ (T k).2.2.2 = true ∧ (T k).1 = cx.1)) ∧
  (Cond.arrayClass .int ∈ ec_tb ∧ Cond.arrayClass .boolean ∈ ec_tb)
section EXO
variable {p : Program} {l : Launch} {e : Env} {R : Room} {s : State} {m : MethodId} {args : Array Value} {below : List Frame} {meth : Method} {c : Code}
variable {D : va_G} {ca : Nat → Nat} {nL fr lo : Nat} {A : Nat → Prop} {cc : ByteArray} {Qw : State → Prop} {ret : Option FieldType} {own : String}
theorem ex_s_special {ad : Nat → Nat} {n0 kc ks : Nat} (C : ex_Cx ec_xt p R s m args meth c D ad ca n0 nL fr lo A cc ret own) {pc : Nat} {lv : ex_L} {cs : ex_C} {ix n a mc ms : Nat} {sp : ex_SN} {as r : ex_V} {Qk : ex_C → Prop} (hd : decode cc pc = .ok (.invokespecial ix, 3)) (hlen : cs.length = n0) (hclo : ex_clo n0 lv r cs = true) (hrc : kc + mc ≤ R.cells ∧ ks + ms ≤ R.slots)
    (hcok : ∃ (y : MethodName) (bytes : ByteArray) (maxL fr' lo' : Nat), fr' + 1 ≤ fr ∧ 8 + (maxL + 11) + lo' ≤ lo ∧ ex_MetN l y bytes maxL fr' lo' mc ms sp ∧ Cond.code y bytes maxL none ∈ ec_tb ∧ Cond.initialized y.cls ∈ ec_tb ∧ (y.cls ≠ "java/lang/invoke/MethodHandle" ∧ y.cls ≠ "java/lang/invoke/VarHandle") ∧
      (Cond.methodLink own ix y ∈ ec_tb ∨ ∃ host, (own, ix, y, host) ∈ ec_ns) ∧ y.name = "<init>" ∧ Cond.instanceMethod y ∈ ec_tb ∧ 1 ≤ n ∧ (parseMethodDescriptor y.desc).map (fun d => d.parameters.length) = some (n - 1)) (hn : as.length + 1 = n) (hsum : (r.map (fun v => v.category)).sum ≤ 8)
    (hsp : sp (.ref a :: as) cs Qk) (kk : ∀ (cs' : ex_C) (ad' : Nat → Nat), Qk cs' → (∀ k, k < n0 ∨ 1000 ≤ k → ad' k = ad k) → ex_Cx ec_xt p R s m args meth c D ad' ca cs'.length nL fr lo A cc ret own → ex_T p l e R s m args below meth c D ad' ca cs'.length nL A (kc + mc) (ks + ms) Qw (pc + 3) lv r cs') : ex_T p l e R s m args below meth c D ad ca n0 nL A kc ks Qw pc lv (as.reverse ++ .ref a :: r) cs := by
  intro ls H locs G
  have hst := ex_start (av := .ref a :: as) C G.1 G.2.2.1 G.2.2.2
  have C' := C
  obtain ⟨hx, hb, hml, hown, hts, hr, hlk, hD, hK, hX, hZ, hAe, hR1, hR2, hxt, hNw⟩ := C
  obtain ⟨y, bytes, maxL, fr', lo', hd', hmx, hM, hcode, hini, hy, hlink, hyn, hinst, -, hpar⟩ := hcok
  subst hlen
  have hM := hM D ad ca H.size (.ref a :: as) cs Qk hsp
  have hroom : fr' + 1 ≤ R.frames ∧ 8 + (maxL + 11) + lo' ≤ R.locals := ⟨Nat.le_trans hd' hR1, Nat.le_trans hmx hR2⟩
  have hp : PreS s H (ex_Pc D ad ca (.ref a :: as) cs cs.length H.size) (.ref (ad a) :: as.map (ex_v ad)) := ⟨ex_blind, hst⟩
  have hstack : (as.reverse ++ Value.ref a :: r).map (ex_v ad) = (as.map (ex_v ad)).reverse ++ Value.ref (ad a) :: r.map (ex_v ad) := by simp [ex_v]
  have hlen2 : (as.map (ex_v ad)).length = n - 1 := by rw [List.length_map]; omega
  have hcat : ((r.map (ex_v ad)).map fun v => v.category).sum ≤ 8 := by
    rw [List.map_map]
    have : ((fun v : Value => v.category) ∘ ex_v ad) = (fun v => v.category) := by funext v; exact ex_v_cat ad v
    rw [this]
    exact hsum
  simp only [ex_clo, Bool.and_eq_true, decide_eq_true_eq] at hclo
  obtain ⟨⟨⟨c1, c2⟩, c3⟩, c4⟩ := hclo
  rw [hstack]
  have hsub : ∀ q, ex_A ad cs.length H.size q → A q := by
    intro q h
    rcases h with h | h
    · exact hAe q (Or.inl h)
    · exact hAe q (Or.inr (Nat.le_trans G.2.2.2.1 h))
  have fin : va_Run p l e R s m args below meth c H locs kc ks mc ms (F0 m pc ls ((as.map (ex_v ad)).reverse ++ Value.ref (ad a) :: r.map (ex_v ad))) (r.map (ex_v ad)) (ex_QN D ad ca Qk cs.length (ex_A ad cs.length H.size) (Value.ref (ad a) :: as.map (ex_v ad)).toArray) (ex_A ad cs.length H.size) → W p l e R s m args below meth c H locs kc ks Qw (F0 m pc ls ((as.map (ex_v ad)).reverse ++ Value.ref (ad a) :: r.map (ex_v ad))) := by
    intro hr T hT X
    obtain ⟨v, st₀, t, T', L, h0, X', hL, e1, e2, ⟨⟨cs', ad', hv, hq, hag, hP', hD'⟩, hz, hk⟩, st⟩ := hr T hT X
    cases hv
    rw [h0] at hz hk
    have C2 : ex_Cx ec_xt p R s m args meth c D ad' ca cs'.length nL fr lo A cc ret own := by
      refine ⟨hx, hb, hml, hown, hts, by assumption, hlk, ⟨hD'.1, fun k hk => hsub _ (hD'.2 k hk)⟩, hK, fun j n f hj => ?_, fun Cn n dd j hj => ?_, fun x h => ?_, hR1, hR2, hxt, hNw⟩
      · rw [hag _ (Or.inr (Nat.le_add_right 1000 j))]; exact hX j n f hj
      · rw [hag _ (Or.inr (Nat.le_add_right 1000 j))]; exact hZ Cn n dd j hj
      · rcases h with ⟨k, hk, rfl⟩ | h
        · exact hsub _ (hD'.2 k hk)
        · exact hAe x (Or.inr h)
    have hl2 : ex_ls ad' lv nL ls := by
      refine ⟨G.2.1.1, G.2.1.2.1, G.2.1.2.2.1, fun i v hi => ?_⟩
      have h2 : ex_cv cs.length v = true := List.all_eq_true.mp c1 (some v) (List.mem_of_getElem? hi)
      rw [ex_v_agree h2 hag]
      exact G.2.1.2.2.2 i v hi
    have hst2 : r.map (ex_v ad') = r.map (ex_v ad) := List.map_congr_left (fun v hv => ex_v_agree (List.all_eq_true.mp c2 v hv) hag)
    have k2 := kk cs' ad' hq hag C2 ls T'.heap (locs ++ L) ⟨rfl, hl2, by rw [e1]; exact hP', Nat.le_trans G.2.2.2.1 (by rw [e1]; exact hz), fun q h1 h2 => by rw [e1, hk q (Nat.lt_of_lt_of_le h1 G.2.2.2.1) (fun z => h2 (hsub q z))]; exact G.2.2.2.2.1 q h1 h2, fun q hq => by
      rcases List.mem_append.mp hq with h | h
      · exact G.2.2.2.2.2 q h
      · exact hsub _ (hL q h)⟩
    rw [hst2] at k2
    obtain ⟨t2, a1, b1⟩ := k2 T' rfl X'
    exact ⟨t2, st t2 a1, b1⟩
  rcases hlink with hlink | ⟨host, hlink⟩
  · exact fin (va_runI (n := n - 1) ⟨hx, hb, hml, hown, hts⟩ hM ⟨callB_of (n - 1) hts (ex_good hcode) rfl rfl rfl (hts _ hini) (hts _ hlink) ⟨hy.1, hy.2, hpar⟩ hroom, hyn, hts _ hinst⟩ hp rfl hlen2 G.2.1.1 rfl (lv_room hcat) hd hrc)
  · exact fin (va_runIN (n := n - 1) ⟨hx, hb, hml, hown, hts⟩ hM ⟨va_cnB (n - 1) hts (ex_good hcode) rfl rfl rfl (hNw _ hlink) (hts _ hini) ⟨hy.1, hy.2, hpar⟩ hroom, hyn, hts _ hinst⟩ hp rfl hlen2 G.2.1.1 rfl (lv_room hcat) hd hrc)
end EXO
section EXP
variable {p : Program} {l : Launch} {e : Env} {R : Room} {s : State} {m : MethodId} {args : Array Value} {below : List Frame} {meth : Method} {c : Code}
variable {D : va_G} {ca : Nat → Nat} {nL fr lo mc ms : Nat} {A : Nat → Prop} {cc : ByteArray} {Qw : State → Prop}
theorem ex_T_len {ad : Nat → Nat} {n0 kc ks pc : Nat} {lv : ex_L} {st : ex_V} {cs : ex_C} (h : cs.length = n0 → ex_T p l e R s m args below meth c D ad ca n0 nL A kc ks Qw pc lv st cs) : ex_T p l e R s m args below meth c D ad ca n0 nL A kc ks Qw pc lv st cs := fun ls H locs G => h G.1 ls H locs G
theorem ex_drop_all {n k : Nat} {st : ex_V} (h : st.all (ex_cv n) = true) : (st.drop k).all (ex_cv n) = true := List.all_eq_true.mpr (fun v hv => List.all_eq_true.mp h v (List.mem_of_mem_drop hv))
set_option maxHeartbeats 4000000 in
theorem ex_wn_sound {cx : ex_K} {al : ex_J} {Q : ex_C → Nat → Nat → Prop} {ad0 : Nat → Nat} {n00 : Nat} (hin2 : meth.name = "<init>") (hok : ex_ok l fr lo cx) (hnok : ex_nok l fr lo mc ms cx al) (hA : ∀ x, s.heap.size ≤ x → A x) (hR : mc ≤ R.cells ∧ ms ≤ R.slots)
    (hV : ∀ ad n0 pc lv cs kc ks, decode cc pc = .ok (.return_, 1) → Q cs kc ks → kc ≤ mc ∧ ks ≤ ms → (∀ k, k < n00 ∨ 1000 ≤ k → ad k = ad0 k) → ex_Cx ec_xt p R s m args meth c D ad ca n0 nL fr lo A cc none cx.1 → ex_T p l e R s m args below meth c D ad ca n0 nL A kc ks Qw pc lv [] cs) :
    ∀ n pc lv st cs kc ks, ex_wn cx al cc mc ms Q n pc lv st cs kc ks → kc ≤ mc ∧ ks ≤ ms → ∀ ad n0, n00 ≤ n0 → (∀ k, k < n00 ∨ 1000 ≤ k → ad k = ad0 k) → ex_Cx ec_xt p R s m args meth c D ad ca n0 nL fr lo A cc none cx.1 → ex_T p l e R s m args below meth c D ad ca n0 nL A kc ks Qw pc lv st cs := by
  intro n
  induction n with
  | zero => intro pc lv st cs kc ks h; exact False.elim h
  | succ n ih =>
    intro pc lv st cs kc ks h hk ad n0 hn0 hag C
    refine ex_T_len (fun hlen => ?_)
    unfold ex_wn at h
    split at h
    · rename_i ix len hd
      obtain ⟨rfl, h⟩ := h
      obtain ⟨⟨ci, fs, N⟩, hq, hcl, hk1, hk2, h⟩ := ex_o.at h
      obtain ⟨Cn, T, ty, g1, g2, g3, g4, g5, g6, g7⟩ := hnok.1 _ _ _ _ hq
      have c4 : n0 < 1000 := by
        simp only [ex_clo, Bool.and_eq_true, decide_eq_true_eq] at hcl
        rw [← hlen]; exact hcl.2
      refine ex_s_new C hd hA (by rw [← hlen]; exact hcl) hlen g1 g2 g3 g4 g5 g6 g7 ⟨Nat.le_trans hk1 hR.1, Nat.le_trans hk2 hR.2⟩ (fun q C2 => ?_)
      rw [hlen] at h
      refine ih _ _ _ _ _ _ h ⟨hk1, hk2⟩ _ _ (Nat.le_succ_of_le hn0) (fun k hk => ?_) C2
      unfold ex_ext
      rw [if_neg (by omega)]
      exact hag k hk
    · rename_i t len hd
      obtain ⟨rfl, h⟩ := h
      obtain ⟨tag, ht, h⟩ := ex_o.at h
      obtain ⟨x, r, rfl, hx0, hx1, hcl, hk1, hk2, h3⟩ := ex_i1.at h
      have c4 : n0 < 1000 := by
        simp only [ex_clo, Bool.and_eq_true, decide_eq_true_eq] at hcl
        rw [← hlen]; exact hcl.2
      refine ex_s_newarray C hd hA (by rw [← hlen]; exact hcl) hlen ht hx0 rfl hx1 hnok.2.2.2.2 ⟨Nat.le_trans hk1 hR.1, Nat.le_trans hk2 hR.2⟩ (fun q C2 => ?_)
      rw [hlen] at h3
      refine ih _ _ _ _ _ _ h3 ⟨hk1, hk2⟩ _ _ (Nat.le_succ_of_le hn0) (fun k hk => ?_) C2
      unfold ex_ext
      rw [if_neg (by omega)]
      exact hag k hk
    · rename_i ix len hd
      obtain ⟨rfl, h⟩ := h
      obtain ⟨o, hq, h⟩ := ex_o.at h
      cases o with
      | none =>
        obtain ⟨a, r, rfl, hsum, h3⟩ := ex_r1.at h
        obtain ⟨g1, g2, g3, g4, g5⟩ := hnok.2.1 _ hq
        exact ex_s_objInit C hd g1 g2 g3 g4 g5 hsum (ih _ _ _ _ _ _ h3 hk _ _ hn0 hag C)
      | some q =>
        obtain ⟨nn, mc', ms', sp⟩ := q
        obtain ⟨hn, hsum, hcl, hk1, hk2, h⟩ := h
        obtain ⟨v, hv, h⟩ := ex_o.at h
        split at h
        · rename_i a
          have hcok := hnok.2.2.1 _ _ _ _ _ hq
          have hn1 : 1 ≤ nn := by
            obtain ⟨y, bytes, maxL, fr', lo', -, -, -, -, -, -, -, -, -, h1, -⟩ := hcok
            exact h1
          obtain ⟨e1, e2⟩ := ex_split hn hn1 hv
          dsimp only at h hk1 hk2 hsum
          rw [e2] at h
          have hcl2 : ex_clo n0 lv (st.drop nn) cs = true := by
            simp only [ex_clo, Bool.and_eq_true, decide_eq_true_eq] at hcl ⊢
            rw [← hlen]
            exact ⟨⟨⟨hcl.1.1.1, ex_drop_all hcl.1.1.2⟩, hcl.1.2⟩, hcl.2⟩
          have goal := ex_s_special (e := e) (below := below) (Qw := Qw) (l := l) C hd hlen hcl2 ⟨Nat.le_trans hk1 hR.1, Nat.le_trans hk2 hR.2⟩ hcok (by rw [List.length_reverse, List.length_take]; omega) hsum h (fun cs' ad' hq' hag' C2 => by
            refine ih _ _ _ _ _ _ hq'.2 ⟨hk1, hk2⟩ _ _ ?_ (fun k hk => ?_) C2
            · exact Nat.le_trans hn0 (by rw [← hlen]; exact hq'.1)
            · rw [hag' k (hk.imp (fun h => Nat.lt_of_lt_of_le h hn0) id)]
              exact hag k hk)
          rw [← e1] at goal
          exact goal
        · exact h.elim
    · rename_i ix len hd
      obtain ⟨rfl, h⟩ := h
      obtain ⟨v, a, r, rfl, h3⟩ := ex_vr.at h
      obtain ⟨⟨ci, k, b, ty⟩, hq, h3⟩ := ex_o.at h3
      obtain ⟨fs, ho, hl, hf, h3⟩ := ex_ob.at h3
      obtain ⟨Cn, T, N, g1, g2, g3, g4, g5⟩ := hnok.2.2.2.1 _ _ _ _ _ hq
      have k2 := ih _ _ _ _ _ _ h3 hk ad n0 hn0 hag C
      rcases g5 with g5 | ⟨g5, g6⟩
      · exact ex_s_putfield C hd ho hl hf ⟨Cn, T, N, g1, g2, g3, g4, g5⟩ k2
      · exact ex_s_putfinal C hin2 hd ho hl hf ⟨Cn, T, N, g1, g2, g3, g4, g5, g6⟩ k2
    · rename_i len hd
      obtain ⟨rfl, rfl, h⟩ := h
      exact hV ad n0 pc lv cs kc ks hd h hk hag C
    · rename_i i len hne1 hne2 hne3 hne4 hne5 hd
      exact ex_i_sound C hok ⟨Nat.le_trans hk.1 hR.1, Nat.le_trans hk.2 hR.2⟩ (fun _ _ _ _ _ _ h => False.elim h) (fun _ _ _ _ _ h => False.elim h) hd h (fun pc' lv' st' cs' h' => ih _ _ _ _ _ _ h' hk _ _ hn0 hag C)
    · exact False.elim h
end EXP
/-- a constructor's contract out of its walk -/
theorem ex_metN {l : Launch} {y : MethodName} {cc : ByteArray} {maxL fr lo mc ms fuel : Nat} {cx : ex_K} {al : ex_J} {sp : ex_SN} (hy : plainName y.cls = true) (hyn : y.name = "<init>") (hown : cx.1 = y.cls) (hok : ex_ok l fr lo cx) (hnok : ex_nok l fr lo mc ms cx al)
    (h : ∀ av cs Q, sp av cs Q → (∀ w ∈ av, w.category = 1) ∧ av.length ≤ maxL ∧ ex_wn cx al cc mc ms (fun cs' _ _ => Q cs') fuel 0 (ex_l0 av maxL) [] cs 0 0) : ex_MetN l y cc maxL fr lo mc ms sp := by
  intro D ad ca sz av cs Q hsp
  obtain ⟨hcat, hlen, hT⟩ := h av cs Q hsp
  refine Met.ofW (cc := cc) (maxL := maxL) (ret := none) hy rfl ?_
  intro p e s m args below meth c s₁ B hml hv
  obtain ⟨rfl, hsz, hn, hP, hD, hK, hX, hZ, hNw0⟩ := hv
  subst hsz
  have hts0 := atoms_spec (ws := .code y cc maxL none :: ec_tb) B.pre
  have hin2 : meth.name = "<init>" := ((name_of_methodNamed B.named B.method).1).trans hyn
  have hcx : ex_Cx ec_xt p (headSpec (.code y cc maxL none :: ec_tb) { frames := fr, cells := mc, slots := ms, locals := lo }).room s m ((av.map (ex_v ad)).toArray) meth c D ad ca cs.length maxL fr lo (ex_A ad cs.length s.heap.size) cc none cx.1 :=
    ⟨B.exec, B.bytes, hml, by rw [hown]; exact findClass_of_methodNamed B.named, fun w hw => hts0 w (List.mem_cons_of_mem _ hw), B.returns, B.notSynchronized, hD, hK, hX, hZ, fun _ h => h, Nat.le_refl _, Nat.le_refl _, fun _ _ h => h, hNw0⟩
  have hcat' : ∀ w ∈ av.map (ex_v ad), w.category = 1 := by
    intro w hw
    obtain ⟨v, hv, rfl⟩ := List.mem_map.mp hw
    rw [ex_v_cat]
    exact hcat v hv
  have hsl := ex_sl_len _ hcat'
  rw [List.length_map] at hsl
  have hl := lv_entry (av.map (ex_v ad)) (n := maxL) (by rw [hsl]; exact hlen)
  rw [lg_entry_eq]
  have hT2 := ex_wn_sound (e := e) (below := below) (Qw := MQ below (ex_QN D ad ca Q cs.length (ex_A ad cs.length s.heap.size)) ((av.map (ex_v ad)).toArray) s mc ms (ex_A ad cs.length s.heap.size)) (ad0 := ad) (n00 := cs.length) hin2 hok hnok (fun x h => Or.inr h) ⟨Nat.le_refl _, Nat.le_refl _⟩ (fun ad' n0 pc lv cs' kc ks hd hq hk hag C2 => by
    intro ls H locs G
    obtain ⟨hx, hb, hml, hown, hts, hr, hlk, hD2, hK2, hX2, hZ2, hAe, hR1, hR2, hxt, hNw⟩ := C2
    refine W.widen (k := mc) (n := ms) hk.1 hk.2 ?_
    exact W.vret hx hb hr (fun t ht hW => ⟨⟨cs', ad', rfl, hq, hag, by rw [ht]; exact G.2.2.1, by rw [G.1]; exact hD2⟩, G.2.2.2.F ht⟩) G.2.2.2.2.2 hd hlk) fuel 0 (ex_l0 av maxL) [] cs 0 0 hT ⟨Nat.zero_le _, Nat.zero_le _⟩ ad cs.length (Nat.le_refl _) (fun _ _ => rfl) hcx
  refine hT2 _ s.heap [] ⟨rfl, ⟨hl.1, hl.2.1, ?_, ?_⟩, hP, va_S.rf⟩
  · unfold ex_l0
    rw [List.length_append, List.length_map, List.length_replicate]
    omega
  · intro i v hi
    unfold ex_l0 at hi
    by_cases hia : i < av.length
    · rw [List.getElem?_append_left (by rw [List.length_map]; exact hia), List.getElem?_map] at hi
      cases hav : av[i]? with
      | none => rw [hav] at hi; cases hi
      | some w =>
        rw [hav] at hi
        have hw : w = v := Option.some.inj (Option.some.inj hi)
        subst hw
        have := ex_args_mem (av.map (ex_v ad)) 0 i (ex_v ad w) hcat' (by rw [List.getElem?_map, hav]; rfl)
        rw [Nat.zero_add] at this
        exact hl.2.2 (i, ex_v ad w) this
    · rw [List.getElem?_append_right (by rw [List.length_map]; omega), List.getElem?_replicate] at hi
      split at hi <;> cases hi
end
section
/-! LINKS: what a class's instructions name, by the places of its constant pool -/
def ec_fchk (own : String) (q : Nat × Nat × Nat × Bool × FieldType) : Bool := match ec_cl[q.2.1]? with
  | some (_, T, N) => decide (q.2.2.1 < N) && (decide (Cond.fieldLink own q.1 (T q.2.2.1).1 (T q.2.2.1).2.1 (T q.2.2.1).2.2.1 ∈ lw_tbl) && goodWord (Cond.fieldLink own q.1 (T q.2.2.1).1 (T q.2.2.1).2.1 (T q.2.2.1).2.2.1)) && decide (parseFieldDescriptor (T q.2.2.1).2.2.1 = some q.2.2.2.2) && (!q.2.2.2.1 || !(T q.2.2.1).2.2.2)
  | none => false
def ec_fx (t : List (Nat × Nat × Nat × Bool × FieldType)) (ix : Nat) : Option (Nat × Nat × Bool × FieldType) := (t.find? (fun q => q.1 == ix)).map (fun q => q.2)
theorem ec_fok {own : String} {t : List (Nat × Nat × Nat × Bool × FieldType)} (h : t.all (ec_fchk own) = true) : ∀ (ix ci k : Nat) (b : Bool) (ty : FieldType), ec_fx t ix = some (ci, k, b, ty) → ∃ C T N, ec_cl[ci]? = some (C, T, N) ∧ k < N ∧ (Cond.fieldLink own ix (T k).1 (T k).2.1 (T k).2.2.1 ∈ ec_tb) ∧ parseFieldDescriptor (T k).2.2.1 = some ty ∧ (b = true → (T k).2.2.2 = false) := by
  intro ix ci k b ty hx
  unfold ec_fx at hx
  cases hf : t.find? (fun q => q.1 == ix) with
  | none => rw [hf] at hx; cases hx
  | some q =>
    rw [hf] at hx
    have hq := List.all_eq_true.mp h q (List.mem_of_find?_eq_some hf)
    have hix : q.1 = ix := by simpa using List.find?_some hf
    obtain ⟨i, ci', k', b', ty'⟩ := q
    cases hx
    cases hix
    unfold ec_fchk at hq
    dsimp only at hq
    cases hc : ec_cl[ci]? with
    | none => rw [hc] at hq; cases hq
    | some x =>
      rw [hc] at hq
      obtain ⟨C, T, N⟩ := x
      simp only [Bool.and_eq_true, decide_eq_true_eq, Bool.or_eq_true, Bool.not_eq_true'] at hq
      obtain ⟨⟨⟨h1, h2⟩, h3⟩, h4⟩ := hq
      refine ⟨C, T, N, rfl, h1, List.mem_filter.mpr h2, h3, fun hb => ?_⟩
      rcases h4 with h4 | h4
      · rw [h4] at hb; cases hb
      · exact h4
def ec_cx (t : List (Nat × Int32)) (ix : Nat) : Option Int32 := (t.find? (fun q => q.1 == ix)).map (fun q => q.2)
theorem ec_cok {own : String} {t : List (Nat × Int32)} (h : t.all (fun q => decide (Cond.constant own q.1 q.2 ∈ lw_tbl) && goodWord (Cond.constant own q.1 q.2)) = true) : ∀ (ix : Nat) (v : Int32), ec_cx t ix = some v → Cond.constant own ix v ∈ ec_tb := by
  intro ix v hx
  unfold ec_cx at hx
  cases hf : t.find? (fun q => q.1 == ix) with
  | none => rw [hf] at hx; cases hx
  | some q =>
    rw [hf] at hx
    have hq := List.all_eq_true.mp h q (List.mem_of_find?_eq_some hf)
    have hix : q.1 = ix := by simpa using List.find?_some hf
    obtain ⟨i, v'⟩ := q
    cases hx
    cases hix
    simp only [Bool.and_eq_true, decide_eq_true_eq] at hq
    exact List.mem_filter.mpr hq
def ec_no {α : Type} : Nat → Option α := fun _ => none
def ec_nz : Nat → Nat := fun _ => 0
def ex_sp (cx : ex_K) (cc : ByteArray) (maxL : Nat) (ret : Option FieldType) (fuel : Nat) : ex_S := fun av cs Q => av.all (fun w => w.category == 1) = true ∧ av.length ≤ maxL ∧ ex_wp ec_xt cx cc ret (fun _ => none) Q fuel 0 (ex_l0 av maxL) [] cs
/-- the contract of a method that is walked where it is called -/
theorem ex_inl {l : Launch} {y : MethodName} {cc : ByteArray} {maxL : Nat} {ret : Option FieldType} {fr lo fuel : Nat} {cx : ex_K} (hy : plainName y.cls = true) (hown : cx.1 = y.cls) (hok : ex_ok l fr lo cx) : ex_Met l y cc maxL ret fr lo (ex_sp cx cc maxL ret fuel) := by
  refine ex_met hy (fun av cs Q h => ⟨fun w hw => by simpa using List.all_eq_true.mp h.1 w hw, h.2.1, fun p e R s m args below meth c D ad ca n0 A C => ?_⟩)
  rw [← hown] at C
  exact ex_wp_sound C hok ⟨Nat.zero_le _, Nat.zero_le _⟩ (fun _ _ _ _ hd hr hq => ex_s_ireturn C hd hr hq) (fun _ _ _ hd hr hq => ex_s_return C hd hr hq) (fun _ _ _ _ _ h => by cases h) _ _ _ _ _ h.2.2
/-- what the tables say of a callee -/
def ec_cw (y : MethodName) (bytes : ByteArray) (maxL : Nat) (ret : Option FieldType) : Prop := Cond.code y bytes maxL ret ∈ ec_tb ∧ Cond.initialized y.cls ∈ ec_tb ∧ (y.cls ≠ "java/lang/invoke/MethodHandle" ∧ y.cls ≠ "java/lang/invoke/VarHandle")
theorem ec_cV {l : Launch} {own : String} {fr lo ix n ci fr' lo' maxL N : Nat} {sp : ex_S} {y : MethodName} {bytes : ByteArray} {ret : Option FieldType} {T : u_T} (hM : ex_Met l y bytes maxL ret fr' lo' sp) (hw : ec_cw y bytes maxL ret) (hv : Cond.instanceMethod y ∈ ec_tb ∧ Cond.selects y.cls y y ∈ ec_tb) (h1 : fr' + 1 ≤ fr) (h2 : 8 + (maxL + 11) + lo' ≤ lo) (hl : Cond.methodLink own ix y ∈ ec_tb ∨ ∃ host, (own, ix, y, host) ∈ ec_ns) (hc : ec_cl[ci]? = some (y.cls, T, N)) (hn : 1 ≤ n) (hp : (parseMethodDescriptor y.desc).map (fun d => d.parameters.length) = some (n - 1)) : ex_cok l own fr lo ix n (some ci) sp :=
  ⟨y, bytes, maxL, ret, fr', lo', h1, h2, hM, hw.1, hw.2.1, hw.2.2, hl, ⟨T, N, hc⟩, hv.1, hv.2, hn, hp⟩
theorem ec_cS {l : Launch} {own : String} {fr lo ix n fr' lo' maxL : Nat} {sp : ex_S} {y : MethodName} {bytes : ByteArray} {ret : Option FieldType} (hM : ex_Met l y bytes maxL ret fr' lo' sp) (hw : ec_cw y bytes maxL ret) (hv : Cond.static y ∈ ec_tb) (h1 : fr' + 1 ≤ fr) (h2 : 8 + (maxL + 11) + lo' ≤ lo) (hl : Cond.methodLink own ix y ∈ ec_tb ∨ ∃ host, (own, ix, y, host) ∈ ec_ns) (hp : (parseMethodDescriptor y.desc).map (fun d => d.parameters.length) = some n) : ex_cok l own fr lo ix n none sp :=
  ⟨y, bytes, maxL, ret, fr', lo', h1, h2, hM, hw.1, hw.2.1, hw.2.2, hl, hv, hp⟩
def fl_X0 : List (Nat × Nat × Nat × Bool × FieldType) := [(9, 0, 0, false, (.array .int)), (15, 0, 1, false, (.array .int)), (18, 0, 2, false, (.array .int)), (21, 0, 3, false, (.array .int)), (24, 0, 4, false, (.array .boolean)), (28, 0, 5, false, (.array .int)), (39, 0, 6, true, .int), (43, 0, 7, true, .int)]
theorem fo_X0 : fl_X0.all (ec_fchk RX0) = true := by decide +kernel
theorem fe_X0_9 : ec_fx fl_X0 9 = some (0, 0, false, (.array .int)) := rfl
theorem fe_X0_15 : ec_fx fl_X0 15 = some (0, 1, false, (.array .int)) := rfl
theorem fe_X0_18 : ec_fx fl_X0 18 = some (0, 2, false, (.array .int)) := rfl
theorem fe_X0_21 : ec_fx fl_X0 21 = some (0, 3, false, (.array .int)) := rfl
theorem fe_X0_24 : ec_fx fl_X0 24 = some (0, 4, false, (.array .boolean)) := rfl
theorem fe_X0_28 : ec_fx fl_X0 28 = some (0, 5, false, (.array .int)) := rfl
theorem fe_X0_39 : ec_fx fl_X0 39 = some (0, 6, true, .int) := rfl
theorem fe_X0_43 : ec_fx fl_X0 43 = some (0, 7, true, .int) := rfl
def cl_X0 : List (Nat × Int32) := [(46, -1000000004), (51, -1000000001), (65, 100000), (66, 1000000)]
theorem co_X0 : cl_X0.all (fun q => decide (Cond.constant RX0 q.1 q.2 ∈ lw_tbl) && goodWord (Cond.constant RX0 q.1 q.2)) = true := by decide +kernel
theorem ce_X0_46 : ec_cx cl_X0 46 = some (-1000000004) := rfl
theorem ce_X0_51 : ec_cx cl_X0 51 = some (-1000000001) := rfl
theorem ce_X0_65 : ec_cx cl_X0 65 = some (100000) := rfl
theorem ce_X0_66 : ec_cx cl_X0 66 = some (1000000) := rfl
def sl_X0 : Nat → Option Nat := ec_no
theorem so_X0 : ∀ (ix j : Nat), sl_X0 ix = some j → ∃ C n dd, (C, n, dd, j) ∈ ec_zs ∧ Cond.fieldLink RX0 ix C n dd ∈ ec_tb := by
  intro ix j h
  cases h
def al_X0 : Nat → Nat := fun ix => match ix with
  | 67 => 2
  | _ => 0
theorem am_X0 {fr lo : Nat} (h1 : 1 ≤ fr) (h2 : 21 ≤ lo) : ∀ (ix : Nat), al_X0 ix = 2 → Cond.methodLink RX0 ix Lib.Math.min.name ∈ ec_tb ∧ Cond.static Lib.Math.min.name ∈ ec_tb ∧ Cond.initialized "java/lang/Math" ∈ ec_tb ∧ Cond.code Lib.Math.min.name Lib.Math.min.code 2 (some .int) ∈ ec_tb ∧ 1 ≤ fr ∧ 21 ≤ lo := by
  intro ix h
  unfold al_X0 at h
  split at h
  · have hw := ec_ins (ws := [Cond.methodLink RX0 67 Lib.Math.min.name, Cond.static Lib.Math.min.name, Cond.initialized "java/lang/Math", Cond.code Lib.Math.min.name Lib.Math.min.code 2 (some .int)]) (by decide +kernel)
    exact ⟨hw _ (by simp), hw _ (by simp), hw _ (by simp), hw _ (by simp), h1, h2⟩
  · cases h
theorem ax_X0 {fr lo : Nat} : ∀ (ix : Nat), al_X0 ix = 3 → Cond.methodLink RX0 ix Lib.Math.max.name ∈ ec_tb ∧ Cond.static Lib.Math.max.name ∈ ec_tb ∧ Cond.initialized "java/lang/Math" ∈ ec_tb ∧ Cond.code Lib.Math.max.name Lib.Math.max.code 2 (some .int) ∈ ec_tb ∧ 1 ≤ fr ∧ 21 ≤ lo := by
  intro ix h
  unfold al_X0 at h
  split at h
  · cases h
  · cases h
theorem ao_X0 {fr lo : Nat} : ∀ (ix : Nat), al_X0 ix = 1 → Cond.methodLink RX0 ix arraycopyName ∈ ec_tb ∧ Cond.native arraycopyName ∈ ec_tb ∧ Cond.static arraycopyName ∈ ec_tb ∧ Cond.initialized "java/lang/System" ∈ ec_tb ∧ 1 ≤ fr ∧ 8 + (nativeFrameWords "java/lang/System" "arraycopy" 5 + 11) ≤ lo := by
  intro ix h
  unfold al_X0 at h
  split at h
  · cases h
  · cases h
def fl_X1 : List (Nat × Nat × Nat × Bool × FieldType) := [(9, 1, 0, true, .int), (15, 1, 1, true, .int), (18, 1, 2, true, .int), (21, 1, 3, true, .boolean), (25, 1, 4, true, .int), (28, 1, 5, true, .int), (38, 0, 6, true, .int)]
theorem fo_X1 : fl_X1.all (ec_fchk RX1) = true := by decide +kernel
theorem fe_X1_9 : ec_fx fl_X1 9 = some (1, 0, true, .int) := rfl
theorem fe_X1_15 : ec_fx fl_X1 15 = some (1, 1, true, .int) := rfl
theorem fe_X1_18 : ec_fx fl_X1 18 = some (1, 2, true, .int) := rfl
theorem fe_X1_21 : ec_fx fl_X1 21 = some (1, 3, true, .boolean) := rfl
theorem fe_X1_25 : ec_fx fl_X1 25 = some (1, 4, true, .int) := rfl
theorem fe_X1_28 : ec_fx fl_X1 28 = some (1, 5, true, .int) := rfl
theorem fe_X1_38 : ec_fx fl_X1 38 = some (0, 6, true, .int) := rfl
def cl_X1 : List (Nat × Int32) := [(35, -1000000001), (36, 100000), (37, -1000000002)]
theorem co_X1 : cl_X1.all (fun q => decide (Cond.constant RX1 q.1 q.2 ∈ lw_tbl) && goodWord (Cond.constant RX1 q.1 q.2)) = true := by decide +kernel
theorem ce_X1_35 : ec_cx cl_X1 35 = some (-1000000001) := rfl
theorem ce_X1_36 : ec_cx cl_X1 36 = some (100000) := rfl
theorem ce_X1_37 : ec_cx cl_X1 37 = some (-1000000002) := rfl
def sl_X1 : Nat → Option Nat := ec_no
theorem so_X1 : ∀ (ix j : Nat), sl_X1 ix = some j → ∃ C n dd, (C, n, dd, j) ∈ ec_zs ∧ Cond.fieldLink RX1 ix C n dd ∈ ec_tb := by
  intro ix j h
  cases h
def fl_X2 : List (Nat × Nat × Nat × Bool × FieldType) := [(11, 2, 4, true, .int), (15, 2, 0, true, .boolean), (19, 2, 1, true, .boolean), (22, 2, 2, true, .boolean), (25, 2, 3, true, .int), (28, 2, 5, true, .int), (31, 2, 6, true, .int)]
theorem fo_X2 : fl_X2.all (ec_fchk RX2) = true := by decide +kernel
theorem fe_X2_11 : ec_fx fl_X2 11 = some (2, 4, true, .int) := rfl
theorem fe_X2_15 : ec_fx fl_X2 15 = some (2, 0, true, .boolean) := rfl
theorem fe_X2_19 : ec_fx fl_X2 19 = some (2, 1, true, .boolean) := rfl
theorem fe_X2_22 : ec_fx fl_X2 22 = some (2, 2, true, .boolean) := rfl
theorem fe_X2_25 : ec_fx fl_X2 25 = some (2, 3, true, .int) := rfl
theorem fe_X2_28 : ec_fx fl_X2 28 = some (2, 5, true, .int) := rfl
theorem fe_X2_31 : ec_fx fl_X2 31 = some (2, 6, true, .int) := rfl
def cl_X2 : List (Nat × Int32) := [(45, -1000000001), (46, -1000000003)]
theorem co_X2 : cl_X2.all (fun q => decide (Cond.constant RX2 q.1 q.2 ∈ lw_tbl) && goodWord (Cond.constant RX2 q.1 q.2)) = true := by decide +kernel
theorem ce_X2_45 : ec_cx cl_X2 45 = some (-1000000001) := rfl
theorem ce_X2_46 : ec_cx cl_X2 46 = some (-1000000003) := rfl
def sl_X2 : Nat → Option Nat := ec_no
theorem so_X2 : ∀ (ix j : Nat), sl_X2 ix = some j → ∃ C n dd, (C, n, dd, j) ∈ ec_zs ∧ Cond.fieldLink RX2 ix C n dd ∈ ec_tb := by
  intro ix j h
  cases h
def fl_X3 : List (Nat × Nat × Nat × Bool × FieldType) := [(9, 3, 0, false, (.array .int)), (15, 3, 1, false, (.array .int)), (18, 3, 2, false, (.array .int)), (21, 3, 3, false, (.array .int)), (24, 3, 4, false, (.array .int)), (27, 3, 5, false, (.array .int)), (34, 3, 6, true, .int)]
theorem fo_X3 : fl_X3.all (ec_fchk RX3) = true := by decide +kernel
theorem fe_X3_9 : ec_fx fl_X3 9 = some (3, 0, false, (.array .int)) := rfl
theorem fe_X3_15 : ec_fx fl_X3 15 = some (3, 1, false, (.array .int)) := rfl
theorem fe_X3_18 : ec_fx fl_X3 18 = some (3, 2, false, (.array .int)) := rfl
theorem fe_X3_21 : ec_fx fl_X3 21 = some (3, 3, false, (.array .int)) := rfl
theorem fe_X3_24 : ec_fx fl_X3 24 = some (3, 4, false, (.array .int)) := rfl
theorem fe_X3_27 : ec_fx fl_X3 27 = some (3, 5, false, (.array .int)) := rfl
theorem fe_X3_34 : ec_fx fl_X3 34 = some (3, 6, true, .int) := rfl
def cl_X3 : List (Nat × Int32) := [(38, -1000000004), (43, -1000000001), (47, -1000000003)]
theorem co_X3 : cl_X3.all (fun q => decide (Cond.constant RX3 q.1 q.2 ∈ lw_tbl) && goodWord (Cond.constant RX3 q.1 q.2)) = true := by decide +kernel
theorem ce_X3_38 : ec_cx cl_X3 38 = some (-1000000004) := rfl
theorem ce_X3_43 : ec_cx cl_X3 43 = some (-1000000001) := rfl
theorem ce_X3_47 : ec_cx cl_X3 47 = some (-1000000003) := rfl
def sl_X3 : Nat → Option Nat := fun ix => match ix with
  | 65 => some 2
  | 74 => some 1
  | _ => none
theorem so_X3 : ∀ (ix j : Nat), sl_X3 ix = some j → ∃ C n dd, (C, n, dd, j) ∈ ec_zs ∧ Cond.fieldLink RX3 ix C n dd ∈ ec_tb := by
  intro ix j h
  unfold sl_X3 at h
  split at h
  · cases h; exact ⟨"TinStation$Crew", "WARMTH", "[I", by decide +kernel, ec_ins (ws := [Cond.fieldLink RX3 65 "TinStation$Crew" "WARMTH" "[I"]) (by decide +kernel) _ List.mem_cons_self⟩
  · cases h; exact ⟨"TinStation$Crew", "BREATH", "[I", by decide +kernel, ec_ins (ws := [Cond.fieldLink RX3 74 "TinStation$Crew" "BREATH" "[I"]) (by decide +kernel) _ List.mem_cons_self⟩
  · cases h
def fl_X4 : List (Nat × Nat × Nat × Bool × FieldType) := [(9, 4, 0, false, (.array .int)), (15, 0, 6, true, .int), (21, 4, 1, true, .int), (28, 0, 7, true, .int), (53, 0, 2, false, (.array .int)), (56, 0, 3, false, (.array .int))]
theorem fo_X4 : fl_X4.all (ec_fchk RX4) = true := by decide +kernel
theorem fe_X4_9 : ec_fx fl_X4 9 = some (4, 0, false, (.array .int)) := rfl
theorem fe_X4_15 : ec_fx fl_X4 15 = some (0, 6, true, .int) := rfl
theorem fe_X4_21 : ec_fx fl_X4 21 = some (4, 1, true, .int) := rfl
theorem fe_X4_28 : ec_fx fl_X4 28 = some (0, 7, true, .int) := rfl
theorem fe_X4_53 : ec_fx fl_X4 53 = some (0, 2, false, (.array .int)) := rfl
theorem fe_X4_56 : ec_fx fl_X4 56 = some (0, 3, false, (.array .int)) := rfl
def cl_X4 : List (Nat × Int32) := [(31, -1000000001), (36, -1000000002)]
theorem co_X4 : cl_X4.all (fun q => decide (Cond.constant RX4 q.1 q.2 ∈ lw_tbl) && goodWord (Cond.constant RX4 q.1 q.2)) = true := by decide +kernel
theorem ce_X4_31 : ec_cx cl_X4 31 = some (-1000000001) := rfl
theorem ce_X4_36 : ec_cx cl_X4 36 = some (-1000000002) := rfl
def sl_X4 : Nat → Option Nat := ec_no
theorem so_X4 : ∀ (ix j : Nat), sl_X4 ix = some j → ∃ C n dd, (C, n, dd, j) ∈ ec_zs ∧ Cond.fieldLink RX4 ix C n dd ∈ ec_tb := by
  intro ix j h
  cases h
def al_X4 : Nat → Nat := fun ix => match ix with
  | 47 => 3
  | _ => 0
theorem am_X4 {fr lo : Nat} : ∀ (ix : Nat), al_X4 ix = 2 → Cond.methodLink RX4 ix Lib.Math.min.name ∈ ec_tb ∧ Cond.static Lib.Math.min.name ∈ ec_tb ∧ Cond.initialized "java/lang/Math" ∈ ec_tb ∧ Cond.code Lib.Math.min.name Lib.Math.min.code 2 (some .int) ∈ ec_tb ∧ 1 ≤ fr ∧ 21 ≤ lo := by
  intro ix h
  unfold al_X4 at h
  split at h
  · cases h
  · cases h
theorem ax_X4 {fr lo : Nat} (h1 : 1 ≤ fr) (h2 : 21 ≤ lo) : ∀ (ix : Nat), al_X4 ix = 3 → Cond.methodLink RX4 ix Lib.Math.max.name ∈ ec_tb ∧ Cond.static Lib.Math.max.name ∈ ec_tb ∧ Cond.initialized "java/lang/Math" ∈ ec_tb ∧ Cond.code Lib.Math.max.name Lib.Math.max.code 2 (some .int) ∈ ec_tb ∧ 1 ≤ fr ∧ 21 ≤ lo := by
  intro ix h
  unfold al_X4 at h
  split at h
  · have hw := ec_ins (ws := [Cond.methodLink RX4 47 Lib.Math.max.name, Cond.static Lib.Math.max.name, Cond.initialized "java/lang/Math", Cond.code Lib.Math.max.name Lib.Math.max.code 2 (some .int)]) (by decide +kernel)
    exact ⟨hw _ (by simp), hw _ (by simp), hw _ (by simp), hw _ (by simp), h1, h2⟩
  · cases h
theorem ao_X4 {fr lo : Nat} : ∀ (ix : Nat), al_X4 ix = 1 → Cond.methodLink RX4 ix arraycopyName ∈ ec_tb ∧ Cond.native arraycopyName ∈ ec_tb ∧ Cond.static arraycopyName ∈ ec_tb ∧ Cond.initialized "java/lang/System" ∈ ec_tb ∧ 1 ≤ fr ∧ 8 + (nativeFrameWords "java/lang/System" "arraycopy" 5 + 11) ≤ lo := by
  intro ix h
  unfold al_X4 at h
  split at h
  · cases h
  · cases h
def fl_X5 : List (Nat × Nat × Nat × Bool × FieldType) := [(9, 5, 0, false, (.array .int)), (15, 5, 1, false, (.array .int)), (18, 5, 2, false, (.array .int)), (21, 5, 3, false, (.array .int)), (24, 5, 4, false, (.array .int)), (27, 5, 5, false, (.array .int)), (30, 5, 6, false, (.array .int)), (33, 5, 9, true, .int), (42, 5, 7, true, .int), (46, 5, 8, true, .int)]
theorem fo_X5 : fl_X5.all (ec_fchk RX5) = true := by decide +kernel
theorem fe_X5_9 : ec_fx fl_X5 9 = some (5, 0, false, (.array .int)) := rfl
theorem fe_X5_15 : ec_fx fl_X5 15 = some (5, 1, false, (.array .int)) := rfl
theorem fe_X5_18 : ec_fx fl_X5 18 = some (5, 2, false, (.array .int)) := rfl
theorem fe_X5_21 : ec_fx fl_X5 21 = some (5, 3, false, (.array .int)) := rfl
theorem fe_X5_24 : ec_fx fl_X5 24 = some (5, 4, false, (.array .int)) := rfl
theorem fe_X5_27 : ec_fx fl_X5 27 = some (5, 5, false, (.array .int)) := rfl
theorem fe_X5_30 : ec_fx fl_X5 30 = some (5, 6, false, (.array .int)) := rfl
theorem fe_X5_33 : ec_fx fl_X5 33 = some (5, 9, true, .int) := rfl
theorem fe_X5_42 : ec_fx fl_X5 42 = some (5, 7, true, .int) := rfl
theorem fe_X5_46 : ec_fx fl_X5 46 = some (5, 8, true, .int) := rfl
def cl_X5 : List (Nat × Int32) := [(41, -1000000001), (45, -1000000004), (49, -1000000002)]
theorem co_X5 : cl_X5.all (fun q => decide (Cond.constant RX5 q.1 q.2 ∈ lw_tbl) && goodWord (Cond.constant RX5 q.1 q.2)) = true := by decide +kernel
theorem ce_X5_41 : ec_cx cl_X5 41 = some (-1000000001) := rfl
theorem ce_X5_45 : ec_cx cl_X5 45 = some (-1000000004) := rfl
theorem ce_X5_49 : ec_cx cl_X5 49 = some (-1000000002) := rfl
def sl_X5 : Nat → Option Nat := ec_no
theorem so_X5 : ∀ (ix j : Nat), sl_X5 ix = some j → ∃ C n dd, (C, n, dd, j) ∈ ec_zs ∧ Cond.fieldLink RX5 ix C n dd ∈ ec_tb := by
  intro ix j h
  cases h
def fl_X6 : List (Nat × Nat × Nat × Bool × FieldType) := [(9, 6, 0, false, (.array .int)), (15, 6, 1, false, (.array .int)), (18, 6, 2, false, (.array .int)), (21, 6, 3, false, (.array .int)), (24, 6, 4, false, (.array .int)), (27, 6, 5, false, (.array .int)), (30, 6, 6, false, (.array .int)), (33, 6, 7, false, (.array .boolean)), (37, 6, 8, false, (.array .boolean)), (40, 6, 9, false, (.array .boolean)), (43, 6, 10, false, (.array .int)), (46, 6, 13, true, .int), (58, 6, 11, true, .int), (61, 6, 12, true, .int), (64, 6, 14, true, .int)]
theorem fo_X6 : fl_X6.all (ec_fchk RX6) = true := by decide +kernel
theorem fe_X6_9 : ec_fx fl_X6 9 = some (6, 0, false, (.array .int)) := rfl
theorem fe_X6_15 : ec_fx fl_X6 15 = some (6, 1, false, (.array .int)) := rfl
theorem fe_X6_18 : ec_fx fl_X6 18 = some (6, 2, false, (.array .int)) := rfl
theorem fe_X6_21 : ec_fx fl_X6 21 = some (6, 3, false, (.array .int)) := rfl
theorem fe_X6_24 : ec_fx fl_X6 24 = some (6, 4, false, (.array .int)) := rfl
theorem fe_X6_27 : ec_fx fl_X6 27 = some (6, 5, false, (.array .int)) := rfl
theorem fe_X6_30 : ec_fx fl_X6 30 = some (6, 6, false, (.array .int)) := rfl
theorem fe_X6_33 : ec_fx fl_X6 33 = some (6, 7, false, (.array .boolean)) := rfl
theorem fe_X6_37 : ec_fx fl_X6 37 = some (6, 8, false, (.array .boolean)) := rfl
theorem fe_X6_40 : ec_fx fl_X6 40 = some (6, 9, false, (.array .boolean)) := rfl
theorem fe_X6_43 : ec_fx fl_X6 43 = some (6, 10, false, (.array .int)) := rfl
theorem fe_X6_46 : ec_fx fl_X6 46 = some (6, 13, true, .int) := rfl
theorem fe_X6_58 : ec_fx fl_X6 58 = some (6, 11, true, .int) := rfl
theorem fe_X6_61 : ec_fx fl_X6 61 = some (6, 12, true, .int) := rfl
theorem fe_X6_64 : ec_fx fl_X6 64 = some (6, 14, true, .int) := rfl
def cl_X6 : List (Nat × Int32) := [(74, -1000000001), (75, -1000000004), (76, 1000000), (84, -1000000005)]
theorem co_X6 : cl_X6.all (fun q => decide (Cond.constant RX6 q.1 q.2 ∈ lw_tbl) && goodWord (Cond.constant RX6 q.1 q.2)) = true := by decide +kernel
theorem ce_X6_74 : ec_cx cl_X6 74 = some (-1000000001) := rfl
theorem ce_X6_75 : ec_cx cl_X6 75 = some (-1000000004) := rfl
theorem ce_X6_76 : ec_cx cl_X6 76 = some (1000000) := rfl
theorem ce_X6_84 : ec_cx cl_X6 84 = some (-1000000005) := rfl
def sl_X6 : Nat → Option Nat := fun ix => match ix with
  | 85 => some 0
  | _ => none
theorem so_X6 : ∀ (ix j : Nat), sl_X6 ix = some j → ∃ C n dd, (C, n, dd, j) ∈ ec_zs ∧ Cond.fieldLink RX6 ix C n dd ∈ ec_tb := by
  intro ix j h
  unfold sl_X6 at h
  split at h
  · cases h; exact ⟨"TinStation$Plant", "KIND_ABOVE", "[I", by decide +kernel, ec_ins (ws := [Cond.fieldLink RX6 85 "TinStation$Plant" "KIND_ABOVE" "[I"]) (by decide +kernel) _ List.mem_cons_self⟩
  · cases h
def al_X6 : Nat → Nat := fun ix => match ix with
  | 95 => 2
  | _ => 0
theorem am_X6 {fr lo : Nat} (h1 : 1 ≤ fr) (h2 : 21 ≤ lo) : ∀ (ix : Nat), al_X6 ix = 2 → Cond.methodLink RX6 ix Lib.Math.min.name ∈ ec_tb ∧ Cond.static Lib.Math.min.name ∈ ec_tb ∧ Cond.initialized "java/lang/Math" ∈ ec_tb ∧ Cond.code Lib.Math.min.name Lib.Math.min.code 2 (some .int) ∈ ec_tb ∧ 1 ≤ fr ∧ 21 ≤ lo := by
  intro ix h
  unfold al_X6 at h
  split at h
  · have hw := ec_ins (ws := [Cond.methodLink RX6 95 Lib.Math.min.name, Cond.static Lib.Math.min.name, Cond.initialized "java/lang/Math", Cond.code Lib.Math.min.name Lib.Math.min.code 2 (some .int)]) (by decide +kernel)
    exact ⟨hw _ (by simp), hw _ (by simp), hw _ (by simp), hw _ (by simp), h1, h2⟩
  · cases h
theorem ax_X6 {fr lo : Nat} : ∀ (ix : Nat), al_X6 ix = 3 → Cond.methodLink RX6 ix Lib.Math.max.name ∈ ec_tb ∧ Cond.static Lib.Math.max.name ∈ ec_tb ∧ Cond.initialized "java/lang/Math" ∈ ec_tb ∧ Cond.code Lib.Math.max.name Lib.Math.max.code 2 (some .int) ∈ ec_tb ∧ 1 ≤ fr ∧ 21 ≤ lo := by
  intro ix h
  unfold al_X6 at h
  split at h
  · cases h
  · cases h
theorem ao_X6 {fr lo : Nat} : ∀ (ix : Nat), al_X6 ix = 1 → Cond.methodLink RX6 ix arraycopyName ∈ ec_tb ∧ Cond.native arraycopyName ∈ ec_tb ∧ Cond.static arraycopyName ∈ ec_tb ∧ Cond.initialized "java/lang/System" ∈ ec_tb ∧ 1 ≤ fr ∧ 8 + (nativeFrameWords "java/lang/System" "arraycopy" 5 + 11) ≤ lo := by
  intro ix h
  unfold al_X6 at h
  split at h
  · cases h
  · cases h
def fl_X7 : List (Nat × Nat × Nat × Bool × FieldType) := [(9, 7, 0, false, (.array .int)), (15, 7, 1, false, (.array .int)), (18, 7, 2, false, (.array .int)), (21, 7, 3, false, (.array .int)), (24, 7, 4, true, .int)]
theorem fo_X7 : fl_X7.all (ec_fchk RX7) = true := by decide +kernel
theorem fe_X7_9 : ec_fx fl_X7 9 = some (7, 0, false, (.array .int)) := rfl
theorem fe_X7_15 : ec_fx fl_X7 15 = some (7, 1, false, (.array .int)) := rfl
theorem fe_X7_18 : ec_fx fl_X7 18 = some (7, 2, false, (.array .int)) := rfl
theorem fe_X7_21 : ec_fx fl_X7 21 = some (7, 3, false, (.array .int)) := rfl
theorem fe_X7_24 : ec_fx fl_X7 24 = some (7, 4, true, .int) := rfl
def cl_X7 : List (Nat × Int32) := [(28, -1000000004)]
theorem co_X7 : cl_X7.all (fun q => decide (Cond.constant RX7 q.1 q.2 ∈ lw_tbl) && goodWord (Cond.constant RX7 q.1 q.2)) = true := by decide +kernel
theorem ce_X7_28 : ec_cx cl_X7 28 = some (-1000000004) := rfl
def sl_X7 : Nat → Option Nat := ec_no
theorem so_X7 : ∀ (ix j : Nat), sl_X7 ix = some j → ∃ C n dd, (C, n, dd, j) ∈ ec_zs ∧ Cond.fieldLink RX7 ix C n dd ∈ ec_tb := by
  intro ix j h
  cases h
def fl_X8 : List (Nat × Nat × Nat × Bool × FieldType) := [(12, 8, 1, false, (.object "TinStation$Air")), (21, 8, 2, false, (.object "TinStation$Crew")), (28, 8, 3, false, (.object "TinStation$Plant")), (35, 8, 4, false, (.object "TinStation$Bounds")), (42, 8, 5, false, (.object "TinStation$Course")), (46, 8, 0, false, (.object "TinStation$Script")), (66, 8, 6, true, .int), (107, 3, 0, false, (.array .int)), (117, 6, 8, false, (.array .boolean)), (124, 6, 1, false, (.array .int)), (125, 6, 0, false, (.array .int)), (128, 6, 10, false, (.array .int)), (136, 2, 0, true, .boolean), (140, 2, 1, true, .boolean), (143, 2, 5, true, .int), (146, 2, 3, true, .int), (155, 7, 0, false, (.array .int)), (158, 2, 2, true, .boolean), (168, 7, 1, false, (.array .int)), (174, 2, 4, true, .int), (181, 7, 2, false, (.array .int)), (194, 7, 3, false, (.array .int)), (211, 0, 5, false, (.array .int)), (214, 6, 14, true, .int)]
theorem fo_X8 : fl_X8.all (ec_fchk RX8) = true := by decide +kernel
theorem fe_X8_12 : ec_fx fl_X8 12 = some (8, 1, false, (.object "TinStation$Air")) := rfl
theorem fe_X8_21 : ec_fx fl_X8 21 = some (8, 2, false, (.object "TinStation$Crew")) := rfl
theorem fe_X8_28 : ec_fx fl_X8 28 = some (8, 3, false, (.object "TinStation$Plant")) := rfl
theorem fe_X8_35 : ec_fx fl_X8 35 = some (8, 4, false, (.object "TinStation$Bounds")) := rfl
theorem fe_X8_42 : ec_fx fl_X8 42 = some (8, 5, false, (.object "TinStation$Course")) := rfl
theorem fe_X8_46 : ec_fx fl_X8 46 = some (8, 0, false, (.object "TinStation$Script")) := rfl
theorem fe_X8_66 : ec_fx fl_X8 66 = some (8, 6, true, .int) := rfl
theorem fe_X8_107 : ec_fx fl_X8 107 = some (3, 0, false, (.array .int)) := rfl
theorem fe_X8_117 : ec_fx fl_X8 117 = some (6, 8, false, (.array .boolean)) := rfl
theorem fe_X8_124 : ec_fx fl_X8 124 = some (6, 1, false, (.array .int)) := rfl
theorem fe_X8_125 : ec_fx fl_X8 125 = some (6, 0, false, (.array .int)) := rfl
theorem fe_X8_128 : ec_fx fl_X8 128 = some (6, 10, false, (.array .int)) := rfl
theorem fe_X8_136 : ec_fx fl_X8 136 = some (2, 0, true, .boolean) := rfl
theorem fe_X8_140 : ec_fx fl_X8 140 = some (2, 1, true, .boolean) := rfl
theorem fe_X8_143 : ec_fx fl_X8 143 = some (2, 5, true, .int) := rfl
theorem fe_X8_146 : ec_fx fl_X8 146 = some (2, 3, true, .int) := rfl
theorem fe_X8_155 : ec_fx fl_X8 155 = some (7, 0, false, (.array .int)) := rfl
theorem fe_X8_158 : ec_fx fl_X8 158 = some (2, 2, true, .boolean) := rfl
theorem fe_X8_168 : ec_fx fl_X8 168 = some (7, 1, false, (.array .int)) := rfl
theorem fe_X8_174 : ec_fx fl_X8 174 = some (2, 4, true, .int) := rfl
theorem fe_X8_181 : ec_fx fl_X8 181 = some (7, 2, false, (.array .int)) := rfl
theorem fe_X8_194 : ec_fx fl_X8 194 = some (7, 3, false, (.array .int)) := rfl
theorem fe_X8_211 : ec_fx fl_X8 211 = some (0, 5, false, (.array .int)) := rfl
theorem fe_X8_214 : ec_fx fl_X8 214 = some (6, 14, true, .int) := rfl
def cl_X8 : List (Nat × Int32) := [(103, -1000000001), (115, -1000000003), (131, -1000000002), (180, -1000000000)]
theorem co_X8 : cl_X8.all (fun q => decide (Cond.constant RX8 q.1 q.2 ∈ lw_tbl) && goodWord (Cond.constant RX8 q.1 q.2)) = true := by decide +kernel
theorem ce_X8_103 : ec_cx cl_X8 103 = some (-1000000001) := rfl
theorem ce_X8_115 : ec_cx cl_X8 115 = some (-1000000003) := rfl
theorem ce_X8_131 : ec_cx cl_X8 131 = some (-1000000002) := rfl
theorem ce_X8_180 : ec_cx cl_X8 180 = some (-1000000000) := rfl
def sl_X8 : Nat → Option Nat := ec_no
theorem so_X8 : ∀ (ix j : Nat), sl_X8 ix = some j → ∃ C n dd, (C, n, dd, j) ∈ ec_zs ∧ Cond.fieldLink RX8 ix C n dd ∈ ec_tb := by
  intro ix j h
  cases h
def fl_X9 : List (Nat × Nat × Nat × Bool × FieldType) := [(12, 9, 0, false, (.object "TinStation$Script")), (21, 9, 1, false, (.object "TinStation$World")), (25, 9, 2, false, (.object "TinStation$World")), (31, 9, 3, false, (.object "TinStation$Hunt")), (38, 9, 4, false, (.object "TinStation$Journal")), (42, 9, 5, false, (.array .int)), (46, 9, 6, false, (.array .int)), (50, 9, 8, true, .int), (54, 8, 1, false, (.object "TinStation$Air")), (93, 8, 2, false, (.object "TinStation$Crew")), (111, 8, 3, false, (.object "TinStation$Plant")), (143, 8, 4, false, (.object "TinStation$Bounds")), (152, 8, 6, true, .int), (167, 8, 5, false, (.object "TinStation$Course")), (171, 2, 0, true, .boolean), (181, 7, 4, true, .int), (211, 4, 1, true, .int), (242, 9, 9, true, .int), (245, 9, 7, true, .int), (254, 0, 6, true, .int), (257, 0, 7, true, .int), (260, 3, 6, true, .int), (263, 6, 11, true, .int), (266, 5, 7, true, .int), (269, 5, 8, true, .int)]
theorem fo_X9 : fl_X9.all (ec_fchk RX9) = true := by decide +kernel
theorem fe_X9_12 : ec_fx fl_X9 12 = some (9, 0, false, (.object "TinStation$Script")) := rfl
theorem fe_X9_21 : ec_fx fl_X9 21 = some (9, 1, false, (.object "TinStation$World")) := rfl
theorem fe_X9_25 : ec_fx fl_X9 25 = some (9, 2, false, (.object "TinStation$World")) := rfl
theorem fe_X9_31 : ec_fx fl_X9 31 = some (9, 3, false, (.object "TinStation$Hunt")) := rfl
theorem fe_X9_38 : ec_fx fl_X9 38 = some (9, 4, false, (.object "TinStation$Journal")) := rfl
theorem fe_X9_42 : ec_fx fl_X9 42 = some (9, 5, false, (.array .int)) := rfl
theorem fe_X9_46 : ec_fx fl_X9 46 = some (9, 6, false, (.array .int)) := rfl
theorem fe_X9_50 : ec_fx fl_X9 50 = some (9, 8, true, .int) := rfl
theorem fe_X9_54 : ec_fx fl_X9 54 = some (8, 1, false, (.object "TinStation$Air")) := rfl
theorem fe_X9_93 : ec_fx fl_X9 93 = some (8, 2, false, (.object "TinStation$Crew")) := rfl
theorem fe_X9_111 : ec_fx fl_X9 111 = some (8, 3, false, (.object "TinStation$Plant")) := rfl
theorem fe_X9_143 : ec_fx fl_X9 143 = some (8, 4, false, (.object "TinStation$Bounds")) := rfl
theorem fe_X9_152 : ec_fx fl_X9 152 = some (8, 6, true, .int) := rfl
theorem fe_X9_167 : ec_fx fl_X9 167 = some (8, 5, false, (.object "TinStation$Course")) := rfl
theorem fe_X9_171 : ec_fx fl_X9 171 = some (2, 0, true, .boolean) := rfl
theorem fe_X9_181 : ec_fx fl_X9 181 = some (7, 4, true, .int) := rfl
theorem fe_X9_211 : ec_fx fl_X9 211 = some (4, 1, true, .int) := rfl
theorem fe_X9_242 : ec_fx fl_X9 242 = some (9, 9, true, .int) := rfl
theorem fe_X9_245 : ec_fx fl_X9 245 = some (9, 7, true, .int) := rfl
theorem fe_X9_254 : ec_fx fl_X9 254 = some (0, 6, true, .int) := rfl
theorem fe_X9_257 : ec_fx fl_X9 257 = some (0, 7, true, .int) := rfl
theorem fe_X9_260 : ec_fx fl_X9 260 = some (3, 6, true, .int) := rfl
theorem fe_X9_263 : ec_fx fl_X9 263 = some (6, 11, true, .int) := rfl
theorem fe_X9_266 : ec_fx fl_X9 266 = some (5, 7, true, .int) := rfl
theorem fe_X9_269 : ec_fx fl_X9 269 = some (5, 8, true, .int) := rfl
def cl_X9 : List (Nat × Int32) := [(49, 400000), (92, -1000000001), (155, -1000000004), (177, -1000000003), (241, 10000000), (275, -1000000000), (276, -1000000005)]
theorem co_X9 : cl_X9.all (fun q => decide (Cond.constant RX9 q.1 q.2 ∈ lw_tbl) && goodWord (Cond.constant RX9 q.1 q.2)) = true := by decide +kernel
theorem ce_X9_49 : ec_cx cl_X9 49 = some (400000) := rfl
theorem ce_X9_92 : ec_cx cl_X9 92 = some (-1000000001) := rfl
theorem ce_X9_155 : ec_cx cl_X9 155 = some (-1000000004) := rfl
theorem ce_X9_177 : ec_cx cl_X9 177 = some (-1000000003) := rfl
theorem ce_X9_241 : ec_cx cl_X9 241 = some (10000000) := rfl
theorem ce_X9_275 : ec_cx cl_X9 275 = some (-1000000000) := rfl
theorem ce_X9_276 : ec_cx cl_X9 276 = some (-1000000005) := rfl
def sl_X9 : Nat → Option Nat := ec_no
theorem so_X9 : ∀ (ix j : Nat), sl_X9 ix = some j → ∃ C n dd, (C, n, dd, j) ∈ ec_zs ∧ Cond.fieldLink RX9 ix C n dd ∈ ec_tb := by
  intro ix j h
  cases h
def al_X9 : Nat → Nat := fun ix => match ix with
  | 277 => 2
  | 282 => 1
  | _ => 0
theorem am_X9 {fr lo : Nat} (h1 : 1 ≤ fr) (h2 : 21 ≤ lo) : ∀ (ix : Nat), al_X9 ix = 2 → Cond.methodLink RX9 ix Lib.Math.min.name ∈ ec_tb ∧ Cond.static Lib.Math.min.name ∈ ec_tb ∧ Cond.initialized "java/lang/Math" ∈ ec_tb ∧ Cond.code Lib.Math.min.name Lib.Math.min.code 2 (some .int) ∈ ec_tb ∧ 1 ≤ fr ∧ 21 ≤ lo := by
  intro ix h
  unfold al_X9 at h
  split at h
  · have hw := ec_ins (ws := [Cond.methodLink RX9 277 Lib.Math.min.name, Cond.static Lib.Math.min.name, Cond.initialized "java/lang/Math", Cond.code Lib.Math.min.name Lib.Math.min.code 2 (some .int)]) (by decide +kernel)
    exact ⟨hw _ (by simp), hw _ (by simp), hw _ (by simp), hw _ (by simp), h1, h2⟩
  · cases h
  · cases h
theorem ax_X9 {fr lo : Nat} : ∀ (ix : Nat), al_X9 ix = 3 → Cond.methodLink RX9 ix Lib.Math.max.name ∈ ec_tb ∧ Cond.static Lib.Math.max.name ∈ ec_tb ∧ Cond.initialized "java/lang/Math" ∈ ec_tb ∧ Cond.code Lib.Math.max.name Lib.Math.max.code 2 (some .int) ∈ ec_tb ∧ 1 ≤ fr ∧ 21 ≤ lo := by
  intro ix h
  unfold al_X9 at h
  split at h
  · cases h
  · cases h
  · cases h
theorem ao_X9 {fr lo : Nat} (h1 : 1 ≤ fr) (h2 : 26 ≤ lo) : ∀ (ix : Nat), al_X9 ix = 1 → Cond.methodLink RX9 ix arraycopyName ∈ ec_tb ∧ Cond.native arraycopyName ∈ ec_tb ∧ Cond.static arraycopyName ∈ ec_tb ∧ Cond.initialized "java/lang/System" ∈ ec_tb ∧ 1 ≤ fr ∧ 8 + (nativeFrameWords "java/lang/System" "arraycopy" 5 + 11) ≤ lo := by
  intro ix h
  unfold al_X9 at h
  split at h
  · cases h
  · have hw := ec_ins (ws := [Cond.methodLink RX9 282 arraycopyName, Cond.native arraycopyName, Cond.static arraycopyName, Cond.initialized "java/lang/System"]) (by decide +kernel)
    exact ⟨hw _ (by simp), hw _ (by simp), hw _ (by simp), hw _ (by simp), h1, h2⟩
  · cases h
def fl_X10 : List (Nat × Nat × Nat × Bool × FieldType) := [(7, 10, 1, false, (.array .int)), (13, 10, 2, false, (.array .int)), (16, 10, 3, false, (.array .int)), (19, 10, 5, false, (.array .int)), (22, 10, 6, false, (.array .int)), (25, 10, 7, false, (.array .int)), (28, 10, 8, false, (.array .int)), (31, 10, 10, false, (.array .int)), (34, 10, 11, false, (.array .int)), (37, 10, 12, false, (.array .int)), (40, 10, 13, false, (.array .int)), (43, 10, 14, false, (.array .int)), (46, 10, 15, false, (.array .int)), (49, 10, 17, false, (.array .int)), (52, 10, 18, false, (.array .int)), (55, 10, 19, false, (.array .int)), (58, 10, 20, false, (.array .int)), (61, 10, 21, false, (.array .int)), (64, 10, 22, false, (.array .int)), (67, 10, 23, false, (.array .int)), (70, 10, 24, false, (.array .int)), (73, 10, 25, false, (.array .int)), (76, 10, 26, false, (.array .int)), (79, 10, 27, false, (.array .int)), (82, 10, 28, false, (.array .int)), (85, 10, 30, true, .int), (89, 10, 31, true, .int), (92, 10, 32, true, .int), (95, 10, 33, true, .int), (98, 10, 35, false, (.array .int)), (101, 10, 36, false, (.array .int)), (104, 10, 37, false, (.array .int)), (107, 10, 38, false, (.array .int)), (110, 10, 41, false, (.array .int)), (113, 10, 42, false, (.array .int)), (116, 10, 43, false, (.array .int)), (119, 10, 44, false, (.array .int)), (122, 10, 46, false, (.array .int)), (125, 10, 47, false, (.array .int)), (128, 10, 48, false, (.array .int)), (131, 10, 49, true, .int), (135, 10, 50, true, .int), (138, 10, 53, false, (.array .int)), (141, 10, 54, false, (.array .int)), (144, 10, 55, false, (.array .int)), (148, 10, 0, true, .int), (151, 10, 4, true, .int), (154, 10, 9, true, .int), (157, 10, 16, true, .int), (209, 10, 34, true, .int), (228, 10, 29, true, .int), (266, 10, 56, true, .int), (277, 10, 39, true, .int), (289, 10, 40, true, .int), (292, 10, 45, true, .int), (299, 10, 51, true, .int), (302, 10, 52, true, .int)]
theorem fo_X10 : fl_X10.all (ec_fchk RX10) = true := by decide +kernel
theorem fe_X10_7 : ec_fx fl_X10 7 = some (10, 1, false, (.array .int)) := rfl
theorem fe_X10_13 : ec_fx fl_X10 13 = some (10, 2, false, (.array .int)) := rfl
theorem fe_X10_16 : ec_fx fl_X10 16 = some (10, 3, false, (.array .int)) := rfl
theorem fe_X10_19 : ec_fx fl_X10 19 = some (10, 5, false, (.array .int)) := rfl
theorem fe_X10_22 : ec_fx fl_X10 22 = some (10, 6, false, (.array .int)) := rfl
theorem fe_X10_25 : ec_fx fl_X10 25 = some (10, 7, false, (.array .int)) := rfl
theorem fe_X10_28 : ec_fx fl_X10 28 = some (10, 8, false, (.array .int)) := rfl
theorem fe_X10_31 : ec_fx fl_X10 31 = some (10, 10, false, (.array .int)) := rfl
theorem fe_X10_34 : ec_fx fl_X10 34 = some (10, 11, false, (.array .int)) := rfl
theorem fe_X10_37 : ec_fx fl_X10 37 = some (10, 12, false, (.array .int)) := rfl
theorem fe_X10_40 : ec_fx fl_X10 40 = some (10, 13, false, (.array .int)) := rfl
theorem fe_X10_43 : ec_fx fl_X10 43 = some (10, 14, false, (.array .int)) := rfl
theorem fe_X10_46 : ec_fx fl_X10 46 = some (10, 15, false, (.array .int)) := rfl
theorem fe_X10_49 : ec_fx fl_X10 49 = some (10, 17, false, (.array .int)) := rfl
theorem fe_X10_52 : ec_fx fl_X10 52 = some (10, 18, false, (.array .int)) := rfl
theorem fe_X10_55 : ec_fx fl_X10 55 = some (10, 19, false, (.array .int)) := rfl
theorem fe_X10_58 : ec_fx fl_X10 58 = some (10, 20, false, (.array .int)) := rfl
theorem fe_X10_61 : ec_fx fl_X10 61 = some (10, 21, false, (.array .int)) := rfl
theorem fe_X10_64 : ec_fx fl_X10 64 = some (10, 22, false, (.array .int)) := rfl
theorem fe_X10_67 : ec_fx fl_X10 67 = some (10, 23, false, (.array .int)) := rfl
theorem fe_X10_70 : ec_fx fl_X10 70 = some (10, 24, false, (.array .int)) := rfl
theorem fe_X10_73 : ec_fx fl_X10 73 = some (10, 25, false, (.array .int)) := rfl
theorem fe_X10_76 : ec_fx fl_X10 76 = some (10, 26, false, (.array .int)) := rfl
theorem fe_X10_79 : ec_fx fl_X10 79 = some (10, 27, false, (.array .int)) := rfl
theorem fe_X10_82 : ec_fx fl_X10 82 = some (10, 28, false, (.array .int)) := rfl
theorem fe_X10_85 : ec_fx fl_X10 85 = some (10, 30, true, .int) := rfl
theorem fe_X10_89 : ec_fx fl_X10 89 = some (10, 31, true, .int) := rfl
theorem fe_X10_92 : ec_fx fl_X10 92 = some (10, 32, true, .int) := rfl
theorem fe_X10_95 : ec_fx fl_X10 95 = some (10, 33, true, .int) := rfl
theorem fe_X10_98 : ec_fx fl_X10 98 = some (10, 35, false, (.array .int)) := rfl
theorem fe_X10_101 : ec_fx fl_X10 101 = some (10, 36, false, (.array .int)) := rfl
theorem fe_X10_104 : ec_fx fl_X10 104 = some (10, 37, false, (.array .int)) := rfl
theorem fe_X10_107 : ec_fx fl_X10 107 = some (10, 38, false, (.array .int)) := rfl
theorem fe_X10_110 : ec_fx fl_X10 110 = some (10, 41, false, (.array .int)) := rfl
theorem fe_X10_113 : ec_fx fl_X10 113 = some (10, 42, false, (.array .int)) := rfl
theorem fe_X10_116 : ec_fx fl_X10 116 = some (10, 43, false, (.array .int)) := rfl
theorem fe_X10_119 : ec_fx fl_X10 119 = some (10, 44, false, (.array .int)) := rfl
theorem fe_X10_122 : ec_fx fl_X10 122 = some (10, 46, false, (.array .int)) := rfl
theorem fe_X10_125 : ec_fx fl_X10 125 = some (10, 47, false, (.array .int)) := rfl
theorem fe_X10_128 : ec_fx fl_X10 128 = some (10, 48, false, (.array .int)) := rfl
theorem fe_X10_131 : ec_fx fl_X10 131 = some (10, 49, true, .int) := rfl
theorem fe_X10_135 : ec_fx fl_X10 135 = some (10, 50, true, .int) := rfl
theorem fe_X10_138 : ec_fx fl_X10 138 = some (10, 53, false, (.array .int)) := rfl
theorem fe_X10_141 : ec_fx fl_X10 141 = some (10, 54, false, (.array .int)) := rfl
theorem fe_X10_144 : ec_fx fl_X10 144 = some (10, 55, false, (.array .int)) := rfl
theorem fe_X10_148 : ec_fx fl_X10 148 = some (10, 0, true, .int) := rfl
theorem fe_X10_151 : ec_fx fl_X10 151 = some (10, 4, true, .int) := rfl
theorem fe_X10_154 : ec_fx fl_X10 154 = some (10, 9, true, .int) := rfl
theorem fe_X10_157 : ec_fx fl_X10 157 = some (10, 16, true, .int) := rfl
theorem fe_X10_209 : ec_fx fl_X10 209 = some (10, 34, true, .int) := rfl
theorem fe_X10_228 : ec_fx fl_X10 228 = some (10, 29, true, .int) := rfl
theorem fe_X10_266 : ec_fx fl_X10 266 = some (10, 56, true, .int) := rfl
theorem fe_X10_277 : ec_fx fl_X10 277 = some (10, 39, true, .int) := rfl
theorem fe_X10_289 : ec_fx fl_X10 289 = some (10, 40, true, .int) := rfl
theorem fe_X10_292 : ec_fx fl_X10 292 = some (10, 45, true, .int) := rfl
theorem fe_X10_299 : ec_fx fl_X10 299 = some (10, 51, true, .int) := rfl
theorem fe_X10_302 : ec_fx fl_X10 302 = some (10, 52, true, .int) := rfl
def cl_X10 : List (Nat × Int32) := [(134, 400000), (147, -1000000000), (175, 100000), (176, 1000000), (298, 10000000)]
theorem co_X10 : cl_X10.all (fun q => decide (Cond.constant RX10 q.1 q.2 ∈ lw_tbl) && goodWord (Cond.constant RX10 q.1 q.2)) = true := by decide +kernel
theorem ce_X10_134 : ec_cx cl_X10 134 = some (400000) := rfl
theorem ce_X10_147 : ec_cx cl_X10 147 = some (-1000000000) := rfl
theorem ce_X10_175 : ec_cx cl_X10 175 = some (100000) := rfl
theorem ce_X10_176 : ec_cx cl_X10 176 = some (1000000) := rfl
theorem ce_X10_298 : ec_cx cl_X10 298 = some (10000000) := rfl
def sl_X10 : Nat → Option Nat := ec_no
theorem so_X10 : ∀ (ix j : Nat), sl_X10 ix = some j → ∃ C n dd, (C, n, dd, j) ∈ ec_zs ∧ Cond.fieldLink RX10 ix C n dd ∈ ec_tb := by
  intro ix j h
  cases h
def ll_X10 : Nat → Option Int64 := fun ix => if ix = 235 then some 1000 else none
theorem lo_X10 : ∀ (ix : Nat) (v : Int64), ll_X10 ix = some v → Cond.constantLong RX10 ix v ∈ ec_tb := by
  intro ix v h
  unfold ll_X10 at h
  split at h
  · rename_i hx
    subst hx
    cases h
    exact ec_ins (ws := [Cond.constantLong RX10 235 1000]) (by decide +kernel) _ List.mem_cons_self
  · cases h
end
section
theorem cw_X9_copy : ec_cw yX9_copy cX9_copy 2 none := ⟨ec_in (i := 874) (by decide +kernel) rfl, ec_in (i := 58) (by decide +kernel) rfl, by decide, by decide⟩
theorem cv_X9_copy : Cond.static yX9_copy ∈ ec_tb := ec_in (i := 873) (by decide +kernel) rfl
def cx_X9_copy : ex_K := (RX9, ec_fx fl_X9, ec_cx cl_X9, sl_X9, ec_no, al_X9, ec_no)
theorem ok_X9_copy (l : Launch) : ex_ok l 1 26 cx_X9_copy := ⟨ec_fok fo_X9, ec_cok co_X9, so_X9, fun _ _ _ _ h => (by cases h), am_X9 (by decide) (by decide), ax_X9, ao_X9 (by decide) (by decide), fun _ _ h => (by cases h)⟩
def sp_X9_copy : ex_S := ex_sp cx_X9_copy cX9_copy 2 none 12
theorem mt_X9_copy (l : Launch) : ex_Met l yX9_copy cX9_copy 2 none 1 26 sp_X9_copy := ex_inl (by decide) rfl (ok_X9_copy l)
theorem cw_X9_copyFlags : ec_cw yX9_copyFlags cX9_copyFlags 3 none := ⟨ec_in (i := 881) (by decide +kernel) rfl, ec_in (i := 58) (by decide +kernel) rfl, by decide, by decide⟩
theorem cv_X9_copyFlags : Cond.static yX9_copyFlags ∈ ec_tb := ec_in (i := 880) (by decide +kernel) rfl
def cx_X9_copyFlags : ex_K := (RX9, ec_fx fl_X9, ec_cx cl_X9, sl_X9, ec_no, ec_nz, ec_no)
theorem ok_X9_copyFlags (l : Launch) : ex_ok l 0 0 cx_X9_copyFlags := ⟨ec_fok fo_X9, ec_cok co_X9, so_X9, fun _ _ _ _ h => (by cases h), fun _ h => (by cases h), fun _ h => (by cases h), fun _ h => (by cases h), fun _ _ h => (by cases h)⟩
def sp_X9_copyFlags : ex_S := ex_sp cx_X9_copyFlags cX9_copyFlags 3 none 400
theorem mt_X9_copyFlags (l : Launch) : ex_Met l yX9_copyFlags cX9_copyFlags 3 none 0 0 sp_X9_copyFlags := ex_inl (by decide) rfl (ok_X9_copyFlags l)
theorem cw_X0_becomeLike : ec_cw yX0_becomeLike cX0_becomeLike 2 none := ⟨ec_in (i := 871) (by decide +kernel) rfl, ec_in (i := 61) (by decide +kernel) rfl, by decide, by decide⟩
theorem cv_X0_becomeLike : Cond.instanceMethod yX0_becomeLike ∈ ec_tb ∧ Cond.selects yX0_becomeLike.cls yX0_becomeLike yX0_becomeLike ∈ ec_tb := ⟨ec_in (i := 869) (by decide +kernel) rfl, ec_in (i := 870) (by decide +kernel) rfl⟩
def ca_X0_becomeLike : Nat → Option (Nat × Option Nat × ex_S) := fun ix => match ix with
  | 31 => some (2, none, sp_X9_copy)
  | 35 => some (2, none, sp_X9_copyFlags)
  | _ => none
theorem ck_X0_becomeLike (l : Launch) : ∀ (ix n : Nat) (rc : Option Nat) (sp : ex_S), ca_X0_becomeLike ix = some (n, rc, sp) → ex_cok l RX0 2 47 ix n rc sp := by
  intro ix n rc sp h
  unfold ca_X0_becomeLike at h
  split at h
  · cases h; exact ec_cS (mt_X9_copy l) cw_X9_copy cv_X9_copy (by decide) (by decide) (Or.inr ⟨"TinStation", by decide +kernel⟩) (by decide +kernel)
  · cases h; exact ec_cS (mt_X9_copyFlags l) cw_X9_copyFlags cv_X9_copyFlags (by decide) (by decide) (Or.inr ⟨"TinStation", by decide +kernel⟩) (by decide +kernel)
  · cases h
def cx_X0_becomeLike : ex_K := (RX0, ec_fx fl_X0, ec_cx cl_X0, sl_X0, ca_X0_becomeLike, ec_nz, ec_no)
theorem ok_X0_becomeLike (l : Launch) : ex_ok l 2 47 cx_X0_becomeLike := ⟨ec_fok fo_X0, ec_cok co_X0, so_X0, ck_X0_becomeLike l, fun _ h => (by cases h), fun _ h => (by cases h), fun _ h => (by cases h), fun _ _ h => (by cases h)⟩
def sp_X0_becomeLike : ex_S := ex_sp cx_X0_becomeLike cX0_becomeLike 2 none 40
theorem mt_X0_becomeLike (l : Launch) : ex_Met l yX0_becomeLike cX0_becomeLike 2 none 2 47 sp_X0_becomeLike := ex_inl (by decide) rfl (ok_X0_becomeLike l)
theorem cw_X0_isSort : ec_cw yX0_isSort cX0_isSort 1 (some .boolean) := ⟨ec_in (i := 471) (by decide +kernel) rfl, ec_in (i := 61) (by decide +kernel) rfl, by decide, by decide⟩
theorem cv_X0_isSort : Cond.static yX0_isSort ∈ ec_tb := ec_in (i := 470) (by decide +kernel) rfl
def cx_X0_isSort : ex_K := (RX0, ec_fx fl_X0, ec_cx cl_X0, sl_X0, ec_no, ec_nz, ec_no)
theorem ok_X0_isSort (l : Launch) : ex_ok l 0 0 cx_X0_isSort := ⟨ec_fok fo_X0, ec_cok co_X0, so_X0, fun _ _ _ _ h => (by cases h), fun _ h => (by cases h), fun _ h => (by cases h), fun _ h => (by cases h), fun _ _ h => (by cases h)⟩
def sp_X0_isSort : ex_S := ex_sp cx_X0_isSort cX0_isSort 1 (some .boolean) 10
theorem mt_X0_isSort (l : Launch) : ex_Met l yX0_isSort cX0_isSort 1 (some .boolean) 0 0 sp_X0_isSort := ex_inl (by decide) rfl (ok_X0_isSort l)
theorem cw_X0_hasModule : ec_cw yX0_hasModule cX0_hasModule 2 (some .boolean) := ⟨ec_in (i := 441) (by decide +kernel) rfl, ec_in (i := 61) (by decide +kernel) rfl, by decide, by decide⟩
theorem cv_X0_hasModule : Cond.instanceMethod yX0_hasModule ∈ ec_tb ∧ Cond.selects yX0_hasModule.cls yX0_hasModule yX0_hasModule ∈ ec_tb := ⟨ec_in (i := 439) (by decide +kernel) rfl, ec_in (i := 440) (by decide +kernel) rfl⟩
def cx_X0_hasModule : ex_K := (RX0, ec_fx fl_X0, ec_cx cl_X0, sl_X0, ec_no, ec_nz, ec_no)
theorem ok_X0_hasModule (l : Launch) : ex_ok l 0 0 cx_X0_hasModule := ⟨ec_fok fo_X0, ec_cok co_X0, so_X0, fun _ _ _ _ h => (by cases h), fun _ h => (by cases h), fun _ h => (by cases h), fun _ h => (by cases h), fun _ _ h => (by cases h)⟩
def sp_X0_hasModule : ex_S := ex_sp cx_X0_hasModule cX0_hasModule 2 (some .boolean) 11
theorem mt_X0_hasModule (l : Launch) : ex_Met l yX0_hasModule cX0_hasModule 2 (some .boolean) 0 0 sp_X0_hasModule := ex_inl (by decide) rfl (ok_X0_hasModule l)
theorem cw_X0_hasHatch : ec_cw yX0_hasHatch cX0_hasHatch 2 (some .boolean) := ⟨ec_in (i := 454) (by decide +kernel) rfl, ec_in (i := 61) (by decide +kernel) rfl, by decide, by decide⟩
theorem cv_X0_hasHatch : Cond.instanceMethod yX0_hasHatch ∈ ec_tb ∧ Cond.selects yX0_hasHatch.cls yX0_hasHatch yX0_hasHatch ∈ ec_tb := ⟨ec_in (i := 452) (by decide +kernel) rfl, ec_in (i := 453) (by decide +kernel) rfl⟩
def cx_X0_hasHatch : ex_K := (RX0, ec_fx fl_X0, ec_cx cl_X0, sl_X0, ec_no, ec_nz, ec_no)
theorem ok_X0_hasHatch (l : Launch) : ex_ok l 0 0 cx_X0_hasHatch := ⟨ec_fok fo_X0, ec_cok co_X0, so_X0, fun _ _ _ _ h => (by cases h), fun _ h => (by cases h), fun _ h => (by cases h), fun _ h => (by cases h), fun _ _ h => (by cases h)⟩
def sp_X0_hasHatch : ex_S := ex_sp cx_X0_hasHatch cX0_hasHatch 2 (some .boolean) 11
theorem mt_X0_hasHatch (l : Launch) : ex_Met l yX0_hasHatch cX0_hasHatch 2 (some .boolean) 0 0 sp_X0_hasHatch := ex_inl (by decide) rfl (ok_X0_hasHatch l)
theorem cw_X0_addModule : ec_cw yX0_addModule cX0_addModule 1 (some .int) := ⟨ec_in (i := 422) (by decide +kernel) rfl, ec_in (i := 61) (by decide +kernel) rfl, by decide, by decide⟩
theorem cv_X0_addModule : Cond.instanceMethod yX0_addModule ∈ ec_tb ∧ Cond.selects yX0_addModule.cls yX0_addModule yX0_addModule ∈ ec_tb := ⟨ec_in (i := 420) (by decide +kernel) rfl, ec_in (i := 421) (by decide +kernel) rfl⟩
def cx_X0_addModule : ex_K := (RX0, ec_fx fl_X0, ec_cx cl_X0, sl_X0, ec_no, ec_nz, ec_no)
theorem ok_X0_addModule (l : Launch) : ex_ok l 0 0 cx_X0_addModule := ⟨ec_fok fo_X0, ec_cok co_X0, so_X0, fun _ _ _ _ h => (by cases h), fun _ h => (by cases h), fun _ h => (by cases h), fun _ h => (by cases h), fun _ _ h => (by cases h)⟩
def sp_X0_addModule : ex_S := ex_sp cx_X0_addModule cX0_addModule 1 (some .int) 18
theorem mt_X0_addModule (l : Launch) : ex_Met l yX0_addModule cX0_addModule 1 (some .int) 0 0 sp_X0_addModule := ex_inl (by decide) rfl (ok_X0_addModule l)
theorem cw_X0_addHatch : ec_cw yX0_addHatch cX0_addHatch 3 (some .int) := ⟨ec_in (i := 437) (by decide +kernel) rfl, ec_in (i := 61) (by decide +kernel) rfl, by decide, by decide⟩
theorem cv_X0_addHatch : Cond.instanceMethod yX0_addHatch ∈ ec_tb ∧ Cond.selects yX0_addHatch.cls yX0_addHatch yX0_addHatch ∈ ec_tb := ⟨ec_in (i := 435) (by decide +kernel) rfl, ec_in (i := 436) (by decide +kernel) rfl⟩
def ca_X0_addHatch : Nat → Option (Nat × Option Nat × ex_S) := fun ix => match ix with
  | 47 => some (2, some 0, sp_X0_hasModule)
  | _ => none
theorem ck_X0_addHatch (l : Launch) : ∀ (ix n : Nat) (rc : Option Nat) (sp : ex_S), ca_X0_addHatch ix = some (n, rc, sp) → ex_cok l RX0 1 21 ix n rc sp := by
  intro ix n rc sp h
  unfold ca_X0_addHatch at h
  split at h
  · cases h; exact ec_cV (mt_X0_hasModule l) cw_X0_hasModule cv_X0_hasModule (by decide) (by decide) (Or.inl (ec_in (i := 438) (by decide +kernel) rfl)) (T := TX0) (N := 8) rfl (by decide) (by decide +kernel)
  · cases h
def cx_X0_addHatch : ex_K := (RX0, ec_fx fl_X0, ec_cx cl_X0, sl_X0, ca_X0_addHatch, ec_nz, ec_no)
theorem ok_X0_addHatch (l : Launch) : ex_ok l 1 21 cx_X0_addHatch := ⟨ec_fok fo_X0, ec_cok co_X0, so_X0, ck_X0_addHatch l, fun _ h => (by cases h), fun _ h => (by cases h), fun _ h => (by cases h), fun _ _ h => (by cases h)⟩
def sp_X0_addHatch : ex_S := ex_sp cx_X0_addHatch cX0_addHatch 3 (some .int) 49
theorem mt_X0_addHatch (l : Launch) : ex_Met l yX0_addHatch cX0_addHatch 3 (some .int) 1 21 sp_X0_addHatch := ex_inl (by decide) rfl (ok_X0_addHatch l)
theorem cw_X9_isSwitch : ec_cw yX9_isSwitch cX9_isSwitch 1 (some .boolean) := ⟨ec_in (i := 457) (by decide +kernel) rfl, ec_in (i := 58) (by decide +kernel) rfl, by decide, by decide⟩
theorem cv_X9_isSwitch : Cond.static yX9_isSwitch ∈ ec_tb := ec_in (i := 456) (by decide +kernel) rfl
def cx_X9_isSwitch : ex_K := (RX9, ec_fx fl_X9, ec_cx cl_X9, sl_X9, ec_no, ec_nz, ec_no)
theorem ok_X9_isSwitch (l : Launch) : ex_ok l 0 0 cx_X9_isSwitch := ⟨ec_fok fo_X9, ec_cok co_X9, so_X9, fun _ _ _ _ h => (by cases h), fun _ h => (by cases h), fun _ h => (by cases h), fun _ h => (by cases h), fun _ _ h => (by cases h)⟩
def sp_X9_isSwitch : ex_S := ex_sp cx_X9_isSwitch cX9_isSwitch 1 (some .boolean) 10
theorem mt_X9_isSwitch (l : Launch) : ex_Met l yX9_isSwitch cX9_isSwitch 1 (some .boolean) 0 0 sp_X9_isSwitch := ex_inl (by decide) rfl (ok_X9_isSwitch l)
theorem cw_X9_one : ec_cw yX9_one cX9_one 1 (some .int) := ⟨ec_in (i := 460) (by decide +kernel) rfl, ec_in (i := 58) (by decide +kernel) rfl, by decide, by decide⟩
theorem cv_X9_one : Cond.static yX9_one ∈ ec_tb := ec_in (i := 459) (by decide +kernel) rfl
def cx_X9_one : ex_K := (RX9, ec_fx fl_X9, ec_cx cl_X9, sl_X9, ec_no, ec_nz, ec_no)
theorem ok_X9_one (l : Launch) : ex_ok l 0 0 cx_X9_one := ⟨ec_fok fo_X9, ec_cok co_X9, so_X9, fun _ _ _ _ h => (by cases h), fun _ h => (by cases h), fun _ h => (by cases h), fun _ h => (by cases h), fun _ _ h => (by cases h)⟩
def sp_X9_one : ex_S := ex_sp cx_X9_one cX9_one 1 (some .int) 7
theorem mt_X9_one (l : Launch) : ex_Met l yX9_one cX9_one 1 (some .int) 0 0 sp_X9_one := ex_inl (by decide) rfl (ok_X9_one l)
theorem cw_X0_setOpen : ec_cw yX0_setOpen cX0_setOpen 4 (some .int) := ⟨ec_in (i := 450) (by decide +kernel) rfl, ec_in (i := 61) (by decide +kernel) rfl, by decide, by decide⟩
theorem cv_X0_setOpen : Cond.instanceMethod yX0_setOpen ∈ ec_tb ∧ Cond.selects yX0_setOpen.cls yX0_setOpen yX0_setOpen ∈ ec_tb := ⟨ec_in (i := 448) (by decide +kernel) rfl, ec_in (i := 449) (by decide +kernel) rfl⟩
def ca_X0_setOpen : Nat → Option (Nat × Option Nat × ex_S) := fun ix => match ix with
  | 52 => some (2, some 0, sp_X0_hasHatch)
  | 55 => some (1, none, sp_X9_isSwitch)
  | 58 => some (1, none, sp_X9_one)
  | _ => none
theorem ck_X0_setOpen (l : Launch) : ∀ (ix n : Nat) (rc : Option Nat) (sp : ex_S), ca_X0_setOpen ix = some (n, rc, sp) → ex_cok l RX0 1 21 ix n rc sp := by
  intro ix n rc sp h
  unfold ca_X0_setOpen at h
  split at h
  · cases h; exact ec_cV (mt_X0_hasHatch l) cw_X0_hasHatch cv_X0_hasHatch (by decide) (by decide) (Or.inl (ec_in (i := 451) (by decide +kernel) rfl)) (T := TX0) (N := 8) rfl (by decide) (by decide +kernel)
  · cases h; exact ec_cS (mt_X9_isSwitch l) cw_X9_isSwitch cv_X9_isSwitch (by decide) (by decide) (Or.inr ⟨"TinStation", by decide +kernel⟩) (by decide +kernel)
  · cases h; exact ec_cS (mt_X9_one l) cw_X9_one cv_X9_one (by decide) (by decide) (Or.inr ⟨"TinStation", by decide +kernel⟩) (by decide +kernel)
  · cases h
def cx_X0_setOpen : ex_K := (RX0, ec_fx fl_X0, ec_cx cl_X0, sl_X0, ca_X0_setOpen, ec_nz, ec_no)
theorem ok_X0_setOpen (l : Launch) : ex_ok l 1 21 cx_X0_setOpen := ⟨ec_fok fo_X0, ec_cok co_X0, so_X0, ck_X0_setOpen l, fun _ h => (by cases h), fun _ h => (by cases h), fun _ h => (by cases h), fun _ _ h => (by cases h)⟩
def sp_X0_setOpen : ex_S := ex_sp cx_X0_setOpen cX0_setOpen 4 (some .int) 28
theorem mt_X0_setOpen (l : Launch) : ex_Met l yX0_setOpen cX0_setOpen 4 (some .int) 1 21 sp_X0_setOpen := ex_inl (by decide) rfl (ok_X0_setOpen l)
theorem cw_X0_setHeld : ec_cw yX0_setHeld cX0_setHeld 5 (some .int) := ⟨ec_in (i := 468) (by decide +kernel) rfl, ec_in (i := 61) (by decide +kernel) rfl, by decide, by decide⟩
theorem cv_X0_setHeld : Cond.instanceMethod yX0_setHeld ∈ ec_tb ∧ Cond.selects yX0_setHeld.cls yX0_setHeld yX0_setHeld ∈ ec_tb := ⟨ec_in (i := 466) (by decide +kernel) rfl, ec_in (i := 467) (by decide +kernel) rfl⟩
def ca_X0_setHeld : Nat → Option (Nat × Option Nat × ex_S) := fun ix => match ix with
  | 47 => some (2, some 0, sp_X0_hasModule)
  | 62 => some (1, none, sp_X0_isSort)
  | _ => none
theorem ck_X0_setHeld (l : Launch) : ∀ (ix n : Nat) (rc : Option Nat) (sp : ex_S), ca_X0_setHeld ix = some (n, rc, sp) → ex_cok l RX0 1 21 ix n rc sp := by
  intro ix n rc sp h
  unfold ca_X0_setHeld at h
  split at h
  · cases h; exact ec_cV (mt_X0_hasModule l) cw_X0_hasModule cv_X0_hasModule (by decide) (by decide) (Or.inl (ec_in (i := 438) (by decide +kernel) rfl)) (T := TX0) (N := 8) rfl (by decide) (by decide +kernel)
  · cases h; exact ec_cS (mt_X0_isSort l) cw_X0_isSort cv_X0_isSort (by decide) (by decide) (Or.inl (ec_in (i := 469) (by decide +kernel) rfl)) (by decide +kernel)
  · cases h
def cx_X0_setHeld : ex_K := (RX0, ec_fx fl_X0, ec_cx cl_X0, sl_X0, ca_X0_setHeld, ec_nz, ec_no)
theorem ok_X0_setHeld (l : Launch) : ex_ok l 1 21 cx_X0_setHeld := ⟨ec_fok fo_X0, ec_cok co_X0, so_X0, ck_X0_setHeld l, fun _ h => (by cases h), fun _ h => (by cases h), fun _ h => (by cases h), fun _ _ h => (by cases h)⟩
def sp_X0_setHeld : ex_S := ex_sp cx_X0_setHeld cX0_setHeld 5 (some .int) 39
theorem mt_X0_setHeld (l : Launch) : ex_Met l yX0_setHeld cX0_setHeld 5 (some .int) 1 21 sp_X0_setHeld := ex_inl (by decide) rfl (ok_X0_setHeld l)
theorem cw_X0_setLeak : ec_cw yX0_setLeak cX0_setLeak 4 (some .int) := ⟨ec_in (i := 480) (by decide +kernel) rfl, ec_in (i := 61) (by decide +kernel) rfl, by decide, by decide⟩
theorem cv_X0_setLeak : Cond.instanceMethod yX0_setLeak ∈ ec_tb ∧ Cond.selects yX0_setLeak.cls yX0_setLeak yX0_setLeak ∈ ec_tb := ⟨ec_in (i := 478) (by decide +kernel) rfl, ec_in (i := 479) (by decide +kernel) rfl⟩
def ca_X0_setLeak : Nat → Option (Nat × Option Nat × ex_S) := fun ix => match ix with
  | 47 => some (2, some 0, sp_X0_hasModule)
  | _ => none
theorem ck_X0_setLeak (l : Launch) : ∀ (ix n : Nat) (rc : Option Nat) (sp : ex_S), ca_X0_setLeak ix = some (n, rc, sp) → ex_cok l RX0 1 21 ix n rc sp := by
  intro ix n rc sp h
  unfold ca_X0_setLeak at h
  split at h
  · cases h; exact ec_cV (mt_X0_hasModule l) cw_X0_hasModule cv_X0_hasModule (by decide) (by decide) (Or.inl (ec_in (i := 438) (by decide +kernel) rfl)) (T := TX0) (N := 8) rfl (by decide) (by decide +kernel)
  · cases h
def cx_X0_setLeak : ex_K := (RX0, ec_fx fl_X0, ec_cx cl_X0, sl_X0, ca_X0_setLeak, ec_nz, ec_no)
theorem ok_X0_setLeak (l : Launch) : ex_ok l 1 21 cx_X0_setLeak := ⟨ec_fok fo_X0, ec_cok co_X0, so_X0, ck_X0_setLeak l, fun _ h => (by cases h), fun _ h => (by cases h), fun _ h => (by cases h), fun _ _ h => (by cases h)⟩
def sp_X0_setLeak : ex_S := ex_sp cx_X0_setLeak cX0_setLeak 4 (some .int) 24
theorem mt_X0_setLeak (l : Launch) : ex_Met l yX0_setLeak cX0_setLeak 4 (some .int) 1 21 sp_X0_setLeak := ex_inl (by decide) rfl (ok_X0_setLeak l)
theorem cw_X0_setStored : ec_cw yX0_setStored cX0_setStored 4 (some .int) := ⟨ec_in (i := 488) (by decide +kernel) rfl, ec_in (i := 61) (by decide +kernel) rfl, by decide, by decide⟩
theorem cv_X0_setStored : Cond.instanceMethod yX0_setStored ∈ ec_tb ∧ Cond.selects yX0_setStored.cls yX0_setStored yX0_setStored ∈ ec_tb := ⟨ec_in (i := 486) (by decide +kernel) rfl, ec_in (i := 487) (by decide +kernel) rfl⟩
def cx_X0_setStored : ex_K := (RX0, ec_fx fl_X0, ec_cx cl_X0, sl_X0, ec_no, ec_nz, ec_no)
theorem ok_X0_setStored (l : Launch) : ex_ok l 0 0 cx_X0_setStored := ⟨ec_fok fo_X0, ec_cok co_X0, so_X0, fun _ _ _ _ h => (by cases h), fun _ h => (by cases h), fun _ h => (by cases h), fun _ h => (by cases h), fun _ _ h => (by cases h)⟩
def sp_X0_setStored : ex_S := ex_sp cx_X0_setStored cX0_setStored 4 (some .int) 29
theorem mt_X0_setStored (l : Launch) : ex_Met l yX0_setStored cX0_setStored 4 (some .int) 0 0 sp_X0_setStored := ex_inl (by decide) rfl (ok_X0_setStored l)
theorem cw_X0_allGrams : ec_cw yX0_allGrams cX0_allGrams 4 (some .int) := ⟨ec_in (i := 497) (by decide +kernel) rfl, ec_in (i := 61) (by decide +kernel) rfl, by decide, by decide⟩
theorem cv_X0_allGrams : Cond.instanceMethod yX0_allGrams ∈ ec_tb ∧ Cond.selects yX0_allGrams.cls yX0_allGrams yX0_allGrams ∈ ec_tb := ⟨ec_in (i := 495) (by decide +kernel) rfl, ec_in (i := 496) (by decide +kernel) rfl⟩
def cx_X0_allGrams : ex_K := (RX0, ec_fx fl_X0, ec_cx cl_X0, sl_X0, ec_no, ec_nz, ec_no)
theorem ok_X0_allGrams (l : Launch) : ex_ok l 0 0 cx_X0_allGrams := ⟨ec_fok fo_X0, ec_cok co_X0, so_X0, fun _ _ _ _ h => (by cases h), fun _ h => (by cases h), fun _ h => (by cases h), fun _ h => (by cases h), fun _ _ h => (by cases h)⟩
def sp_X0_allGrams : ex_S := ex_sp cx_X0_allGrams cX0_allGrams 4 (some .int) 400
theorem mt_X0_allGrams (l : Launch) : ex_Met l yX0_allGrams cX0_allGrams 4 (some .int) 0 0 sp_X0_allGrams := ex_inl (by decide) rfl (ok_X0_allGrams l)
theorem cw_X0_amount : ec_cw yX0_amount cX0_amount 3 (some .int) := ⟨ec_in (i := 734) (by decide +kernel) rfl, ec_in (i := 61) (by decide +kernel) rfl, by decide, by decide⟩
theorem cv_X0_amount : Cond.instanceMethod yX0_amount ∈ ec_tb ∧ Cond.selects yX0_amount.cls yX0_amount yX0_amount ∈ ec_tb := ⟨ec_in (i := 732) (by decide +kernel) rfl, ec_in (i := 733) (by decide +kernel) rfl⟩
def cx_X0_amount : ex_K := (RX0, ec_fx fl_X0, ec_cx cl_X0, sl_X0, ec_no, ec_nz, ec_no)
theorem ok_X0_amount (l : Launch) : ex_ok l 0 0 cx_X0_amount := ⟨ec_fok fo_X0, ec_cok co_X0, so_X0, fun _ _ _ _ h => (by cases h), fun _ h => (by cases h), fun _ h => (by cases h), fun _ h => (by cases h), fun _ _ h => (by cases h)⟩
def sp_X0_amount : ex_S := ex_sp cx_X0_amount cX0_amount 3 (some .int) 10
theorem mt_X0_amount (l : Launch) : ex_Met l yX0_amount cX0_amount 3 (some .int) 0 0 sp_X0_amount := ex_inl (by decide) rfl (ok_X0_amount l)
theorem cw_X0_give : ec_cw yX0_give cX0_give 4 none := ⟨ec_in (i := 793) (by decide +kernel) rfl, ec_in (i := 61) (by decide +kernel) rfl, by decide, by decide⟩
theorem cv_X0_give : Cond.instanceMethod yX0_give ∈ ec_tb ∧ Cond.selects yX0_give.cls yX0_give yX0_give ∈ ec_tb := ⟨ec_in (i := 791) (by decide +kernel) rfl, ec_in (i := 792) (by decide +kernel) rfl⟩
def cx_X0_give : ex_K := (RX0, ec_fx fl_X0, ec_cx cl_X0, sl_X0, ec_no, ec_nz, ec_no)
theorem ok_X0_give (l : Launch) : ex_ok l 0 0 cx_X0_give := ⟨ec_fok fo_X0, ec_cok co_X0, so_X0, fun _ _ _ _ h => (by cases h), fun _ h => (by cases h), fun _ h => (by cases h), fun _ h => (by cases h), fun _ _ h => (by cases h)⟩
def sp_X0_give : ex_S := ex_sp cx_X0_give cX0_give 4 none 14
theorem mt_X0_give (l : Launch) : ex_Met l yX0_give cX0_give 4 none 0 0 sp_X0_give := ex_inl (by decide) rfl (ok_X0_give l)
theorem cw_X0_take : ec_cw yX0_take cX0_take 5 (some .int) := ⟨ec_in (i := 776) (by decide +kernel) rfl, ec_in (i := 61) (by decide +kernel) rfl, by decide, by decide⟩
theorem cv_X0_take : Cond.instanceMethod yX0_take ∈ ec_tb ∧ Cond.selects yX0_take.cls yX0_take yX0_take ∈ ec_tb := ⟨ec_in (i := 774) (by decide +kernel) rfl, ec_in (i := 775) (by decide +kernel) rfl⟩
def cx_X0_take : ex_K := (RX0, ec_fx fl_X0, ec_cx cl_X0, sl_X0, ec_no, al_X0, ec_no)
theorem ok_X0_take (l : Launch) : ex_ok l 1 21 cx_X0_take := ⟨ec_fok fo_X0, ec_cok co_X0, so_X0, fun _ _ _ _ h => (by cases h), am_X0 (by decide) (by decide), ax_X0, ao_X0, fun _ _ h => (by cases h)⟩
def sp_X0_take : ex_S := ex_sp cx_X0_take cX0_take 5 (some .int) 26
theorem mt_X0_take (l : Launch) : ex_Met l yX0_take cX0_take 5 (some .int) 1 21 sp_X0_take := ex_inl (by decide) rfl (ok_X0_take l)
theorem cw_X0_fill : ec_cw yX0_fill cX0_fill 3 none := ⟨ec_in (i := 781) (by decide +kernel) rfl, ec_in (i := 61) (by decide +kernel) rfl, by decide, by decide⟩
theorem cv_X0_fill : Cond.instanceMethod yX0_fill ∈ ec_tb ∧ Cond.selects yX0_fill.cls yX0_fill yX0_fill ∈ ec_tb := ⟨ec_in (i := 779) (by decide +kernel) rfl, ec_in (i := 780) (by decide +kernel) rfl⟩
def cx_X0_fill : ex_K := (RX0, ec_fx fl_X0, ec_cx cl_X0, sl_X0, ec_no, ec_nz, ec_no)
theorem ok_X0_fill (l : Launch) : ex_ok l 0 0 cx_X0_fill := ⟨ec_fok fo_X0, ec_cok co_X0, so_X0, fun _ _ _ _ h => (by cases h), fun _ h => (by cases h), fun _ h => (by cases h), fun _ h => (by cases h), fun _ _ h => (by cases h)⟩
def sp_X0_fill : ex_S := ex_sp cx_X0_fill cX0_fill 3 none 10
theorem mt_X0_fill (l : Launch) : ex_Met l yX0_fill cX0_fill 3 none 0 0 sp_X0_fill := ex_inl (by decide) rfl (ok_X0_fill l)
theorem cw_X0_draw : ec_cw yX0_draw cX0_draw 4 (some .int) := ⟨ec_in (i := 789) (by decide +kernel) rfl, ec_in (i := 61) (by decide +kernel) rfl, by decide, by decide⟩
theorem cv_X0_draw : Cond.instanceMethod yX0_draw ∈ ec_tb ∧ Cond.selects yX0_draw.cls yX0_draw yX0_draw ∈ ec_tb := ⟨ec_in (i := 787) (by decide +kernel) rfl, ec_in (i := 788) (by decide +kernel) rfl⟩
def cx_X0_draw : ex_K := (RX0, ec_fx fl_X0, ec_cx cl_X0, sl_X0, ec_no, al_X0, ec_no)
theorem ok_X0_draw (l : Launch) : ex_ok l 1 21 cx_X0_draw := ⟨ec_fok fo_X0, ec_cok co_X0, so_X0, fun _ _ _ _ h => (by cases h), am_X0 (by decide) (by decide), ax_X0, ao_X0, fun _ _ h => (by cases h)⟩
def sp_X0_draw : ex_S := ex_sp cx_X0_draw cX0_draw 4 (some .int) 18
theorem mt_X0_draw (l : Launch) : ex_Met l yX0_draw cX0_draw 4 (some .int) 1 21 sp_X0_draw := ex_inl (by decide) rfl (ok_X0_draw l)
theorem cw_X0_openBetween : ec_cw yX0_openBetween cX0_openBetween 5 (some .boolean) := ⟨ec_in (i := 530) (by decide +kernel) rfl, ec_in (i := 61) (by decide +kernel) rfl, by decide, by decide⟩
theorem cv_X0_openBetween : Cond.instanceMethod yX0_openBetween ∈ ec_tb ∧ Cond.selects yX0_openBetween.cls yX0_openBetween yX0_openBetween ∈ ec_tb := ⟨ec_in (i := 528) (by decide +kernel) rfl, ec_in (i := 529) (by decide +kernel) rfl⟩
def cx_X0_openBetween : ex_K := (RX0, ec_fx fl_X0, ec_cx cl_X0, sl_X0, ec_no, ec_nz, ec_no)
theorem ok_X0_openBetween (l : Launch) : ex_ok l 0 0 cx_X0_openBetween := ⟨ec_fok fo_X0, ec_cok co_X0, so_X0, fun _ _ _ _ h => (by cases h), fun _ h => (by cases h), fun _ h => (by cases h), fun _ h => (by cases h), fun _ _ h => (by cases h)⟩
def sp_X0_openBetween : ex_S := ex_sp cx_X0_openBetween cX0_openBetween 5 (some .boolean) 400
theorem mt_X0_openBetween (l : Launch) : ex_Met l yX0_openBetween cX0_openBetween 5 (some .boolean) 0 0 sp_X0_openBetween := ex_inl (by decide) rfl (ok_X0_openBetween l)
theorem cw_X0_leakOut : ec_cw yX0_leakOut cX0_leakOut 4 none := ⟨ec_in (i := 822) (by decide +kernel) rfl, ec_in (i := 61) (by decide +kernel) rfl, by decide, by decide⟩
theorem cv_X0_leakOut : Cond.instanceMethod yX0_leakOut ∈ ec_tb ∧ Cond.selects yX0_leakOut.cls yX0_leakOut yX0_leakOut ∈ ec_tb := ⟨ec_in (i := 820) (by decide +kernel) rfl, ec_in (i := 821) (by decide +kernel) rfl⟩
def ca_X0_leakOut : Nat → Option (Nat × Option Nat × ex_S) := fun ix => match ix with
  | 73 => some (3, some 0, sp_X0_amount)
  | 76 => some (4, some 0, sp_X0_give)
  | 80 => some (3, some 0, sp_X0_fill)
  | _ => none
theorem ck_X0_leakOut (l : Launch) : ∀ (ix n : Nat) (rc : Option Nat) (sp : ex_S), ca_X0_leakOut ix = some (n, rc, sp) → ex_cok l RX0 1 23 ix n rc sp := by
  intro ix n rc sp h
  unfold ca_X0_leakOut at h
  split at h
  · cases h; exact ec_cV (mt_X0_amount l) cw_X0_amount cv_X0_amount (by decide) (by decide) (Or.inl (ec_in (i := 823) (by decide +kernel) rfl)) (T := TX0) (N := 8) rfl (by decide) (by decide +kernel)
  · cases h; exact ec_cV (mt_X0_give l) cw_X0_give cv_X0_give (by decide) (by decide) (Or.inl (ec_in (i := 824) (by decide +kernel) rfl)) (T := TX0) (N := 8) rfl (by decide) (by decide +kernel)
  · cases h; exact ec_cV (mt_X0_fill l) cw_X0_fill cv_X0_fill (by decide) (by decide) (Or.inl (ec_in (i := 825) (by decide +kernel) rfl)) (T := TX0) (N := 8) rfl (by decide) (by decide +kernel)
  · cases h
def cx_X0_leakOut : ex_K := (RX0, ec_fx fl_X0, ec_cx cl_X0, sl_X0, ca_X0_leakOut, ec_nz, ec_no)
theorem ok_X0_leakOut (l : Launch) : ex_ok l 1 23 cx_X0_leakOut := ⟨ec_fok fo_X0, ec_cok co_X0, so_X0, ck_X0_leakOut l, fun _ h => (by cases h), fun _ h => (by cases h), fun _ h => (by cases h), fun _ _ h => (by cases h)⟩
def sp_X0_leakOut : ex_S := ex_sp cx_X0_leakOut cX0_leakOut 4 none 400
theorem mt_X0_leakOut (l : Launch) : ex_Met l yX0_leakOut cX0_leakOut 4 none 1 23 sp_X0_leakOut := ex_inl (by decide) rfl (ok_X0_leakOut l)
theorem cw_X0_mix : ec_cw yX0_mix cX0_mix 5 none := ⟨ec_in (i := 833) (by decide +kernel) rfl, ec_in (i := 61) (by decide +kernel) rfl, by decide, by decide⟩
theorem cv_X0_mix : Cond.instanceMethod yX0_mix ∈ ec_tb ∧ Cond.selects yX0_mix.cls yX0_mix yX0_mix ∈ ec_tb := ⟨ec_in (i := 832) (by decide +kernel) rfl, ec_in (i := 16) (by decide +kernel) rfl⟩
def ca_X0_mix : Nat → Option (Nat × Option Nat × ex_S) := fun ix => match ix with
  | 73 => some (3, some 0, sp_X0_amount)
  | 76 => some (4, some 0, sp_X0_give)
  | _ => none
theorem ck_X0_mix (l : Launch) : ∀ (ix n : Nat) (rc : Option Nat) (sp : ex_S), ca_X0_mix ix = some (n, rc, sp) → ex_cok l RX0 1 23 ix n rc sp := by
  intro ix n rc sp h
  unfold ca_X0_mix at h
  split at h
  · cases h; exact ec_cV (mt_X0_amount l) cw_X0_amount cv_X0_amount (by decide) (by decide) (Or.inl (ec_in (i := 823) (by decide +kernel) rfl)) (T := TX0) (N := 8) rfl (by decide) (by decide +kernel)
  · cases h; exact ec_cV (mt_X0_give l) cw_X0_give cv_X0_give (by decide) (by decide) (Or.inl (ec_in (i := 824) (by decide +kernel) rfl)) (T := TX0) (N := 8) rfl (by decide) (by decide +kernel)
  · cases h
def cx_X0_mix : ex_K := (RX0, ec_fx fl_X0, ec_cx cl_X0, sl_X0, ca_X0_mix, ec_nz, ec_no)
theorem ok_X0_mix (l : Launch) : ex_ok l 1 23 cx_X0_mix := ⟨ec_fok fo_X0, ec_cok co_X0, so_X0, ck_X0_mix l, fun _ h => (by cases h), fun _ h => (by cases h), fun _ h => (by cases h), fun _ _ h => (by cases h)⟩
def sp_X0_mix : ex_S := ex_sp cx_X0_mix cX0_mix 5 none 400
theorem mt_X0_mix (l : Launch) : ex_Met l yX0_mix cX0_mix 5 none 1 23 sp_X0_mix := ex_inl (by decide) rfl (ok_X0_mix l)
theorem cw_X0_mixThroughHatches : ec_cw yX0_mixThroughHatches cX0_mixThroughHatches 2 none := ⟨ec_in (i := 829) (by decide +kernel) rfl, ec_in (i := 61) (by decide +kernel) rfl, by decide, by decide⟩
theorem cv_X0_mixThroughHatches : Cond.instanceMethod yX0_mixThroughHatches ∈ ec_tb ∧ Cond.selects yX0_mixThroughHatches.cls yX0_mixThroughHatches yX0_mixThroughHatches ∈ ec_tb := ⟨ec_in (i := 827) (by decide +kernel) rfl, ec_in (i := 828) (by decide +kernel) rfl⟩
def ca_X0_mixThroughHatches : Nat → Option (Nat × Option Nat × ex_S) := fun ix => match ix with
  | 84 => some (3, some 0, sp_X0_mix)
  | _ => none
theorem ck_X0_mixThroughHatches (l : Launch) : ∀ (ix n : Nat) (rc : Option Nat) (sp : ex_S), ca_X0_mixThroughHatches ix = some (n, rc, sp) → ex_cok l RX0 2 47 ix n rc sp := by
  intro ix n rc sp h
  unfold ca_X0_mixThroughHatches at h
  split at h
  · cases h; exact ec_cV (mt_X0_mix l) cw_X0_mix cv_X0_mix (by decide) (by decide) (Or.inl (ec_in (i := 830) (by decide +kernel) rfl)) (T := TX0) (N := 8) rfl (by decide) (by decide +kernel)
  · cases h
def cx_X0_mixThroughHatches : ex_K := (RX0, ec_fx fl_X0, ec_cx cl_X0, sl_X0, ca_X0_mixThroughHatches, ec_nz, ec_no)
theorem ok_X0_mixThroughHatches (l : Launch) : ex_ok l 2 47 cx_X0_mixThroughHatches := ⟨ec_fok fo_X0, ec_cok co_X0, so_X0, ck_X0_mixThroughHatches l, fun _ h => (by cases h), fun _ h => (by cases h), fun _ h => (by cases h), fun _ _ h => (by cases h)⟩
def sp_X0_mixThroughHatches : ex_S := ex_sp cx_X0_mixThroughHatches cX0_mixThroughHatches 2 none 400
theorem mt_X0_mixThroughHatches (l : Launch) : ex_Met l yX0_mixThroughHatches cX0_mixThroughHatches 2 none 2 47 sp_X0_mixThroughHatches := ex_inl (by decide) rfl (ok_X0_mixThroughHatches l)
theorem cw_X1_becomeLike : ec_cw yX1_becomeLike cX1_becomeLike 2 none := ⟨ec_in (i := 896) (by decide +kernel) rfl, ec_in (i := 64) (by decide +kernel) rfl, by decide, by decide⟩
theorem cv_X1_becomeLike : Cond.instanceMethod yX1_becomeLike ∈ ec_tb ∧ Cond.selects yX1_becomeLike.cls yX1_becomeLike yX1_becomeLike ∈ ec_tb := ⟨ec_in (i := 894) (by decide +kernel) rfl, ec_in (i := 895) (by decide +kernel) rfl⟩
def cx_X1_becomeLike : ex_K := (RX1, ec_fx fl_X1, ec_cx cl_X1, sl_X1, ec_no, ec_nz, ec_no)
theorem ok_X1_becomeLike (l : Launch) : ex_ok l 0 0 cx_X1_becomeLike := ⟨ec_fok fo_X1, ec_cok co_X1, so_X1, fun _ _ _ _ h => (by cases h), fun _ h => (by cases h), fun _ h => (by cases h), fun _ h => (by cases h), fun _ _ h => (by cases h)⟩
def sp_X1_becomeLike : ex_S := ex_sp cx_X1_becomeLike cX1_becomeLike 2 none 26
theorem mt_X1_becomeLike (l : Launch) : ex_Met l yX1_becomeLike cX1_becomeLike 2 none 0 0 sp_X1_becomeLike := ex_inl (by decide) rfl (ok_X1_becomeLike l)
theorem cw_X1_isBound : ec_cw yX1_isBound cX1_isBound 1 (some .boolean) := ⟨ec_in (i := 690) (by decide +kernel) rfl, ec_in (i := 64) (by decide +kernel) rfl, by decide, by decide⟩
theorem cv_X1_isBound : Cond.static yX1_isBound ∈ ec_tb := ec_in (i := 689) (by decide +kernel) rfl
def cx_X1_isBound : ex_K := (RX1, ec_fx fl_X1, ec_cx cl_X1, sl_X1, ec_no, ec_nz, ec_no)
theorem ok_X1_isBound (l : Launch) : ex_ok l 0 0 cx_X1_isBound := ⟨ec_fok fo_X1, ec_cok co_X1, so_X1, fun _ _ _ _ h => (by cases h), fun _ h => (by cases h), fun _ h => (by cases h), fun _ h => (by cases h), fun _ _ h => (by cases h)⟩
def sp_X1_isBound : ex_S := ex_sp cx_X1_isBound cX1_isBound 1 (some .boolean) 10
theorem mt_X1_isBound (l : Launch) : ex_Met l yX1_isBound cX1_isBound 1 (some .boolean) 0 0 sp_X1_isBound := ex_inl (by decide) rfl (ok_X1_isBound l)
theorem cw_X1_setAll : ec_cw yX1_setAll cX1_setAll 4 (some .int) := ⟨ec_in (i := 687) (by decide +kernel) rfl, ec_in (i := 64) (by decide +kernel) rfl, by decide, by decide⟩
theorem cv_X1_setAll : Cond.instanceMethod yX1_setAll ∈ ec_tb ∧ Cond.selects yX1_setAll.cls yX1_setAll yX1_setAll ∈ ec_tb := ⟨ec_in (i := 685) (by decide +kernel) rfl, ec_in (i := 686) (by decide +kernel) rfl⟩
def ca_X1_setAll : Nat → Option (Nat × Option Nat × ex_S) := fun ix => match ix with
  | 31 => some (1, none, sp_X1_isBound)
  | _ => none
theorem ck_X1_setAll (l : Launch) : ∀ (ix n : Nat) (rc : Option Nat) (sp : ex_S), ca_X1_setAll ix = some (n, rc, sp) → ex_cok l RX1 1 20 ix n rc sp := by
  intro ix n rc sp h
  unfold ca_X1_setAll at h
  split at h
  · cases h; exact ec_cS (mt_X1_isBound l) cw_X1_isBound cv_X1_isBound (by decide) (by decide) (Or.inl (ec_in (i := 688) (by decide +kernel) rfl)) (by decide +kernel)
  · cases h
def cx_X1_setAll : ex_K := (RX1, ec_fx fl_X1, ec_cx cl_X1, sl_X1, ca_X1_setAll, ec_nz, ec_no)
theorem ok_X1_setAll (l : Launch) : ex_ok l 1 20 cx_X1_setAll := ⟨ec_fok fo_X1, ec_cok co_X1, so_X1, ck_X1_setAll l, fun _ h => (by cases h), fun _ h => (by cases h), fun _ h => (by cases h), fun _ _ h => (by cases h)⟩
def sp_X1_setAll : ex_S := ex_sp cx_X1_setAll cX1_setAll 4 (some .int) 23
theorem mt_X1_setAll (l : Launch) : ex_Met l yX1_setAll cX1_setAll 4 (some .int) 1 20 sp_X1_setAll := ex_inl (by decide) rfl (ok_X1_setAll l)
theorem cw_X1_tellFirstBreak : ec_cw yX1_tellFirstBreak cX1_tellFirstBreak 2 (some .int) := ⟨ec_in (i := 858) (by decide +kernel) rfl, ec_in (i := 64) (by decide +kernel) rfl, by decide, by decide⟩
theorem cv_X1_tellFirstBreak : Cond.instanceMethod yX1_tellFirstBreak ∈ ec_tb ∧ Cond.selects yX1_tellFirstBreak.cls yX1_tellFirstBreak yX1_tellFirstBreak ∈ ec_tb := ⟨ec_in (i := 856) (by decide +kernel) rfl, ec_in (i := 857) (by decide +kernel) rfl⟩
def cx_X1_tellFirstBreak : ex_K := (RX1, ec_fx fl_X1, ec_cx cl_X1, sl_X1, ec_no, ec_nz, ec_no)
theorem ok_X1_tellFirstBreak (l : Launch) : ex_ok l 0 0 cx_X1_tellFirstBreak := ⟨ec_fok fo_X1, ec_cok co_X1, so_X1, fun _ _ _ _ h => (by cases h), fun _ h => (by cases h), fun _ h => (by cases h), fun _ h => (by cases h), fun _ _ h => (by cases h)⟩
def sp_X1_tellFirstBreak : ex_S := ex_sp cx_X1_tellFirstBreak cX1_tellFirstBreak 2 (some .int) 21
theorem mt_X1_tellFirstBreak (l : Launch) : ex_Met l yX1_tellFirstBreak cX1_tellFirstBreak 2 (some .int) 0 0 sp_X1_tellFirstBreak := ex_inl (by decide) rfl (ok_X1_tellFirstBreak l)
theorem cw_X3_anyoneIn : ec_cw yX3_anyoneIn cX3_anyoneIn 3 (some .boolean) := ⟨ec_in (i := 841) (by decide +kernel) rfl, ec_in (i := 62) (by decide +kernel) rfl, by decide, by decide⟩
theorem cv_X3_anyoneIn : Cond.instanceMethod yX3_anyoneIn ∈ ec_tb ∧ Cond.selects yX3_anyoneIn.cls yX3_anyoneIn yX3_anyoneIn ∈ ec_tb := ⟨ec_in (i := 839) (by decide +kernel) rfl, ec_in (i := 840) (by decide +kernel) rfl⟩
def cx_X3_anyoneIn : ex_K := (RX3, ec_fx fl_X3, ec_cx cl_X3, sl_X3, ec_no, ec_nz, ec_no)
theorem ok_X3_anyoneIn (l : Launch) : ex_ok l 0 0 cx_X3_anyoneIn := ⟨ec_fok fo_X3, ec_cok co_X3, so_X3, fun _ _ _ _ h => (by cases h), fun _ h => (by cases h), fun _ h => (by cases h), fun _ h => (by cases h), fun _ _ h => (by cases h)⟩
def sp_X3_anyoneIn : ex_S := ex_sp cx_X3_anyoneIn cX3_anyoneIn 3 (some .boolean) 400
theorem mt_X3_anyoneIn (l : Launch) : ex_Met l yX3_anyoneIn cX3_anyoneIn 3 (some .boolean) 0 0 sp_X3_anyoneIn := ex_inl (by decide) rfl (ok_X3_anyoneIn l)
theorem cw_X1_breaksIn : ec_cw yX1_breaksIn cX1_breaksIn 3 (some .boolean) := ⟨ec_in (i := 845) (by decide +kernel) rfl, ec_in (i := 64) (by decide +kernel) rfl, by decide, by decide⟩
theorem cv_X1_breaksIn : Cond.instanceMethod yX1_breaksIn ∈ ec_tb ∧ Cond.selects yX1_breaksIn.cls yX1_breaksIn yX1_breaksIn ∈ ec_tb := ⟨ec_in (i := 844) (by decide +kernel) rfl, ec_in (i := 17) (by decide +kernel) rfl⟩
def ca_X1_breaksIn : Nat → Option (Nat × Option Nat × ex_S) := fun ix => match ix with
  | 56 => some (3, some 0, sp_X0_amount)
  | _ => none
theorem ck_X1_breaksIn (l : Launch) : ∀ (ix n : Nat) (rc : Option Nat) (sp : ex_S), ca_X1_breaksIn ix = some (n, rc, sp) → ex_cok l RX1 1 22 ix n rc sp := by
  intro ix n rc sp h
  unfold ca_X1_breaksIn at h
  split at h
  · cases h; exact ec_cV (mt_X0_amount l) cw_X0_amount cv_X0_amount (by decide) (by decide) (Or.inl (ec_in (i := 846) (by decide +kernel) rfl)) (T := TX0) (N := 8) rfl (by decide) (by decide +kernel)
  · cases h
def cx_X1_breaksIn : ex_K := (RX1, ec_fx fl_X1, ec_cx cl_X1, sl_X1, ca_X1_breaksIn, ec_nz, ec_no)
theorem ok_X1_breaksIn (l : Launch) : ex_ok l 1 22 cx_X1_breaksIn := ⟨ec_fok fo_X1, ec_cok co_X1, so_X1, ck_X1_breaksIn l, fun _ h => (by cases h), fun _ h => (by cases h), fun _ h => (by cases h), fun _ _ h => (by cases h)⟩
def sp_X1_breaksIn : ex_S := ex_sp cx_X1_breaksIn cX1_breaksIn 3 (some .boolean) 26
theorem mt_X1_breaksIn (l : Launch) : ex_Met l yX1_breaksIn cX1_breaksIn 3 (some .boolean) 1 22 sp_X1_breaksIn := ex_inl (by decide) rfl (ok_X1_breaksIn l)
theorem cw_X1_keepFirst : ec_cw yX1_keepFirst cX1_keepFirst 3 none := ⟨ec_in (i := 850) (by decide +kernel) rfl, ec_in (i := 64) (by decide +kernel) rfl, by decide, by decide⟩
theorem cv_X1_keepFirst : Cond.instanceMethod yX1_keepFirst ∈ ec_tb ∧ Cond.selects yX1_keepFirst.cls yX1_keepFirst yX1_keepFirst ∈ ec_tb := ⟨ec_in (i := 849) (by decide +kernel) rfl, ec_in (i := 18) (by decide +kernel) rfl⟩
def cx_X1_keepFirst : ex_K := (RX1, ec_fx fl_X1, ec_cx cl_X1, sl_X1, ec_no, ec_nz, ec_no)
theorem ok_X1_keepFirst (l : Launch) : ex_ok l 0 0 cx_X1_keepFirst := ⟨ec_fok fo_X1, ec_cok co_X1, so_X1, fun _ _ _ _ h => (by cases h), fun _ h => (by cases h), fun _ h => (by cases h), fun _ h => (by cases h), fun _ _ h => (by cases h)⟩
def sp_X1_keepFirst : ex_S := ex_sp cx_X1_keepFirst cX1_keepFirst 3 none 14
theorem mt_X1_keepFirst (l : Launch) : ex_Met l yX1_keepFirst cX1_keepFirst 3 none 0 0 sp_X1_keepFirst := ex_inl (by decide) rfl (ok_X1_keepFirst l)
theorem cw_X1_look : ec_cw yX1_look cX1_look 5 (some .boolean) := ⟨ec_in (i := 837) (by decide +kernel) rfl, ec_in (i := 64) (by decide +kernel) rfl, by decide, by decide⟩
theorem cv_X1_look : Cond.instanceMethod yX1_look ∈ ec_tb ∧ Cond.selects yX1_look.cls yX1_look yX1_look ∈ ec_tb := ⟨ec_in (i := 835) (by decide +kernel) rfl, ec_in (i := 836) (by decide +kernel) rfl⟩
def ca_X1_look : Nat → Option (Nat × Option Nat × ex_S) := fun ix => match ix with
  | 43 => some (2, some 3, sp_X3_anyoneIn)
  | 48 => some (3, some 1, sp_X1_breaksIn)
  | 52 => some (3, some 1, sp_X1_keepFirst)
  | _ => none
theorem ck_X1_look (l : Launch) : ∀ (ix n : Nat) (rc : Option Nat) (sp : ex_S), ca_X1_look ix = some (n, rc, sp) → ex_cok l RX1 2 44 ix n rc sp := by
  intro ix n rc sp h
  unfold ca_X1_look at h
  split at h
  · cases h; exact ec_cV (mt_X3_anyoneIn l) cw_X3_anyoneIn cv_X3_anyoneIn (by decide) (by decide) (Or.inl (ec_in (i := 838) (by decide +kernel) rfl)) (T := TX3) (N := 7) rfl (by decide) (by decide +kernel)
  · cases h; exact ec_cV (mt_X1_breaksIn l) cw_X1_breaksIn cv_X1_breaksIn (by decide) (by decide) (Or.inl (ec_in (i := 842) (by decide +kernel) rfl)) (T := TX1) (N := 6) rfl (by decide) (by decide +kernel)
  · cases h; exact ec_cV (mt_X1_keepFirst l) cw_X1_keepFirst cv_X1_keepFirst (by decide) (by decide) (Or.inl (ec_in (i := 847) (by decide +kernel) rfl)) (T := TX1) (N := 6) rfl (by decide) (by decide +kernel)
  · cases h
def cx_X1_look : ex_K := (RX1, ec_fx fl_X1, ec_cx cl_X1, sl_X1, ca_X1_look, ec_nz, ec_no)
theorem ok_X1_look (l : Launch) : ex_ok l 2 44 cx_X1_look := ⟨ec_fok fo_X1, ec_cok co_X1, so_X1, ck_X1_look l, fun _ h => (by cases h), fun _ h => (by cases h), fun _ h => (by cases h), fun _ _ h => (by cases h)⟩
def sp_X1_look : ex_S := ex_sp cx_X1_look cX1_look 5 (some .boolean) 400
theorem mt_X1_look (l : Launch) : ex_Met l yX1_look cX1_look 5 (some .boolean) 2 44 sp_X1_look := ex_inl (by decide) rfl (ok_X1_look l)
theorem cw_X2_becomeLike : ec_cw yX2_becomeLike cX2_becomeLike 2 none := ⟨ec_in (i := 900) (by decide +kernel) rfl, ec_in (i := 65) (by decide +kernel) rfl, by decide, by decide⟩
theorem cv_X2_becomeLike : Cond.instanceMethod yX2_becomeLike ∈ ec_tb ∧ Cond.selects yX2_becomeLike.cls yX2_becomeLike yX2_becomeLike ∈ ec_tb := ⟨ec_in (i := 898) (by decide +kernel) rfl, ec_in (i := 899) (by decide +kernel) rfl⟩
def cx_X2_becomeLike : ex_K := (RX2, ec_fx fl_X2, ec_cx cl_X2, sl_X2, ec_no, ec_nz, ec_no)
theorem ok_X2_becomeLike (l : Launch) : ex_ok l 0 0 cx_X2_becomeLike := ⟨ec_fok fo_X2, ec_cok co_X2, so_X2, fun _ _ _ _ h => (by cases h), fun _ h => (by cases h), fun _ h => (by cases h), fun _ h => (by cases h), fun _ _ h => (by cases h)⟩
def sp_X2_becomeLike : ex_S := ex_sp cx_X2_becomeLike cX2_becomeLike 2 none 30
theorem mt_X2_becomeLike (l : Launch) : ex_Met l yX2_becomeLike cX2_becomeLike 2 none 0 0 sp_X2_becomeLike := ex_inl (by decide) rfl (ok_X2_becomeLike l)
theorem cw_X2_start : ec_cw yX2_start cX2_start 1 none := ⟨ec_in (i := 922) (by decide +kernel) rfl, ec_in (i := 65) (by decide +kernel) rfl, by decide, by decide⟩
theorem cv_X2_start : Cond.instanceMethod yX2_start ∈ ec_tb ∧ Cond.selects yX2_start.cls yX2_start yX2_start ∈ ec_tb := ⟨ec_in (i := 920) (by decide +kernel) rfl, ec_in (i := 921) (by decide +kernel) rfl⟩
def cx_X2_start : ex_K := (RX2, ec_fx fl_X2, ec_cx cl_X2, sl_X2, ec_no, ec_nz, ec_no)
theorem ok_X2_start (l : Launch) : ex_ok l 0 0 cx_X2_start := ⟨ec_fok fo_X2, ec_cok co_X2, so_X2, fun _ _ _ _ h => (by cases h), fun _ h => (by cases h), fun _ h => (by cases h), fun _ h => (by cases h), fun _ _ h => (by cases h)⟩
def sp_X2_start : ex_S := ex_sp cx_X2_start cX2_start 1 none 20
theorem mt_X2_start (l : Launch) : ex_Met l yX2_start cX2_start 1 none 0 0 sp_X2_start := ex_inl (by decide) rfl (ok_X2_start l)
theorem cw_X2_finish : ec_cw yX2_finish cX2_finish 2 none := ⟨ec_in (i := 713) (by decide +kernel) rfl, ec_in (i := 65) (by decide +kernel) rfl, by decide, by decide⟩
theorem cv_X2_finish : Cond.instanceMethod yX2_finish ∈ ec_tb ∧ Cond.selects yX2_finish.cls yX2_finish yX2_finish ∈ ec_tb := ⟨ec_in (i := 711) (by decide +kernel) rfl, ec_in (i := 712) (by decide +kernel) rfl⟩
def cx_X2_finish : ex_K := (RX2, ec_fx fl_X2, ec_cx cl_X2, sl_X2, ec_no, ec_nz, ec_no)
theorem ok_X2_finish (l : Launch) : ex_ok l 0 0 cx_X2_finish := ⟨ec_fok fo_X2, ec_cok co_X2, so_X2, fun _ _ _ _ h => (by cases h), fun _ h => (by cases h), fun _ h => (by cases h), fun _ h => (by cases h), fun _ _ h => (by cases h)⟩
def sp_X2_finish : ex_S := ex_sp cx_X2_finish cX2_finish 2 none 8
theorem mt_X2_finish (l : Launch) : ex_Met l yX2_finish cX2_finish 2 none 0 0 sp_X2_finish := ex_inl (by decide) rfl (ok_X2_finish l)
theorem cw_X2_giveUp : ec_cw yX2_giveUp cX2_giveUp 1 none := ⟨ec_in (i := 751) (by decide +kernel) rfl, ec_in (i := 65) (by decide +kernel) rfl, by decide, by decide⟩
theorem cv_X2_giveUp : Cond.instanceMethod yX2_giveUp ∈ ec_tb ∧ Cond.selects yX2_giveUp.cls yX2_giveUp yX2_giveUp ∈ ec_tb := ⟨ec_in (i := 749) (by decide +kernel) rfl, ec_in (i := 750) (by decide +kernel) rfl⟩
def ca_X2_giveUp : Nat → Option (Nat × Option Nat × ex_S) := fun ix => match ix with
  | 37 => some (2, some 2, sp_X2_finish)
  | _ => none
theorem ck_X2_giveUp (l : Launch) : ∀ (ix n : Nat) (rc : Option Nat) (sp : ex_S), ca_X2_giveUp ix = some (n, rc, sp) → ex_cok l RX2 1 21 ix n rc sp := by
  intro ix n rc sp h
  unfold ca_X2_giveUp at h
  split at h
  · cases h; exact ec_cV (mt_X2_finish l) cw_X2_finish cv_X2_finish (by decide) (by decide) (Or.inl (ec_in (i := 752) (by decide +kernel) rfl)) (T := TX2) (N := 7) rfl (by decide) (by decide +kernel)
  · cases h
def cx_X2_giveUp : ex_K := (RX2, ec_fx fl_X2, ec_cx cl_X2, sl_X2, ca_X2_giveUp, ec_nz, ec_no)
theorem ok_X2_giveUp (l : Launch) : ex_ok l 1 21 cx_X2_giveUp := ⟨ec_fok fo_X2, ec_cok co_X2, so_X2, ck_X2_giveUp l, fun _ h => (by cases h), fun _ h => (by cases h), fun _ h => (by cases h), fun _ _ h => (by cases h)⟩
def sp_X2_giveUp : ex_S := ex_sp cx_X2_giveUp cX2_giveUp 1 none 26
theorem mt_X2_giveUp (l : Launch) : ex_Met l yX2_giveUp cX2_giveUp 1 none 1 21 sp_X2_giveUp := ex_inl (by decide) rfl (ok_X2_giveUp l)
theorem cw_X2_goOnAt : ec_cw yX2_goOnAt cX2_goOnAt 2 none := ⟨ec_in (i := 747) (by decide +kernel) rfl, ec_in (i := 65) (by decide +kernel) rfl, by decide, by decide⟩
theorem cv_X2_goOnAt : Cond.instanceMethod yX2_goOnAt ∈ ec_tb ∧ Cond.selects yX2_goOnAt.cls yX2_goOnAt yX2_goOnAt ∈ ec_tb := ⟨ec_in (i := 745) (by decide +kernel) rfl, ec_in (i := 746) (by decide +kernel) rfl⟩
def ca_X2_goOnAt : Nat → Option (Nat × Option Nat × ex_S) := fun ix => match ix with
  | 34 => some (1, some 2, sp_X2_giveUp)
  | _ => none
theorem ck_X2_goOnAt (l : Launch) : ∀ (ix n : Nat) (rc : Option Nat) (sp : ex_S), ca_X2_goOnAt ix = some (n, rc, sp) → ex_cok l RX2 2 41 ix n rc sp := by
  intro ix n rc sp h
  unfold ca_X2_goOnAt at h
  split at h
  · cases h; exact ec_cV (mt_X2_giveUp l) cw_X2_giveUp cv_X2_giveUp (by decide) (by decide) (Or.inl (ec_in (i := 748) (by decide +kernel) rfl)) (T := TX2) (N := 7) rfl (by decide) (by decide +kernel)
  · cases h
def cx_X2_goOnAt : ex_K := (RX2, ec_fx fl_X2, ec_cx cl_X2, sl_X2, ca_X2_goOnAt, ec_nz, ec_no)
theorem ok_X2_goOnAt (l : Launch) : ex_ok l 2 41 cx_X2_goOnAt := ⟨ec_fok fo_X2, ec_cok co_X2, so_X2, ck_X2_goOnAt l, fun _ h => (by cases h), fun _ h => (by cases h), fun _ h => (by cases h), fun _ _ h => (by cases h)⟩
def sp_X2_goOnAt : ex_S := ex_sp cx_X2_goOnAt cX2_goOnAt 2 none 11
theorem mt_X2_goOnAt (l : Launch) : ex_Met l yX2_goOnAt cX2_goOnAt 2 none 2 41 sp_X2_goOnAt := ex_inl (by decide) rfl (ok_X2_goOnAt l)
theorem cw_X2_setHalted : ec_cw yX2_setHalted cX2_setHalted 2 (some .int) := ⟨ec_in (i := 930) (by decide +kernel) rfl, ec_in (i := 65) (by decide +kernel) rfl, by decide, by decide⟩
theorem cv_X2_setHalted : Cond.instanceMethod yX2_setHalted ∈ ec_tb ∧ Cond.selects yX2_setHalted.cls yX2_setHalted yX2_setHalted ∈ ec_tb := ⟨ec_in (i := 928) (by decide +kernel) rfl, ec_in (i := 929) (by decide +kernel) rfl⟩
def ca_X2_setHalted : Nat → Option (Nat × Option Nat × ex_S) := fun ix => match ix with
  | 41 => some (1, none, sp_X9_isSwitch)
  | _ => none
theorem ck_X2_setHalted (l : Launch) : ∀ (ix n : Nat) (rc : Option Nat) (sp : ex_S), ca_X2_setHalted ix = some (n, rc, sp) → ex_cok l RX2 1 20 ix n rc sp := by
  intro ix n rc sp h
  unfold ca_X2_setHalted at h
  split at h
  · cases h; exact ec_cS (mt_X9_isSwitch l) cw_X9_isSwitch cv_X9_isSwitch (by decide) (by decide) (Or.inr ⟨"TinStation", by decide +kernel⟩) (by decide +kernel)
  · cases h
def cx_X2_setHalted : ex_K := (RX2, ec_fx fl_X2, ec_cx cl_X2, sl_X2, ca_X2_setHalted, ec_nz, ec_no)
theorem ok_X2_setHalted (l : Launch) : ex_ok l 1 20 cx_X2_setHalted := ⟨ec_fok fo_X2, ec_cok co_X2, so_X2, ck_X2_setHalted l, fun _ h => (by cases h), fun _ h => (by cases h), fun _ h => (by cases h), fun _ _ h => (by cases h)⟩
def sp_X2_setHalted : ex_S := ex_sp cx_X2_setHalted cX2_setHalted 2 (some .int) 30
theorem mt_X2_setHalted (l : Launch) : ex_Met l yX2_setHalted cX2_setHalted 2 (some .int) 1 20 sp_X2_setHalted := ex_inl (by decide) rfl (ok_X2_setHalted l)
theorem cw_X2_tellOf : ec_cw yX2_tellOf cX2_tellOf 2 (some .int) := ⟨ec_in (i := 947) (by decide +kernel) rfl, ec_in (i := 65) (by decide +kernel) rfl, by decide, by decide⟩
theorem cv_X2_tellOf : Cond.instanceMethod yX2_tellOf ∈ ec_tb ∧ Cond.selects yX2_tellOf.cls yX2_tellOf yX2_tellOf ∈ ec_tb := ⟨ec_in (i := 945) (by decide +kernel) rfl, ec_in (i := 946) (by decide +kernel) rfl⟩
def ca_X2_tellOf : Nat → Option (Nat × Option Nat × ex_S) := fun ix => match ix with
  | 47 => some (1, none, sp_X9_one)
  | _ => none
theorem ck_X2_tellOf (l : Launch) : ∀ (ix n : Nat) (rc : Option Nat) (sp : ex_S), ca_X2_tellOf ix = some (n, rc, sp) → ex_cok l RX2 1 20 ix n rc sp := by
  intro ix n rc sp h
  unfold ca_X2_tellOf at h
  split at h
  · cases h; exact ec_cS (mt_X9_one l) cw_X9_one cv_X9_one (by decide) (by decide) (Or.inr ⟨"TinStation", by decide +kernel⟩) (by decide +kernel)
  · cases h
def cx_X2_tellOf : ex_K := (RX2, ec_fx fl_X2, ec_cx cl_X2, sl_X2, ca_X2_tellOf, ec_nz, ec_no)
theorem ok_X2_tellOf (l : Launch) : ex_ok l 1 20 cx_X2_tellOf := ⟨ec_fok fo_X2, ec_cok co_X2, so_X2, ck_X2_tellOf l, fun _ h => (by cases h), fun _ h => (by cases h), fun _ h => (by cases h), fun _ _ h => (by cases h)⟩
def sp_X2_tellOf : ex_S := ex_sp cx_X2_tellOf cX2_tellOf 2 (some .int) 34
theorem mt_X2_tellOf (l : Launch) : ex_Met l yX2_tellOf cX2_tellOf 2 (some .int) 1 20 sp_X2_tellOf := ex_inl (by decide) rfl (ok_X2_tellOf l)
theorem cw_X3_becomeLike : ec_cw yX3_becomeLike cX3_becomeLike 2 none := ⟨ec_in (i := 885) (by decide +kernel) rfl, ec_in (i := 62) (by decide +kernel) rfl, by decide, by decide⟩
theorem cv_X3_becomeLike : Cond.instanceMethod yX3_becomeLike ∈ ec_tb ∧ Cond.selects yX3_becomeLike.cls yX3_becomeLike yX3_becomeLike ∈ ec_tb := ⟨ec_in (i := 883) (by decide +kernel) rfl, ec_in (i := 884) (by decide +kernel) rfl⟩
def ca_X3_becomeLike : Nat → Option (Nat × Option Nat × ex_S) := fun ix => match ix with
  | 30 => some (2, none, sp_X9_copy)
  | _ => none
theorem ck_X3_becomeLike (l : Launch) : ∀ (ix n : Nat) (rc : Option Nat) (sp : ex_S), ca_X3_becomeLike ix = some (n, rc, sp) → ex_cok l RX3 2 47 ix n rc sp := by
  intro ix n rc sp h
  unfold ca_X3_becomeLike at h
  split at h
  · cases h; exact ec_cS (mt_X9_copy l) cw_X9_copy cv_X9_copy (by decide) (by decide) (Or.inr ⟨"TinStation", by decide +kernel⟩) (by decide +kernel)
  · cases h
def cx_X3_becomeLike : ex_K := (RX3, ec_fx fl_X3, ec_cx cl_X3, sl_X3, ca_X3_becomeLike, ec_nz, ec_no)
theorem ok_X3_becomeLike (l : Launch) : ex_ok l 2 47 cx_X3_becomeLike := ⟨ec_fok fo_X3, ec_cok co_X3, so_X3, ck_X3_becomeLike l, fun _ h => (by cases h), fun _ h => (by cases h), fun _ h => (by cases h), fun _ _ h => (by cases h)⟩
def sp_X3_becomeLike : ex_S := ex_sp cx_X3_becomeLike cX3_becomeLike 2 none 36
theorem mt_X3_becomeLike (l : Launch) : ex_Met l yX3_becomeLike cX3_becomeLike 2 none 2 47 sp_X3_becomeLike := ex_inl (by decide) rfl (ok_X3_becomeLike l)
theorem cw_X3_has : ec_cw yX3_has cX3_has 2 (some .boolean) := ⟨ec_in (i := 520) (by decide +kernel) rfl, ec_in (i := 62) (by decide +kernel) rfl, by decide, by decide⟩
theorem cv_X3_has : Cond.instanceMethod yX3_has ∈ ec_tb ∧ Cond.selects yX3_has.cls yX3_has yX3_has ∈ ec_tb := ⟨ec_in (i := 518) (by decide +kernel) rfl, ec_in (i := 519) (by decide +kernel) rfl⟩
def cx_X3_has : ex_K := (RX3, ec_fx fl_X3, ec_cx cl_X3, sl_X3, ec_no, ec_nz, ec_no)
theorem ok_X3_has (l : Launch) : ex_ok l 0 0 cx_X3_has := ⟨ec_fok fo_X3, ec_cok co_X3, so_X3, fun _ _ _ _ h => (by cases h), fun _ h => (by cases h), fun _ h => (by cases h), fun _ h => (by cases h), fun _ _ h => (by cases h)⟩
def sp_X3_has : ex_S := ex_sp cx_X3_has cX3_has 2 (some .boolean) 11
theorem mt_X3_has (l : Launch) : ex_Met l yX3_has cX3_has 2 (some .boolean) 0 0 sp_X3_has := ex_inl (by decide) rfl (ok_X3_has l)
theorem cw_X3_mends : ec_cw yX3_mends cX3_mends 2 (some .boolean) := ⟨ec_in (i := 526) (by decide +kernel) rfl, ec_in (i := 62) (by decide +kernel) rfl, by decide, by decide⟩
theorem cv_X3_mends : Cond.instanceMethod yX3_mends ∈ ec_tb ∧ Cond.selects yX3_mends.cls yX3_mends yX3_mends ∈ ec_tb := ⟨ec_in (i := 524) (by decide +kernel) rfl, ec_in (i := 525) (by decide +kernel) rfl⟩
def cx_X3_mends : ex_K := (RX3, ec_fx fl_X3, ec_cx cl_X3, sl_X3, ec_no, ec_nz, ec_no)
theorem ok_X3_mends (l : Launch) : ex_ok l 0 0 cx_X3_mends := ⟨ec_fok fo_X3, ec_cok co_X3, so_X3, fun _ _ _ _ h => (by cases h), fun _ h => (by cases h), fun _ h => (by cases h), fun _ h => (by cases h), fun _ _ h => (by cases h)⟩
def sp_X3_mends : ex_S := ex_sp cx_X3_mends cX3_mends 2 (some .boolean) 11
theorem mt_X3_mends (l : Launch) : ex_Met l yX3_mends cX3_mends 2 (some .boolean) 0 0 sp_X3_mends := ex_inl (by decide) rfl (ok_X3_mends l)
theorem cw_X3_addPerson : ec_cw yX3_addPerson cX3_addPerson 2 (some .int) := ⟨ec_in (i := 507) (by decide +kernel) rfl, ec_in (i := 62) (by decide +kernel) rfl, by decide, by decide⟩
theorem cv_X3_addPerson : Cond.instanceMethod yX3_addPerson ∈ ec_tb ∧ Cond.selects yX3_addPerson.cls yX3_addPerson yX3_addPerson ∈ ec_tb := ⟨ec_in (i := 505) (by decide +kernel) rfl, ec_in (i := 506) (by decide +kernel) rfl⟩
def cx_X3_addPerson : ex_K := (RX3, ec_fx fl_X3, ec_cx cl_X3, sl_X3, ec_no, ec_nz, ec_no)
theorem ok_X3_addPerson (l : Launch) : ex_ok l 0 0 cx_X3_addPerson := ⟨ec_fok fo_X3, ec_cok co_X3, so_X3, fun _ _ _ _ h => (by cases h), fun _ h => (by cases h), fun _ h => (by cases h), fun _ h => (by cases h), fun _ _ h => (by cases h)⟩
def sp_X3_addPerson : ex_S := ex_sp cx_X3_addPerson cX3_addPerson 2 (some .int) 30
theorem mt_X3_addPerson (l : Launch) : ex_Met l yX3_addPerson cX3_addPerson 2 (some .int) 0 0 sp_X3_addPerson := ex_inl (by decide) rfl (ok_X3_addPerson l)
theorem cw_X3_setDoing : ec_cw yX3_setDoing cX3_setDoing 4 (some .int) := ⟨ec_in (i := 539) (by decide +kernel) rfl, ec_in (i := 62) (by decide +kernel) rfl, by decide, by decide⟩
theorem cv_X3_setDoing : Cond.instanceMethod yX3_setDoing ∈ ec_tb ∧ Cond.selects yX3_setDoing.cls yX3_setDoing yX3_setDoing ∈ ec_tb := ⟨ec_in (i := 537) (by decide +kernel) rfl, ec_in (i := 538) (by decide +kernel) rfl⟩
def ca_X3_setDoing : Nat → Option (Nat × Option Nat × ex_S) := fun ix => match ix with
  | 39 => some (2, some 3, sp_X3_has)
  | 44 => some (2, some 3, sp_X3_mends)
  | _ => none
theorem ck_X3_setDoing (l : Launch) : ∀ (ix n : Nat) (rc : Option Nat) (sp : ex_S), ca_X3_setDoing ix = some (n, rc, sp) → ex_cok l RX3 1 21 ix n rc sp := by
  intro ix n rc sp h
  unfold ca_X3_setDoing at h
  split at h
  · cases h; exact ec_cV (mt_X3_has l) cw_X3_has cv_X3_has (by decide) (by decide) (Or.inl (ec_in (i := 540) (by decide +kernel) rfl)) (T := TX3) (N := 7) rfl (by decide) (by decide +kernel)
  · cases h; exact ec_cV (mt_X3_mends l) cw_X3_mends cv_X3_mends (by decide) (by decide) (Or.inl (ec_in (i := 542) (by decide +kernel) rfl)) (T := TX3) (N := 7) rfl (by decide) (by decide +kernel)
  · cases h
def cx_X3_setDoing : ex_K := (RX3, ec_fx fl_X3, ec_cx cl_X3, sl_X3, ca_X3_setDoing, ec_nz, ec_no)
theorem ok_X3_setDoing (l : Launch) : ex_ok l 1 21 cx_X3_setDoing := ⟨ec_fok fo_X3, ec_cok co_X3, so_X3, ck_X3_setDoing l, fun _ h => (by cases h), fun _ h => (by cases h), fun _ h => (by cases h), fun _ _ h => (by cases h)⟩
def sp_X3_setDoing : ex_S := ex_sp cx_X3_setDoing cX3_setDoing 4 (some .int) 30
theorem mt_X3_setDoing (l : Launch) : ex_Met l yX3_setDoing cX3_setDoing 4 (some .int) 1 21 sp_X3_setDoing := ex_inl (by decide) rfl (ok_X3_setDoing l)
theorem cw_X3_tellOf : ec_cw yX3_tellOf cX3_tellOf 3 (some .int) := ⟨ec_in (i := 551) (by decide +kernel) rfl, ec_in (i := 62) (by decide +kernel) rfl, by decide, by decide⟩
theorem cv_X3_tellOf : Cond.instanceMethod yX3_tellOf ∈ ec_tb ∧ Cond.selects yX3_tellOf.cls yX3_tellOf yX3_tellOf ∈ ec_tb := ⟨ec_in (i := 549) (by decide +kernel) rfl, ec_in (i := 550) (by decide +kernel) rfl⟩
def ca_X3_tellOf : Nat → Option (Nat × Option Nat × ex_S) := fun ix => match ix with
  | 39 => some (2, some 3, sp_X3_has)
  | _ => none
theorem ck_X3_tellOf (l : Launch) : ∀ (ix n : Nat) (rc : Option Nat) (sp : ex_S), ca_X3_tellOf ix = some (n, rc, sp) → ex_cok l RX3 1 21 ix n rc sp := by
  intro ix n rc sp h
  unfold ca_X3_tellOf at h
  split at h
  · cases h; exact ec_cV (mt_X3_has l) cw_X3_has cv_X3_has (by decide) (by decide) (Or.inl (ec_in (i := 540) (by decide +kernel) rfl)) (T := TX3) (N := 7) rfl (by decide) (by decide +kernel)
  · cases h
def cx_X3_tellOf : ex_K := (RX3, ec_fx fl_X3, ec_cx cl_X3, sl_X3, ca_X3_tellOf, ec_nz, ec_no)
theorem ok_X3_tellOf (l : Launch) : ex_ok l 1 21 cx_X3_tellOf := ⟨ec_fok fo_X3, ec_cok co_X3, so_X3, ck_X3_tellOf l, fun _ h => (by cases h), fun _ h => (by cases h), fun _ h => (by cases h), fun _ _ h => (by cases h)⟩
def sp_X3_tellOf : ex_S := ex_sp cx_X3_tellOf cX3_tellOf 3 (some .int) 41
theorem mt_X3_tellOf (l : Launch) : ex_Met l yX3_tellOf cX3_tellOf 3 (some .int) 1 21 sp_X3_tellOf := ex_inl (by decide) rfl (ok_X3_tellOf l)
theorem cw_X3_startMending : ec_cw yX3_startMending cX3_startMending 4 none := ⟨ec_in (i := 630) (by decide +kernel) rfl, ec_in (i := 62) (by decide +kernel) rfl, by decide, by decide⟩
theorem cv_X3_startMending : Cond.instanceMethod yX3_startMending ∈ ec_tb ∧ Cond.selects yX3_startMending.cls yX3_startMending yX3_startMending ∈ ec_tb := ⟨ec_in (i := 628) (by decide +kernel) rfl, ec_in (i := 629) (by decide +kernel) rfl⟩
def cx_X3_startMending : ex_K := (RX3, ec_fx fl_X3, ec_cx cl_X3, sl_X3, ec_no, ec_nz, ec_no)
theorem ok_X3_startMending (l : Launch) : ex_ok l 0 0 cx_X3_startMending := ⟨ec_fok fo_X3, ec_cok co_X3, so_X3, fun _ _ _ _ h => (by cases h), fun _ h => (by cases h), fun _ h => (by cases h), fun _ h => (by cases h), fun _ _ h => (by cases h)⟩
def sp_X3_startMending : ex_S := ex_sp cx_X3_startMending cX3_startMending 4 none 17
theorem mt_X3_startMending (l : Launch) : ex_Met l yX3_startMending cX3_startMending 4 none 0 0 sp_X3_startMending := ex_inl (by decide) rfl (ok_X3_startMending l)
theorem cw_X3_isMended : ec_cw yX3_isMended cX3_isMended 3 (some .boolean) := ⟨ec_in (i := 625) (by decide +kernel) rfl, ec_in (i := 62) (by decide +kernel) rfl, by decide, by decide⟩
theorem cv_X3_isMended : Cond.instanceMethod yX3_isMended ∈ ec_tb ∧ Cond.selects yX3_isMended.cls yX3_isMended yX3_isMended ∈ ec_tb := ⟨ec_in (i := 623) (by decide +kernel) rfl, ec_in (i := 624) (by decide +kernel) rfl⟩
def cx_X3_isMended : ex_K := (RX3, ec_fx fl_X3, ec_cx cl_X3, sl_X3, ec_no, ec_nz, ec_no)
theorem ok_X3_isMended (l : Launch) : ex_ok l 0 0 cx_X3_isMended := ⟨ec_fok fo_X3, ec_cok co_X3, so_X3, fun _ _ _ _ h => (by cases h), fun _ h => (by cases h), fun _ h => (by cases h), fun _ h => (by cases h), fun _ _ h => (by cases h)⟩
def sp_X3_isMended : ex_S := ex_sp cx_X3_isMended cX3_isMended 3 (some .boolean) 400
theorem mt_X3_isMended (l : Launch) : ex_Met l yX3_isMended cX3_isMended 3 (some .boolean) 0 0 sp_X3_isMended := ex_inl (by decide) rfl (ok_X3_isMended l)
theorem cw_X3_menders : ec_cw yX3_menders cX3_menders 3 (some .int) := ⟨ec_in (i := 1094) (by decide +kernel) rfl, ec_in (i := 62) (by decide +kernel) rfl, by decide, by decide⟩
theorem cv_X3_menders : Cond.instanceMethod yX3_menders ∈ ec_tb ∧ Cond.selects yX3_menders.cls yX3_menders yX3_menders ∈ ec_tb := ⟨ec_in (i := 1092) (by decide +kernel) rfl, ec_in (i := 1093) (by decide +kernel) rfl⟩
def ca_X3_menders : Nat → Option (Nat × Option Nat × ex_S) := fun ix => match ix with
  | 44 => some (2, some 3, sp_X3_mends)
  | 48 => some (1, none, sp_X9_one)
  | _ => none
theorem ck_X3_menders (l : Launch) : ∀ (ix n : Nat) (rc : Option Nat) (sp : ex_S), ca_X3_menders ix = some (n, rc, sp) → ex_cok l RX3 1 21 ix n rc sp := by
  intro ix n rc sp h
  unfold ca_X3_menders at h
  split at h
  · cases h; exact ec_cV (mt_X3_mends l) cw_X3_mends cv_X3_mends (by decide) (by decide) (Or.inl (ec_in (i := 542) (by decide +kernel) rfl)) (T := TX3) (N := 7) rfl (by decide) (by decide +kernel)
  · cases h; exact ec_cS (mt_X9_one l) cw_X9_one cv_X9_one (by decide) (by decide) (Or.inr ⟨"TinStation", by decide +kernel⟩) (by decide +kernel)
  · cases h
def cx_X3_menders : ex_K := (RX3, ec_fx fl_X3, ec_cx cl_X3, sl_X3, ca_X3_menders, ec_nz, ec_no)
theorem ok_X3_menders (l : Launch) : ex_ok l 1 21 cx_X3_menders := ⟨ec_fok fo_X3, ec_cok co_X3, so_X3, ck_X3_menders l, fun _ h => (by cases h), fun _ h => (by cases h), fun _ h => (by cases h), fun _ _ h => (by cases h)⟩
def sp_X3_menders : ex_S := ex_sp cx_X3_menders cX3_menders 3 (some .int) 400
theorem mt_X3_menders (l : Launch) : ex_Met l yX3_menders cX3_menders 3 (some .int) 1 21 sp_X3_menders := ex_inl (by decide) rfl (ok_X3_menders l)
theorem cw_X6_has : ec_cw yX6_has cX6_has 2 (some .boolean) := ⟨ec_in (i := 580) (by decide +kernel) rfl, ec_in (i := 63) (by decide +kernel) rfl, by decide, by decide⟩
theorem cv_X6_has : Cond.instanceMethod yX6_has ∈ ec_tb ∧ Cond.selects yX6_has.cls yX6_has yX6_has ∈ ec_tb := ⟨ec_in (i := 578) (by decide +kernel) rfl, ec_in (i := 579) (by decide +kernel) rfl⟩
def cx_X6_has : ex_K := (RX6, ec_fx fl_X6, ec_cx cl_X6, sl_X6, ec_no, ec_nz, ec_no)
theorem ok_X6_has (l : Launch) : ex_ok l 0 0 cx_X6_has := ⟨ec_fok fo_X6, ec_cok co_X6, so_X6, fun _ _ _ _ h => (by cases h), fun _ h => (by cases h), fun _ h => (by cases h), fun _ h => (by cases h), fun _ _ h => (by cases h)⟩
def sp_X6_has : ex_S := ex_sp cx_X6_has cX6_has 2 (some .boolean) 11
theorem mt_X6_has (l : Launch) : ex_Met l yX6_has cX6_has 2 (some .boolean) 0 0 sp_X6_has := ex_inl (by decide) rfl (ok_X6_has l)
theorem cw_X6_makeNew : ec_cw yX6_makeNew cX6_makeNew 2 none := ⟨ec_in (i := 760) (by decide +kernel) rfl, ec_in (i := 63) (by decide +kernel) rfl, by decide, by decide⟩
theorem cv_X6_makeNew : Cond.instanceMethod yX6_makeNew ∈ ec_tb ∧ Cond.selects yX6_makeNew.cls yX6_makeNew yX6_makeNew ∈ ec_tb := ⟨ec_in (i := 758) (by decide +kernel) rfl, ec_in (i := 759) (by decide +kernel) rfl⟩
def ca_X6_makeNew : Nat → Option (Nat × Option Nat × ex_S) := fun ix => match ix with
  | 77 => some (2, some 6, sp_X6_has)
  | _ => none
theorem ck_X6_makeNew (l : Launch) : ∀ (ix n : Nat) (rc : Option Nat) (sp : ex_S), ca_X6_makeNew ix = some (n, rc, sp) → ex_cok l RX6 1 21 ix n rc sp := by
  intro ix n rc sp h
  unfold ca_X6_makeNew at h
  split at h
  · cases h; exact ec_cV (mt_X6_has l) cw_X6_has cv_X6_has (by decide) (by decide) (Or.inl (ec_in (i := 577) (by decide +kernel) rfl)) (T := TX6) (N := 15) rfl (by decide) (by decide +kernel)
  · cases h
def cx_X6_makeNew : ex_K := (RX6, ec_fx fl_X6, ec_cx cl_X6, sl_X6, ca_X6_makeNew, ec_nz, ec_no)
theorem ok_X6_makeNew (l : Launch) : ex_ok l 1 21 cx_X6_makeNew := ⟨ec_fok fo_X6, ec_cok co_X6, so_X6, ck_X6_makeNew l, fun _ h => (by cases h), fun _ h => (by cases h), fun _ h => (by cases h), fun _ _ h => (by cases h)⟩
def sp_X6_makeNew : ex_S := ex_sp cx_X6_makeNew cX6_makeNew 2 none 16
theorem mt_X6_makeNew (l : Launch) : ex_Met l yX6_makeNew cX6_makeNew 2 none 1 21 sp_X6_makeNew := ex_inl (by decide) rfl (ok_X6_makeNew l)
theorem cw_X3_mendOn : ec_cw yX3_mendOn cX3_mendOn 3 none := ⟨ec_in (i := 756) (by decide +kernel) rfl, ec_in (i := 62) (by decide +kernel) rfl, by decide, by decide⟩
theorem cv_X3_mendOn : Cond.instanceMethod yX3_mendOn ∈ ec_tb ∧ Cond.selects yX3_mendOn.cls yX3_mendOn yX3_mendOn ∈ ec_tb := ⟨ec_in (i := 754) (by decide +kernel) rfl, ec_in (i := 755) (by decide +kernel) rfl⟩
def ca_X3_mendOn : Nat → Option (Nat × Option Nat × ex_S) := fun ix => match ix with
  | 44 => some (2, some 3, sp_X3_mends)
  | 52 => some (2, some 6, sp_X6_makeNew)
  | _ => none
theorem ck_X3_mendOn (l : Launch) : ∀ (ix n : Nat) (rc : Option Nat) (sp : ex_S), ca_X3_mendOn ix = some (n, rc, sp) → ex_cok l RX3 2 42 ix n rc sp := by
  intro ix n rc sp h
  unfold ca_X3_mendOn at h
  split at h
  · cases h; exact ec_cV (mt_X3_mends l) cw_X3_mends cv_X3_mends (by decide) (by decide) (Or.inl (ec_in (i := 542) (by decide +kernel) rfl)) (T := TX3) (N := 7) rfl (by decide) (by decide +kernel)
  · cases h; exact ec_cV (mt_X6_makeNew l) cw_X6_makeNew cv_X6_makeNew (by decide) (by decide) (Or.inl (ec_in (i := 757) (by decide +kernel) rfl)) (T := TX6) (N := 15) rfl (by decide) (by decide +kernel)
  · cases h
def cx_X3_mendOn : ex_K := (RX3, ec_fx fl_X3, ec_cx cl_X3, sl_X3, ca_X3_mendOn, ec_nz, ec_no)
theorem ok_X3_mendOn (l : Launch) : ex_ok l 2 42 cx_X3_mendOn := ⟨ec_fok fo_X3, ec_cok co_X3, so_X3, ck_X3_mendOn l, fun _ h => (by cases h), fun _ h => (by cases h), fun _ h => (by cases h), fun _ _ h => (by cases h)⟩
def sp_X3_mendOn : ex_S := ex_sp cx_X3_mendOn cX3_mendOn 3 none 400
theorem mt_X3_mendOn (l : Launch) : ex_Met l yX3_mendOn cX3_mendOn 3 none 2 42 sp_X3_mendOn := ex_inl (by decide) rfl (ok_X3_mendOn l)
theorem cw_X3_breathe : ec_cw yX3_breathe cX3_breathe 5 none := ⟨ec_in (i := 805) (by decide +kernel) rfl, ec_in (i := 62) (by decide +kernel) rfl, by decide, by decide⟩
theorem cv_X3_breathe : Cond.instanceMethod yX3_breathe ∈ ec_tb ∧ Cond.selects yX3_breathe.cls yX3_breathe yX3_breathe ∈ ec_tb := ⟨ec_in (i := 804) (by decide +kernel) rfl, ec_in (i := 14) (by decide +kernel) rfl⟩
def ca_X3_breathe : Nat → Option (Nat × Option Nat × ex_S) := fun ix => match ix with
  | 77 => some (4, some 0, sp_X0_take)
  | 68 => some (4, some 0, sp_X0_give)
  | 48 => some (1, none, sp_X9_one)
  | _ => none
theorem ck_X3_breathe (l : Launch) : ∀ (ix n : Nat) (rc : Option Nat) (sp : ex_S), ca_X3_breathe ix = some (n, rc, sp) → ex_cok l RX3 2 45 ix n rc sp := by
  intro ix n rc sp h
  unfold ca_X3_breathe at h
  split at h
  · cases h; exact ec_cV (mt_X0_take l) cw_X0_take cv_X0_take (by decide) (by decide) (Or.inl (ec_in (i := 808) (by decide +kernel) rfl)) (T := TX0) (N := 8) rfl (by decide) (by decide +kernel)
  · cases h; exact ec_cV (mt_X0_give l) cw_X0_give cv_X0_give (by decide) (by decide) (Or.inl (ec_in (i := 809) (by decide +kernel) rfl)) (T := TX0) (N := 8) rfl (by decide) (by decide +kernel)
  · cases h; exact ec_cS (mt_X9_one l) cw_X9_one cv_X9_one (by decide) (by decide) (Or.inr ⟨"TinStation", by decide +kernel⟩) (by decide +kernel)
  · cases h
def cx_X3_breathe : ex_K := (RX3, ec_fx fl_X3, ec_cx cl_X3, sl_X3, ca_X3_breathe, ec_nz, ec_no)
theorem ok_X3_breathe (l : Launch) : ex_ok l 2 45 cx_X3_breathe := ⟨ec_fok fo_X3, ec_cok co_X3, so_X3, ck_X3_breathe l, fun _ h => (by cases h), fun _ h => (by cases h), fun _ h => (by cases h), fun _ _ h => (by cases h)⟩
def sp_X3_breathe : ex_S := ex_sp cx_X3_breathe cX3_breathe 5 none 40
theorem mt_X3_breathe (l : Launch) : ex_Met l yX3_breathe cX3_breathe 5 none 2 45 sp_X3_breathe := ex_inl (by decide) rfl (ok_X3_breathe l)
theorem cw_X3_drink : ec_cw yX3_drink cX3_drink 5 none := ⟨ec_in (i := 814) (by decide +kernel) rfl, ec_in (i := 62) (by decide +kernel) rfl, by decide, by decide⟩
theorem cv_X3_drink : Cond.instanceMethod yX3_drink ∈ ec_tb ∧ Cond.selects yX3_drink.cls yX3_drink yX3_drink ∈ ec_tb := ⟨ec_in (i := 813) (by decide +kernel) rfl, ec_in (i := 15) (by decide +kernel) rfl⟩
def ca_X3_drink : Nat → Option (Nat × Option Nat × ex_S) := fun ix => match ix with
  | 81 => some (3, some 0, sp_X0_draw)
  | 68 => some (4, some 0, sp_X0_give)
  | 85 => some (3, some 0, sp_X0_fill)
  | 48 => some (1, none, sp_X9_one)
  | _ => none
theorem ck_X3_drink (l : Launch) : ∀ (ix n : Nat) (rc : Option Nat) (sp : ex_S), ca_X3_drink ix = some (n, rc, sp) → ex_cok l RX3 2 44 ix n rc sp := by
  intro ix n rc sp h
  unfold ca_X3_drink at h
  split at h
  · cases h; exact ec_cV (mt_X0_draw l) cw_X0_draw cv_X0_draw (by decide) (by decide) (Or.inl (ec_in (i := 815) (by decide +kernel) rfl)) (T := TX0) (N := 8) rfl (by decide) (by decide +kernel)
  · cases h; exact ec_cV (mt_X0_give l) cw_X0_give cv_X0_give (by decide) (by decide) (Or.inl (ec_in (i := 809) (by decide +kernel) rfl)) (T := TX0) (N := 8) rfl (by decide) (by decide +kernel)
  · cases h; exact ec_cV (mt_X0_fill l) cw_X0_fill cv_X0_fill (by decide) (by decide) (Or.inl (ec_in (i := 816) (by decide +kernel) rfl)) (T := TX0) (N := 8) rfl (by decide) (by decide +kernel)
  · cases h; exact ec_cS (mt_X9_one l) cw_X9_one cv_X9_one (by decide) (by decide) (Or.inr ⟨"TinStation", by decide +kernel⟩) (by decide +kernel)
  · cases h
def cx_X3_drink : ex_K := (RX3, ec_fx fl_X3, ec_cx cl_X3, sl_X3, ca_X3_drink, ec_nz, ec_no)
theorem ok_X3_drink (l : Launch) : ex_ok l 2 44 cx_X3_drink := ⟨ec_fok fo_X3, ec_cok co_X3, so_X3, ck_X3_drink l, fun _ h => (by cases h), fun _ h => (by cases h), fun _ h => (by cases h), fun _ _ h => (by cases h)⟩
def sp_X3_drink : ex_S := ex_sp cx_X3_drink cX3_drink 5 none 41
theorem mt_X3_drink (l : Launch) : ex_Met l yX3_drink cX3_drink 5 none 2 44 sp_X3_drink := ex_inl (by decide) rfl (ok_X3_drink l)
theorem cw_X3_live : ec_cw yX3_live cX3_live 3 none := ⟨ec_in (i := 801) (by decide +kernel) rfl, ec_in (i := 62) (by decide +kernel) rfl, by decide, by decide⟩
theorem cv_X3_live : Cond.instanceMethod yX3_live ∈ ec_tb ∧ Cond.selects yX3_live.cls yX3_live yX3_live ∈ ec_tb := ⟨ec_in (i := 799) (by decide +kernel) rfl, ec_in (i := 800) (by decide +kernel) rfl⟩
def ca_X3_live : Nat → Option (Nat × Option Nat × ex_S) := fun ix => match ix with
  | 58 => some (3, some 3, sp_X3_breathe)
  | 62 => some (3, some 3, sp_X3_drink)
  | 68 => some (4, some 0, sp_X0_give)
  | _ => none
theorem ck_X3_live (l : Launch) : ∀ (ix n : Nat) (rc : Option Nat) (sp : ex_S), ca_X3_live ix = some (n, rc, sp) → ex_cok l RX3 3 69 ix n rc sp := by
  intro ix n rc sp h
  unfold ca_X3_live at h
  split at h
  · cases h; exact ec_cV (mt_X3_breathe l) cw_X3_breathe cv_X3_breathe (by decide) (by decide) (Or.inl (ec_in (i := 802) (by decide +kernel) rfl)) (T := TX3) (N := 7) rfl (by decide) (by decide +kernel)
  · cases h; exact ec_cV (mt_X3_drink l) cw_X3_drink cv_X3_drink (by decide) (by decide) (Or.inl (ec_in (i := 811) (by decide +kernel) rfl)) (T := TX3) (N := 7) rfl (by decide) (by decide +kernel)
  · cases h; exact ec_cV (mt_X0_give l) cw_X0_give cv_X0_give (by decide) (by decide) (Or.inl (ec_in (i := 809) (by decide +kernel) rfl)) (T := TX0) (N := 8) rfl (by decide) (by decide +kernel)
  · cases h
def cx_X3_live : ex_K := (RX3, ec_fx fl_X3, ec_cx cl_X3, sl_X3, ca_X3_live, ec_nz, ec_no)
theorem ok_X3_live (l : Launch) : ex_ok l 3 69 cx_X3_live := ⟨ec_fok fo_X3, ec_cok co_X3, so_X3, ck_X3_live l, fun _ h => (by cases h), fun _ h => (by cases h), fun _ h => (by cases h), fun _ _ h => (by cases h)⟩
def sp_X3_live : ex_S := ex_sp cx_X3_live cX3_live 3 none 400
theorem mt_X3_live (l : Launch) : ex_Met l yX3_live cX3_live 3 none 3 69 sp_X3_live := ex_inl (by decide) rfl (ok_X3_live l)
theorem cw_X4_startOver : ec_cw yX4_startOver cX4_startOver 2 (some .int) := ⟨ec_in (i := 956) (by decide +kernel) rfl, ec_in (i := 66) (by decide +kernel) rfl, by decide, by decide⟩
theorem cv_X4_startOver : Cond.instanceMethod yX4_startOver ∈ ec_tb ∧ Cond.selects yX4_startOver.cls yX4_startOver yX4_startOver ∈ ec_tb := ⟨ec_in (i := 954) (by decide +kernel) rfl, ec_in (i := 955) (by decide +kernel) rfl⟩
def cx_X4_startOver : ex_K := (RX4, ec_fx fl_X4, ec_cx cl_X4, sl_X4, ec_no, ec_nz, ec_no)
theorem ok_X4_startOver (l : Launch) : ex_ok l 0 0 cx_X4_startOver := ⟨ec_fok fo_X4, ec_cok co_X4, so_X4, fun _ _ _ _ h => (by cases h), fun _ h => (by cases h), fun _ h => (by cases h), fun _ h => (by cases h), fun _ _ h => (by cases h)⟩
def sp_X4_startOver : ex_S := ex_sp cx_X4_startOver cX4_startOver 2 (some .int) 12
theorem mt_X4_startOver (l : Launch) : ex_Met l yX4_startOver cX4_startOver 2 (some .int) 0 0 sp_X4_startOver := ex_inl (by decide) rfl (ok_X4_startOver l)
theorem cw_X4_join : ec_cw yX4_join cX4_join 4 none := ⟨ec_in (i := 974) (by decide +kernel) rfl, ec_in (i := 66) (by decide +kernel) rfl, by decide, by decide⟩
theorem cv_X4_join : Cond.instanceMethod yX4_join ∈ ec_tb ∧ Cond.selects yX4_join.cls yX4_join yX4_join ∈ ec_tb := ⟨ec_in (i := 973) (by decide +kernel) rfl, ec_in (i := 20) (by decide +kernel) rfl⟩
def cx_X4_join : ex_K := (RX4, ec_fx fl_X4, ec_cx cl_X4, sl_X4, ec_no, ec_nz, ec_no)
theorem ok_X4_join (l : Launch) : ex_ok l 0 0 cx_X4_join := ⟨ec_fok fo_X4, ec_cok co_X4, so_X4, fun _ _ _ _ h => (by cases h), fun _ h => (by cases h), fun _ h => (by cases h), fun _ h => (by cases h), fun _ _ h => (by cases h)⟩
def sp_X4_join : ex_S := ex_sp cx_X4_join cX4_join 4 none 400
theorem mt_X4_join (l : Launch) : ex_Met l yX4_join cX4_join 4 none 0 0 sp_X4_join := ex_inl (by decide) rfl (ok_X4_join l)
theorem cw_X4_findParts : ec_cw yX4_findParts cX4_findParts 4 none := ⟨ec_in (i := 970) (by decide +kernel) rfl, ec_in (i := 66) (by decide +kernel) rfl, by decide, by decide⟩
theorem cv_X4_findParts : Cond.instanceMethod yX4_findParts ∈ ec_tb ∧ Cond.selects yX4_findParts.cls yX4_findParts yX4_findParts ∈ ec_tb := ⟨ec_in (i := 969) (by decide +kernel) rfl, ec_in (i := 19) (by decide +kernel) rfl⟩
def ca_X4_findParts : Nat → Option (Nat × Option Nat × ex_S) := fun ix => match ix with
  | 59 => some (3, some 4, sp_X4_join)
  | _ => none
theorem ck_X4_findParts (l : Launch) : ∀ (ix n : Nat) (rc : Option Nat) (sp : ex_S), ca_X4_findParts ix = some (n, rc, sp) → ex_cok l RX4 1 23 ix n rc sp := by
  intro ix n rc sp h
  unfold ca_X4_findParts at h
  split at h
  · cases h; exact ec_cV (mt_X4_join l) cw_X4_join cv_X4_join (by decide) (by decide) (Or.inl (ec_in (i := 971) (by decide +kernel) rfl)) (T := TX4) (N := 2) rfl (by decide) (by decide +kernel)
  · cases h
def cx_X4_findParts : ex_K := (RX4, ec_fx fl_X4, ec_cx cl_X4, sl_X4, ca_X4_findParts, ec_nz, ec_no)
theorem ok_X4_findParts (l : Launch) : ex_ok l 1 23 cx_X4_findParts := ⟨ec_fok fo_X4, ec_cok co_X4, so_X4, ck_X4_findParts l, fun _ h => (by cases h), fun _ h => (by cases h), fun _ h => (by cases h), fun _ _ h => (by cases h)⟩
def sp_X4_findParts : ex_S := ex_sp cx_X4_findParts cX4_findParts 4 none 400
theorem mt_X4_findParts (l : Launch) : ex_Met l yX4_findParts cX4_findParts 4 none 1 23 sp_X4_findParts := ex_inl (by decide) rfl (ok_X4_findParts l)
theorem cw_X4_narrow : ec_cw yX4_narrow cX4_narrow 5 (some .int) := ⟨ec_in (i := 964) (by decide +kernel) rfl, ec_in (i := 66) (by decide +kernel) rfl, by decide, by decide⟩
theorem cv_X4_narrow : Cond.instanceMethod yX4_narrow ∈ ec_tb ∧ Cond.selects yX4_narrow.cls yX4_narrow yX4_narrow ∈ ec_tb := ⟨ec_in (i := 962) (by decide +kernel) rfl, ec_in (i := 963) (by decide +kernel) rfl⟩
def ca_X4_narrow : Nat → Option (Nat × Option Nat × ex_S) := fun ix => match ix with
  | 24 => some (2, some 0, sp_X0_hasModule)
  | 32 => some (3, some 4, sp_X4_findParts)
  | _ => none
theorem ck_X4_narrow (l : Launch) : ∀ (ix n : Nat) (rc : Option Nat) (sp : ex_S), ca_X4_narrow ix = some (n, rc, sp) → ex_cok l RX4 2 46 ix n rc sp := by
  intro ix n rc sp h
  unfold ca_X4_narrow at h
  split at h
  · cases h; exact ec_cV (mt_X0_hasModule l) cw_X0_hasModule cv_X0_hasModule (by decide) (by decide) (Or.inl (ec_in (i := 965) (by decide +kernel) rfl)) (T := TX0) (N := 8) rfl (by decide) (by decide +kernel)
  · cases h; exact ec_cV (mt_X4_findParts l) cw_X4_findParts cv_X4_findParts (by decide) (by decide) (Or.inl (ec_in (i := 967) (by decide +kernel) rfl)) (T := TX4) (N := 2) rfl (by decide) (by decide +kernel)
  · cases h
def cx_X4_narrow : ex_K := (RX4, ec_fx fl_X4, ec_cx cl_X4, sl_X4, ca_X4_narrow, ec_nz, ec_no)
theorem ok_X4_narrow (l : Launch) : ex_ok l 2 46 cx_X4_narrow := ⟨ec_fok fo_X4, ec_cok co_X4, so_X4, ck_X4_narrow l, fun _ h => (by cases h), fun _ h => (by cases h), fun _ h => (by cases h), fun _ _ h => (by cases h)⟩
def sp_X4_narrow : ex_S := ex_sp cx_X4_narrow cX4_narrow 5 (some .int) 36
theorem mt_X4_narrow (l : Launch) : ex_Met l yX4_narrow cX4_narrow 5 (some .int) 2 46 sp_X4_narrow := ex_inl (by decide) rfl (ok_X4_narrow l)
theorem cw_J6_bitCount_0f7a4 : ec_cw yJ6_bitCount_0f7a4 cJ6_bitCount_0f7a4 1 (some .int) := ⟨ec_in (i := 657) (by decide +kernel) rfl, ec_in (i := 69) (by decide +kernel) rfl, by decide, by decide⟩
theorem cv_J6_bitCount_0f7a4 : Cond.static yJ6_bitCount_0f7a4 ∈ ec_tb := ec_in (i := 656) (by decide +kernel) rfl
def cl_J6_bitCount_0f7a4 : List (Nat × Int32) := [(265, 1431655765), (266, 858993459), (267, 252645135)]
theorem co_J6_bitCount_0f7a4 : cl_J6_bitCount_0f7a4.all (fun q => decide (Cond.constant RJ6 q.1 q.2 ∈ lw_tbl) && goodWord (Cond.constant RJ6 q.1 q.2)) = true := by decide +kernel
theorem ce_J6_bitCount_0f7a4_265 : ec_cx cl_J6_bitCount_0f7a4 265 = some (1431655765) := rfl
theorem ce_J6_bitCount_0f7a4_266 : ec_cx cl_J6_bitCount_0f7a4 266 = some (858993459) := rfl
theorem ce_J6_bitCount_0f7a4_267 : ec_cx cl_J6_bitCount_0f7a4 267 = some (252645135) := rfl
def cx_J6_bitCount_0f7a4 : ex_K := (RJ6, ec_no, ec_cx cl_J6_bitCount_0f7a4, ec_no, ec_no, ec_nz, ec_no)
theorem ok_J6_bitCount_0f7a4 (l : Launch) : ex_ok l 0 0 cx_J6_bitCount_0f7a4 := ⟨fun _ _ _ _ _ h => (by cases h), ec_cok co_J6_bitCount_0f7a4, fun _ _ h => (by cases h), fun _ _ _ _ h => (by cases h), fun _ h => (by cases h), fun _ h => (by cases h), fun _ h => (by cases h), fun _ _ h => (by cases h)⟩
def sp_J6_bitCount_0f7a4 : ex_S := ex_sp cx_J6_bitCount_0f7a4 cJ6_bitCount_0f7a4 1 (some .int) 43
theorem mt_J6_bitCount_0f7a4 (l : Launch) : ex_Met l yJ6_bitCount_0f7a4 cJ6_bitCount_0f7a4 1 (some .int) 0 0 sp_J6_bitCount_0f7a4 := ex_inl (by decide) rfl (ok_J6_bitCount_0f7a4 l)
theorem cw_X4_leftAtWorst : ec_cw yX4_leftAtWorst cX4_leftAtWorst 5 (some .int) := ⟨ec_in (i := 987) (by decide +kernel) rfl, ec_in (i := 66) (by decide +kernel) rfl, by decide, by decide⟩
theorem cv_X4_leftAtWorst : Cond.instanceMethod yX4_leftAtWorst ∈ ec_tb ∧ Cond.selects yX4_leftAtWorst.cls yX4_leftAtWorst yX4_leftAtWorst ∈ ec_tb := ⟨ec_in (i := 986) (by decide +kernel) rfl, ec_in (i := 21) (by decide +kernel) rfl⟩
def ca_X4_leftAtWorst : Nat → Option (Nat × Option Nat × ex_S) := fun ix => match ix with
  | 32 => some (3, some 4, sp_X4_findParts)
  | 41 => some (1, none, sp_J6_bitCount_0f7a4)
  | _ => none
theorem ck_X4_leftAtWorst (l : Launch) : ∀ (ix n : Nat) (rc : Option Nat) (sp : ex_S), ca_X4_leftAtWorst ix = some (n, rc, sp) → ex_cok l RX4 2 46 ix n rc sp := by
  intro ix n rc sp h
  unfold ca_X4_leftAtWorst at h
  split at h
  · cases h; exact ec_cV (mt_X4_findParts l) cw_X4_findParts cv_X4_findParts (by decide) (by decide) (Or.inl (ec_in (i := 967) (by decide +kernel) rfl)) (T := TX4) (N := 2) rfl (by decide) (by decide +kernel)
  · cases h; exact ec_cS (mt_J6_bitCount_0f7a4 l) cw_J6_bitCount_0f7a4 cv_J6_bitCount_0f7a4 (by decide) (by decide) (Or.inl (ec_in (i := 988) (by decide +kernel) rfl)) (by decide +kernel)
  · cases h
def cx_X4_leftAtWorst : ex_K := (RX4, ec_fx fl_X4, ec_cx cl_X4, sl_X4, ca_X4_leftAtWorst, al_X4, ec_no)
theorem ok_X4_leftAtWorst (l : Launch) : ex_ok l 2 46 cx_X4_leftAtWorst := ⟨ec_fok fo_X4, ec_cok co_X4, so_X4, ck_X4_leftAtWorst l, am_X4, ax_X4 (by decide) (by decide), ao_X4, fun _ _ h => (by cases h)⟩
def sp_X4_leftAtWorst : ex_S := ex_sp cx_X4_leftAtWorst cX4_leftAtWorst 5 (some .int) 400
theorem mt_X4_leftAtWorst (l : Launch) : ex_Met l yX4_leftAtWorst cX4_leftAtWorst 5 (some .int) 2 46 sp_X4_leftAtWorst := ex_inl (by decide) rfl (ok_X4_leftAtWorst l)
theorem cw_X4_bestTest : ec_cw yX4_bestTest cX4_bestTest 9 (some .int) := ⟨ec_in (i := 983) (by decide +kernel) rfl, ec_in (i := 66) (by decide +kernel) rfl, by decide, by decide⟩
theorem cv_X4_bestTest : Cond.instanceMethod yX4_bestTest ∈ ec_tb ∧ Cond.selects yX4_bestTest.cls yX4_bestTest yX4_bestTest ∈ ec_tb := ⟨ec_in (i := 981) (by decide +kernel) rfl, ec_in (i := 982) (by decide +kernel) rfl⟩
def ca_X4_bestTest : Nat → Option (Nat × Option Nat × ex_S) := fun ix => match ix with
  | 37 => some (3, some 4, sp_X4_leftAtWorst)
  | 41 => some (1, none, sp_J6_bitCount_0f7a4)
  | _ => none
theorem ck_X4_bestTest (l : Launch) : ∀ (ix n : Nat) (rc : Option Nat) (sp : ex_S), ca_X4_bestTest ix = some (n, rc, sp) → ex_cok l RX4 3 70 ix n rc sp := by
  intro ix n rc sp h
  unfold ca_X4_bestTest at h
  split at h
  · cases h; exact ec_cV (mt_X4_leftAtWorst l) cw_X4_leftAtWorst cv_X4_leftAtWorst (by decide) (by decide) (Or.inl (ec_in (i := 984) (by decide +kernel) rfl)) (T := TX4) (N := 2) rfl (by decide) (by decide +kernel)
  · cases h; exact ec_cS (mt_J6_bitCount_0f7a4 l) cw_J6_bitCount_0f7a4 cv_J6_bitCount_0f7a4 (by decide) (by decide) (Or.inl (ec_in (i := 988) (by decide +kernel) rfl)) (by decide +kernel)
  · cases h
def cx_X4_bestTest : ex_K := (RX4, ec_fx fl_X4, ec_cx cl_X4, sl_X4, ca_X4_bestTest, ec_nz, ec_no)
theorem ok_X4_bestTest (l : Launch) : ex_ok l 3 70 cx_X4_bestTest := ⟨ec_fok fo_X4, ec_cok co_X4, so_X4, ck_X4_bestTest l, fun _ h => (by cases h), fun _ h => (by cases h), fun _ h => (by cases h), fun _ _ h => (by cases h)⟩
def sp_X4_bestTest : ex_S := ex_sp cx_X4_bestTest cX4_bestTest 9 (some .int) 400
theorem mt_X4_bestTest (l : Launch) : ex_Met l yX4_bestTest cX4_bestTest 9 (some .int) 3 70 sp_X4_bestTest := ex_inl (by decide) rfl (ok_X4_bestTest l)
theorem cw_X5_isSensor : ec_cw yX5_isSensor cX5_isSensor 1 (some .boolean) := ⟨ec_in (i := 1006) (by decide +kernel) rfl, ec_in (i := 67) (by decide +kernel) rfl, by decide, by decide⟩
theorem cv_X5_isSensor : Cond.static yX5_isSensor ∈ ec_tb := ec_in (i := 1005) (by decide +kernel) rfl
def cx_X5_isSensor : ex_K := (RX5, ec_fx fl_X5, ec_cx cl_X5, sl_X5, ec_no, ec_nz, ec_no)
theorem ok_X5_isSensor (l : Launch) : ex_ok l 0 0 cx_X5_isSensor := ⟨ec_fok fo_X5, ec_cok co_X5, so_X5, fun _ _ _ _ h => (by cases h), fun _ h => (by cases h), fun _ h => (by cases h), fun _ h => (by cases h), fun _ _ h => (by cases h)⟩
def sp_X5_isSensor : ex_S := ex_sp cx_X5_isSensor cX5_isSensor 1 (some .boolean) 10
theorem mt_X5_isSensor (l : Launch) : ex_Met l yX5_isSensor cX5_isSensor 1 (some .boolean) 0 0 sp_X5_isSensor := ex_inl (by decide) rfl (ok_X5_isSensor l)
theorem cw_X5_addReading : ec_cw yX5_addReading cX5_addReading 4 (some .int) := ⟨ec_in (i := 1003) (by decide +kernel) rfl, ec_in (i := 67) (by decide +kernel) rfl, by decide, by decide⟩
theorem cv_X5_addReading : Cond.instanceMethod yX5_addReading ∈ ec_tb ∧ Cond.selects yX5_addReading.cls yX5_addReading yX5_addReading ∈ ec_tb := ⟨ec_in (i := 1001) (by decide +kernel) rfl, ec_in (i := 1002) (by decide +kernel) rfl⟩
def ca_X5_addReading : Nat → Option (Nat × Option Nat × ex_S) := fun ix => match ix with
  | 37 => some (1, none, sp_X5_isSensor)
  | _ => none
theorem ck_X5_addReading (l : Launch) : ∀ (ix n : Nat) (rc : Option Nat) (sp : ex_S), ca_X5_addReading ix = some (n, rc, sp) → ex_cok l RX5 1 20 ix n rc sp := by
  intro ix n rc sp h
  unfold ca_X5_addReading at h
  split at h
  · cases h; exact ec_cS (mt_X5_isSensor l) cw_X5_isSensor cv_X5_isSensor (by decide) (by decide) (Or.inl (ec_in (i := 1004) (by decide +kernel) rfl)) (by decide +kernel)
  · cases h
def cx_X5_addReading : ex_K := (RX5, ec_fx fl_X5, ec_cx cl_X5, sl_X5, ca_X5_addReading, ec_nz, ec_no)
theorem ok_X5_addReading (l : Launch) : ex_ok l 1 20 cx_X5_addReading := ⟨ec_fok fo_X5, ec_cok co_X5, so_X5, ck_X5_addReading l, fun _ h => (by cases h), fun _ h => (by cases h), fun _ h => (by cases h), fun _ _ h => (by cases h)⟩
def sp_X5_addReading : ex_S := ex_sp cx_X5_addReading cX5_addReading 4 (some .int) 56
theorem mt_X5_addReading (l : Launch) : ex_Met l yX5_addReading cX5_addReading 4 (some .int) 1 20 sp_X5_addReading := ex_inl (by decide) rfl (ok_X5_addReading l)
theorem cw_X5_addCalibration : ec_cw yX5_addCalibration cX5_addCalibration 4 (some .int) := ⟨ec_in (i := 1016) (by decide +kernel) rfl, ec_in (i := 67) (by decide +kernel) rfl, by decide, by decide⟩
theorem cv_X5_addCalibration : Cond.instanceMethod yX5_addCalibration ∈ ec_tb ∧ Cond.selects yX5_addCalibration.cls yX5_addCalibration yX5_addCalibration ∈ ec_tb := ⟨ec_in (i := 1014) (by decide +kernel) rfl, ec_in (i := 1015) (by decide +kernel) rfl⟩
def ca_X5_addCalibration : Nat → Option (Nat × Option Nat × ex_S) := fun ix => match ix with
  | 37 => some (1, none, sp_X5_isSensor)
  | _ => none
theorem ck_X5_addCalibration (l : Launch) : ∀ (ix n : Nat) (rc : Option Nat) (sp : ex_S), ca_X5_addCalibration ix = some (n, rc, sp) → ex_cok l RX5 1 20 ix n rc sp := by
  intro ix n rc sp h
  unfold ca_X5_addCalibration at h
  split at h
  · cases h; exact ec_cS (mt_X5_isSensor l) cw_X5_isSensor cv_X5_isSensor (by decide) (by decide) (Or.inl (ec_in (i := 1004) (by decide +kernel) rfl)) (by decide +kernel)
  · cases h
def cx_X5_addCalibration : ex_K := (RX5, ec_fx fl_X5, ec_cx cl_X5, sl_X5, ca_X5_addCalibration, ec_nz, ec_no)
theorem ok_X5_addCalibration (l : Launch) : ex_ok l 1 20 cx_X5_addCalibration := ⟨ec_fok fo_X5, ec_cok co_X5, so_X5, ck_X5_addCalibration l, fun _ h => (by cases h), fun _ h => (by cases h), fun _ h => (by cases h), fun _ _ h => (by cases h)⟩
def sp_X5_addCalibration : ex_S := ex_sp cx_X5_addCalibration cX5_addCalibration 4 (some .int) 45
theorem mt_X5_addCalibration (l : Launch) : ex_Met l yX5_addCalibration cX5_addCalibration 4 (some .int) 1 20 sp_X5_addCalibration := ex_inl (by decide) rfl (ok_X5_addCalibration l)
theorem cw_X5_setDelay : ec_cw yX5_setDelay cX5_setDelay 3 (some .int) := ⟨ec_in (i := 1040) (by decide +kernel) rfl, ec_in (i := 67) (by decide +kernel) rfl, by decide, by decide⟩
theorem cv_X5_setDelay : Cond.instanceMethod yX5_setDelay ∈ ec_tb ∧ Cond.selects yX5_setDelay.cls yX5_setDelay yX5_setDelay ∈ ec_tb := ⟨ec_in (i := 1038) (by decide +kernel) rfl, ec_in (i := 1039) (by decide +kernel) rfl⟩
def cx_X5_setDelay : ex_K := (RX5, ec_fx fl_X5, ec_cx cl_X5, sl_X5, ec_no, ec_nz, ec_no)
theorem ok_X5_setDelay (l : Launch) : ex_ok l 0 0 cx_X5_setDelay := ⟨ec_fok fo_X5, ec_cok co_X5, so_X5, fun _ _ _ _ h => (by cases h), fun _ h => (by cases h), fun _ h => (by cases h), fun _ h => (by cases h), fun _ _ h => (by cases h)⟩
def sp_X5_setDelay : ex_S := ex_sp cx_X5_setDelay cX5_setDelay 3 (some .int) 16
theorem mt_X5_setDelay (l : Launch) : ex_Met l yX5_setDelay cX5_setDelay 3 (some .int) 0 0 sp_X5_setDelay := ex_inl (by decide) rfl (ok_X5_setDelay l)
theorem cw_X5_latestHeard : ec_cw yX5_latestHeard cX5_latestHeard 4 (some .int) := ⟨ec_in (i := 1048) (by decide +kernel) rfl, ec_in (i := 67) (by decide +kernel) rfl, by decide, by decide⟩
theorem cv_X5_latestHeard : Cond.instanceMethod yX5_latestHeard ∈ ec_tb ∧ Cond.selects yX5_latestHeard.cls yX5_latestHeard yX5_latestHeard ∈ ec_tb := ⟨ec_in (i := 1046) (by decide +kernel) rfl, ec_in (i := 1047) (by decide +kernel) rfl⟩
def ca_X5_latestHeard : Nat → Option (Nat × Option Nat × ex_S) := fun ix => match ix with
  | 37 => some (1, none, sp_X5_isSensor)
  | _ => none
theorem ck_X5_latestHeard (l : Launch) : ∀ (ix n : Nat) (rc : Option Nat) (sp : ex_S), ca_X5_latestHeard ix = some (n, rc, sp) → ex_cok l RX5 1 20 ix n rc sp := by
  intro ix n rc sp h
  unfold ca_X5_latestHeard at h
  split at h
  · cases h; exact ec_cS (mt_X5_isSensor l) cw_X5_isSensor cv_X5_isSensor (by decide) (by decide) (Or.inl (ec_in (i := 1004) (by decide +kernel) rfl)) (by decide +kernel)
  · cases h
def cx_X5_latestHeard : ex_K := (RX5, ec_fx fl_X5, ec_cx cl_X5, sl_X5, ca_X5_latestHeard, ec_nz, ec_no)
theorem ok_X5_latestHeard (l : Launch) : ex_ok l 1 20 cx_X5_latestHeard := ⟨ec_fok fo_X5, ec_cok co_X5, so_X5, ck_X5_latestHeard l, fun _ h => (by cases h), fun _ h => (by cases h), fun _ h => (by cases h), fun _ _ h => (by cases h)⟩
def sp_X5_latestHeard : ex_S := ex_sp cx_X5_latestHeard cX5_latestHeard 4 (some .int) 400
theorem mt_X5_latestHeard (l : Launch) : ex_Met l yX5_latestHeard cX5_latestHeard 4 (some .int) 1 20 sp_X5_latestHeard := ex_inl (by decide) rfl (ok_X5_latestHeard l)
theorem cw_X5_between : ec_cw yX5_between cX5_between 6 (some .int) := ⟨ec_in (i := 1032) (by decide +kernel) rfl, ec_in (i := 67) (by decide +kernel) rfl, by decide, by decide⟩
theorem cv_X5_between : Cond.instanceMethod yX5_between ∈ ec_tb ∧ Cond.selects yX5_between.cls yX5_between yX5_between ∈ ec_tb := ⟨ec_in (i := 1031) (by decide +kernel) rfl, ec_in (i := 23) (by decide +kernel) rfl⟩
def cx_X5_between : ex_K := (RX5, ec_fx fl_X5, ec_cx cl_X5, sl_X5, ec_no, ec_nz, ec_no)
theorem ok_X5_between (l : Launch) : ex_ok l 0 0 cx_X5_between := ⟨ec_fok fo_X5, ec_cok co_X5, so_X5, fun _ _ _ _ h => (by cases h), fun _ h => (by cases h), fun _ h => (by cases h), fun _ h => (by cases h), fun _ _ h => (by cases h)⟩
def sp_X5_between : ex_S := ex_sp cx_X5_between cX5_between 6 (some .int) 44
theorem mt_X5_between (l : Launch) : ex_Met l yX5_between cX5_between 6 (some .int) 0 0 sp_X5_between := ex_inl (by decide) rfl (ok_X5_between l)
theorem cw_X5_tooMuch : ec_cw yX5_tooMuch cX5_tooMuch 6 (some .int) := ⟨ec_in (i := 1028) (by decide +kernel) rfl, ec_in (i := 67) (by decide +kernel) rfl, by decide, by decide⟩
theorem cv_X5_tooMuch : Cond.instanceMethod yX5_tooMuch ∈ ec_tb ∧ Cond.selects yX5_tooMuch.cls yX5_tooMuch yX5_tooMuch ∈ ec_tb := ⟨ec_in (i := 1027) (by decide +kernel) rfl, ec_in (i := 22) (by decide +kernel) rfl⟩
def ca_X5_tooMuch : Nat → Option (Nat × Option Nat × ex_S) := fun ix => match ix with
  | 54 => some (4, some 5, sp_X5_between)
  | _ => none
theorem ck_X5_tooMuch (l : Launch) : ∀ (ix n : Nat) (rc : Option Nat) (sp : ex_S), ca_X5_tooMuch ix = some (n, rc, sp) → ex_cok l RX5 1 25 ix n rc sp := by
  intro ix n rc sp h
  unfold ca_X5_tooMuch at h
  split at h
  · cases h; exact ec_cV (mt_X5_between l) cw_X5_between cv_X5_between (by decide) (by decide) (Or.inl (ec_in (i := 1029) (by decide +kernel) rfl)) (T := TX5) (N := 10) rfl (by decide) (by decide +kernel)
  · cases h
def cx_X5_tooMuch : ex_K := (RX5, ec_fx fl_X5, ec_cx cl_X5, sl_X5, ca_X5_tooMuch, ec_nz, ec_no)
theorem ok_X5_tooMuch (l : Launch) : ex_ok l 1 25 cx_X5_tooMuch := ⟨ec_fok fo_X5, ec_cok co_X5, so_X5, ck_X5_tooMuch l, fun _ h => (by cases h), fun _ h => (by cases h), fun _ h => (by cases h), fun _ _ h => (by cases h)⟩
def sp_X5_tooMuch : ex_S := ex_sp cx_X5_tooMuch cX5_tooMuch 6 (some .int) 400
theorem mt_X5_tooMuch (l : Launch) : ex_Met l yX5_tooMuch cX5_tooMuch 6 (some .int) 1 25 sp_X5_tooMuch := ex_inl (by decide) rfl (ok_X5_tooMuch l)
theorem cw_X5_workedBack : ec_cw yX5_workedBack cX5_workedBack 2 (some .int) := ⟨ec_in (i := 1024) (by decide +kernel) rfl, ec_in (i := 67) (by decide +kernel) rfl, by decide, by decide⟩
theorem cv_X5_workedBack : Cond.instanceMethod yX5_workedBack ∈ ec_tb ∧ Cond.selects yX5_workedBack.cls yX5_workedBack yX5_workedBack ∈ ec_tb := ⟨ec_in (i := 1022) (by decide +kernel) rfl, ec_in (i := 1023) (by decide +kernel) rfl⟩
def ca_X5_workedBack : Nat → Option (Nat × Option Nat × ex_S) := fun ix => match ix with
  | 50 => some (3, some 5, sp_X5_tooMuch)
  | _ => none
theorem ck_X5_workedBack (l : Launch) : ∀ (ix n : Nat) (rc : Option Nat) (sp : ex_S), ca_X5_workedBack ix = some (n, rc, sp) → ex_cok l RX5 2 50 ix n rc sp := by
  intro ix n rc sp h
  unfold ca_X5_workedBack at h
  split at h
  · cases h; exact ec_cV (mt_X5_tooMuch l) cw_X5_tooMuch cv_X5_tooMuch (by decide) (by decide) (Or.inl (ec_in (i := 1025) (by decide +kernel) rfl)) (T := TX5) (N := 10) rfl (by decide) (by decide +kernel)
  · cases h
def cx_X5_workedBack : ex_K := (RX5, ec_fx fl_X5, ec_cx cl_X5, sl_X5, ca_X5_workedBack, ec_nz, ec_no)
theorem ok_X5_workedBack (l : Launch) : ex_ok l 2 50 cx_X5_workedBack := ⟨ec_fok fo_X5, ec_cok co_X5, so_X5, ck_X5_workedBack l, fun _ h => (by cases h), fun _ h => (by cases h), fun _ h => (by cases h), fun _ _ h => (by cases h)⟩
def sp_X5_workedBack : ex_S := ex_sp cx_X5_workedBack cX5_workedBack 2 (some .int) 25
theorem mt_X5_workedBack (l : Launch) : ex_Met l yX5_workedBack cX5_workedBack 2 (some .int) 2 50 sp_X5_workedBack := ex_inl (by decide) rfl (ok_X5_workedBack l)
theorem cw_X6_becomeLike : ec_cw yX6_becomeLike cX6_becomeLike 2 none := ⟨ec_in (i := 890) (by decide +kernel) rfl, ec_in (i := 63) (by decide +kernel) rfl, by decide, by decide⟩
theorem cv_X6_becomeLike : Cond.instanceMethod yX6_becomeLike ∈ ec_tb ∧ Cond.selects yX6_becomeLike.cls yX6_becomeLike yX6_becomeLike ∈ ec_tb := ⟨ec_in (i := 888) (by decide +kernel) rfl, ec_in (i := 889) (by decide +kernel) rfl⟩
def ca_X6_becomeLike : Nat → Option (Nat × Option Nat × ex_S) := fun ix => match ix with
  | 50 => some (2, none, sp_X9_copy)
  | 54 => some (2, none, sp_X9_copyFlags)
  | _ => none
theorem ck_X6_becomeLike (l : Launch) : ∀ (ix n : Nat) (rc : Option Nat) (sp : ex_S), ca_X6_becomeLike ix = some (n, rc, sp) → ex_cok l RX6 2 47 ix n rc sp := by
  intro ix n rc sp h
  unfold ca_X6_becomeLike at h
  split at h
  · cases h; exact ec_cS (mt_X9_copy l) cw_X9_copy cv_X9_copy (by decide) (by decide) (Or.inr ⟨"TinStation", by decide +kernel⟩) (by decide +kernel)
  · cases h; exact ec_cS (mt_X9_copyFlags l) cw_X9_copyFlags cv_X9_copyFlags (by decide) (by decide) (Or.inr ⟨"TinStation", by decide +kernel⟩) (by decide +kernel)
  · cases h
def cx_X6_becomeLike : ex_K := (RX6, ec_fx fl_X6, ec_cx cl_X6, sl_X6, ca_X6_becomeLike, ec_nz, ec_no)
theorem ok_X6_becomeLike (l : Launch) : ex_ok l 2 47 cx_X6_becomeLike := ⟨ec_fok fo_X6, ec_cok co_X6, so_X6, ck_X6_becomeLike l, fun _ h => (by cases h), fun _ h => (by cases h), fun _ h => (by cases h), fun _ _ h => (by cases h)⟩
def sp_X6_becomeLike : ex_S := ex_sp cx_X6_becomeLike cX6_becomeLike 2 none 73
theorem mt_X6_becomeLike (l : Launch) : ex_Met l yX6_becomeLike cX6_becomeLike 2 none 2 47 sp_X6_becomeLike := ex_inl (by decide) rfl (ok_X6_becomeLike l)
theorem cw_X6_isKind : ec_cw yX6_isKind cX6_isKind 1 (some .boolean) := ⟨ec_in (i := 562) (by decide +kernel) rfl, ec_in (i := 63) (by decide +kernel) rfl, by decide, by decide⟩
theorem cv_X6_isKind : Cond.static yX6_isKind ∈ ec_tb := ec_in (i := 561) (by decide +kernel) rfl
def cx_X6_isKind : ex_K := (RX6, ec_fx fl_X6, ec_cx cl_X6, sl_X6, ec_no, ec_nz, ec_no)
theorem ok_X6_isKind (l : Launch) : ex_ok l 0 0 cx_X6_isKind := ⟨ec_fok fo_X6, ec_cok co_X6, so_X6, fun _ _ _ _ h => (by cases h), fun _ h => (by cases h), fun _ h => (by cases h), fun _ h => (by cases h), fun _ _ h => (by cases h)⟩
def sp_X6_isKind : ex_S := ex_sp cx_X6_isKind cX6_isKind 1 (some .boolean) 10
theorem mt_X6_isKind (l : Launch) : ex_Met l yX6_isKind cX6_isKind 1 (some .boolean) 0 0 sp_X6_isKind := ex_inl (by decide) rfl (ok_X6_isKind l)
theorem cw_X6_isUse : ec_cw yX6_isUse cX6_isUse 1 (some .boolean) := ⟨ec_in (i := 565) (by decide +kernel) rfl, ec_in (i := 63) (by decide +kernel) rfl, by decide, by decide⟩
theorem cv_X6_isUse : Cond.static yX6_isUse ∈ ec_tb := ec_in (i := 564) (by decide +kernel) rfl
def cx_X6_isUse : ex_K := (RX6, ec_fx fl_X6, ec_cx cl_X6, sl_X6, ec_no, ec_nz, ec_no)
theorem ok_X6_isUse (l : Launch) : ex_ok l 0 0 cx_X6_isUse := ⟨ec_fok fo_X6, ec_cok co_X6, so_X6, fun _ _ _ _ h => (by cases h), fun _ h => (by cases h), fun _ h => (by cases h), fun _ h => (by cases h), fun _ _ h => (by cases h)⟩
def sp_X6_isUse : ex_S := ex_sp cx_X6_isUse cX6_isUse 1 (some .boolean) 24
theorem mt_X6_isUse (l : Launch) : ex_Met l yX6_isUse cX6_isUse 1 (some .boolean) 0 0 sp_X6_isUse := ex_inl (by decide) rfl (ok_X6_isUse l)
theorem cw_X6_addMachine : ec_cw yX6_addMachine cX6_addMachine 6 (some .int) := ⟨ec_in (i := 559) (by decide +kernel) rfl, ec_in (i := 63) (by decide +kernel) rfl, by decide, by decide⟩
theorem cv_X6_addMachine : Cond.instanceMethod yX6_addMachine ∈ ec_tb ∧ Cond.selects yX6_addMachine.cls yX6_addMachine yX6_addMachine ∈ ec_tb := ⟨ec_in (i := 557) (by decide +kernel) rfl, ec_in (i := 558) (by decide +kernel) rfl⟩
def ca_X6_addMachine : Nat → Option (Nat × Option Nat × ex_S) := fun ix => match ix with
  | 67 => some (1, none, sp_X6_isKind)
  | 71 => some (1, none, sp_X6_isUse)
  | _ => none
theorem ck_X6_addMachine (l : Launch) : ∀ (ix n : Nat) (rc : Option Nat) (sp : ex_S), ca_X6_addMachine ix = some (n, rc, sp) → ex_cok l RX6 1 20 ix n rc sp := by
  intro ix n rc sp h
  unfold ca_X6_addMachine at h
  split at h
  · cases h; exact ec_cS (mt_X6_isKind l) cw_X6_isKind cv_X6_isKind (by decide) (by decide) (Or.inl (ec_in (i := 560) (by decide +kernel) rfl)) (by decide +kernel)
  · cases h; exact ec_cS (mt_X6_isUse l) cw_X6_isUse cv_X6_isUse (by decide) (by decide) (Or.inl (ec_in (i := 563) (by decide +kernel) rfl)) (by decide +kernel)
  · cases h
def cx_X6_addMachine : ex_K := (RX6, ec_fx fl_X6, ec_cx cl_X6, sl_X6, ca_X6_addMachine, ec_nz, ec_no)
theorem ok_X6_addMachine (l : Launch) : ex_ok l 1 20 cx_X6_addMachine := ⟨ec_fok fo_X6, ec_cok co_X6, so_X6, ck_X6_addMachine l, fun _ h => (by cases h), fun _ h => (by cases h), fun _ h => (by cases h), fun _ _ h => (by cases h)⟩
def sp_X6_addMachine : ex_S := ex_sp cx_X6_addMachine cX6_addMachine 6 (some .int) 75
theorem mt_X6_addMachine (l : Launch) : ex_Met l yX6_addMachine cX6_addMachine 6 (some .int) 1 20 sp_X6_addMachine := ex_inl (by decide) rfl (ok_X6_addMachine l)
theorem cw_X6_isUnder : ec_cw yX6_isUnder cX6_isUnder 4 (some .boolean) := ⟨ec_in (i := 583) (by decide +kernel) rfl, ec_in (i := 63) (by decide +kernel) rfl, by decide, by decide⟩
theorem cv_X6_isUnder : Cond.static yX6_isUnder ∈ ec_tb := ec_in (i := 582) (by decide +kernel) rfl
def ca_X6_isUnder : Nat → Option (Nat × Option Nat × ex_S) := fun ix => match ix with
  | 67 => some (1, none, sp_X6_isKind)
  | _ => none
theorem ck_X6_isUnder (l : Launch) : ∀ (ix n : Nat) (rc : Option Nat) (sp : ex_S), ca_X6_isUnder ix = some (n, rc, sp) → ex_cok l RX6 1 20 ix n rc sp := by
  intro ix n rc sp h
  unfold ca_X6_isUnder at h
  split at h
  · cases h; exact ec_cS (mt_X6_isKind l) cw_X6_isKind cv_X6_isKind (by decide) (by decide) (Or.inl (ec_in (i := 560) (by decide +kernel) rfl)) (by decide +kernel)
  · cases h
def cx_X6_isUnder : ex_K := (RX6, ec_fx fl_X6, ec_cx cl_X6, sl_X6, ca_X6_isUnder, ec_nz, ec_no)
theorem ok_X6_isUnder (l : Launch) : ex_ok l 1 20 cx_X6_isUnder := ⟨ec_fok fo_X6, ec_cok co_X6, so_X6, ck_X6_isUnder l, fun _ h => (by cases h), fun _ h => (by cases h), fun _ h => (by cases h), fun _ _ h => (by cases h)⟩
def sp_X6_isUnder : ex_S := ex_sp cx_X6_isUnder cX6_isUnder 4 (some .boolean) 400
theorem mt_X6_isUnder (l : Launch) : ex_Met l yX6_isUnder cX6_isUnder 4 (some .boolean) 1 20 sp_X6_isUnder := ex_inl (by decide) rfl (ok_X6_isUnder l)
theorem cw_X6_rateAs : ec_cw yX6_rateAs cX6_rateAs 3 (some .int) := ⟨ec_in (i := 576) (by decide +kernel) rfl, ec_in (i := 63) (by decide +kernel) rfl, by decide, by decide⟩
theorem cv_X6_rateAs : Cond.instanceMethod yX6_rateAs ∈ ec_tb ∧ Cond.selects yX6_rateAs.cls yX6_rateAs yX6_rateAs ∈ ec_tb := ⟨ec_in (i := 574) (by decide +kernel) rfl, ec_in (i := 575) (by decide +kernel) rfl⟩
def ca_X6_rateAs : Nat → Option (Nat × Option Nat × ex_S) := fun ix => match ix with
  | 77 => some (2, some 6, sp_X6_has)
  | 67 => some (1, none, sp_X6_isKind)
  | 80 => some (2, none, sp_X6_isUnder)
  | _ => none
theorem ck_X6_rateAs (l : Launch) : ∀ (ix n : Nat) (rc : Option Nat) (sp : ex_S), ca_X6_rateAs ix = some (n, rc, sp) → ex_cok l RX6 2 43 ix n rc sp := by
  intro ix n rc sp h
  unfold ca_X6_rateAs at h
  split at h
  · cases h; exact ec_cV (mt_X6_has l) cw_X6_has cv_X6_has (by decide) (by decide) (Or.inl (ec_in (i := 577) (by decide +kernel) rfl)) (T := TX6) (N := 15) rfl (by decide) (by decide +kernel)
  · cases h; exact ec_cS (mt_X6_isKind l) cw_X6_isKind cv_X6_isKind (by decide) (by decide) (Or.inl (ec_in (i := 560) (by decide +kernel) rfl)) (by decide +kernel)
  · cases h; exact ec_cS (mt_X6_isUnder l) cw_X6_isUnder cv_X6_isUnder (by decide) (by decide) (Or.inl (ec_in (i := 581) (by decide +kernel) rfl)) (by decide +kernel)
  · cases h
def cx_X6_rateAs : ex_K := (RX6, ec_fx fl_X6, ec_cx cl_X6, sl_X6, ca_X6_rateAs, ec_nz, ec_no)
theorem ok_X6_rateAs (l : Launch) : ex_ok l 2 43 cx_X6_rateAs := ⟨ec_fok fo_X6, ec_cok co_X6, so_X6, ck_X6_rateAs l, fun _ h => (by cases h), fun _ h => (by cases h), fun _ h => (by cases h), fun _ _ h => (by cases h)⟩
def sp_X6_rateAs : ex_S := ex_sp cx_X6_rateAs cX6_rateAs 3 (some .int) 24
theorem mt_X6_rateAs (l : Launch) : ex_Met l yX6_rateAs cX6_rateAs 3 (some .int) 2 43 sp_X6_rateAs := ex_inl (by decide) rfl (ok_X6_rateAs l)
theorem cw_X6_setOn : ec_cw yX6_setOn cX6_setOn 4 (some .int) := ⟨ec_in (i := 594) (by decide +kernel) rfl, ec_in (i := 63) (by decide +kernel) rfl, by decide, by decide⟩
theorem cv_X6_setOn : Cond.instanceMethod yX6_setOn ∈ ec_tb ∧ Cond.selects yX6_setOn.cls yX6_setOn yX6_setOn ∈ ec_tb := ⟨ec_in (i := 592) (by decide +kernel) rfl, ec_in (i := 593) (by decide +kernel) rfl⟩
def ca_X6_setOn : Nat → Option (Nat × Option Nat × ex_S) := fun ix => match ix with
  | 77 => some (2, some 6, sp_X6_has)
  | 88 => some (1, none, sp_X9_isSwitch)
  | 91 => some (1, none, sp_X9_one)
  | _ => none
theorem ck_X6_setOn (l : Launch) : ∀ (ix n : Nat) (rc : Option Nat) (sp : ex_S), ca_X6_setOn ix = some (n, rc, sp) → ex_cok l RX6 1 21 ix n rc sp := by
  intro ix n rc sp h
  unfold ca_X6_setOn at h
  split at h
  · cases h; exact ec_cV (mt_X6_has l) cw_X6_has cv_X6_has (by decide) (by decide) (Or.inl (ec_in (i := 577) (by decide +kernel) rfl)) (T := TX6) (N := 15) rfl (by decide) (by decide +kernel)
  · cases h; exact ec_cS (mt_X9_isSwitch l) cw_X9_isSwitch cv_X9_isSwitch (by decide) (by decide) (Or.inr ⟨"TinStation", by decide +kernel⟩) (by decide +kernel)
  · cases h; exact ec_cS (mt_X9_one l) cw_X9_one cv_X9_one (by decide) (by decide) (Or.inr ⟨"TinStation", by decide +kernel⟩) (by decide +kernel)
  · cases h
def cx_X6_setOn : ex_K := (RX6, ec_fx fl_X6, ec_cx cl_X6, sl_X6, ca_X6_setOn, ec_nz, ec_no)
theorem ok_X6_setOn (l : Launch) : ex_ok l 1 21 cx_X6_setOn := ⟨ec_fok fo_X6, ec_cok co_X6, so_X6, ck_X6_setOn l, fun _ h => (by cases h), fun _ h => (by cases h), fun _ h => (by cases h), fun _ _ h => (by cases h)⟩
def sp_X6_setOn : ex_S := ex_sp cx_X6_setOn cX6_setOn 4 (some .int) 28
theorem mt_X6_setOn (l : Launch) : ex_Met l yX6_setOn cX6_setOn 4 (some .int) 1 21 sp_X6_setOn := ex_inl (by decide) rfl (ok_X6_setOn l)
theorem cw_X6_tellOf : ec_cw yX6_tellOf cX6_tellOf 3 (some .int) := ⟨ec_in (i := 604) (by decide +kernel) rfl, ec_in (i := 63) (by decide +kernel) rfl, by decide, by decide⟩
theorem cv_X6_tellOf : Cond.instanceMethod yX6_tellOf ∈ ec_tb ∧ Cond.selects yX6_tellOf.cls yX6_tellOf yX6_tellOf ∈ ec_tb := ⟨ec_in (i := 602) (by decide +kernel) rfl, ec_in (i := 603) (by decide +kernel) rfl⟩
def ca_X6_tellOf : Nat → Option (Nat × Option Nat × ex_S) := fun ix => match ix with
  | 77 => some (2, some 6, sp_X6_has)
  | 91 => some (1, none, sp_X9_one)
  | _ => none
theorem ck_X6_tellOf (l : Launch) : ∀ (ix n : Nat) (rc : Option Nat) (sp : ex_S), ca_X6_tellOf ix = some (n, rc, sp) → ex_cok l RX6 1 21 ix n rc sp := by
  intro ix n rc sp h
  unfold ca_X6_tellOf at h
  split at h
  · cases h; exact ec_cV (mt_X6_has l) cw_X6_has cv_X6_has (by decide) (by decide) (Or.inl (ec_in (i := 577) (by decide +kernel) rfl)) (T := TX6) (N := 15) rfl (by decide) (by decide +kernel)
  · cases h; exact ec_cS (mt_X9_one l) cw_X9_one cv_X9_one (by decide) (by decide) (Or.inr ⟨"TinStation", by decide +kernel⟩) (by decide +kernel)
  · cases h
def cx_X6_tellOf : ex_K := (RX6, ec_fx fl_X6, ec_cx cl_X6, sl_X6, ca_X6_tellOf, ec_nz, ec_no)
theorem ok_X6_tellOf (l : Launch) : ex_ok l 1 21 cx_X6_tellOf := ⟨ec_fok fo_X6, ec_cok co_X6, so_X6, ck_X6_tellOf l, fun _ h => (by cases h), fun _ h => (by cases h), fun _ h => (by cases h), fun _ _ h => (by cases h)⟩
def sp_X6_tellOf : ex_S := ex_sp cx_X6_tellOf cX6_tellOf 3 (some .int) 59
theorem mt_X6_tellOf (l : Launch) : ex_Met l yX6_tellOf cX6_tellOf 3 (some .int) 1 21 sp_X6_tellOf := ex_inl (by decide) rfl (ok_X6_tellOf l)
theorem cw_X6_setSpares : ec_cw yX6_setSpares cX6_setSpares 4 (some .int) := ⟨ec_in (i := 612) (by decide +kernel) rfl, ec_in (i := 63) (by decide +kernel) rfl, by decide, by decide⟩
theorem cv_X6_setSpares : Cond.instanceMethod yX6_setSpares ∈ ec_tb ∧ Cond.selects yX6_setSpares.cls yX6_setSpares yX6_setSpares ∈ ec_tb := ⟨ec_in (i := 610) (by decide +kernel) rfl, ec_in (i := 611) (by decide +kernel) rfl⟩
def ca_X6_setSpares : Nat → Option (Nat × Option Nat × ex_S) := fun ix => match ix with
  | 67 => some (1, none, sp_X6_isKind)
  | _ => none
theorem ck_X6_setSpares (l : Launch) : ∀ (ix n : Nat) (rc : Option Nat) (sp : ex_S), ca_X6_setSpares ix = some (n, rc, sp) → ex_cok l RX6 1 20 ix n rc sp := by
  intro ix n rc sp h
  unfold ca_X6_setSpares at h
  split at h
  · cases h; exact ec_cS (mt_X6_isKind l) cw_X6_isKind cv_X6_isKind (by decide) (by decide) (Or.inl (ec_in (i := 560) (by decide +kernel) rfl)) (by decide +kernel)
  · cases h
def cx_X6_setSpares : ex_K := (RX6, ec_fx fl_X6, ec_cx cl_X6, sl_X6, ca_X6_setSpares, ec_nz, ec_no)
theorem ok_X6_setSpares (l : Launch) : ex_ok l 1 20 cx_X6_setSpares := ⟨ec_fok fo_X6, ec_cok co_X6, so_X6, ck_X6_setSpares l, fun _ h => (by cases h), fun _ h => (by cases h), fun _ h => (by cases h), fun _ _ h => (by cases h)⟩
def sp_X6_setSpares : ex_S := ex_sp cx_X6_setSpares cX6_setSpares 4 (some .int) 27
theorem mt_X6_setSpares (l : Launch) : ex_Met l yX6_setSpares cX6_setSpares 4 (some .int) 1 20 sp_X6_setSpares := ex_inl (by decide) rfl (ok_X6_setSpares l)
theorem cw_X6_setSun : ec_cw yX6_setSun cX6_setSun 3 (some .int) := ⟨ec_in (i := 668) (by decide +kernel) rfl, ec_in (i := 63) (by decide +kernel) rfl, by decide, by decide⟩
theorem cv_X6_setSun : Cond.instanceMethod yX6_setSun ∈ ec_tb ∧ Cond.selects yX6_setSun.cls yX6_setSun yX6_setSun ∈ ec_tb := ⟨ec_in (i := 666) (by decide +kernel) rfl, ec_in (i := 667) (by decide +kernel) rfl⟩
def cx_X6_setSun : ex_K := (RX6, ec_fx fl_X6, ec_cx cl_X6, sl_X6, ec_no, al_X6, ec_no)
theorem ok_X6_setSun (l : Launch) : ex_ok l 1 21 cx_X6_setSun := ⟨ec_fok fo_X6, ec_cok co_X6, so_X6, fun _ _ _ _ h => (by cases h), am_X6 (by decide) (by decide), ax_X6, ao_X6, fun _ _ h => (by cases h)⟩
def sp_X6_setSun : ex_S := ex_sp cx_X6_setSun cX6_setSun 3 (some .int) 29
theorem mt_X6_setSun (l : Launch) : ex_Met l yX6_setSun cX6_setSun 3 (some .int) 1 21 sp_X6_setSun := ex_inl (by decide) rfl (ok_X6_setSun l)
theorem cw_X6_setBattery : ec_cw yX6_setBattery cX6_setBattery 3 (some .int) := ⟨ec_in (i := 679) (by decide +kernel) rfl, ec_in (i := 63) (by decide +kernel) rfl, by decide, by decide⟩
theorem cv_X6_setBattery : Cond.instanceMethod yX6_setBattery ∈ ec_tb ∧ Cond.selects yX6_setBattery.cls yX6_setBattery yX6_setBattery ∈ ec_tb := ⟨ec_in (i := 677) (by decide +kernel) rfl, ec_in (i := 678) (by decide +kernel) rfl⟩
def cx_X6_setBattery : ex_K := (RX6, ec_fx fl_X6, ec_cx cl_X6, sl_X6, ec_no, ec_nz, ec_no)
theorem ok_X6_setBattery (l : Launch) : ex_ok l 0 0 cx_X6_setBattery := ⟨ec_fok fo_X6, ec_cok co_X6, so_X6, fun _ _ _ _ h => (by cases h), fun _ h => (by cases h), fun _ h => (by cases h), fun _ h => (by cases h), fun _ _ h => (by cases h)⟩
def sp_X6_setBattery : ex_S := ex_sp cx_X6_setBattery cX6_setBattery 3 (some .int) 21
theorem mt_X6_setBattery (l : Launch) : ex_Met l yX6_setBattery cX6_setBattery 3 (some .int) 0 0 sp_X6_setBattery := ex_inl (by decide) rfl (ok_X6_setBattery l)
theorem cw_X6_isReady : ec_cw yX6_isReady cX6_isReady 2 (some .boolean) := ⟨ec_in (i := 650) (by decide +kernel) rfl, ec_in (i := 63) (by decide +kernel) rfl, by decide, by decide⟩
theorem cv_X6_isReady : Cond.instanceMethod yX6_isReady ∈ ec_tb ∧ Cond.selects yX6_isReady.cls yX6_isReady yX6_isReady ∈ ec_tb := ⟨ec_in (i := 649) (by decide +kernel) rfl, ec_in (i := 3) (by decide +kernel) rfl⟩
def cx_X6_isReady : ex_K := (RX6, ec_fx fl_X6, ec_cx cl_X6, sl_X6, ec_no, ec_nz, ec_no)
theorem ok_X6_isReady (l : Launch) : ex_ok l 0 0 cx_X6_isReady := ⟨ec_fok fo_X6, ec_cok co_X6, so_X6, fun _ _ _ _ h => (by cases h), fun _ h => (by cases h), fun _ h => (by cases h), fun _ h => (by cases h), fun _ _ h => (by cases h)⟩
def sp_X6_isReady : ex_S := ex_sp cx_X6_isReady cX6_isReady 2 (some .boolean) 15
theorem mt_X6_isReady (l : Launch) : ex_Met l yX6_isReady cX6_isReady 2 (some .boolean) 0 0 sp_X6_isReady := ex_inl (by decide) rfl (ok_X6_isReady l)
theorem cw_X6_sharePower : ec_cw yX6_sharePower cX6_sharePower 5 none := ⟨ec_in (i := 764) (by decide +kernel) rfl, ec_in (i := 63) (by decide +kernel) rfl, by decide, by decide⟩
theorem cv_X6_sharePower : Cond.instanceMethod yX6_sharePower ∈ ec_tb ∧ Cond.selects yX6_sharePower.cls yX6_sharePower yX6_sharePower ∈ ec_tb := ⟨ec_in (i := 762) (by decide +kernel) rfl, ec_in (i := 763) (by decide +kernel) rfl⟩
def ca_X6_sharePower : Nat → Option (Nat × Option Nat × ex_S) := fun ix => match ix with
  | 101 => some (2, some 6, sp_X6_isReady)
  | _ => none
theorem ck_X6_sharePower (l : Launch) : ∀ (ix n : Nat) (rc : Option Nat) (sp : ex_S), ca_X6_sharePower ix = some (n, rc, sp) → ex_cok l RX6 1 21 ix n rc sp := by
  intro ix n rc sp h
  unfold ca_X6_sharePower at h
  split at h
  · cases h; exact ec_cV (mt_X6_isReady l) cw_X6_isReady cv_X6_isReady (by decide) (by decide) (Or.inl (ec_in (i := 647) (by decide +kernel) rfl)) (T := TX6) (N := 15) rfl (by decide) (by decide +kernel)
  · cases h
def cx_X6_sharePower : ex_K := (RX6, ec_fx fl_X6, ec_cx cl_X6, sl_X6, ca_X6_sharePower, al_X6, ec_no)
theorem ok_X6_sharePower (l : Launch) : ex_ok l 1 21 cx_X6_sharePower := ⟨ec_fok fo_X6, ec_cok co_X6, so_X6, ck_X6_sharePower l, am_X6 (by decide) (by decide), ax_X6, ao_X6, fun _ _ h => (by cases h)⟩
def sp_X6_sharePower : ex_S := ex_sp cx_X6_sharePower cX6_sharePower 5 none 400
theorem mt_X6_sharePower (l : Launch) : ex_Met l yX6_sharePower cX6_sharePower 5 none 1 21 sp_X6_sharePower := ex_inl (by decide) rfl (ok_X6_sharePower l)
theorem cw_X6_split : ec_cw yX6_split cX6_split 5 none := ⟨ec_in (i := 785) (by decide +kernel) rfl, ec_in (i := 63) (by decide +kernel) rfl, by decide, by decide⟩
theorem cv_X6_split : Cond.instanceMethod yX6_split ∈ ec_tb ∧ Cond.selects yX6_split.cls yX6_split yX6_split ∈ ec_tb := ⟨ec_in (i := 784) (by decide +kernel) rfl, ec_in (i := 12) (by decide +kernel) rfl⟩
def ca_X6_split : Nat → Option (Nat × Option Nat × ex_S) := fun ix => match ix with
  | 128 => some (3, some 0, sp_X0_draw)
  | 108 => some (4, some 0, sp_X0_give)
  | 118 => some (3, some 0, sp_X0_fill)
  | _ => none
theorem ck_X6_split (l : Launch) : ∀ (ix n : Nat) (rc : Option Nat) (sp : ex_S), ca_X6_split ix = some (n, rc, sp) → ex_cok l RX6 2 44 ix n rc sp := by
  intro ix n rc sp h
  unfold ca_X6_split at h
  split at h
  · cases h; exact ec_cV (mt_X0_draw l) cw_X0_draw cv_X0_draw (by decide) (by decide) (Or.inl (ec_in (i := 786) (by decide +kernel) rfl)) (T := TX0) (N := 8) rfl (by decide) (by decide +kernel)
  · cases h; exact ec_cV (mt_X0_give l) cw_X0_give cv_X0_give (by decide) (by decide) (Or.inl (ec_in (i := 790) (by decide +kernel) rfl)) (T := TX0) (N := 8) rfl (by decide) (by decide +kernel)
  · cases h; exact ec_cV (mt_X0_fill l) cw_X0_fill cv_X0_fill (by decide) (by decide) (Or.inl (ec_in (i := 778) (by decide +kernel) rfl)) (T := TX0) (N := 8) rfl (by decide) (by decide +kernel)
  · cases h
def cx_X6_split : ex_K := (RX6, ec_fx fl_X6, ec_cx cl_X6, sl_X6, ca_X6_split, ec_nz, ec_no)
theorem ok_X6_split (l : Launch) : ex_ok l 2 44 cx_X6_split := ⟨ec_fok fo_X6, ec_cok co_X6, so_X6, ck_X6_split l, fun _ h => (by cases h), fun _ h => (by cases h), fun _ h => (by cases h), fun _ _ h => (by cases h)⟩
def sp_X6_split : ex_S := ex_sp cx_X6_split cX6_split 5 none 30
theorem mt_X6_split (l : Launch) : ex_Met l yX6_split cX6_split 5 none 2 44 sp_X6_split := ex_inl (by decide) rfl (ok_X6_split l)
theorem cw_X6_distil : ec_cw yX6_distil cX6_distil 5 none := ⟨ec_in (i := 797) (by decide +kernel) rfl, ec_in (i := 63) (by decide +kernel) rfl, by decide, by decide⟩
theorem cv_X6_distil : Cond.instanceMethod yX6_distil ∈ ec_tb ∧ Cond.selects yX6_distil.cls yX6_distil yX6_distil ∈ ec_tb := ⟨ec_in (i := 796) (by decide +kernel) rfl, ec_in (i := 13) (by decide +kernel) rfl⟩
def ca_X6_distil : Nat → Option (Nat × Option Nat × ex_S) := fun ix => match ix with
  | 128 => some (3, some 0, sp_X0_draw)
  | 118 => some (3, some 0, sp_X0_fill)
  | _ => none
theorem ck_X6_distil (l : Launch) : ∀ (ix n : Nat) (rc : Option Nat) (sp : ex_S), ca_X6_distil ix = some (n, rc, sp) → ex_cok l RX6 2 44 ix n rc sp := by
  intro ix n rc sp h
  unfold ca_X6_distil at h
  split at h
  · cases h; exact ec_cV (mt_X0_draw l) cw_X0_draw cv_X0_draw (by decide) (by decide) (Or.inl (ec_in (i := 786) (by decide +kernel) rfl)) (T := TX0) (N := 8) rfl (by decide) (by decide +kernel)
  · cases h; exact ec_cV (mt_X0_fill l) cw_X0_fill cv_X0_fill (by decide) (by decide) (Or.inl (ec_in (i := 778) (by decide +kernel) rfl)) (T := TX0) (N := 8) rfl (by decide) (by decide +kernel)
  · cases h
def cx_X6_distil : ex_K := (RX6, ec_fx fl_X6, ec_cx cl_X6, sl_X6, ca_X6_distil, ec_nz, ec_no)
theorem ok_X6_distil (l : Launch) : ex_ok l 2 44 cx_X6_distil := ⟨ec_fok fo_X6, ec_cok co_X6, so_X6, ck_X6_distil l, fun _ h => (by cases h), fun _ h => (by cases h), fun _ h => (by cases h), fun _ _ h => (by cases h)⟩
def sp_X6_distil : ex_S := ex_sp cx_X6_distil cX6_distil 5 none 26
theorem mt_X6_distil (l : Launch) : ex_Met l yX6_distil cX6_distil 5 none 2 44 sp_X6_distil := ex_inl (by decide) rfl (ok_X6_distil l)
theorem cw_X6_work : ec_cw yX6_work cX6_work 3 none := ⟨ec_in (i := 772) (by decide +kernel) rfl, ec_in (i := 63) (by decide +kernel) rfl, by decide, by decide⟩
theorem cv_X6_work : Cond.instanceMethod yX6_work ∈ ec_tb ∧ Cond.selects yX6_work.cls yX6_work yX6_work ∈ ec_tb := ⟨ec_in (i := 771) (by decide +kernel) rfl, ec_in (i := 11) (by decide +kernel) rfl⟩
def ca_X6_work : Nat → Option (Nat × Option Nat × ex_S) := fun ix => match ix with
  | 114 => some (4, some 0, sp_X0_take)
  | 118 => some (3, some 0, sp_X0_fill)
  | 122 => some (3, some 6, sp_X6_split)
  | 125 => some (3, some 6, sp_X6_distil)
  | _ => none
theorem ck_X6_work (l : Launch) : ∀ (ix n : Nat) (rc : Option Nat) (sp : ex_S), ca_X6_work ix = some (n, rc, sp) → ex_cok l RX6 3 68 ix n rc sp := by
  intro ix n rc sp h
  unfold ca_X6_work at h
  split at h
  · cases h; exact ec_cV (mt_X0_take l) cw_X0_take cv_X0_take (by decide) (by decide) (Or.inl (ec_in (i := 773) (by decide +kernel) rfl)) (T := TX0) (N := 8) rfl (by decide) (by decide +kernel)
  · cases h; exact ec_cV (mt_X0_fill l) cw_X0_fill cv_X0_fill (by decide) (by decide) (Or.inl (ec_in (i := 778) (by decide +kernel) rfl)) (T := TX0) (N := 8) rfl (by decide) (by decide +kernel)
  · cases h; exact ec_cV (mt_X6_split l) cw_X6_split cv_X6_split (by decide) (by decide) (Or.inl (ec_in (i := 782) (by decide +kernel) rfl)) (T := TX6) (N := 15) rfl (by decide) (by decide +kernel)
  · cases h; exact ec_cV (mt_X6_distil l) cw_X6_distil cv_X6_distil (by decide) (by decide) (Or.inl (ec_in (i := 794) (by decide +kernel) rfl)) (T := TX6) (N := 15) rfl (by decide) (by decide +kernel)
  · cases h
def cx_X6_work : ex_K := (RX6, ec_fx fl_X6, ec_cx cl_X6, sl_X6, ca_X6_work, ec_nz, ec_no)
theorem ok_X6_work (l : Launch) : ex_ok l 3 68 cx_X6_work := ⟨ec_fok fo_X6, ec_cok co_X6, so_X6, ck_X6_work l, fun _ h => (by cases h), fun _ h => (by cases h), fun _ h => (by cases h), fun _ _ h => (by cases h)⟩
def sp_X6_work : ex_S := ex_sp cx_X6_work cX6_work 3 none 64
theorem mt_X6_work (l : Launch) : ex_Met l yX6_work cX6_work 3 none 3 68 sp_X6_work := ex_inl (by decide) rfl (ok_X6_work l)
theorem cw_X6_workAll : ec_cw yX6_workAll cX6_workAll 3 none := ⟨ec_in (i := 768) (by decide +kernel) rfl, ec_in (i := 63) (by decide +kernel) rfl, by decide, by decide⟩
theorem cv_X6_workAll : Cond.instanceMethod yX6_workAll ∈ ec_tb ∧ Cond.selects yX6_workAll.cls yX6_workAll yX6_workAll ∈ ec_tb := ⟨ec_in (i := 766) (by decide +kernel) rfl, ec_in (i := 767) (by decide +kernel) rfl⟩
def ca_X6_workAll : Nat → Option (Nat × Option Nat × ex_S) := fun ix => match ix with
  | 104 => some (3, some 6, sp_X6_work)
  | 108 => some (4, some 0, sp_X0_give)
  | _ => none
theorem ck_X6_workAll (l : Launch) : ∀ (ix n : Nat) (rc : Option Nat) (sp : ex_S), ca_X6_workAll ix = some (n, rc, sp) → ex_cok l RX6 4 90 ix n rc sp := by
  intro ix n rc sp h
  unfold ca_X6_workAll at h
  split at h
  · cases h; exact ec_cV (mt_X6_work l) cw_X6_work cv_X6_work (by decide) (by decide) (Or.inl (ec_in (i := 769) (by decide +kernel) rfl)) (T := TX6) (N := 15) rfl (by decide) (by decide +kernel)
  · cases h; exact ec_cV (mt_X0_give l) cw_X0_give cv_X0_give (by decide) (by decide) (Or.inl (ec_in (i := 790) (by decide +kernel) rfl)) (T := TX0) (N := 8) rfl (by decide) (by decide +kernel)
  · cases h
def cx_X6_workAll : ex_K := (RX6, ec_fx fl_X6, ec_cx cl_X6, sl_X6, ca_X6_workAll, ec_nz, ec_no)
theorem ok_X6_workAll (l : Launch) : ex_ok l 4 90 cx_X6_workAll := ⟨ec_fok fo_X6, ec_cok co_X6, so_X6, ck_X6_workAll l, fun _ h => (by cases h), fun _ h => (by cases h), fun _ h => (by cases h), fun _ _ h => (by cases h)⟩
def sp_X6_workAll : ex_S := ex_sp cx_X6_workAll cX6_workAll 3 none 400
theorem mt_X6_workAll (l : Launch) : ex_Met l yX6_workAll cX6_workAll 3 none 4 90 sp_X6_workAll := ex_inl (by decide) rfl (ok_X6_workAll l)
theorem cw_X6_readySet : ec_cw yX6_readySet cX6_readySet 3 (some .int) := ⟨ec_in (i := 646) (by decide +kernel) rfl, ec_in (i := 63) (by decide +kernel) rfl, by decide, by decide⟩
theorem cv_X6_readySet : Cond.instanceMethod yX6_readySet ∈ ec_tb ∧ Cond.selects yX6_readySet.cls yX6_readySet yX6_readySet ∈ ec_tb := ⟨ec_in (i := 645) (by decide +kernel) rfl, ec_in (i := 2) (by decide +kernel) rfl⟩
def ca_X6_readySet : Nat → Option (Nat × Option Nat × ex_S) := fun ix => match ix with
  | 101 => some (2, some 6, sp_X6_isReady)
  | _ => none
theorem ck_X6_readySet (l : Launch) : ∀ (ix n : Nat) (rc : Option Nat) (sp : ex_S), ca_X6_readySet ix = some (n, rc, sp) → ex_cok l RX6 1 21 ix n rc sp := by
  intro ix n rc sp h
  unfold ca_X6_readySet at h
  split at h
  · cases h; exact ec_cV (mt_X6_isReady l) cw_X6_isReady cv_X6_isReady (by decide) (by decide) (Or.inl (ec_in (i := 647) (by decide +kernel) rfl)) (T := TX6) (N := 15) rfl (by decide) (by decide +kernel)
  · cases h
def cx_X6_readySet : ex_K := (RX6, ec_fx fl_X6, ec_cx cl_X6, sl_X6, ca_X6_readySet, ec_nz, ec_no)
theorem ok_X6_readySet (l : Launch) : ex_ok l 1 21 cx_X6_readySet := ⟨ec_fok fo_X6, ec_cok co_X6, so_X6, ck_X6_readySet l, fun _ h => (by cases h), fun _ h => (by cases h), fun _ h => (by cases h), fun _ _ h => (by cases h)⟩
def sp_X6_readySet : ex_S := ex_sp cx_X6_readySet cX6_readySet 3 (some .int) 400
theorem mt_X6_readySet (l : Launch) : ex_Met l yX6_readySet cX6_readySet 3 (some .int) 1 21 sp_X6_readySet := ex_inl (by decide) rfl (ok_X6_readySet l)
theorem cw_X6_sumOver : ec_cw yX6_sumOver cX6_sumOver 5 (some .int) := ⟨ec_in (i := 654) (by decide +kernel) rfl, ec_in (i := 63) (by decide +kernel) rfl, by decide, by decide⟩
theorem cv_X6_sumOver : Cond.instanceMethod yX6_sumOver ∈ ec_tb ∧ Cond.selects yX6_sumOver.cls yX6_sumOver yX6_sumOver ∈ ec_tb := ⟨ec_in (i := 653) (by decide +kernel) rfl, ec_in (i := 4) (by decide +kernel) rfl⟩
def cx_X6_sumOver : ex_K := (RX6, ec_fx fl_X6, ec_cx cl_X6, sl_X6, ec_no, ec_nz, ec_no)
theorem ok_X6_sumOver (l : Launch) : ex_ok l 0 0 cx_X6_sumOver := ⟨ec_fok fo_X6, ec_cok co_X6, so_X6, fun _ _ _ _ h => (by cases h), fun _ h => (by cases h), fun _ h => (by cases h), fun _ h => (by cases h), fun _ _ h => (by cases h)⟩
def sp_X6_sumOver : ex_S := ex_sp cx_X6_sumOver cX6_sumOver 5 (some .int) 400
theorem mt_X6_sumOver (l : Launch) : ex_Met l yX6_sumOver cX6_sumOver 5 (some .int) 0 0 sp_X6_sumOver := ex_inl (by decide) rfl (ok_X6_sumOver l)
theorem cw_X6_leastHarm : ec_cw yX6_leastHarm cX6_leastHarm 8 (some .int) := ⟨ec_in (i := 642) (by decide +kernel) rfl, ec_in (i := 63) (by decide +kernel) rfl, by decide, by decide⟩
theorem cv_X6_leastHarm : Cond.instanceMethod yX6_leastHarm ∈ ec_tb ∧ Cond.selects yX6_leastHarm.cls yX6_leastHarm yX6_leastHarm ∈ ec_tb := ⟨ec_in (i := 641) (by decide +kernel) rfl, ec_in (i := 1) (by decide +kernel) rfl⟩
def ca_X6_leastHarm : Nat → Option (Nat × Option Nat × ex_S) := fun ix => match ix with
  | 139 => some (1, some 6, sp_X6_readySet)
  | 135 => some (3, some 6, sp_X6_sumOver)
  | 143 => some (1, none, sp_J6_bitCount_0f7a4)
  | _ => none
theorem ck_X6_leastHarm (l : Launch) : ∀ (ix n : Nat) (rc : Option Nat) (sp : ex_S), ca_X6_leastHarm ix = some (n, rc, sp) → ex_cok l RX6 2 43 ix n rc sp := by
  intro ix n rc sp h
  unfold ca_X6_leastHarm at h
  split at h
  · cases h; exact ec_cV (mt_X6_readySet l) cw_X6_readySet cv_X6_readySet (by decide) (by decide) (Or.inl (ec_in (i := 643) (by decide +kernel) rfl)) (T := TX6) (N := 15) rfl (by decide) (by decide +kernel)
  · cases h; exact ec_cV (mt_X6_sumOver l) cw_X6_sumOver cv_X6_sumOver (by decide) (by decide) (Or.inl (ec_in (i := 651) (by decide +kernel) rfl)) (T := TX6) (N := 15) rfl (by decide) (by decide +kernel)
  · cases h; exact ec_cS (mt_J6_bitCount_0f7a4 l) cw_J6_bitCount_0f7a4 cv_J6_bitCount_0f7a4 (by decide) (by decide) (Or.inl (ec_in (i := 655) (by decide +kernel) rfl)) (by decide +kernel)
  · cases h
def cx_X6_leastHarm : ex_K := (RX6, ec_fx fl_X6, ec_cx cl_X6, sl_X6, ca_X6_leastHarm, ec_nz, ec_no)
theorem ok_X6_leastHarm (l : Launch) : ex_ok l 2 43 cx_X6_leastHarm := ⟨ec_fok fo_X6, ec_cok co_X6, so_X6, ck_X6_leastHarm l, fun _ h => (by cases h), fun _ h => (by cases h), fun _ h => (by cases h), fun _ _ h => (by cases h)⟩
def sp_X6_leastHarm : ex_S := ex_sp cx_X6_leastHarm cX6_leastHarm 8 (some .int) 400
theorem mt_X6_leastHarm (l : Launch) : ex_Met l yX6_leastHarm cX6_leastHarm 8 (some .int) 2 43 sp_X6_leastHarm := ex_inl (by decide) rfl (ok_X6_leastHarm l)
theorem cw_X6_shedding : ec_cw yX6_shedding cX6_shedding 3 (some .int) := ⟨ec_in (i := 638) (by decide +kernel) rfl, ec_in (i := 63) (by decide +kernel) rfl, by decide, by decide⟩
theorem cv_X6_shedding : Cond.instanceMethod yX6_shedding ∈ ec_tb ∧ Cond.selects yX6_shedding.cls yX6_shedding yX6_shedding ∈ ec_tb := ⟨ec_in (i := 636) (by decide +kernel) rfl, ec_in (i := 637) (by decide +kernel) rfl⟩
def ca_X6_shedding : Nat → Option (Nat × Option Nat × ex_S) := fun ix => match ix with
  | 131 => some (2, some 6, sp_X6_leastHarm)
  | 135 => some (3, some 6, sp_X6_sumOver)
  | 139 => some (1, some 6, sp_X6_readySet)
  | _ => none
theorem ck_X6_shedding (l : Launch) : ∀ (ix n : Nat) (rc : Option Nat) (sp : ex_S), ca_X6_shedding ix = some (n, rc, sp) → ex_cok l RX6 3 70 ix n rc sp := by
  intro ix n rc sp h
  unfold ca_X6_shedding at h
  split at h
  · cases h; exact ec_cV (mt_X6_leastHarm l) cw_X6_leastHarm cv_X6_leastHarm (by decide) (by decide) (Or.inl (ec_in (i := 639) (by decide +kernel) rfl)) (T := TX6) (N := 15) rfl (by decide) (by decide +kernel)
  · cases h; exact ec_cV (mt_X6_sumOver l) cw_X6_sumOver cv_X6_sumOver (by decide) (by decide) (Or.inl (ec_in (i := 651) (by decide +kernel) rfl)) (T := TX6) (N := 15) rfl (by decide) (by decide +kernel)
  · cases h; exact ec_cV (mt_X6_readySet l) cw_X6_readySet cv_X6_readySet (by decide) (by decide) (Or.inl (ec_in (i := 643) (by decide +kernel) rfl)) (T := TX6) (N := 15) rfl (by decide) (by decide +kernel)
  · cases h
def cx_X6_shedding : ex_K := (RX6, ec_fx fl_X6, ec_cx cl_X6, sl_X6, ca_X6_shedding, ec_nz, ec_no)
theorem ok_X6_shedding (l : Launch) : ex_ok l 3 70 cx_X6_shedding := ⟨ec_fok fo_X6, ec_cok co_X6, so_X6, ck_X6_shedding l, fun _ h => (by cases h), fun _ h => (by cases h), fun _ h => (by cases h), fun _ _ h => (by cases h)⟩
def sp_X6_shedding : ex_S := ex_sp cx_X6_shedding cX6_shedding 3 (some .int) 37
theorem mt_X6_shedding (l : Launch) : ex_Met l yX6_shedding cX6_shedding 3 (some .int) 3 70 sp_X6_shedding := ex_inl (by decide) rfl (ok_X6_shedding l)
theorem cw_X7_has : ec_cw yX7_has cX7_has 2 (some .boolean) := ⟨ec_in (i := 709) (by decide +kernel) rfl, ec_in (i := 59) (by decide +kernel) rfl, by decide, by decide⟩
theorem cv_X7_has : Cond.instanceMethod yX7_has ∈ ec_tb ∧ Cond.selects yX7_has.cls yX7_has yX7_has ∈ ec_tb := ⟨ec_in (i := 707) (by decide +kernel) rfl, ec_in (i := 708) (by decide +kernel) rfl⟩
def cx_X7_has : ex_K := (RX7, ec_fx fl_X7, ec_cx cl_X7, sl_X7, ec_no, ec_nz, ec_no)
theorem ok_X7_has (l : Launch) : ex_ok l 0 0 cx_X7_has := ⟨ec_fok fo_X7, ec_cok co_X7, so_X7, fun _ _ _ _ h => (by cases h), fun _ h => (by cases h), fun _ h => (by cases h), fun _ h => (by cases h), fun _ _ h => (by cases h)⟩
def sp_X7_has : ex_S := ex_sp cx_X7_has cX7_has 2 (some .boolean) 11
theorem mt_X7_has (l : Launch) : ex_Met l yX7_has cX7_has 2 (some .boolean) 0 0 sp_X7_has := ex_inl (by decide) rfl (ok_X7_has l)
theorem cw_X7_addLine : ec_cw yX7_addLine cX7_addLine 5 (some .int) := ⟨ec_in (i := 909) (by decide +kernel) rfl, ec_in (i := 59) (by decide +kernel) rfl, by decide, by decide⟩
theorem cv_X7_addLine : Cond.instanceMethod yX7_addLine ∈ ec_tb ∧ Cond.selects yX7_addLine.cls yX7_addLine yX7_addLine ∈ ec_tb := ⟨ec_in (i := 907) (by decide +kernel) rfl, ec_in (i := 908) (by decide +kernel) rfl⟩
def cx_X7_addLine : ex_K := (RX7, ec_fx fl_X7, ec_cx cl_X7, sl_X7, ec_no, ec_nz, ec_no)
theorem ok_X7_addLine (l : Launch) : ex_ok l 0 0 cx_X7_addLine := ⟨ec_fok fo_X7, ec_cok co_X7, so_X7, fun _ _ _ _ h => (by cases h), fun _ h => (by cases h), fun _ h => (by cases h), fun _ h => (by cases h), fun _ _ h => (by cases h)⟩
def sp_X7_addLine : ex_S := ex_sp cx_X7_addLine cX7_addLine 5 (some .int) 42
theorem mt_X7_addLine (l : Launch) : ex_Met l yX7_addLine cX7_addLine 5 (some .int) 0 0 sp_X7_addLine := ex_inl (by decide) rfl (ok_X7_addLine l)
theorem cw_X8_becomeLike : ec_cw yX8_becomeLike cX8_becomeLike 2 none := ⟨ec_in (i := 867) (by decide +kernel) rfl, ec_in (i := 60) (by decide +kernel) rfl, by decide, by decide⟩
theorem cv_X8_becomeLike : Cond.instanceMethod yX8_becomeLike ∈ ec_tb ∧ Cond.selects yX8_becomeLike.cls yX8_becomeLike yX8_becomeLike ∈ ec_tb := ⟨ec_in (i := 865) (by decide +kernel) rfl, ec_in (i := 866) (by decide +kernel) rfl⟩
def ca_X8_becomeLike : Nat → Option (Nat × Option Nat × ex_S) := fun ix => match ix with
  | 50 => some (2, some 0, sp_X0_becomeLike)
  | 54 => some (2, some 3, sp_X3_becomeLike)
  | 57 => some (2, some 6, sp_X6_becomeLike)
  | 60 => some (2, some 1, sp_X1_becomeLike)
  | 63 => some (2, some 2, sp_X2_becomeLike)
  | _ => none
theorem ck_X8_becomeLike (l : Launch) : ∀ (ix n : Nat) (rc : Option Nat) (sp : ex_S), ca_X8_becomeLike ix = some (n, rc, sp) → ex_cok l RX8 3 68 ix n rc sp := by
  intro ix n rc sp h
  unfold ca_X8_becomeLike at h
  split at h
  · cases h; exact ec_cV (mt_X0_becomeLike l) cw_X0_becomeLike cv_X0_becomeLike (by decide) (by decide) (Or.inl (ec_in (i := 868) (by decide +kernel) rfl)) (T := TX0) (N := 8) rfl (by decide) (by decide +kernel)
  · cases h; exact ec_cV (mt_X3_becomeLike l) cw_X3_becomeLike cv_X3_becomeLike (by decide) (by decide) (Or.inl (ec_in (i := 882) (by decide +kernel) rfl)) (T := TX3) (N := 7) rfl (by decide) (by decide +kernel)
  · cases h; exact ec_cV (mt_X6_becomeLike l) cw_X6_becomeLike cv_X6_becomeLike (by decide) (by decide) (Or.inl (ec_in (i := 887) (by decide +kernel) rfl)) (T := TX6) (N := 15) rfl (by decide) (by decide +kernel)
  · cases h; exact ec_cV (mt_X1_becomeLike l) cw_X1_becomeLike cv_X1_becomeLike (by decide) (by decide) (Or.inl (ec_in (i := 893) (by decide +kernel) rfl)) (T := TX1) (N := 6) rfl (by decide) (by decide +kernel)
  · cases h; exact ec_cV (mt_X2_becomeLike l) cw_X2_becomeLike cv_X2_becomeLike (by decide) (by decide) (Or.inl (ec_in (i := 897) (by decide +kernel) rfl)) (T := TX2) (N := 7) rfl (by decide) (by decide +kernel)
  · cases h
def cx_X8_becomeLike : ex_K := (RX8, ec_fx fl_X8, ec_cx cl_X8, sl_X8, ca_X8_becomeLike, ec_nz, ec_no)
theorem ok_X8_becomeLike (l : Launch) : ex_ok l 3 68 cx_X8_becomeLike := ⟨ec_fok fo_X8, ec_cok co_X8, so_X8, ck_X8_becomeLike l, fun _ h => (by cases h), fun _ h => (by cases h), fun _ h => (by cases h), fun _ _ h => (by cases h)⟩
def sp_X8_becomeLike : ex_S := ex_sp cx_X8_becomeLike cX8_becomeLike 2 none 31
theorem mt_X8_becomeLike (l : Launch) : ex_Met l yX8_becomeLike cX8_becomeLike 2 none 3 68 sp_X8_becomeLike := ex_inl (by decide) rfl (ok_X8_becomeLike l)
theorem cw_X8_isCheck : ec_cw yX8_isCheck cX8_isCheck 4 (some .boolean) := ⟨ec_in (i := 725) (by decide +kernel) rfl, ec_in (i := 60) (by decide +kernel) rfl, by decide, by decide⟩
theorem cv_X8_isCheck : Cond.instanceMethod yX8_isCheck ∈ ec_tb ∧ Cond.selects yX8_isCheck.cls yX8_isCheck yX8_isCheck ∈ ec_tb := ⟨ec_in (i := 724) (by decide +kernel) rfl, ec_in (i := 8) (by decide +kernel) rfl⟩
def ca_X8_isCheck : Nat → Option (Nat × Option Nat × ex_S) := fun ix => match ix with
  | 116 => some (2, some 6, sp_X6_has)
  | 208 => some (1, none, sp_X0_isSort)
  | 100 => some (2, some 0, sp_X0_hasModule)
  | _ => none
theorem ck_X8_isCheck (l : Launch) : ∀ (ix n : Nat) (rc : Option Nat) (sp : ex_S), ca_X8_isCheck ix = some (n, rc, sp) → ex_cok l RX8 1 21 ix n rc sp := by
  intro ix n rc sp h
  unfold ca_X8_isCheck at h
  split at h
  · cases h; exact ec_cV (mt_X6_has l) cw_X6_has cv_X6_has (by decide) (by decide) (Or.inl (ec_in (i := 621) (by decide +kernel) rfl)) (T := TX6) (N := 15) rfl (by decide) (by decide +kernel)
  · cases h; exact ec_cS (mt_X0_isSort l) cw_X0_isSort cv_X0_isSort (by decide) (by decide) (Or.inl (ec_in (i := 726) (by decide +kernel) rfl)) (by decide +kernel)
  · cases h; exact ec_cV (mt_X0_hasModule l) cw_X0_hasModule cv_X0_hasModule (by decide) (by decide) (Or.inl (ec_in (i := 521) (by decide +kernel) rfl)) (T := TX0) (N := 8) rfl (by decide) (by decide +kernel)
  · cases h
def cx_X8_isCheck : ex_K := (RX8, ec_fx fl_X8, ec_cx cl_X8, sl_X8, ca_X8_isCheck, ec_nz, ec_no)
theorem ok_X8_isCheck (l : Launch) : ex_ok l 1 21 cx_X8_isCheck := ⟨ec_fok fo_X8, ec_cok co_X8, so_X8, ck_X8_isCheck l, fun _ h => (by cases h), fun _ h => (by cases h), fun _ h => (by cases h), fun _ _ h => (by cases h)⟩
def sp_X8_isCheck : ex_S := ex_sp cx_X8_isCheck cX8_isCheck 4 (some .boolean) 37
theorem mt_X8_isCheck (l : Launch) : ex_Met l yX8_isCheck cX8_isCheck 4 (some .boolean) 1 21 sp_X8_isCheck := ex_inl (by decide) rfl (ok_X8_isCheck l)
theorem cw_X8_holds : ec_cw yX8_holds cX8_holds 4 (some .boolean) := ⟨ec_in (i := 730) (by decide +kernel) rfl, ec_in (i := 60) (by decide +kernel) rfl, by decide, by decide⟩
theorem cv_X8_holds : Cond.instanceMethod yX8_holds ∈ ec_tb ∧ Cond.selects yX8_holds.cls yX8_holds yX8_holds ∈ ec_tb := ⟨ec_in (i := 729) (by decide +kernel) rfl, ec_in (i := 9) (by decide +kernel) rfl⟩
def ca_X8_holds : Nat → Option (Nat × Option Nat × ex_S) := fun ix => match ix with
  | 217 => some (3, some 0, sp_X0_amount)
  | _ => none
theorem ck_X8_holds (l : Launch) : ∀ (ix n : Nat) (rc : Option Nat) (sp : ex_S), ca_X8_holds ix = some (n, rc, sp) → ex_cok l RX8 1 22 ix n rc sp := by
  intro ix n rc sp h
  unfold ca_X8_holds at h
  split at h
  · cases h; exact ec_cV (mt_X0_amount l) cw_X0_amount cv_X0_amount (by decide) (by decide) (Or.inl (ec_in (i := 731) (by decide +kernel) rfl)) (T := TX0) (N := 8) rfl (by decide) (by decide +kernel)
  · cases h
def cx_X8_holds : ex_K := (RX8, ec_fx fl_X8, ec_cx cl_X8, sl_X8, ca_X8_holds, ec_nz, ec_no)
theorem ok_X8_holds (l : Launch) : ex_ok l 1 22 cx_X8_holds := ⟨ec_fok fo_X8, ec_cok co_X8, so_X8, ck_X8_holds l, fun _ h => (by cases h), fun _ h => (by cases h), fun _ h => (by cases h), fun _ _ h => (by cases h)⟩
def sp_X8_holds : ex_S := ex_sp cx_X8_holds cX8_holds 4 (some .boolean) 44
theorem mt_X8_holds (l : Launch) : ex_Met l yX8_holds cX8_holds 4 (some .boolean) 1 22 sp_X8_holds := ex_inl (by decide) rfl (ok_X8_holds l)
theorem cw_X8_lineAfterCheck : ec_cw yX8_lineAfterCheck cX8_lineAfterCheck 6 (some .int) := ⟨ec_in (i := 721) (by decide +kernel) rfl, ec_in (i := 60) (by decide +kernel) rfl, by decide, by decide⟩
theorem cv_X8_lineAfterCheck : Cond.instanceMethod yX8_lineAfterCheck ∈ ec_tb ∧ Cond.selects yX8_lineAfterCheck.cls yX8_lineAfterCheck yX8_lineAfterCheck ∈ ec_tb := ⟨ec_in (i := 720) (by decide +kernel) rfl, ec_in (i := 7) (by decide +kernel) rfl⟩
def ca_X8_lineAfterCheck : Nat → Option (Nat × Option Nat × ex_S) := fun ix => match ix with
  | 149 => some (2, some 7, sp_X7_has)
  | 201 => some (4, some 8, sp_X8_isCheck)
  | 205 => some (4, some 8, sp_X8_holds)
  | _ => none
theorem ck_X8_lineAfterCheck (l : Launch) : ∀ (ix n : Nat) (rc : Option Nat) (sp : ex_S), ca_X8_lineAfterCheck ix = some (n, rc, sp) → ex_cok l RX8 2 45 ix n rc sp := by
  intro ix n rc sp h
  unfold ca_X8_lineAfterCheck at h
  split at h
  · cases h; exact ec_cV (mt_X7_has l) cw_X7_has cv_X7_has (by decide) (by decide) (Or.inl (ec_in (i := 706) (by decide +kernel) rfl)) (T := TX7) (N := 5) rfl (by decide) (by decide +kernel)
  · cases h; exact ec_cV (mt_X8_isCheck l) cw_X8_isCheck cv_X8_isCheck (by decide) (by decide) (Or.inl (ec_in (i := 722) (by decide +kernel) rfl)) (T := TX8) (N := 7) rfl (by decide) (by decide +kernel)
  · cases h; exact ec_cV (mt_X8_holds l) cw_X8_holds cv_X8_holds (by decide) (by decide) (Or.inl (ec_in (i := 727) (by decide +kernel) rfl)) (T := TX8) (N := 7) rfl (by decide) (by decide +kernel)
  · cases h
def cx_X8_lineAfterCheck : ex_K := (RX8, ec_fx fl_X8, ec_cx cl_X8, sl_X8, ca_X8_lineAfterCheck, ec_nz, ec_no)
theorem ok_X8_lineAfterCheck (l : Launch) : ex_ok l 2 45 cx_X8_lineAfterCheck := ⟨ec_fok fo_X8, ec_cok co_X8, so_X8, ck_X8_lineAfterCheck l, fun _ h => (by cases h), fun _ h => (by cases h), fun _ h => (by cases h), fun _ _ h => (by cases h)⟩
def sp_X8_lineAfterCheck : ex_S := ex_sp cx_X8_lineAfterCheck cX8_lineAfterCheck 6 (some .int) 54
theorem mt_X8_lineAfterCheck (l : Launch) : ex_Met l yX8_lineAfterCheck cX8_lineAfterCheck 6 (some .int) 2 45 sp_X8_lineAfterCheck := ex_inl (by decide) rfl (ok_X8_lineAfterCheck l)
theorem cw_X8_walk : ec_cw yX8_walk cX8_walk 3 (some .int) := ⟨ec_in (i := 516) (by decide +kernel) rfl, ec_in (i := 60) (by decide +kernel) rfl, by decide, by decide⟩
theorem cv_X8_walk : Cond.instanceMethod yX8_walk ∈ ec_tb ∧ Cond.selects yX8_walk.cls yX8_walk yX8_walk ∈ ec_tb := ⟨ec_in (i := 514) (by decide +kernel) rfl, ec_in (i := 515) (by decide +kernel) rfl⟩
def ca_X8_walk : Nat → Option (Nat × Option Nat × ex_S) := fun ix => match ix with
  | 96 => some (2, some 3, sp_X3_has)
  | 100 => some (2, some 0, sp_X0_hasModule)
  | 104 => some (2, some 3, sp_X3_mends)
  | 111 => some (3, some 0, sp_X0_openBetween)
  | _ => none
theorem ck_X8_walk (l : Launch) : ∀ (ix n : Nat) (rc : Option Nat) (sp : ex_S), ca_X8_walk ix = some (n, rc, sp) → ex_cok l RX8 1 24 ix n rc sp := by
  intro ix n rc sp h
  unfold ca_X8_walk at h
  split at h
  · cases h; exact ec_cV (mt_X3_has l) cw_X3_has cv_X3_has (by decide) (by decide) (Or.inl (ec_in (i := 517) (by decide +kernel) rfl)) (T := TX3) (N := 7) rfl (by decide) (by decide +kernel)
  · cases h; exact ec_cV (mt_X0_hasModule l) cw_X0_hasModule cv_X0_hasModule (by decide) (by decide) (Or.inl (ec_in (i := 521) (by decide +kernel) rfl)) (T := TX0) (N := 8) rfl (by decide) (by decide +kernel)
  · cases h; exact ec_cV (mt_X3_mends l) cw_X3_mends cv_X3_mends (by decide) (by decide) (Or.inl (ec_in (i := 523) (by decide +kernel) rfl)) (T := TX3) (N := 7) rfl (by decide) (by decide +kernel)
  · cases h; exact ec_cV (mt_X0_openBetween l) cw_X0_openBetween cv_X0_openBetween (by decide) (by decide) (Or.inl (ec_in (i := 527) (by decide +kernel) rfl)) (T := TX0) (N := 8) rfl (by decide) (by decide +kernel)
  · cases h
def cx_X8_walk : ex_K := (RX8, ec_fx fl_X8, ec_cx cl_X8, sl_X8, ca_X8_walk, ec_nz, ec_no)
theorem ok_X8_walk (l : Launch) : ex_ok l 1 24 cx_X8_walk := ⟨ec_fok fo_X8, ec_cok co_X8, so_X8, ck_X8_walk l, fun _ h => (by cases h), fun _ h => (by cases h), fun _ h => (by cases h), fun _ _ h => (by cases h)⟩
def sp_X8_walk : ex_S := ex_sp cx_X8_walk cX8_walk 3 (some .int) 45
theorem mt_X8_walk (l : Launch) : ex_Met l yX8_walk cX8_walk 3 (some .int) 1 24 sp_X8_walk := ex_inl (by decide) rfl (ok_X8_walk l)
theorem cw_X8_mend : ec_cw yX8_mend cX8_mend 5 (some .int) := ⟨ec_in (i := 620) (by decide +kernel) rfl, ec_in (i := 60) (by decide +kernel) rfl, by decide, by decide⟩
theorem cv_X8_mend : Cond.instanceMethod yX8_mend ∈ ec_tb ∧ Cond.selects yX8_mend.cls yX8_mend yX8_mend ∈ ec_tb := ⟨ec_in (i := 618) (by decide +kernel) rfl, ec_in (i := 619) (by decide +kernel) rfl⟩
def ca_X8_mend : Nat → Option (Nat × Option Nat × ex_S) := fun ix => match ix with
  | 96 => some (2, some 3, sp_X3_has)
  | 116 => some (2, some 6, sp_X6_has)
  | 121 => some (2, some 3, sp_X3_isMended)
  | 104 => some (2, some 3, sp_X3_mends)
  | 132 => some (4, some 3, sp_X3_startMending)
  | _ => none
theorem ck_X8_mend (l : Launch) : ∀ (ix n : Nat) (rc : Option Nat) (sp : ex_S), ca_X8_mend ix = some (n, rc, sp) → ex_cok l RX8 1 23 ix n rc sp := by
  intro ix n rc sp h
  unfold ca_X8_mend at h
  split at h
  · cases h; exact ec_cV (mt_X3_has l) cw_X3_has cv_X3_has (by decide) (by decide) (Or.inl (ec_in (i := 517) (by decide +kernel) rfl)) (T := TX3) (N := 7) rfl (by decide) (by decide +kernel)
  · cases h; exact ec_cV (mt_X6_has l) cw_X6_has cv_X6_has (by decide) (by decide) (Or.inl (ec_in (i := 621) (by decide +kernel) rfl)) (T := TX6) (N := 15) rfl (by decide) (by decide +kernel)
  · cases h; exact ec_cV (mt_X3_isMended l) cw_X3_isMended cv_X3_isMended (by decide) (by decide) (Or.inl (ec_in (i := 622) (by decide +kernel) rfl)) (T := TX3) (N := 7) rfl (by decide) (by decide +kernel)
  · cases h; exact ec_cV (mt_X3_mends l) cw_X3_mends cv_X3_mends (by decide) (by decide) (Or.inl (ec_in (i := 523) (by decide +kernel) rfl)) (T := TX3) (N := 7) rfl (by decide) (by decide +kernel)
  · cases h; exact ec_cV (mt_X3_startMending l) cw_X3_startMending cv_X3_startMending (by decide) (by decide) (Or.inl (ec_in (i := 627) (by decide +kernel) rfl)) (T := TX3) (N := 7) rfl (by decide) (by decide +kernel)
  · cases h
def cx_X8_mend : ex_K := (RX8, ec_fx fl_X8, ec_cx cl_X8, sl_X8, ca_X8_mend, ec_nz, ec_no)
theorem ok_X8_mend (l : Launch) : ex_ok l 1 23 cx_X8_mend := ⟨ec_fok fo_X8, ec_cok co_X8, so_X8, ck_X8_mend l, fun _ h => (by cases h), fun _ h => (by cases h), fun _ h => (by cases h), fun _ _ h => (by cases h)⟩
def sp_X8_mend : ex_S := ex_sp cx_X8_mend cX8_mend 5 (some .int) 84
theorem mt_X8_mend (l : Launch) : ex_Met l yX8_mend cX8_mend 5 (some .int) 1 23 sp_X8_mend := ex_inl (by decide) rfl (ok_X8_mend l)
theorem cw_X8_actByText : ec_cw yX8_actByText cX8_actByText 4 (some .int) := ⟨ec_in (i := 738) (by decide +kernel) rfl, ec_in (i := 60) (by decide +kernel) rfl, by decide, by decide⟩
theorem cv_X8_actByText : Cond.instanceMethod yX8_actByText ∈ ec_tb ∧ Cond.selects yX8_actByText.cls yX8_actByText yX8_actByText ∈ ec_tb := ⟨ec_in (i := 737) (by decide +kernel) rfl, ec_in (i := 10) (by decide +kernel) rfl⟩
def ca_X8_actByText : Nat → Option (Nat × Option Nat × ex_S) := fun ix => match ix with
  | 184 => some (3, some 6, sp_X6_setOn)
  | 188 => some (3, some 0, sp_X0_setOpen)
  | 191 => some (3, some 8, sp_X8_walk)
  | 197 => some (4, some 8, sp_X8_mend)
  | _ => none
theorem ck_X8_actByText (l : Launch) : ∀ (ix n : Nat) (rc : Option Nat) (sp : ex_S), ca_X8_actByText ix = some (n, rc, sp) → ex_cok l RX8 2 47 ix n rc sp := by
  intro ix n rc sp h
  unfold ca_X8_actByText at h
  split at h
  · cases h; exact ec_cV (mt_X6_setOn l) cw_X6_setOn cv_X6_setOn (by decide) (by decide) (Or.inl (ec_in (i := 739) (by decide +kernel) rfl)) (T := TX6) (N := 15) rfl (by decide) (by decide +kernel)
  · cases h; exact ec_cV (mt_X0_setOpen l) cw_X0_setOpen cv_X0_setOpen (by decide) (by decide) (Or.inl (ec_in (i := 740) (by decide +kernel) rfl)) (T := TX0) (N := 8) rfl (by decide) (by decide +kernel)
  · cases h; exact ec_cV (mt_X8_walk l) cw_X8_walk cv_X8_walk (by decide) (by decide) (Or.inl (ec_in (i := 741) (by decide +kernel) rfl)) (T := TX8) (N := 7) rfl (by decide) (by decide +kernel)
  · cases h; exact ec_cV (mt_X8_mend l) cw_X8_mend cv_X8_mend (by decide) (by decide) (Or.inl (ec_in (i := 742) (by decide +kernel) rfl)) (T := TX8) (N := 7) rfl (by decide) (by decide +kernel)
  · cases h
def cx_X8_actByText : ex_K := (RX8, ec_fx fl_X8, ec_cx cl_X8, sl_X8, ca_X8_actByText, ec_nz, ec_no)
theorem ok_X8_actByText (l : Launch) : ex_ok l 2 47 cx_X8_actByText := ⟨ec_fok fo_X8, ec_cok co_X8, so_X8, ck_X8_actByText l, fun _ h => (by cases h), fun _ h => (by cases h), fun _ h => (by cases h), fun _ _ h => (by cases h)⟩
def sp_X8_actByText : ex_S := ex_sp cx_X8_actByText cX8_actByText 4 (some .int) 60
theorem mt_X8_actByText (l : Launch) : ex_Met l yX8_actByText cX8_actByText 4 (some .int) 2 47 sp_X8_actByText := ex_inl (by decide) rfl (ok_X8_actByText l)
theorem cw_X8_lineAfter : ec_cw yX8_lineAfter cX8_lineAfter 3 (some .int) := ⟨ec_in (i := 717) (by decide +kernel) rfl, ec_in (i := 60) (by decide +kernel) rfl, by decide, by decide⟩
theorem cv_X8_lineAfter : Cond.instanceMethod yX8_lineAfter ∈ ec_tb ∧ Cond.selects yX8_lineAfter.cls yX8_lineAfter yX8_lineAfter ∈ ec_tb := ⟨ec_in (i := 716) (by decide +kernel) rfl, ec_in (i := 6) (by decide +kernel) rfl⟩
def ca_X8_lineAfter : Nat → Option (Nat × Option Nat × ex_S) := fun ix => match ix with
  | 171 => some (2, some 8, sp_X8_lineAfterCheck)
  | 149 => some (2, some 7, sp_X7_has)
  | 177 => some (2, some 8, sp_X8_actByText)
  | _ => none
theorem ck_X8_lineAfter (l : Launch) : ∀ (ix n : Nat) (rc : Option Nat) (sp : ex_S), ca_X8_lineAfter ix = some (n, rc, sp) → ex_cok l RX8 3 70 ix n rc sp := by
  intro ix n rc sp h
  unfold ca_X8_lineAfter at h
  split at h
  · cases h; exact ec_cV (mt_X8_lineAfterCheck l) cw_X8_lineAfterCheck cv_X8_lineAfterCheck (by decide) (by decide) (Or.inl (ec_in (i := 718) (by decide +kernel) rfl)) (T := TX8) (N := 7) rfl (by decide) (by decide +kernel)
  · cases h; exact ec_cV (mt_X7_has l) cw_X7_has cv_X7_has (by decide) (by decide) (Or.inl (ec_in (i := 706) (by decide +kernel) rfl)) (T := TX7) (N := 5) rfl (by decide) (by decide +kernel)
  · cases h; exact ec_cV (mt_X8_actByText l) cw_X8_actByText cv_X8_actByText (by decide) (by decide) (Or.inl (ec_in (i := 735) (by decide +kernel) rfl)) (T := TX8) (N := 7) rfl (by decide) (by decide +kernel)
  · cases h
def cx_X8_lineAfter : ex_K := (RX8, ec_fx fl_X8, ec_cx cl_X8, sl_X8, ca_X8_lineAfter, ec_nz, ec_no)
theorem ok_X8_lineAfter (l : Launch) : ex_ok l 3 70 cx_X8_lineAfter := ⟨ec_fok fo_X8, ec_cok co_X8, so_X8, ck_X8_lineAfter l, fun _ h => (by cases h), fun _ h => (by cases h), fun _ h => (by cases h), fun _ _ h => (by cases h)⟩
def sp_X8_lineAfter : ex_S := ex_sp cx_X8_lineAfter cX8_lineAfter 3 (some .int) 72
theorem mt_X8_lineAfter (l : Launch) : ex_Met l yX8_lineAfter cX8_lineAfter 3 (some .int) 3 70 sp_X8_lineAfter := ex_inl (by decide) rfl (ok_X8_lineAfter l)
theorem cw_X8_doText : ec_cw yX8_doText cX8_doText 2 none := ⟨ec_in (i := 705) (by decide +kernel) rfl, ec_in (i := 60) (by decide +kernel) rfl, by decide, by decide⟩
theorem cv_X8_doText : Cond.instanceMethod yX8_doText ∈ ec_tb ∧ Cond.selects yX8_doText.cls yX8_doText yX8_doText ∈ ec_tb := ⟨ec_in (i := 704) (by decide +kernel) rfl, ec_in (i := 5) (by decide +kernel) rfl⟩
def ca_X8_doText : Nat → Option (Nat × Option Nat × ex_S) := fun ix => match ix with
  | 149 => some (2, some 7, sp_X7_has)
  | 152 => some (2, some 2, sp_X2_finish)
  | 161 => some (2, some 8, sp_X8_lineAfter)
  | 165 => some (2, some 2, sp_X2_goOnAt)
  | _ => none
theorem ck_X8_doText (l : Launch) : ∀ (ix n : Nat) (rc : Option Nat) (sp : ex_S), ca_X8_doText ix = some (n, rc, sp) → ex_cok l RX8 4 92 ix n rc sp := by
  intro ix n rc sp h
  unfold ca_X8_doText at h
  split at h
  · cases h; exact ec_cV (mt_X7_has l) cw_X7_has cv_X7_has (by decide) (by decide) (Or.inl (ec_in (i := 706) (by decide +kernel) rfl)) (T := TX7) (N := 5) rfl (by decide) (by decide +kernel)
  · cases h; exact ec_cV (mt_X2_finish l) cw_X2_finish cv_X2_finish (by decide) (by decide) (Or.inl (ec_in (i := 710) (by decide +kernel) rfl)) (T := TX2) (N := 7) rfl (by decide) (by decide +kernel)
  · cases h; exact ec_cV (mt_X8_lineAfter l) cw_X8_lineAfter cv_X8_lineAfter (by decide) (by decide) (Or.inl (ec_in (i := 714) (by decide +kernel) rfl)) (T := TX8) (N := 7) rfl (by decide) (by decide +kernel)
  · cases h; exact ec_cV (mt_X2_goOnAt l) cw_X2_goOnAt cv_X2_goOnAt (by decide) (by decide) (Or.inl (ec_in (i := 744) (by decide +kernel) rfl)) (T := TX2) (N := 7) rfl (by decide) (by decide +kernel)
  · cases h
def cx_X8_doText : ex_K := (RX8, ec_fx fl_X8, ec_cx cl_X8, sl_X8, ca_X8_doText, ec_nz, ec_no)
theorem ok_X8_doText (l : Launch) : ex_ok l 4 92 cx_X8_doText := ⟨ec_fok fo_X8, ec_cok co_X8, so_X8, ck_X8_doText l, fun _ h => (by cases h), fun _ h => (by cases h), fun _ h => (by cases h), fun _ _ h => (by cases h)⟩
def sp_X8_doText : ex_S := ex_sp cx_X8_doText cX8_doText 2 none 60
theorem mt_X8_doText (l : Launch) : ex_Met l yX8_doText cX8_doText 2 none 4 92 sp_X8_doText := ex_inl (by decide) rfl (ok_X8_doText l)
theorem cw_X8_passTick : ec_cw yX8_passTick cX8_passTick 2 (some .boolean) := ⟨ec_in (i := 701) (by decide +kernel) rfl, ec_in (i := 60) (by decide +kernel) rfl, by decide, by decide⟩
theorem cv_X8_passTick : Cond.instanceMethod yX8_passTick ∈ ec_tb ∧ Cond.selects yX8_passTick.cls yX8_passTick yX8_passTick ∈ ec_tb := ⟨ec_in (i := 699) (by decide +kernel) rfl, ec_in (i := 700) (by decide +kernel) rfl⟩
def ca_X8_passTick : Nat → Option (Nat × Option Nat × ex_S) := fun ix => match ix with
  | 70 => some (1, some 8, sp_X8_doText)
  | 73 => some (2, some 3, sp_X3_mendOn)
  | 76 => some (2, some 6, sp_X6_sharePower)
  | 80 => some (2, some 6, sp_X6_workAll)
  | 83 => some (2, some 3, sp_X3_live)
  | 86 => some (1, some 0, sp_X0_leakOut)
  | 89 => some (1, some 0, sp_X0_mixThroughHatches)
  | 92 => some (4, some 1, sp_X1_look)
  | _ => none
theorem ck_X8_passTick (l : Launch) : ∀ (ix n : Nat) (rc : Option Nat) (sp : ex_S), ca_X8_passTick ix = some (n, rc, sp) → ex_cok l RX8 5 113 ix n rc sp := by
  intro ix n rc sp h
  unfold ca_X8_passTick at h
  split at h
  · cases h; exact ec_cV (mt_X8_doText l) cw_X8_doText cv_X8_doText (by decide) (by decide) (Or.inl (ec_in (i := 702) (by decide +kernel) rfl)) (T := TX8) (N := 7) rfl (by decide) (by decide +kernel)
  · cases h; exact ec_cV (mt_X3_mendOn l) cw_X3_mendOn cv_X3_mendOn (by decide) (by decide) (Or.inl (ec_in (i := 753) (by decide +kernel) rfl)) (T := TX3) (N := 7) rfl (by decide) (by decide +kernel)
  · cases h; exact ec_cV (mt_X6_sharePower l) cw_X6_sharePower cv_X6_sharePower (by decide) (by decide) (Or.inl (ec_in (i := 761) (by decide +kernel) rfl)) (T := TX6) (N := 15) rfl (by decide) (by decide +kernel)
  · cases h; exact ec_cV (mt_X6_workAll l) cw_X6_workAll cv_X6_workAll (by decide) (by decide) (Or.inl (ec_in (i := 765) (by decide +kernel) rfl)) (T := TX6) (N := 15) rfl (by decide) (by decide +kernel)
  · cases h; exact ec_cV (mt_X3_live l) cw_X3_live cv_X3_live (by decide) (by decide) (Or.inl (ec_in (i := 798) (by decide +kernel) rfl)) (T := TX3) (N := 7) rfl (by decide) (by decide +kernel)
  · cases h; exact ec_cV (mt_X0_leakOut l) cw_X0_leakOut cv_X0_leakOut (by decide) (by decide) (Or.inl (ec_in (i := 819) (by decide +kernel) rfl)) (T := TX0) (N := 8) rfl (by decide) (by decide +kernel)
  · cases h; exact ec_cV (mt_X0_mixThroughHatches l) cw_X0_mixThroughHatches cv_X0_mixThroughHatches (by decide) (by decide) (Or.inl (ec_in (i := 826) (by decide +kernel) rfl)) (T := TX0) (N := 8) rfl (by decide) (by decide +kernel)
  · cases h; exact ec_cV (mt_X1_look l) cw_X1_look cv_X1_look (by decide) (by decide) (Or.inl (ec_in (i := 834) (by decide +kernel) rfl)) (T := TX1) (N := 6) rfl (by decide) (by decide +kernel)
  · cases h
def cx_X8_passTick : ex_K := (RX8, ec_fx fl_X8, ec_cx cl_X8, sl_X8, ca_X8_passTick, ec_nz, ec_no)
theorem ok_X8_passTick (l : Launch) : ex_ok l 5 113 cx_X8_passTick := ⟨ec_fok fo_X8, ec_cok co_X8, so_X8, ck_X8_passTick l, fun _ h => (by cases h), fun _ h => (by cases h), fun _ h => (by cases h), fun _ _ h => (by cases h)⟩
def sp_X8_passTick : ex_S := ex_sp cx_X8_passTick cX8_passTick 2 (some .boolean) 47
theorem mt_X8_passTick (l : Launch) : ex_Met l yX8_passTick cX8_passTick 2 (some .boolean) 5 113 sp_X8_passTick := ex_inl (by decide) rfl (ok_X8_passTick l)
theorem cw_X9_counted : ec_cw yX9_counted cX9_counted 2 (some .int) := ⟨ec_in (i := 427) (by decide +kernel) rfl, ec_in (i := 58) (by decide +kernel) rfl, by decide, by decide⟩
theorem cv_X9_counted : Cond.instanceMethod yX9_counted ∈ ec_tb ∧ Cond.selects yX9_counted.cls yX9_counted yX9_counted ∈ ec_tb := ⟨ec_in (i := 426) (by decide +kernel) rfl, ec_in (i := 0) (by decide +kernel) rfl⟩
def cx_X9_counted : ex_K := (RX9, ec_fx fl_X9, ec_cx cl_X9, sl_X9, ec_no, ec_nz, ec_no)
theorem ok_X9_counted (l : Launch) : ex_ok l 0 0 cx_X9_counted := ⟨ec_fok fo_X9, ec_cok co_X9, so_X9, fun _ _ _ _ h => (by cases h), fun _ h => (by cases h), fun _ h => (by cases h), fun _ h => (by cases h), fun _ _ h => (by cases h)⟩
def sp_X9_counted : ex_S := ex_sp cx_X9_counted cX9_counted 2 (some .int) 19
theorem mt_X9_counted (l : Launch) : ex_Met l yX9_counted cX9_counted 2 (some .int) 0 0 sp_X9_counted := ex_inl (by decide) rfl (ok_X9_counted l)
theorem cw_X9_module : ec_cw yX9_module cX9_module 1 (some .int) := ⟨ec_in (i := 418) (by decide +kernel) rfl, ec_in (i := 58) (by decide +kernel) rfl, by decide, by decide⟩
theorem cv_X9_module : Cond.instanceMethod yX9_module ∈ ec_tb ∧ Cond.selects yX9_module.cls yX9_module yX9_module ∈ ec_tb := ⟨ec_in (i := 416) (by decide +kernel) rfl, ec_in (i := 417) (by decide +kernel) rfl⟩
def ca_X9_module : Nat → Option (Nat × Option Nat × ex_S) := fun ix => match ix with
  | 58 => some (1, some 0, sp_X0_addModule)
  | 64 => some (2, some 9, sp_X9_counted)
  | _ => none
theorem ck_X9_module (l : Launch) : ∀ (ix n : Nat) (rc : Option Nat) (sp : ex_S), ca_X9_module ix = some (n, rc, sp) → ex_cok l RX9 1 21 ix n rc sp := by
  intro ix n rc sp h
  unfold ca_X9_module at h
  split at h
  · cases h; exact ec_cV (mt_X0_addModule l) cw_X0_addModule cv_X0_addModule (by decide) (by decide) (Or.inl (ec_in (i := 419) (by decide +kernel) rfl)) (T := TX0) (N := 8) rfl (by decide) (by decide +kernel)
  · cases h; exact ec_cV (mt_X9_counted l) cw_X9_counted cv_X9_counted (by decide) (by decide) (Or.inl (ec_in (i := 424) (by decide +kernel) rfl)) (T := TX9) (N := 10) rfl (by decide) (by decide +kernel)
  · cases h
def cx_X9_module : ex_K := (RX9, ec_fx fl_X9, ec_cx cl_X9, sl_X9, ca_X9_module, ec_nz, ec_no)
theorem ok_X9_module (l : Launch) : ex_ok l 1 21 cx_X9_module := ⟨ec_fok fo_X9, ec_cok co_X9, so_X9, ck_X9_module l, fun _ h => (by cases h), fun _ h => (by cases h), fun _ h => (by cases h), fun _ _ h => (by cases h)⟩
def sp_X9_module : ex_S := ex_sp cx_X9_module cX9_module 1 (some .int) 8
theorem mt_X9_module (l : Launch) : ex_Met l yX9_module cX9_module 1 (some .int) 1 21 sp_X9_module := ex_inl (by decide) rfl (ok_X9_module l)
theorem cw_X9_hatch : ec_cw yX9_hatch cX9_hatch 3 (some .int) := ⟨ec_in (i := 433) (by decide +kernel) rfl, ec_in (i := 58) (by decide +kernel) rfl, by decide, by decide⟩
theorem cv_X9_hatch : Cond.instanceMethod yX9_hatch ∈ ec_tb ∧ Cond.selects yX9_hatch.cls yX9_hatch yX9_hatch ∈ ec_tb := ⟨ec_in (i := 431) (by decide +kernel) rfl, ec_in (i := 432) (by decide +kernel) rfl⟩
def ca_X9_hatch : Nat → Option (Nat × Option Nat × ex_S) := fun ix => match ix with
  | 68 => some (3, some 0, sp_X0_addHatch)
  | 64 => some (2, some 9, sp_X9_counted)
  | _ => none
theorem ck_X9_hatch (l : Launch) : ∀ (ix n : Nat) (rc : Option Nat) (sp : ex_S), ca_X9_hatch ix = some (n, rc, sp) → ex_cok l RX9 2 43 ix n rc sp := by
  intro ix n rc sp h
  unfold ca_X9_hatch at h
  split at h
  · cases h; exact ec_cV (mt_X0_addHatch l) cw_X0_addHatch cv_X0_addHatch (by decide) (by decide) (Or.inl (ec_in (i := 434) (by decide +kernel) rfl)) (T := TX0) (N := 8) rfl (by decide) (by decide +kernel)
  · cases h; exact ec_cV (mt_X9_counted l) cw_X9_counted cv_X9_counted (by decide) (by decide) (Or.inl (ec_in (i := 424) (by decide +kernel) rfl)) (T := TX9) (N := 10) rfl (by decide) (by decide +kernel)
  · cases h
def cx_X9_hatch : ex_K := (RX9, ec_fx fl_X9, ec_cx cl_X9, sl_X9, ca_X9_hatch, ec_nz, ec_no)
theorem ok_X9_hatch (l : Launch) : ex_ok l 2 43 cx_X9_hatch := ⟨ec_fok fo_X9, ec_cok co_X9, so_X9, ck_X9_hatch l, fun _ h => (by cases h), fun _ h => (by cases h), fun _ h => (by cases h), fun _ _ h => (by cases h)⟩
def sp_X9_hatch : ex_S := ex_sp cx_X9_hatch cX9_hatch 3 (some .int) 10
theorem mt_X9_hatch (l : Launch) : ex_Met l yX9_hatch cX9_hatch 3 (some .int) 2 43 sp_X9_hatch := ex_inl (by decide) rfl (ok_X9_hatch l)
theorem cw_X9_shut : ec_cw yX9_shut cX9_shut 3 (some .int) := ⟨ec_in (i := 446) (by decide +kernel) rfl, ec_in (i := 58) (by decide +kernel) rfl, by decide, by decide⟩
theorem cv_X9_shut : Cond.instanceMethod yX9_shut ∈ ec_tb ∧ Cond.selects yX9_shut.cls yX9_shut yX9_shut ∈ ec_tb := ⟨ec_in (i := 444) (by decide +kernel) rfl, ec_in (i := 445) (by decide +kernel) rfl⟩
def ca_X9_shut : Nat → Option (Nat × Option Nat × ex_S) := fun ix => match ix with
  | 72 => some (3, some 0, sp_X0_setOpen)
  | 64 => some (2, some 9, sp_X9_counted)
  | _ => none
theorem ck_X9_shut (l : Launch) : ∀ (ix n : Nat) (rc : Option Nat) (sp : ex_S), ca_X9_shut ix = some (n, rc, sp) → ex_cok l RX9 2 44 ix n rc sp := by
  intro ix n rc sp h
  unfold ca_X9_shut at h
  split at h
  · cases h; exact ec_cV (mt_X0_setOpen l) cw_X0_setOpen cv_X0_setOpen (by decide) (by decide) (Or.inl (ec_in (i := 447) (by decide +kernel) rfl)) (T := TX0) (N := 8) rfl (by decide) (by decide +kernel)
  · cases h; exact ec_cV (mt_X9_counted l) cw_X9_counted cv_X9_counted (by decide) (by decide) (Or.inl (ec_in (i := 424) (by decide +kernel) rfl)) (T := TX9) (N := 10) rfl (by decide) (by decide +kernel)
  · cases h
def cx_X9_shut : ex_K := (RX9, ec_fx fl_X9, ec_cx cl_X9, sl_X9, ca_X9_shut, ec_nz, ec_no)
theorem ok_X9_shut (l : Launch) : ex_ok l 2 44 cx_X9_shut := ⟨ec_fok fo_X9, ec_cok co_X9, so_X9, ck_X9_shut l, fun _ h => (by cases h), fun _ h => (by cases h), fun _ h => (by cases h), fun _ _ h => (by cases h)⟩
def sp_X9_shut : ex_S := ex_sp cx_X9_shut cX9_shut 3 (some .int) 10
theorem mt_X9_shut (l : Launch) : ex_Met l yX9_shut cX9_shut 3 (some .int) 2 44 sp_X9_shut := ex_inl (by decide) rfl (ok_X9_shut l)
theorem cw_X9_gas : ec_cw yX9_gas cX9_gas 4 (some .int) := ⟨ec_in (i := 464) (by decide +kernel) rfl, ec_in (i := 58) (by decide +kernel) rfl, by decide, by decide⟩
theorem cv_X9_gas : Cond.instanceMethod yX9_gas ∈ ec_tb ∧ Cond.selects yX9_gas.cls yX9_gas yX9_gas ∈ ec_tb := ⟨ec_in (i := 462) (by decide +kernel) rfl, ec_in (i := 463) (by decide +kernel) rfl⟩
def ca_X9_gas : Nat → Option (Nat × Option Nat × ex_S) := fun ix => match ix with
  | 75 => some (4, some 0, sp_X0_setHeld)
  | 64 => some (2, some 9, sp_X9_counted)
  | _ => none
theorem ck_X9_gas (l : Launch) : ∀ (ix n : Nat) (rc : Option Nat) (sp : ex_S), ca_X9_gas ix = some (n, rc, sp) → ex_cok l RX9 2 45 ix n rc sp := by
  intro ix n rc sp h
  unfold ca_X9_gas at h
  split at h
  · cases h; exact ec_cV (mt_X0_setHeld l) cw_X0_setHeld cv_X0_setHeld (by decide) (by decide) (Or.inl (ec_in (i := 465) (by decide +kernel) rfl)) (T := TX0) (N := 8) rfl (by decide) (by decide +kernel)
  · cases h; exact ec_cV (mt_X9_counted l) cw_X9_counted cv_X9_counted (by decide) (by decide) (Or.inl (ec_in (i := 424) (by decide +kernel) rfl)) (T := TX9) (N := 10) rfl (by decide) (by decide +kernel)
  · cases h
def cx_X9_gas : ex_K := (RX9, ec_fx fl_X9, ec_cx cl_X9, sl_X9, ca_X9_gas, ec_nz, ec_no)
theorem ok_X9_gas (l : Launch) : ex_ok l 2 45 cx_X9_gas := ⟨ec_fok fo_X9, ec_cok co_X9, so_X9, ck_X9_gas l, fun _ h => (by cases h), fun _ h => (by cases h), fun _ h => (by cases h), fun _ _ h => (by cases h)⟩
def sp_X9_gas : ex_S := ex_sp cx_X9_gas cX9_gas 4 (some .int) 11
theorem mt_X9_gas (l : Launch) : ex_Met l yX9_gas cX9_gas 4 (some .int) 2 45 sp_X9_gas := ex_inl (by decide) rfl (ok_X9_gas l)
theorem cw_X9_leak : ec_cw yX9_leak cX9_leak 3 (some .int) := ⟨ec_in (i := 476) (by decide +kernel) rfl, ec_in (i := 58) (by decide +kernel) rfl, by decide, by decide⟩
theorem cv_X9_leak : Cond.instanceMethod yX9_leak ∈ ec_tb ∧ Cond.selects yX9_leak.cls yX9_leak yX9_leak ∈ ec_tb := ⟨ec_in (i := 474) (by decide +kernel) rfl, ec_in (i := 475) (by decide +kernel) rfl⟩
def ca_X9_leak : Nat → Option (Nat × Option Nat × ex_S) := fun ix => match ix with
  | 79 => some (3, some 0, sp_X0_setLeak)
  | 64 => some (2, some 9, sp_X9_counted)
  | _ => none
theorem ck_X9_leak (l : Launch) : ∀ (ix n : Nat) (rc : Option Nat) (sp : ex_S), ca_X9_leak ix = some (n, rc, sp) → ex_cok l RX9 2 44 ix n rc sp := by
  intro ix n rc sp h
  unfold ca_X9_leak at h
  split at h
  · cases h; exact ec_cV (mt_X0_setLeak l) cw_X0_setLeak cv_X0_setLeak (by decide) (by decide) (Or.inl (ec_in (i := 477) (by decide +kernel) rfl)) (T := TX0) (N := 8) rfl (by decide) (by decide +kernel)
  · cases h; exact ec_cV (mt_X9_counted l) cw_X9_counted cv_X9_counted (by decide) (by decide) (Or.inl (ec_in (i := 424) (by decide +kernel) rfl)) (T := TX9) (N := 10) rfl (by decide) (by decide +kernel)
  · cases h
def cx_X9_leak : ex_K := (RX9, ec_fx fl_X9, ec_cx cl_X9, sl_X9, ca_X9_leak, ec_nz, ec_no)
theorem ok_X9_leak (l : Launch) : ex_ok l 2 44 cx_X9_leak := ⟨ec_fok fo_X9, ec_cok co_X9, so_X9, ck_X9_leak l, fun _ h => (by cases h), fun _ h => (by cases h), fun _ h => (by cases h), fun _ _ h => (by cases h)⟩
def sp_X9_leak : ex_S := ex_sp cx_X9_leak cX9_leak 3 (some .int) 10
theorem mt_X9_leak (l : Launch) : ex_Met l yX9_leak cX9_leak 3 (some .int) 2 44 sp_X9_leak := ex_inl (by decide) rfl (ok_X9_leak l)
theorem cw_X9_tank : ec_cw yX9_tank cX9_tank 3 (some .int) := ⟨ec_in (i := 484) (by decide +kernel) rfl, ec_in (i := 58) (by decide +kernel) rfl, by decide, by decide⟩
theorem cv_X9_tank : Cond.instanceMethod yX9_tank ∈ ec_tb ∧ Cond.selects yX9_tank.cls yX9_tank yX9_tank ∈ ec_tb := ⟨ec_in (i := 482) (by decide +kernel) rfl, ec_in (i := 483) (by decide +kernel) rfl⟩
def ca_X9_tank : Nat → Option (Nat × Option Nat × ex_S) := fun ix => match ix with
  | 82 => some (3, some 0, sp_X0_setStored)
  | 64 => some (2, some 9, sp_X9_counted)
  | _ => none
theorem ck_X9_tank (l : Launch) : ∀ (ix n : Nat) (rc : Option Nat) (sp : ex_S), ca_X9_tank ix = some (n, rc, sp) → ex_cok l RX9 1 23 ix n rc sp := by
  intro ix n rc sp h
  unfold ca_X9_tank at h
  split at h
  · cases h; exact ec_cV (mt_X0_setStored l) cw_X0_setStored cv_X0_setStored (by decide) (by decide) (Or.inl (ec_in (i := 485) (by decide +kernel) rfl)) (T := TX0) (N := 8) rfl (by decide) (by decide +kernel)
  · cases h; exact ec_cV (mt_X9_counted l) cw_X9_counted cv_X9_counted (by decide) (by decide) (Or.inl (ec_in (i := 424) (by decide +kernel) rfl)) (T := TX9) (N := 10) rfl (by decide) (by decide +kernel)
  · cases h
def cx_X9_tank : ex_K := (RX9, ec_fx fl_X9, ec_cx cl_X9, sl_X9, ca_X9_tank, ec_nz, ec_no)
theorem ok_X9_tank (l : Launch) : ex_ok l 1 23 cx_X9_tank := ⟨ec_fok fo_X9, ec_cok co_X9, so_X9, ck_X9_tank l, fun _ h => (by cases h), fun _ h => (by cases h), fun _ h => (by cases h), fun _ _ h => (by cases h)⟩
def sp_X9_tank : ex_S := ex_sp cx_X9_tank cX9_tank 3 (some .int) 10
theorem mt_X9_tank (l : Launch) : ex_Met l yX9_tank cX9_tank 3 (some .int) 1 23 sp_X9_tank := ex_inl (by decide) rfl (ok_X9_tank l)
theorem cw_X9_grams : ec_cw yX9_grams cX9_grams 1 (some .int) := ⟨ec_in (i := 493) (by decide +kernel) rfl, ec_in (i := 58) (by decide +kernel) rfl, by decide, by decide⟩
theorem cv_X9_grams : Cond.instanceMethod yX9_grams ∈ ec_tb ∧ Cond.selects yX9_grams.cls yX9_grams yX9_grams ∈ ec_tb := ⟨ec_in (i := 491) (by decide +kernel) rfl, ec_in (i := 492) (by decide +kernel) rfl⟩
def ca_X9_grams : Nat → Option (Nat × Option Nat × ex_S) := fun ix => match ix with
  | 85 => some (1, some 0, sp_X0_allGrams)
  | _ => none
theorem ck_X9_grams (l : Launch) : ∀ (ix n : Nat) (rc : Option Nat) (sp : ex_S), ca_X9_grams ix = some (n, rc, sp) → ex_cok l RX9 1 23 ix n rc sp := by
  intro ix n rc sp h
  unfold ca_X9_grams at h
  split at h
  · cases h; exact ec_cV (mt_X0_allGrams l) cw_X0_allGrams cv_X0_allGrams (by decide) (by decide) (Or.inl (ec_in (i := 494) (by decide +kernel) rfl)) (T := TX0) (N := 8) rfl (by decide) (by decide +kernel)
  · cases h
def cx_X9_grams : ex_K := (RX9, ec_fx fl_X9, ec_cx cl_X9, sl_X9, ca_X9_grams, ec_nz, ec_no)
theorem ok_X9_grams (l : Launch) : ex_ok l 1 23 cx_X9_grams := ⟨ec_fok fo_X9, ec_cok co_X9, so_X9, ck_X9_grams l, fun _ h => (by cases h), fun _ h => (by cases h), fun _ h => (by cases h), fun _ _ h => (by cases h)⟩
def sp_X9_grams : ex_S := ex_sp cx_X9_grams cX9_grams 1 (some .int) 6
theorem mt_X9_grams (l : Launch) : ex_Met l yX9_grams cX9_grams 1 (some .int) 1 23 sp_X9_grams := ex_inl (by decide) rfl (ok_X9_grams l)
theorem cw_X9_person : ec_cw yX9_person cX9_person 2 (some .int) := ⟨ec_in (i := 501) (by decide +kernel) rfl, ec_in (i := 58) (by decide +kernel) rfl, by decide, by decide⟩
theorem cv_X9_person : Cond.instanceMethod yX9_person ∈ ec_tb ∧ Cond.selects yX9_person.cls yX9_person yX9_person ∈ ec_tb := ⟨ec_in (i := 499) (by decide +kernel) rfl, ec_in (i := 500) (by decide +kernel) rfl⟩
def ca_X9_person : Nat → Option (Nat × Option Nat × ex_S) := fun ix => match ix with
  | 88 => some (2, some 0, sp_X0_hasModule)
  | 64 => some (2, some 9, sp_X9_counted)
  | 97 => some (2, some 3, sp_X3_addPerson)
  | _ => none
theorem ck_X9_person (l : Launch) : ∀ (ix n : Nat) (rc : Option Nat) (sp : ex_S), ca_X9_person ix = some (n, rc, sp) → ex_cok l RX9 1 21 ix n rc sp := by
  intro ix n rc sp h
  unfold ca_X9_person at h
  split at h
  · cases h; exact ec_cV (mt_X0_hasModule l) cw_X0_hasModule cv_X0_hasModule (by decide) (by decide) (Or.inl (ec_in (i := 502) (by decide +kernel) rfl)) (T := TX0) (N := 8) rfl (by decide) (by decide +kernel)
  · cases h; exact ec_cV (mt_X9_counted l) cw_X9_counted cv_X9_counted (by decide) (by decide) (Or.inl (ec_in (i := 424) (by decide +kernel) rfl)) (T := TX9) (N := 10) rfl (by decide) (by decide +kernel)
  · cases h; exact ec_cV (mt_X3_addPerson l) cw_X3_addPerson cv_X3_addPerson (by decide) (by decide) (Or.inl (ec_in (i := 504) (by decide +kernel) rfl)) (T := TX3) (N := 7) rfl (by decide) (by decide +kernel)
  · cases h
def cx_X9_person : ex_K := (RX9, ec_fx fl_X9, ec_cx cl_X9, sl_X9, ca_X9_person, ec_nz, ec_no)
theorem ok_X9_person (l : Launch) : ex_ok l 1 21 cx_X9_person := ⟨ec_fok fo_X9, ec_cok co_X9, so_X9, ck_X9_person l, fun _ h => (by cases h), fun _ h => (by cases h), fun _ h => (by cases h), fun _ _ h => (by cases h)⟩
def sp_X9_person : ex_S := ex_sp cx_X9_person cX9_person 2 (some .int) 19
theorem mt_X9_person (l : Launch) : ex_Met l yX9_person cX9_person 2 (some .int) 1 21 sp_X9_person := ex_inl (by decide) rfl (ok_X9_person l)
theorem cw_X9_go : ec_cw yX9_go cX9_go 3 (some .int) := ⟨ec_in (i := 512) (by decide +kernel) rfl, ec_in (i := 58) (by decide +kernel) rfl, by decide, by decide⟩
theorem cv_X9_go : Cond.instanceMethod yX9_go ∈ ec_tb ∧ Cond.selects yX9_go.cls yX9_go yX9_go ∈ ec_tb := ⟨ec_in (i := 510) (by decide +kernel) rfl, ec_in (i := 511) (by decide +kernel) rfl⟩
def ca_X9_go : Nat → Option (Nat × Option Nat × ex_S) := fun ix => match ix with
  | 102 => some (3, some 8, sp_X8_walk)
  | 64 => some (2, some 9, sp_X9_counted)
  | _ => none
theorem ck_X9_go (l : Launch) : ∀ (ix n : Nat) (rc : Option Nat) (sp : ex_S), ca_X9_go ix = some (n, rc, sp) → ex_cok l RX9 2 46 ix n rc sp := by
  intro ix n rc sp h
  unfold ca_X9_go at h
  split at h
  · cases h; exact ec_cV (mt_X8_walk l) cw_X8_walk cv_X8_walk (by decide) (by decide) (Or.inl (ec_in (i := 513) (by decide +kernel) rfl)) (T := TX8) (N := 7) rfl (by decide) (by decide +kernel)
  · cases h; exact ec_cV (mt_X9_counted l) cw_X9_counted cv_X9_counted (by decide) (by decide) (Or.inl (ec_in (i := 424) (by decide +kernel) rfl)) (T := TX9) (N := 10) rfl (by decide) (by decide +kernel)
  · cases h
def cx_X9_go : ex_K := (RX9, ec_fx fl_X9, ec_cx cl_X9, sl_X9, ca_X9_go, ec_nz, ec_no)
theorem ok_X9_go (l : Launch) : ex_ok l 2 46 cx_X9_go := ⟨ec_fok fo_X9, ec_cok co_X9, so_X9, ck_X9_go l, fun _ h => (by cases h), fun _ h => (by cases h), fun _ h => (by cases h), fun _ _ h => (by cases h)⟩
def sp_X9_go : ex_S := ex_sp cx_X9_go cX9_go 3 (some .int) 9
theorem mt_X9_go (l : Launch) : ex_Met l yX9_go cX9_go 3 (some .int) 2 46 sp_X9_go := ex_inl (by decide) rfl (ok_X9_go l)
theorem cw_X9_doing : ec_cw yX9_doing cX9_doing 3 (some .int) := ⟨ec_in (i := 535) (by decide +kernel) rfl, ec_in (i := 58) (by decide +kernel) rfl, by decide, by decide⟩
theorem cv_X9_doing : Cond.instanceMethod yX9_doing ∈ ec_tb ∧ Cond.selects yX9_doing.cls yX9_doing yX9_doing ∈ ec_tb := ⟨ec_in (i := 533) (by decide +kernel) rfl, ec_in (i := 534) (by decide +kernel) rfl⟩
def ca_X9_doing : Nat → Option (Nat × Option Nat × ex_S) := fun ix => match ix with
  | 105 => some (3, some 3, sp_X3_setDoing)
  | 64 => some (2, some 9, sp_X9_counted)
  | _ => none
theorem ck_X9_doing (l : Launch) : ∀ (ix n : Nat) (rc : Option Nat) (sp : ex_S), ca_X9_doing ix = some (n, rc, sp) → ex_cok l RX9 2 44 ix n rc sp := by
  intro ix n rc sp h
  unfold ca_X9_doing at h
  split at h
  · cases h; exact ec_cV (mt_X3_setDoing l) cw_X3_setDoing cv_X3_setDoing (by decide) (by decide) (Or.inl (ec_in (i := 536) (by decide +kernel) rfl)) (T := TX3) (N := 7) rfl (by decide) (by decide +kernel)
  · cases h; exact ec_cV (mt_X9_counted l) cw_X9_counted cv_X9_counted (by decide) (by decide) (Or.inl (ec_in (i := 424) (by decide +kernel) rfl)) (T := TX9) (N := 10) rfl (by decide) (by decide +kernel)
  · cases h
def cx_X9_doing : ex_K := (RX9, ec_fx fl_X9, ec_cx cl_X9, sl_X9, ca_X9_doing, ec_nz, ec_no)
theorem ok_X9_doing (l : Launch) : ex_ok l 2 44 cx_X9_doing := ⟨ec_fok fo_X9, ec_cok co_X9, so_X9, ck_X9_doing l, fun _ h => (by cases h), fun _ h => (by cases h), fun _ h => (by cases h), fun _ _ h => (by cases h)⟩
def sp_X9_doing : ex_S := ex_sp cx_X9_doing cX9_doing 3 (some .int) 10
theorem mt_X9_doing (l : Launch) : ex_Met l yX9_doing cX9_doing 3 (some .int) 2 44 sp_X9_doing := ex_inl (by decide) rfl (ok_X9_doing l)
theorem cw_X9_about : ec_cw yX9_about cX9_about 3 (some .int) := ⟨ec_in (i := 547) (by decide +kernel) rfl, ec_in (i := 58) (by decide +kernel) rfl, by decide, by decide⟩
theorem cv_X9_about : Cond.instanceMethod yX9_about ∈ ec_tb ∧ Cond.selects yX9_about.cls yX9_about yX9_about ∈ ec_tb := ⟨ec_in (i := 545) (by decide +kernel) rfl, ec_in (i := 546) (by decide +kernel) rfl⟩
def ca_X9_about : Nat → Option (Nat × Option Nat × ex_S) := fun ix => match ix with
  | 108 => some (3, some 3, sp_X3_tellOf)
  | 64 => some (2, some 9, sp_X9_counted)
  | _ => none
theorem ck_X9_about (l : Launch) : ∀ (ix n : Nat) (rc : Option Nat) (sp : ex_S), ca_X9_about ix = some (n, rc, sp) → ex_cok l RX9 2 43 ix n rc sp := by
  intro ix n rc sp h
  unfold ca_X9_about at h
  split at h
  · cases h; exact ec_cV (mt_X3_tellOf l) cw_X3_tellOf cv_X3_tellOf (by decide) (by decide) (Or.inl (ec_in (i := 548) (by decide +kernel) rfl)) (T := TX3) (N := 7) rfl (by decide) (by decide +kernel)
  · cases h; exact ec_cV (mt_X9_counted l) cw_X9_counted cv_X9_counted (by decide) (by decide) (Or.inl (ec_in (i := 424) (by decide +kernel) rfl)) (T := TX9) (N := 10) rfl (by decide) (by decide +kernel)
  · cases h
def cx_X9_about : ex_K := (RX9, ec_fx fl_X9, ec_cx cl_X9, sl_X9, ca_X9_about, ec_nz, ec_no)
theorem ok_X9_about (l : Launch) : ex_ok l 2 43 cx_X9_about := ⟨ec_fok fo_X9, ec_cok co_X9, so_X9, ck_X9_about l, fun _ h => (by cases h), fun _ h => (by cases h), fun _ h => (by cases h), fun _ _ h => (by cases h)⟩
def sp_X9_about : ex_S := ex_sp cx_X9_about cX9_about 3 (some .int) 10
theorem mt_X9_about (l : Launch) : ex_Met l yX9_about cX9_about 3 (some .int) 2 43 sp_X9_about := ex_inl (by decide) rfl (ok_X9_about l)
theorem cw_X9_machine : ec_cw yX9_machine cX9_machine 5 (some .int) := ⟨ec_in (i := 555) (by decide +kernel) rfl, ec_in (i := 58) (by decide +kernel) rfl, by decide, by decide⟩
theorem cv_X9_machine : Cond.instanceMethod yX9_machine ∈ ec_tb ∧ Cond.selects yX9_machine.cls yX9_machine yX9_machine ∈ ec_tb := ⟨ec_in (i := 553) (by decide +kernel) rfl, ec_in (i := 554) (by decide +kernel) rfl⟩
def ca_X9_machine : Nat → Option (Nat × Option Nat × ex_S) := fun ix => match ix with
  | 88 => some (2, some 0, sp_X0_hasModule)
  | 64 => some (2, some 9, sp_X9_counted)
  | 115 => some (5, some 6, sp_X6_addMachine)
  | _ => none
theorem ck_X9_machine (l : Launch) : ∀ (ix n : Nat) (rc : Option Nat) (sp : ex_S), ca_X9_machine ix = some (n, rc, sp) → ex_cok l RX9 2 45 ix n rc sp := by
  intro ix n rc sp h
  unfold ca_X9_machine at h
  split at h
  · cases h; exact ec_cV (mt_X0_hasModule l) cw_X0_hasModule cv_X0_hasModule (by decide) (by decide) (Or.inl (ec_in (i := 502) (by decide +kernel) rfl)) (T := TX0) (N := 8) rfl (by decide) (by decide +kernel)
  · cases h; exact ec_cV (mt_X9_counted l) cw_X9_counted cv_X9_counted (by decide) (by decide) (Or.inl (ec_in (i := 424) (by decide +kernel) rfl)) (T := TX9) (N := 10) rfl (by decide) (by decide +kernel)
  · cases h; exact ec_cV (mt_X6_addMachine l) cw_X6_addMachine cv_X6_addMachine (by decide) (by decide) (Or.inl (ec_in (i := 556) (by decide +kernel) rfl)) (T := TX6) (N := 15) rfl (by decide) (by decide +kernel)
  · cases h
def cx_X9_machine : ex_K := (RX9, ec_fx fl_X9, ec_cx cl_X9, sl_X9, ca_X9_machine, ec_nz, ec_no)
theorem ok_X9_machine (l : Launch) : ex_ok l 2 45 cx_X9_machine := ⟨ec_fok fo_X9, ec_cok co_X9, so_X9, ck_X9_machine l, fun _ h => (by cases h), fun _ h => (by cases h), fun _ h => (by cases h), fun _ _ h => (by cases h)⟩
def sp_X9_machine : ex_S := ex_sp cx_X9_machine cX9_machine 5 (some .int) 22
theorem mt_X9_machine (l : Launch) : ex_Met l yX9_machine cX9_machine 5 (some .int) 2 45 sp_X9_machine := ex_inl (by decide) rfl (ok_X9_machine l)
theorem cw_X9_as : ec_cw yX9_as cX9_as 3 (some .int) := ⟨ec_in (i := 572) (by decide +kernel) rfl, ec_in (i := 58) (by decide +kernel) rfl, by decide, by decide⟩
theorem cv_X9_as : Cond.instanceMethod yX9_as ∈ ec_tb ∧ Cond.selects yX9_as.cls yX9_as yX9_as ∈ ec_tb := ⟨ec_in (i := 570) (by decide +kernel) rfl, ec_in (i := 571) (by decide +kernel) rfl⟩
def ca_X9_as : Nat → Option (Nat × Option Nat × ex_S) := fun ix => match ix with
  | 121 => some (3, some 6, sp_X6_rateAs)
  | 64 => some (2, some 9, sp_X9_counted)
  | _ => none
theorem ck_X9_as (l : Launch) : ∀ (ix n : Nat) (rc : Option Nat) (sp : ex_S), ca_X9_as ix = some (n, rc, sp) → ex_cok l RX9 3 65 ix n rc sp := by
  intro ix n rc sp h
  unfold ca_X9_as at h
  split at h
  · cases h; exact ec_cV (mt_X6_rateAs l) cw_X6_rateAs cv_X6_rateAs (by decide) (by decide) (Or.inl (ec_in (i := 573) (by decide +kernel) rfl)) (T := TX6) (N := 15) rfl (by decide) (by decide +kernel)
  · cases h; exact ec_cV (mt_X9_counted l) cw_X9_counted cv_X9_counted (by decide) (by decide) (Or.inl (ec_in (i := 424) (by decide +kernel) rfl)) (T := TX9) (N := 10) rfl (by decide) (by decide +kernel)
  · cases h
def cx_X9_as : ex_K := (RX9, ec_fx fl_X9, ec_cx cl_X9, sl_X9, ca_X9_as, ec_nz, ec_no)
theorem ok_X9_as (l : Launch) : ex_ok l 3 65 cx_X9_as := ⟨ec_fok fo_X9, ec_cok co_X9, so_X9, ck_X9_as l, fun _ h => (by cases h), fun _ h => (by cases h), fun _ h => (by cases h), fun _ _ h => (by cases h)⟩
def sp_X9_as : ex_S := ex_sp cx_X9_as cX9_as 3 (some .int) 10
theorem mt_X9_as (l : Launch) : ex_Met l yX9_as cX9_as 3 (some .int) 3 65 sp_X9_as := ex_inl (by decide) rfl (ok_X9_as l)
theorem cw_X9_turn : ec_cw yX9_turn cX9_turn 3 (some .int) := ⟨ec_in (i := 590) (by decide +kernel) rfl, ec_in (i := 58) (by decide +kernel) rfl, by decide, by decide⟩
theorem cv_X9_turn : Cond.instanceMethod yX9_turn ∈ ec_tb ∧ Cond.selects yX9_turn.cls yX9_turn yX9_turn ∈ ec_tb := ⟨ec_in (i := 588) (by decide +kernel) rfl, ec_in (i := 589) (by decide +kernel) rfl⟩
def ca_X9_turn : Nat → Option (Nat × Option Nat × ex_S) := fun ix => match ix with
  | 124 => some (3, some 6, sp_X6_setOn)
  | 64 => some (2, some 9, sp_X9_counted)
  | _ => none
theorem ck_X9_turn (l : Launch) : ∀ (ix n : Nat) (rc : Option Nat) (sp : ex_S), ca_X9_turn ix = some (n, rc, sp) → ex_cok l RX9 2 44 ix n rc sp := by
  intro ix n rc sp h
  unfold ca_X9_turn at h
  split at h
  · cases h; exact ec_cV (mt_X6_setOn l) cw_X6_setOn cv_X6_setOn (by decide) (by decide) (Or.inl (ec_in (i := 591) (by decide +kernel) rfl)) (T := TX6) (N := 15) rfl (by decide) (by decide +kernel)
  · cases h; exact ec_cV (mt_X9_counted l) cw_X9_counted cv_X9_counted (by decide) (by decide) (Or.inl (ec_in (i := 424) (by decide +kernel) rfl)) (T := TX9) (N := 10) rfl (by decide) (by decide +kernel)
  · cases h
def cx_X9_turn : ex_K := (RX9, ec_fx fl_X9, ec_cx cl_X9, sl_X9, ca_X9_turn, ec_nz, ec_no)
theorem ok_X9_turn (l : Launch) : ex_ok l 2 44 cx_X9_turn := ⟨ec_fok fo_X9, ec_cok co_X9, so_X9, ck_X9_turn l, fun _ h => (by cases h), fun _ h => (by cases h), fun _ h => (by cases h), fun _ _ h => (by cases h)⟩
def sp_X9_turn : ex_S := ex_sp cx_X9_turn cX9_turn 3 (some .int) 10
theorem mt_X9_turn (l : Launch) : ex_Met l yX9_turn cX9_turn 3 (some .int) 2 44 sp_X9_turn := ex_inl (by decide) rfl (ok_X9_turn l)
theorem cw_X9_of : ec_cw yX9_of cX9_of 3 (some .int) := ⟨ec_in (i := 600) (by decide +kernel) rfl, ec_in (i := 58) (by decide +kernel) rfl, by decide, by decide⟩
theorem cv_X9_of : Cond.instanceMethod yX9_of ∈ ec_tb ∧ Cond.selects yX9_of.cls yX9_of yX9_of ∈ ec_tb := ⟨ec_in (i := 598) (by decide +kernel) rfl, ec_in (i := 599) (by decide +kernel) rfl⟩
def ca_X9_of : Nat → Option (Nat × Option Nat × ex_S) := fun ix => match ix with
  | 127 => some (3, some 6, sp_X6_tellOf)
  | 64 => some (2, some 9, sp_X9_counted)
  | _ => none
theorem ck_X9_of (l : Launch) : ∀ (ix n : Nat) (rc : Option Nat) (sp : ex_S), ca_X9_of ix = some (n, rc, sp) → ex_cok l RX9 2 43 ix n rc sp := by
  intro ix n rc sp h
  unfold ca_X9_of at h
  split at h
  · cases h; exact ec_cV (mt_X6_tellOf l) cw_X6_tellOf cv_X6_tellOf (by decide) (by decide) (Or.inl (ec_in (i := 601) (by decide +kernel) rfl)) (T := TX6) (N := 15) rfl (by decide) (by decide +kernel)
  · cases h; exact ec_cV (mt_X9_counted l) cw_X9_counted cv_X9_counted (by decide) (by decide) (Or.inl (ec_in (i := 424) (by decide +kernel) rfl)) (T := TX9) (N := 10) rfl (by decide) (by decide +kernel)
  · cases h
def cx_X9_of : ex_K := (RX9, ec_fx fl_X9, ec_cx cl_X9, sl_X9, ca_X9_of, ec_nz, ec_no)
theorem ok_X9_of (l : Launch) : ex_ok l 2 43 cx_X9_of := ⟨ec_fok fo_X9, ec_cok co_X9, so_X9, ck_X9_of l, fun _ h => (by cases h), fun _ h => (by cases h), fun _ h => (by cases h), fun _ _ h => (by cases h)⟩
def sp_X9_of : ex_S := ex_sp cx_X9_of cX9_of 3 (some .int) 10
theorem mt_X9_of (l : Launch) : ex_Met l yX9_of cX9_of 3 (some .int) 2 43 sp_X9_of := ex_inl (by decide) rfl (ok_X9_of l)
theorem cw_X9_spares : ec_cw yX9_spares cX9_spares 3 (some .int) := ⟨ec_in (i := 608) (by decide +kernel) rfl, ec_in (i := 58) (by decide +kernel) rfl, by decide, by decide⟩
theorem cv_X9_spares : Cond.instanceMethod yX9_spares ∈ ec_tb ∧ Cond.selects yX9_spares.cls yX9_spares yX9_spares ∈ ec_tb := ⟨ec_in (i := 606) (by decide +kernel) rfl, ec_in (i := 607) (by decide +kernel) rfl⟩
def ca_X9_spares : Nat → Option (Nat × Option Nat × ex_S) := fun ix => match ix with
  | 128 => some (3, some 6, sp_X6_setSpares)
  | 64 => some (2, some 9, sp_X9_counted)
  | _ => none
theorem ck_X9_spares (l : Launch) : ∀ (ix n : Nat) (rc : Option Nat) (sp : ex_S), ca_X9_spares ix = some (n, rc, sp) → ex_cok l RX9 2 43 ix n rc sp := by
  intro ix n rc sp h
  unfold ca_X9_spares at h
  split at h
  · cases h; exact ec_cV (mt_X6_setSpares l) cw_X6_setSpares cv_X6_setSpares (by decide) (by decide) (Or.inl (ec_in (i := 609) (by decide +kernel) rfl)) (T := TX6) (N := 15) rfl (by decide) (by decide +kernel)
  · cases h; exact ec_cV (mt_X9_counted l) cw_X9_counted cv_X9_counted (by decide) (by decide) (Or.inl (ec_in (i := 424) (by decide +kernel) rfl)) (T := TX9) (N := 10) rfl (by decide) (by decide +kernel)
  · cases h
def cx_X9_spares : ex_K := (RX9, ec_fx fl_X9, ec_cx cl_X9, sl_X9, ca_X9_spares, ec_nz, ec_no)
theorem ok_X9_spares (l : Launch) : ex_ok l 2 43 cx_X9_spares := ⟨ec_fok fo_X9, ec_cok co_X9, so_X9, ck_X9_spares l, fun _ h => (by cases h), fun _ h => (by cases h), fun _ h => (by cases h), fun _ _ h => (by cases h)⟩
def sp_X9_spares : ex_S := ex_sp cx_X9_spares cX9_spares 3 (some .int) 10
theorem mt_X9_spares (l : Launch) : ex_Met l yX9_spares cX9_spares 3 (some .int) 2 43 sp_X9_spares := ex_inl (by decide) rfl (ok_X9_spares l)
theorem cw_X9_repair : ec_cw yX9_repair cX9_repair 4 (some .int) := ⟨ec_in (i := 616) (by decide +kernel) rfl, ec_in (i := 58) (by decide +kernel) rfl, by decide, by decide⟩
theorem cv_X9_repair : Cond.instanceMethod yX9_repair ∈ ec_tb ∧ Cond.selects yX9_repair.cls yX9_repair yX9_repair ∈ ec_tb := ⟨ec_in (i := 614) (by decide +kernel) rfl, ec_in (i := 615) (by decide +kernel) rfl⟩
def ca_X9_repair : Nat → Option (Nat × Option Nat × ex_S) := fun ix => match ix with
  | 131 => some (4, some 8, sp_X8_mend)
  | 64 => some (2, some 9, sp_X9_counted)
  | _ => none
theorem ck_X9_repair (l : Launch) : ∀ (ix n : Nat) (rc : Option Nat) (sp : ex_S), ca_X9_repair ix = some (n, rc, sp) → ex_cok l RX9 2 47 ix n rc sp := by
  intro ix n rc sp h
  unfold ca_X9_repair at h
  split at h
  · cases h; exact ec_cV (mt_X8_mend l) cw_X8_mend cv_X8_mend (by decide) (by decide) (Or.inl (ec_in (i := 617) (by decide +kernel) rfl)) (T := TX8) (N := 7) rfl (by decide) (by decide +kernel)
  · cases h; exact ec_cV (mt_X9_counted l) cw_X9_counted cv_X9_counted (by decide) (by decide) (Or.inl (ec_in (i := 424) (by decide +kernel) rfl)) (T := TX9) (N := 10) rfl (by decide) (by decide +kernel)
  · cases h
def cx_X9_repair : ex_K := (RX9, ec_fx fl_X9, ec_cx cl_X9, sl_X9, ca_X9_repair, ec_nz, ec_no)
theorem ok_X9_repair (l : Launch) : ex_ok l 2 47 cx_X9_repair := ⟨ec_fok fo_X9, ec_cok co_X9, so_X9, ck_X9_repair l, fun _ h => (by cases h), fun _ h => (by cases h), fun _ h => (by cases h), fun _ _ h => (by cases h)⟩
def sp_X9_repair : ex_S := ex_sp cx_X9_repair cX9_repair 4 (some .int) 10
theorem mt_X9_repair (l : Launch) : ex_Met l yX9_repair cX9_repair 4 (some .int) 2 47 sp_X9_repair := ex_inl (by decide) rfl (ok_X9_repair l)
theorem cw_X9_shed : ec_cw yX9_shed cX9_shed 3 (some .int) := ⟨ec_in (i := 634) (by decide +kernel) rfl, ec_in (i := 58) (by decide +kernel) rfl, by decide, by decide⟩
theorem cv_X9_shed : Cond.instanceMethod yX9_shed ∈ ec_tb ∧ Cond.selects yX9_shed.cls yX9_shed yX9_shed ∈ ec_tb := ⟨ec_in (i := 632) (by decide +kernel) rfl, ec_in (i := 633) (by decide +kernel) rfl⟩
def ca_X9_shed : Nat → Option (Nat × Option Nat × ex_S) := fun ix => match ix with
  | 134 => some (3, some 6, sp_X6_shedding)
  | 64 => some (2, some 9, sp_X9_counted)
  | _ => none
theorem ck_X9_shed (l : Launch) : ∀ (ix n : Nat) (rc : Option Nat) (sp : ex_S), ca_X9_shed ix = some (n, rc, sp) → ex_cok l RX9 4 92 ix n rc sp := by
  intro ix n rc sp h
  unfold ca_X9_shed at h
  split at h
  · cases h; exact ec_cV (mt_X6_shedding l) cw_X6_shedding cv_X6_shedding (by decide) (by decide) (Or.inl (ec_in (i := 635) (by decide +kernel) rfl)) (T := TX6) (N := 15) rfl (by decide) (by decide +kernel)
  · cases h; exact ec_cV (mt_X9_counted l) cw_X9_counted cv_X9_counted (by decide) (by decide) (Or.inl (ec_in (i := 424) (by decide +kernel) rfl)) (T := TX9) (N := 10) rfl (by decide) (by decide +kernel)
  · cases h
def cx_X9_shed : ex_K := (RX9, ec_fx fl_X9, ec_cx cl_X9, sl_X9, ca_X9_shed, ec_nz, ec_no)
theorem ok_X9_shed (l : Launch) : ex_ok l 4 92 cx_X9_shed := ⟨ec_fok fo_X9, ec_cok co_X9, so_X9, ck_X9_shed l, fun _ h => (by cases h), fun _ h => (by cases h), fun _ h => (by cases h), fun _ _ h => (by cases h)⟩
def sp_X9_shed : ex_S := ex_sp cx_X9_shed cX9_shed 3 (some .int) 10
theorem mt_X9_shed (l : Launch) : ex_Met l yX9_shed cX9_shed 3 (some .int) 4 92 sp_X9_shed := ex_inl (by decide) rfl (ok_X9_shed l)
theorem cw_X9_sun : ec_cw yX9_sun cX9_sun 3 (some .int) := ⟨ec_in (i := 664) (by decide +kernel) rfl, ec_in (i := 58) (by decide +kernel) rfl, by decide, by decide⟩
theorem cv_X9_sun : Cond.instanceMethod yX9_sun ∈ ec_tb ∧ Cond.selects yX9_sun.cls yX9_sun yX9_sun ∈ ec_tb := ⟨ec_in (i := 662) (by decide +kernel) rfl, ec_in (i := 663) (by decide +kernel) rfl⟩
def ca_X9_sun : Nat → Option (Nat × Option Nat × ex_S) := fun ix => match ix with
  | 137 => some (3, some 6, sp_X6_setSun)
  | 64 => some (2, some 9, sp_X9_counted)
  | _ => none
theorem ck_X9_sun (l : Launch) : ∀ (ix n : Nat) (rc : Option Nat) (sp : ex_S), ca_X9_sun ix = some (n, rc, sp) → ex_cok l RX9 2 43 ix n rc sp := by
  intro ix n rc sp h
  unfold ca_X9_sun at h
  split at h
  · cases h; exact ec_cV (mt_X6_setSun l) cw_X6_setSun cv_X6_setSun (by decide) (by decide) (Or.inl (ec_in (i := 665) (by decide +kernel) rfl)) (T := TX6) (N := 15) rfl (by decide) (by decide +kernel)
  · cases h; exact ec_cV (mt_X9_counted l) cw_X9_counted cv_X9_counted (by decide) (by decide) (Or.inl (ec_in (i := 424) (by decide +kernel) rfl)) (T := TX9) (N := 10) rfl (by decide) (by decide +kernel)
  · cases h
def cx_X9_sun : ex_K := (RX9, ec_fx fl_X9, ec_cx cl_X9, sl_X9, ca_X9_sun, ec_nz, ec_no)
theorem ok_X9_sun (l : Launch) : ex_ok l 2 43 cx_X9_sun := ⟨ec_fok fo_X9, ec_cok co_X9, so_X9, ck_X9_sun l, fun _ h => (by cases h), fun _ h => (by cases h), fun _ h => (by cases h), fun _ _ h => (by cases h)⟩
def sp_X9_sun : ex_S := ex_sp cx_X9_sun cX9_sun 3 (some .int) 10
theorem mt_X9_sun (l : Launch) : ex_Met l yX9_sun cX9_sun 3 (some .int) 2 43 sp_X9_sun := ex_inl (by decide) rfl (ok_X9_sun l)
theorem cw_X9_battery : ec_cw yX9_battery cX9_battery 2 (some .int) := ⟨ec_in (i := 675) (by decide +kernel) rfl, ec_in (i := 58) (by decide +kernel) rfl, by decide, by decide⟩
theorem cv_X9_battery : Cond.instanceMethod yX9_battery ∈ ec_tb ∧ Cond.selects yX9_battery.cls yX9_battery yX9_battery ∈ ec_tb := ⟨ec_in (i := 673) (by decide +kernel) rfl, ec_in (i := 674) (by decide +kernel) rfl⟩
def ca_X9_battery : Nat → Option (Nat × Option Nat × ex_S) := fun ix => match ix with
  | 140 => some (2, some 6, sp_X6_setBattery)
  | 64 => some (2, some 9, sp_X9_counted)
  | _ => none
theorem ck_X9_battery (l : Launch) : ∀ (ix n : Nat) (rc : Option Nat) (sp : ex_S), ca_X9_battery ix = some (n, rc, sp) → ex_cok l RX9 1 22 ix n rc sp := by
  intro ix n rc sp h
  unfold ca_X9_battery at h
  split at h
  · cases h; exact ec_cV (mt_X6_setBattery l) cw_X6_setBattery cv_X6_setBattery (by decide) (by decide) (Or.inl (ec_in (i := 676) (by decide +kernel) rfl)) (T := TX6) (N := 15) rfl (by decide) (by decide +kernel)
  · cases h; exact ec_cV (mt_X9_counted l) cw_X9_counted cv_X9_counted (by decide) (by decide) (Or.inl (ec_in (i := 424) (by decide +kernel) rfl)) (T := TX9) (N := 10) rfl (by decide) (by decide +kernel)
  · cases h
def cx_X9_battery : ex_K := (RX9, ec_fx fl_X9, ec_cx cl_X9, sl_X9, ca_X9_battery, ec_nz, ec_no)
theorem ok_X9_battery (l : Launch) : ex_ok l 1 22 cx_X9_battery := ⟨ec_fok fo_X9, ec_cok co_X9, so_X9, ck_X9_battery l, fun _ h => (by cases h), fun _ h => (by cases h), fun _ h => (by cases h), fun _ _ h => (by cases h)⟩
def sp_X9_battery : ex_S := ex_sp cx_X9_battery cX9_battery 2 (some .int) 9
theorem mt_X9_battery (l : Launch) : ex_Met l yX9_battery cX9_battery 2 (some .int) 1 22 sp_X9_battery := ex_inl (by decide) rfl (ok_X9_battery l)
theorem cw_X9_bounds : ec_cw yX9_bounds cX9_bounds 4 (some .int) := ⟨ec_in (i := 683) (by decide +kernel) rfl, ec_in (i := 58) (by decide +kernel) rfl, by decide, by decide⟩
theorem cv_X9_bounds : Cond.instanceMethod yX9_bounds ∈ ec_tb ∧ Cond.selects yX9_bounds.cls yX9_bounds yX9_bounds ∈ ec_tb := ⟨ec_in (i := 681) (by decide +kernel) rfl, ec_in (i := 682) (by decide +kernel) rfl⟩
def ca_X9_bounds : Nat → Option (Nat × Option Nat × ex_S) := fun ix => match ix with
  | 147 => some (4, some 1, sp_X1_setAll)
  | 64 => some (2, some 9, sp_X9_counted)
  | _ => none
theorem ck_X9_bounds (l : Launch) : ∀ (ix n : Nat) (rc : Option Nat) (sp : ex_S), ca_X9_bounds ix = some (n, rc, sp) → ex_cok l RX9 2 43 ix n rc sp := by
  intro ix n rc sp h
  unfold ca_X9_bounds at h
  split at h
  · cases h; exact ec_cV (mt_X1_setAll l) cw_X1_setAll cv_X1_setAll (by decide) (by decide) (Or.inl (ec_in (i := 684) (by decide +kernel) rfl)) (T := TX1) (N := 6) rfl (by decide) (by decide +kernel)
  · cases h; exact ec_cV (mt_X9_counted l) cw_X9_counted cv_X9_counted (by decide) (by decide) (Or.inl (ec_in (i := 424) (by decide +kernel) rfl)) (T := TX9) (N := 10) rfl (by decide) (by decide +kernel)
  · cases h
def cx_X9_bounds : ex_K := (RX9, ec_fx fl_X9, ec_cx cl_X9, sl_X9, ca_X9_bounds, ec_nz, ec_no)
theorem ok_X9_bounds (l : Launch) : ex_ok l 2 43 cx_X9_bounds := ⟨ec_fok fo_X9, ec_cok co_X9, so_X9, ck_X9_bounds l, fun _ h => (by cases h), fun _ h => (by cases h), fun _ h => (by cases h), fun _ _ h => (by cases h)⟩
def sp_X9_bounds : ex_S := ex_sp cx_X9_bounds cX9_bounds 4 (some .int) 11
theorem mt_X9_bounds (l : Launch) : ex_Met l yX9_bounds cX9_bounds 4 (some .int) 2 43 sp_X9_bounds := ex_inl (by decide) rfl (ok_X9_bounds l)
theorem cw_X9_ticks : ec_cw yX9_ticks cX9_ticks 3 (some .int) := ⟨ec_in (i := 696) (by decide +kernel) rfl, ec_in (i := 58) (by decide +kernel) rfl, by decide, by decide⟩
theorem cv_X9_ticks : Cond.instanceMethod yX9_ticks ∈ ec_tb ∧ Cond.selects yX9_ticks.cls yX9_ticks yX9_ticks ∈ ec_tb := ⟨ec_in (i := 694) (by decide +kernel) rfl, ec_in (i := 695) (by decide +kernel) rfl⟩
def ca_X9_ticks : Nat → Option (Nat × Option Nat × ex_S) := fun ix => match ix with
  | 64 => some (2, some 9, sp_X9_counted)
  | 156 => some (1, some 8, sp_X8_passTick)
  | _ => none
theorem ck_X9_ticks (l : Launch) : ∀ (ix n : Nat) (rc : Option Nat) (sp : ex_S), ca_X9_ticks ix = some (n, rc, sp) → ex_cok l RX9 6 134 ix n rc sp := by
  intro ix n rc sp h
  unfold ca_X9_ticks at h
  split at h
  · cases h; exact ec_cV (mt_X9_counted l) cw_X9_counted cv_X9_counted (by decide) (by decide) (Or.inl (ec_in (i := 424) (by decide +kernel) rfl)) (T := TX9) (N := 10) rfl (by decide) (by decide +kernel)
  · cases h; exact ec_cV (mt_X8_passTick l) cw_X8_passTick cv_X8_passTick (by decide) (by decide) (Or.inl (ec_in (i := 698) (by decide +kernel) rfl)) (T := TX8) (N := 7) rfl (by decide) (by decide +kernel)
  · cases h
def cx_X9_ticks : ex_K := (RX9, ec_fx fl_X9, ec_cx cl_X9, sl_X9, ca_X9_ticks, ec_nz, ec_no)
theorem ok_X9_ticks (l : Launch) : ex_ok l 6 134 cx_X9_ticks := ⟨ec_fok fo_X9, ec_cok co_X9, so_X9, ck_X9_ticks l, fun _ h => (by cases h), fun _ h => (by cases h), fun _ h => (by cases h), fun _ _ h => (by cases h)⟩
def sp_X9_ticks : ex_S := ex_sp cx_X9_ticks cX9_ticks 3 (some .int) 400
theorem mt_X9_ticks (l : Launch) : ex_Met l yX9_ticks cX9_ticks 3 (some .int) 6 134 sp_X9_ticks := ex_inl (by decide) rfl (ok_X9_ticks l)
theorem cw_X9_broke : ec_cw yX9_broke cX9_broke 2 (some .int) := ⟨ec_in (i := 854) (by decide +kernel) rfl, ec_in (i := 58) (by decide +kernel) rfl, by decide, by decide⟩
theorem cv_X9_broke : Cond.instanceMethod yX9_broke ∈ ec_tb ∧ Cond.selects yX9_broke.cls yX9_broke yX9_broke ∈ ec_tb := ⟨ec_in (i := 852) (by decide +kernel) rfl, ec_in (i := 853) (by decide +kernel) rfl⟩
def ca_X9_broke : Nat → Option (Nat × Option Nat × ex_S) := fun ix => match ix with
  | 160 => some (2, some 1, sp_X1_tellFirstBreak)
  | 64 => some (2, some 9, sp_X9_counted)
  | _ => none
theorem ck_X9_broke (l : Launch) : ∀ (ix n : Nat) (rc : Option Nat) (sp : ex_S), ca_X9_broke ix = some (n, rc, sp) → ex_cok l RX9 1 21 ix n rc sp := by
  intro ix n rc sp h
  unfold ca_X9_broke at h
  split at h
  · cases h; exact ec_cV (mt_X1_tellFirstBreak l) cw_X1_tellFirstBreak cv_X1_tellFirstBreak (by decide) (by decide) (Or.inl (ec_in (i := 855) (by decide +kernel) rfl)) (T := TX1) (N := 6) rfl (by decide) (by decide +kernel)
  · cases h; exact ec_cV (mt_X9_counted l) cw_X9_counted cv_X9_counted (by decide) (by decide) (Or.inl (ec_in (i := 424) (by decide +kernel) rfl)) (T := TX9) (N := 10) rfl (by decide) (by decide +kernel)
  · cases h
def cx_X9_broke : ex_K := (RX9, ec_fx fl_X9, ec_cx cl_X9, sl_X9, ca_X9_broke, ec_nz, ec_no)
theorem ok_X9_broke (l : Launch) : ex_ok l 1 21 cx_X9_broke := ⟨ec_fok fo_X9, ec_cok co_X9, so_X9, ck_X9_broke l, fun _ h => (by cases h), fun _ h => (by cases h), fun _ h => (by cases h), fun _ _ h => (by cases h)⟩
def sp_X9_broke : ex_S := ex_sp cx_X9_broke cX9_broke 2 (some .int) 9
theorem mt_X9_broke (l : Launch) : ex_Met l yX9_broke cX9_broke 2 (some .int) 1 21 sp_X9_broke := ex_inl (by decide) rfl (ok_X9_broke l)
theorem cw_X9_ahead : ec_cw yX9_ahead cX9_ahead 3 (some .int) := ⟨ec_in (i := 863) (by decide +kernel) rfl, ec_in (i := 58) (by decide +kernel) rfl, by decide, by decide⟩
theorem cv_X9_ahead : Cond.instanceMethod yX9_ahead ∈ ec_tb ∧ Cond.selects yX9_ahead.cls yX9_ahead yX9_ahead ∈ ec_tb := ⟨ec_in (i := 861) (by decide +kernel) rfl, ec_in (i := 862) (by decide +kernel) rfl⟩
def ca_X9_ahead : Nat → Option (Nat × Option Nat × ex_S) := fun ix => match ix with
  | 64 => some (2, some 9, sp_X9_counted)
  | 163 => some (2, some 8, sp_X8_becomeLike)
  | 156 => some (1, some 8, sp_X8_passTick)
  | _ => none
theorem ck_X9_ahead (l : Launch) : ∀ (ix n : Nat) (rc : Option Nat) (sp : ex_S), ca_X9_ahead ix = some (n, rc, sp) → ex_cok l RX9 6 134 ix n rc sp := by
  intro ix n rc sp h
  unfold ca_X9_ahead at h
  split at h
  · cases h; exact ec_cV (mt_X9_counted l) cw_X9_counted cv_X9_counted (by decide) (by decide) (Or.inl (ec_in (i := 424) (by decide +kernel) rfl)) (T := TX9) (N := 10) rfl (by decide) (by decide +kernel)
  · cases h; exact ec_cV (mt_X8_becomeLike l) cw_X8_becomeLike cv_X8_becomeLike (by decide) (by decide) (Or.inl (ec_in (i := 864) (by decide +kernel) rfl)) (T := TX8) (N := 7) rfl (by decide) (by decide +kernel)
  · cases h; exact ec_cV (mt_X8_passTick l) cw_X8_passTick cv_X8_passTick (by decide) (by decide) (Or.inl (ec_in (i := 698) (by decide +kernel) rfl)) (T := TX8) (N := 7) rfl (by decide) (by decide +kernel)
  · cases h
def cx_X9_ahead : ex_K := (RX9, ec_fx fl_X9, ec_cx cl_X9, sl_X9, ca_X9_ahead, ec_nz, ec_no)
theorem ok_X9_ahead (l : Launch) : ex_ok l 6 134 cx_X9_ahead := ⟨ec_fok fo_X9, ec_cok co_X9, so_X9, ck_X9_ahead l, fun _ h => (by cases h), fun _ h => (by cases h), fun _ h => (by cases h), fun _ _ h => (by cases h)⟩
def sp_X9_ahead : ex_S := ex_sp cx_X9_ahead cX9_ahead 3 (some .int) 400
theorem mt_X9_ahead (l : Launch) : ex_Met l yX9_ahead cX9_ahead 3 (some .int) 6 134 sp_X9_ahead := ex_inl (by decide) rfl (ok_X9_ahead l)
theorem cw_X9_line : ec_cw yX9_line cX9_line 5 (some .int) := ⟨ec_in (i := 904) (by decide +kernel) rfl, ec_in (i := 58) (by decide +kernel) rfl, by decide, by decide⟩
theorem cv_X9_line : Cond.instanceMethod yX9_line ∈ ec_tb ∧ Cond.selects yX9_line.cls yX9_line yX9_line ∈ ec_tb := ⟨ec_in (i := 902) (by decide +kernel) rfl, ec_in (i := 903) (by decide +kernel) rfl⟩
def ca_X9_line : Nat → Option (Nat × Option Nat × ex_S) := fun ix => match ix with
  | 64 => some (2, some 9, sp_X9_counted)
  | 178 => some (5, some 7, sp_X7_addLine)
  | _ => none
theorem ck_X9_line (l : Launch) : ∀ (ix n : Nat) (rc : Option Nat) (sp : ex_S), ca_X9_line ix = some (n, rc, sp) → ex_cok l RX9 1 24 ix n rc sp := by
  intro ix n rc sp h
  unfold ca_X9_line at h
  split at h
  · cases h; exact ec_cV (mt_X9_counted l) cw_X9_counted cv_X9_counted (by decide) (by decide) (Or.inl (ec_in (i := 424) (by decide +kernel) rfl)) (T := TX9) (N := 10) rfl (by decide) (by decide +kernel)
  · cases h; exact ec_cV (mt_X7_addLine l) cw_X7_addLine cv_X7_addLine (by decide) (by decide) (Or.inl (ec_in (i := 906) (by decide +kernel) rfl)) (T := TX7) (N := 5) rfl (by decide) (by decide +kernel)
  · cases h
def cx_X9_line : ex_K := (RX9, ec_fx fl_X9, ec_cx cl_X9, sl_X9, ca_X9_line, ec_nz, ec_no)
theorem ok_X9_line (l : Launch) : ex_ok l 1 24 cx_X9_line := ⟨ec_fok fo_X9, ec_cok co_X9, so_X9, ck_X9_line l, fun _ h => (by cases h), fun _ h => (by cases h), fun _ h => (by cases h), fun _ _ h => (by cases h)⟩
def sp_X9_line : ex_S := ex_sp cx_X9_line cX9_line 5 (some .int) 29
theorem mt_X9_line (l : Launch) : ex_Met l yX9_line cX9_line 5 (some .int) 1 24 sp_X9_line := ex_inl (by decide) rfl (ok_X9_line l)
theorem cw_X9_erase : ec_cw yX9_erase cX9_erase 2 (some .int) := ⟨ec_in (i := 914) (by decide +kernel) rfl, ec_in (i := 58) (by decide +kernel) rfl, by decide, by decide⟩
theorem cv_X9_erase : Cond.instanceMethod yX9_erase ∈ ec_tb ∧ Cond.selects yX9_erase.cls yX9_erase yX9_erase ∈ ec_tb := ⟨ec_in (i := 912) (by decide +kernel) rfl, ec_in (i := 913) (by decide +kernel) rfl⟩
def ca_X9_erase : Nat → Option (Nat × Option Nat × ex_S) := fun ix => match ix with
  | 64 => some (2, some 9, sp_X9_counted)
  | _ => none
theorem ck_X9_erase (l : Launch) : ∀ (ix n : Nat) (rc : Option Nat) (sp : ex_S), ca_X9_erase ix = some (n, rc, sp) → ex_cok l RX9 1 21 ix n rc sp := by
  intro ix n rc sp h
  unfold ca_X9_erase at h
  split at h
  · cases h; exact ec_cV (mt_X9_counted l) cw_X9_counted cv_X9_counted (by decide) (by decide) (Or.inl (ec_in (i := 424) (by decide +kernel) rfl)) (T := TX9) (N := 10) rfl (by decide) (by decide +kernel)
  · cases h
def cx_X9_erase : ex_K := (RX9, ec_fx fl_X9, ec_cx cl_X9, sl_X9, ca_X9_erase, ec_nz, ec_no)
theorem ok_X9_erase (l : Launch) : ex_ok l 1 21 cx_X9_erase := ⟨ec_fok fo_X9, ec_cok co_X9, so_X9, ck_X9_erase l, fun _ h => (by cases h), fun _ h => (by cases h), fun _ h => (by cases h), fun _ _ h => (by cases h)⟩
def sp_X9_erase : ex_S := ex_sp cx_X9_erase cX9_erase 2 (some .int) 20
theorem mt_X9_erase (l : Launch) : ex_Met l yX9_erase cX9_erase 2 (some .int) 1 21 sp_X9_erase := ex_inl (by decide) rfl (ok_X9_erase l)
theorem cw_X9_begin : ec_cw yX9_begin cX9_begin 1 (some .int) := ⟨ec_in (i := 918) (by decide +kernel) rfl, ec_in (i := 58) (by decide +kernel) rfl, by decide, by decide⟩
theorem cv_X9_begin : Cond.instanceMethod yX9_begin ∈ ec_tb ∧ Cond.selects yX9_begin.cls yX9_begin yX9_begin ∈ ec_tb := ⟨ec_in (i := 916) (by decide +kernel) rfl, ec_in (i := 917) (by decide +kernel) rfl⟩
def ca_X9_begin : Nat → Option (Nat × Option Nat × ex_S) := fun ix => match ix with
  | 64 => some (2, some 9, sp_X9_counted)
  | 184 => some (1, some 2, sp_X2_start)
  | _ => none
theorem ck_X9_begin (l : Launch) : ∀ (ix n : Nat) (rc : Option Nat) (sp : ex_S), ca_X9_begin ix = some (n, rc, sp) → ex_cok l RX9 1 21 ix n rc sp := by
  intro ix n rc sp h
  unfold ca_X9_begin at h
  split at h
  · cases h; exact ec_cV (mt_X9_counted l) cw_X9_counted cv_X9_counted (by decide) (by decide) (Or.inl (ec_in (i := 424) (by decide +kernel) rfl)) (T := TX9) (N := 10) rfl (by decide) (by decide +kernel)
  · cases h; exact ec_cV (mt_X2_start l) cw_X2_start cv_X2_start (by decide) (by decide) (Or.inl (ec_in (i := 919) (by decide +kernel) rfl)) (T := TX2) (N := 7) rfl (by decide) (by decide +kernel)
  · cases h
def cx_X9_begin : ex_K := (RX9, ec_fx fl_X9, ec_cx cl_X9, sl_X9, ca_X9_begin, ec_nz, ec_no)
theorem ok_X9_begin (l : Launch) : ex_ok l 1 21 cx_X9_begin := ⟨ec_fok fo_X9, ec_cok co_X9, so_X9, ck_X9_begin l, fun _ h => (by cases h), fun _ h => (by cases h), fun _ h => (by cases h), fun _ _ h => (by cases h)⟩
def sp_X9_begin : ex_S := ex_sp cx_X9_begin cX9_begin 1 (some .int) 20
theorem mt_X9_begin (l : Launch) : ex_Met l yX9_begin cX9_begin 1 (some .int) 1 21 sp_X9_begin := ex_inl (by decide) rfl (ok_X9_begin l)
theorem cw_X9_halt : ec_cw yX9_halt cX9_halt 2 (some .int) := ⟨ec_in (i := 926) (by decide +kernel) rfl, ec_in (i := 58) (by decide +kernel) rfl, by decide, by decide⟩
theorem cv_X9_halt : Cond.instanceMethod yX9_halt ∈ ec_tb ∧ Cond.selects yX9_halt.cls yX9_halt yX9_halt ∈ ec_tb := ⟨ec_in (i := 924) (by decide +kernel) rfl, ec_in (i := 925) (by decide +kernel) rfl⟩
def ca_X9_halt : Nat → Option (Nat × Option Nat × ex_S) := fun ix => match ix with
  | 187 => some (2, some 2, sp_X2_setHalted)
  | 64 => some (2, some 9, sp_X9_counted)
  | _ => none
theorem ck_X9_halt (l : Launch) : ∀ (ix n : Nat) (rc : Option Nat) (sp : ex_S), ca_X9_halt ix = some (n, rc, sp) → ex_cok l RX9 2 41 ix n rc sp := by
  intro ix n rc sp h
  unfold ca_X9_halt at h
  split at h
  · cases h; exact ec_cV (mt_X2_setHalted l) cw_X2_setHalted cv_X2_setHalted (by decide) (by decide) (Or.inl (ec_in (i := 927) (by decide +kernel) rfl)) (T := TX2) (N := 7) rfl (by decide) (by decide +kernel)
  · cases h; exact ec_cV (mt_X9_counted l) cw_X9_counted cv_X9_counted (by decide) (by decide) (Or.inl (ec_in (i := 424) (by decide +kernel) rfl)) (T := TX9) (N := 10) rfl (by decide) (by decide +kernel)
  · cases h
def cx_X9_halt : ex_K := (RX9, ec_fx fl_X9, ec_cx cl_X9, sl_X9, ca_X9_halt, ec_nz, ec_no)
theorem ok_X9_halt (l : Launch) : ex_ok l 2 41 cx_X9_halt := ⟨ec_fok fo_X9, ec_cok co_X9, so_X9, ck_X9_halt l, fun _ h => (by cases h), fun _ h => (by cases h), fun _ h => (by cases h), fun _ _ h => (by cases h)⟩
def sp_X9_halt : ex_S := ex_sp cx_X9_halt cX9_halt 2 (some .int) 9
theorem mt_X9_halt (l : Launch) : ex_Met l yX9_halt cX9_halt 2 (some .int) 2 41 sp_X9_halt := ex_inl (by decide) rfl (ok_X9_halt l)
theorem cw_X9_abort : ec_cw yX9_abort cX9_abort 1 (some .int) := ⟨ec_in (i := 937) (by decide +kernel) rfl, ec_in (i := 58) (by decide +kernel) rfl, by decide, by decide⟩
theorem cv_X9_abort : Cond.instanceMethod yX9_abort ∈ ec_tb ∧ Cond.selects yX9_abort.cls yX9_abort yX9_abort ∈ ec_tb := ⟨ec_in (i := 935) (by decide +kernel) rfl, ec_in (i := 936) (by decide +kernel) rfl⟩
def ca_X9_abort : Nat → Option (Nat × Option Nat × ex_S) := fun ix => match ix with
  | 64 => some (2, some 9, sp_X9_counted)
  | 190 => some (1, some 2, sp_X2_giveUp)
  | 193 => some (1, none, sp_X9_one)
  | _ => none
theorem ck_X9_abort (l : Launch) : ∀ (ix n : Nat) (rc : Option Nat) (sp : ex_S), ca_X9_abort ix = some (n, rc, sp) → ex_cok l RX9 2 41 ix n rc sp := by
  intro ix n rc sp h
  unfold ca_X9_abort at h
  split at h
  · cases h; exact ec_cV (mt_X9_counted l) cw_X9_counted cv_X9_counted (by decide) (by decide) (Or.inl (ec_in (i := 424) (by decide +kernel) rfl)) (T := TX9) (N := 10) rfl (by decide) (by decide +kernel)
  · cases h; exact ec_cV (mt_X2_giveUp l) cw_X2_giveUp cv_X2_giveUp (by decide) (by decide) (Or.inl (ec_in (i := 938) (by decide +kernel) rfl)) (T := TX2) (N := 7) rfl (by decide) (by decide +kernel)
  · cases h; exact ec_cS (mt_X9_one l) cw_X9_one cv_X9_one (by decide) (by decide) (Or.inl (ec_in (i := 939) (by decide +kernel) rfl)) (by decide +kernel)
  · cases h
def cx_X9_abort : ex_K := (RX9, ec_fx fl_X9, ec_cx cl_X9, sl_X9, ca_X9_abort, ec_nz, ec_no)
theorem ok_X9_abort (l : Launch) : ex_ok l 2 41 cx_X9_abort := ⟨ec_fok fo_X9, ec_cok co_X9, so_X9, ck_X9_abort l, fun _ h => (by cases h), fun _ h => (by cases h), fun _ h => (by cases h), fun _ _ h => (by cases h)⟩
def sp_X9_abort : ex_S := ex_sp cx_X9_abort cX9_abort 1 (some .int) 20
theorem mt_X9_abort (l : Launch) : ex_Met l yX9_abort cX9_abort 1 (some .int) 2 41 sp_X9_abort := ex_inl (by decide) rfl (ok_X9_abort l)
theorem cw_X9_text : ec_cw yX9_text cX9_text 2 (some .int) := ⟨ec_in (i := 943) (by decide +kernel) rfl, ec_in (i := 58) (by decide +kernel) rfl, by decide, by decide⟩
theorem cv_X9_text : Cond.instanceMethod yX9_text ∈ ec_tb ∧ Cond.selects yX9_text.cls yX9_text yX9_text ∈ ec_tb := ⟨ec_in (i := 941) (by decide +kernel) rfl, ec_in (i := 942) (by decide +kernel) rfl⟩
def ca_X9_text : Nat → Option (Nat × Option Nat × ex_S) := fun ix => match ix with
  | 197 => some (2, some 2, sp_X2_tellOf)
  | 64 => some (2, some 9, sp_X9_counted)
  | _ => none
theorem ck_X9_text (l : Launch) : ∀ (ix n : Nat) (rc : Option Nat) (sp : ex_S), ca_X9_text ix = some (n, rc, sp) → ex_cok l RX9 2 41 ix n rc sp := by
  intro ix n rc sp h
  unfold ca_X9_text at h
  split at h
  · cases h; exact ec_cV (mt_X2_tellOf l) cw_X2_tellOf cv_X2_tellOf (by decide) (by decide) (Or.inl (ec_in (i := 944) (by decide +kernel) rfl)) (T := TX2) (N := 7) rfl (by decide) (by decide +kernel)
  · cases h; exact ec_cV (mt_X9_counted l) cw_X9_counted cv_X9_counted (by decide) (by decide) (Or.inl (ec_in (i := 424) (by decide +kernel) rfl)) (T := TX9) (N := 10) rfl (by decide) (by decide +kernel)
  · cases h
def cx_X9_text : ex_K := (RX9, ec_fx fl_X9, ec_cx cl_X9, sl_X9, ca_X9_text, ec_nz, ec_no)
theorem ok_X9_text (l : Launch) : ex_ok l 2 41 cx_X9_text := ⟨ec_fok fo_X9, ec_cok co_X9, so_X9, ck_X9_text l, fun _ h => (by cases h), fun _ h => (by cases h), fun _ h => (by cases h), fun _ _ h => (by cases h)⟩
def sp_X9_text : ex_S := ex_sp cx_X9_text cX9_text 2 (some .int) 9
theorem mt_X9_text (l : Launch) : ex_Met l yX9_text cX9_text 2 (some .int) 2 41 sp_X9_text := ex_inl (by decide) rfl (ok_X9_text l)
theorem cw_X9_hunt : ec_cw yX9_hunt cX9_hunt 1 (some .int) := ⟨ec_in (i := 952) (by decide +kernel) rfl, ec_in (i := 58) (by decide +kernel) rfl, by decide, by decide⟩
theorem cv_X9_hunt : Cond.instanceMethod yX9_hunt ∈ ec_tb ∧ Cond.selects yX9_hunt.cls yX9_hunt yX9_hunt ∈ ec_tb := ⟨ec_in (i := 950) (by decide +kernel) rfl, ec_in (i := 951) (by decide +kernel) rfl⟩
def ca_X9_hunt : Nat → Option (Nat × Option Nat × ex_S) := fun ix => match ix with
  | 199 => some (2, some 4, sp_X4_startOver)
  | _ => none
theorem ck_X9_hunt (l : Launch) : ∀ (ix n : Nat) (rc : Option Nat) (sp : ex_S), ca_X9_hunt ix = some (n, rc, sp) → ex_cok l RX9 1 21 ix n rc sp := by
  intro ix n rc sp h
  unfold ca_X9_hunt at h
  split at h
  · cases h; exact ec_cV (mt_X4_startOver l) cw_X4_startOver cv_X4_startOver (by decide) (by decide) (Or.inl (ec_in (i := 953) (by decide +kernel) rfl)) (T := TX4) (N := 2) rfl (by decide) (by decide +kernel)
  · cases h
def cx_X9_hunt : ex_K := (RX9, ec_fx fl_X9, ec_cx cl_X9, sl_X9, ca_X9_hunt, ec_nz, ec_no)
theorem ok_X9_hunt (l : Launch) : ex_ok l 1 21 cx_X9_hunt := ⟨ec_fok fo_X9, ec_cok co_X9, so_X9, ck_X9_hunt l, fun _ h => (by cases h), fun _ h => (by cases h), fun _ h => (by cases h), fun _ _ h => (by cases h)⟩
def sp_X9_hunt : ex_S := ex_sp cx_X9_hunt cX9_hunt 1 (some .int) 8
theorem mt_X9_hunt (l : Launch) : ex_Met l yX9_hunt cX9_hunt 1 (some .int) 1 21 sp_X9_hunt := ex_inl (by decide) rfl (ok_X9_hunt l)
theorem cw_X9_test : ec_cw yX9_test cX9_test 3 (some .int) := ⟨ec_in (i := 960) (by decide +kernel) rfl, ec_in (i := 58) (by decide +kernel) rfl, by decide, by decide⟩
theorem cv_X9_test : Cond.instanceMethod yX9_test ∈ ec_tb ∧ Cond.selects yX9_test.cls yX9_test yX9_test ∈ ec_tb := ⟨ec_in (i := 958) (by decide +kernel) rfl, ec_in (i := 959) (by decide +kernel) rfl⟩
def ca_X9_test : Nat → Option (Nat × Option Nat × ex_S) := fun ix => match ix with
  | 203 => some (4, some 4, sp_X4_narrow)
  | 64 => some (2, some 9, sp_X9_counted)
  | _ => none
theorem ck_X9_test (l : Launch) : ∀ (ix n : Nat) (rc : Option Nat) (sp : ex_S), ca_X9_test ix = some (n, rc, sp) → ex_cok l RX9 3 70 ix n rc sp := by
  intro ix n rc sp h
  unfold ca_X9_test at h
  split at h
  · cases h; exact ec_cV (mt_X4_narrow l) cw_X4_narrow cv_X4_narrow (by decide) (by decide) (Or.inl (ec_in (i := 961) (by decide +kernel) rfl)) (T := TX4) (N := 2) rfl (by decide) (by decide +kernel)
  · cases h; exact ec_cV (mt_X9_counted l) cw_X9_counted cv_X9_counted (by decide) (by decide) (Or.inl (ec_in (i := 424) (by decide +kernel) rfl)) (T := TX9) (N := 10) rfl (by decide) (by decide +kernel)
  · cases h
def cx_X9_test : ex_K := (RX9, ec_fx fl_X9, ec_cx cl_X9, sl_X9, ca_X9_test, ec_nz, ec_no)
theorem ok_X9_test (l : Launch) : ex_ok l 3 70 cx_X9_test := ⟨ec_fok fo_X9, ec_cok co_X9, so_X9, ck_X9_test l, fun _ h => (by cases h), fun _ h => (by cases h), fun _ h => (by cases h), fun _ _ h => (by cases h)⟩
def sp_X9_test : ex_S := ex_sp cx_X9_test cX9_test 3 (some .int) 12
theorem mt_X9_test (l : Launch) : ex_Met l yX9_test cX9_test 3 (some .int) 3 70 sp_X9_test := ex_inl (by decide) rfl (ok_X9_test l)
theorem cw_X9_best : ec_cw yX9_best cX9_best 2 (some .int) := ⟨ec_in (i := 979) (by decide +kernel) rfl, ec_in (i := 58) (by decide +kernel) rfl, by decide, by decide⟩
theorem cv_X9_best : Cond.instanceMethod yX9_best ∈ ec_tb ∧ Cond.selects yX9_best.cls yX9_best yX9_best ∈ ec_tb := ⟨ec_in (i := 977) (by decide +kernel) rfl, ec_in (i := 978) (by decide +kernel) rfl⟩
def ca_X9_best : Nat → Option (Nat × Option Nat × ex_S) := fun ix => match ix with
  | 207 => some (3, some 4, sp_X4_bestTest)
  | 64 => some (2, some 9, sp_X9_counted)
  | _ => none
theorem ck_X9_best (l : Launch) : ∀ (ix n : Nat) (rc : Option Nat) (sp : ex_S), ca_X9_best ix = some (n, rc, sp) → ex_cok l RX9 4 98 ix n rc sp := by
  intro ix n rc sp h
  unfold ca_X9_best at h
  split at h
  · cases h; exact ec_cV (mt_X4_bestTest l) cw_X4_bestTest cv_X4_bestTest (by decide) (by decide) (Or.inl (ec_in (i := 980) (by decide +kernel) rfl)) (T := TX4) (N := 2) rfl (by decide) (by decide +kernel)
  · cases h; exact ec_cV (mt_X9_counted l) cw_X9_counted cv_X9_counted (by decide) (by decide) (Or.inl (ec_in (i := 424) (by decide +kernel) rfl)) (T := TX9) (N := 10) rfl (by decide) (by decide +kernel)
  · cases h
def cx_X9_best : ex_K := (RX9, ec_fx fl_X9, ec_cx cl_X9, sl_X9, ca_X9_best, ec_nz, ec_no)
theorem ok_X9_best (l : Launch) : ex_ok l 4 98 cx_X9_best := ⟨ec_fok fo_X9, ec_cok co_X9, so_X9, ck_X9_best l, fun _ h => (by cases h), fun _ h => (by cases h), fun _ h => (by cases h), fun _ _ h => (by cases h)⟩
def sp_X9_best : ex_S := ex_sp cx_X9_best cX9_best 2 (some .int) 11
theorem mt_X9_best (l : Launch) : ex_Met l yX9_best cX9_best 2 (some .int) 4 98 sp_X9_best := ex_inl (by decide) rfl (ok_X9_best l)
theorem cw_X9_suspects : ec_cw yX9_suspects cX9_suspects 1 (some .int) := ⟨ec_in (i := 995) (by decide +kernel) rfl, ec_in (i := 58) (by decide +kernel) rfl, by decide, by decide⟩
theorem cv_X9_suspects : Cond.instanceMethod yX9_suspects ∈ ec_tb ∧ Cond.selects yX9_suspects.cls yX9_suspects yX9_suspects ∈ ec_tb := ⟨ec_in (i := 993) (by decide +kernel) rfl, ec_in (i := 994) (by decide +kernel) rfl⟩
def cx_X9_suspects : ex_K := (RX9, ec_fx fl_X9, ec_cx cl_X9, sl_X9, ec_no, ec_nz, ec_no)
theorem ok_X9_suspects (l : Launch) : ex_ok l 0 0 cx_X9_suspects := ⟨ec_fok fo_X9, ec_cok co_X9, so_X9, fun _ _ _ _ h => (by cases h), fun _ h => (by cases h), fun _ h => (by cases h), fun _ h => (by cases h), fun _ _ h => (by cases h)⟩
def sp_X9_suspects : ex_S := ex_sp cx_X9_suspects cX9_suspects 1 (some .int) 5
theorem mt_X9_suspects (l : Launch) : ex_Met l yX9_suspects cX9_suspects 1 (some .int) 0 0 sp_X9_suspects := ex_inl (by decide) rfl (ok_X9_suspects l)
theorem cw_X9_read : ec_cw yX9_read cX9_read 3 (some .int) := ⟨ec_in (i := 999) (by decide +kernel) rfl, ec_in (i := 58) (by decide +kernel) rfl, by decide, by decide⟩
theorem cv_X9_read : Cond.instanceMethod yX9_read ∈ ec_tb ∧ Cond.selects yX9_read.cls yX9_read yX9_read ∈ ec_tb := ⟨ec_in (i := 997) (by decide +kernel) rfl, ec_in (i := 998) (by decide +kernel) rfl⟩
def ca_X9_read : Nat → Option (Nat × Option Nat × ex_S) := fun ix => match ix with
  | 214 => some (4, some 5, sp_X5_addReading)
  | 64 => some (2, some 9, sp_X9_counted)
  | _ => none
theorem ck_X9_read (l : Launch) : ∀ (ix n : Nat) (rc : Option Nat) (sp : ex_S), ca_X9_read ix = some (n, rc, sp) → ex_cok l RX9 2 43 ix n rc sp := by
  intro ix n rc sp h
  unfold ca_X9_read at h
  split at h
  · cases h; exact ec_cV (mt_X5_addReading l) cw_X5_addReading cv_X5_addReading (by decide) (by decide) (Or.inl (ec_in (i := 1000) (by decide +kernel) rfl)) (T := TX5) (N := 10) rfl (by decide) (by decide +kernel)
  · cases h; exact ec_cV (mt_X9_counted l) cw_X9_counted cv_X9_counted (by decide) (by decide) (Or.inl (ec_in (i := 424) (by decide +kernel) rfl)) (T := TX9) (N := 10) rfl (by decide) (by decide +kernel)
  · cases h
def cx_X9_read : ex_K := (RX9, ec_fx fl_X9, ec_cx cl_X9, sl_X9, ca_X9_read, ec_nz, ec_no)
theorem ok_X9_read (l : Launch) : ex_ok l 2 43 cx_X9_read := ⟨ec_fok fo_X9, ec_cok co_X9, so_X9, ck_X9_read l, fun _ h => (by cases h), fun _ h => (by cases h), fun _ h => (by cases h), fun _ _ h => (by cases h)⟩
def sp_X9_read : ex_S := ex_sp cx_X9_read cX9_read 3 (some .int) 12
theorem mt_X9_read (l : Launch) : ex_Met l yX9_read cX9_read 3 (some .int) 2 43 sp_X9_read := ex_inl (by decide) rfl (ok_X9_read l)
theorem cw_X9_calibrate : ec_cw yX9_calibrate cX9_calibrate 3 (some .int) := ⟨ec_in (i := 1012) (by decide +kernel) rfl, ec_in (i := 58) (by decide +kernel) rfl, by decide, by decide⟩
theorem cv_X9_calibrate : Cond.instanceMethod yX9_calibrate ∈ ec_tb ∧ Cond.selects yX9_calibrate.cls yX9_calibrate yX9_calibrate ∈ ec_tb := ⟨ec_in (i := 1010) (by decide +kernel) rfl, ec_in (i := 1011) (by decide +kernel) rfl⟩
def ca_X9_calibrate : Nat → Option (Nat × Option Nat × ex_S) := fun ix => match ix with
  | 217 => some (4, some 5, sp_X5_addCalibration)
  | 64 => some (2, some 9, sp_X9_counted)
  | _ => none
theorem ck_X9_calibrate (l : Launch) : ∀ (ix n : Nat) (rc : Option Nat) (sp : ex_S), ca_X9_calibrate ix = some (n, rc, sp) → ex_cok l RX9 2 43 ix n rc sp := by
  intro ix n rc sp h
  unfold ca_X9_calibrate at h
  split at h
  · cases h; exact ec_cV (mt_X5_addCalibration l) cw_X5_addCalibration cv_X5_addCalibration (by decide) (by decide) (Or.inl (ec_in (i := 1013) (by decide +kernel) rfl)) (T := TX5) (N := 10) rfl (by decide) (by decide +kernel)
  · cases h; exact ec_cV (mt_X9_counted l) cw_X9_counted cv_X9_counted (by decide) (by decide) (Or.inl (ec_in (i := 424) (by decide +kernel) rfl)) (T := TX9) (N := 10) rfl (by decide) (by decide +kernel)
  · cases h
def cx_X9_calibrate : ex_K := (RX9, ec_fx fl_X9, ec_cx cl_X9, sl_X9, ca_X9_calibrate, ec_nz, ec_no)
theorem ok_X9_calibrate (l : Launch) : ex_ok l 2 43 cx_X9_calibrate := ⟨ec_fok fo_X9, ec_cok co_X9, so_X9, ck_X9_calibrate l, fun _ h => (by cases h), fun _ h => (by cases h), fun _ h => (by cases h), fun _ _ h => (by cases h)⟩
def sp_X9_calibrate : ex_S := ex_sp cx_X9_calibrate cX9_calibrate 3 (some .int) 12
theorem mt_X9_calibrate (l : Launch) : ex_Met l yX9_calibrate cX9_calibrate 3 (some .int) 2 43 sp_X9_calibrate := ex_inl (by decide) rfl (ok_X9_calibrate l)
theorem cw_X9_worked : ec_cw yX9_worked cX9_worked 2 (some .int) := ⟨ec_in (i := 1020) (by decide +kernel) rfl, ec_in (i := 58) (by decide +kernel) rfl, by decide, by decide⟩
theorem cv_X9_worked : Cond.instanceMethod yX9_worked ∈ ec_tb ∧ Cond.selects yX9_worked.cls yX9_worked yX9_worked ∈ ec_tb := ⟨ec_in (i := 1018) (by decide +kernel) rfl, ec_in (i := 1019) (by decide +kernel) rfl⟩
def ca_X9_worked : Nat → Option (Nat × Option Nat × ex_S) := fun ix => match ix with
  | 220 => some (2, some 5, sp_X5_workedBack)
  | 64 => some (2, some 9, sp_X9_counted)
  | _ => none
theorem ck_X9_worked (l : Launch) : ∀ (ix n : Nat) (rc : Option Nat) (sp : ex_S), ca_X9_worked ix = some (n, rc, sp) → ex_cok l RX9 3 71 ix n rc sp := by
  intro ix n rc sp h
  unfold ca_X9_worked at h
  split at h
  · cases h; exact ec_cV (mt_X5_workedBack l) cw_X5_workedBack cv_X5_workedBack (by decide) (by decide) (Or.inl (ec_in (i := 1021) (by decide +kernel) rfl)) (T := TX5) (N := 10) rfl (by decide) (by decide +kernel)
  · cases h; exact ec_cV (mt_X9_counted l) cw_X9_counted cv_X9_counted (by decide) (by decide) (Or.inl (ec_in (i := 424) (by decide +kernel) rfl)) (T := TX9) (N := 10) rfl (by decide) (by decide +kernel)
  · cases h
def cx_X9_worked : ex_K := (RX9, ec_fx fl_X9, ec_cx cl_X9, sl_X9, ca_X9_worked, ec_nz, ec_no)
theorem ok_X9_worked (l : Launch) : ex_ok l 3 71 cx_X9_worked := ⟨ec_fok fo_X9, ec_cok co_X9, so_X9, ck_X9_worked l, fun _ h => (by cases h), fun _ h => (by cases h), fun _ h => (by cases h), fun _ _ h => (by cases h)⟩
def sp_X9_worked : ex_S := ex_sp cx_X9_worked cX9_worked 2 (some .int) 8
theorem mt_X9_worked (l : Launch) : ex_Met l yX9_worked cX9_worked 2 (some .int) 3 71 sp_X9_worked := ex_inl (by decide) rfl (ok_X9_worked l)
theorem cw_X9_delay : ec_cw yX9_delay cX9_delay 2 (some .int) := ⟨ec_in (i := 1036) (by decide +kernel) rfl, ec_in (i := 58) (by decide +kernel) rfl, by decide, by decide⟩
theorem cv_X9_delay : Cond.instanceMethod yX9_delay ∈ ec_tb ∧ Cond.selects yX9_delay.cls yX9_delay yX9_delay ∈ ec_tb := ⟨ec_in (i := 1034) (by decide +kernel) rfl, ec_in (i := 1035) (by decide +kernel) rfl⟩
def ca_X9_delay : Nat → Option (Nat × Option Nat × ex_S) := fun ix => match ix with
  | 223 => some (2, some 5, sp_X5_setDelay)
  | 64 => some (2, some 9, sp_X9_counted)
  | _ => none
theorem ck_X9_delay (l : Launch) : ∀ (ix n : Nat) (rc : Option Nat) (sp : ex_S), ca_X9_delay ix = some (n, rc, sp) → ex_cok l RX9 1 22 ix n rc sp := by
  intro ix n rc sp h
  unfold ca_X9_delay at h
  split at h
  · cases h; exact ec_cV (mt_X5_setDelay l) cw_X5_setDelay cv_X5_setDelay (by decide) (by decide) (Or.inl (ec_in (i := 1037) (by decide +kernel) rfl)) (T := TX5) (N := 10) rfl (by decide) (by decide +kernel)
  · cases h; exact ec_cV (mt_X9_counted l) cw_X9_counted cv_X9_counted (by decide) (by decide) (Or.inl (ec_in (i := 424) (by decide +kernel) rfl)) (T := TX9) (N := 10) rfl (by decide) (by decide +kernel)
  · cases h
def cx_X9_delay : ex_K := (RX9, ec_fx fl_X9, ec_cx cl_X9, sl_X9, ca_X9_delay, ec_nz, ec_no)
theorem ok_X9_delay (l : Launch) : ex_ok l 1 22 cx_X9_delay := ⟨ec_fok fo_X9, ec_cok co_X9, so_X9, ck_X9_delay l, fun _ h => (by cases h), fun _ h => (by cases h), fun _ h => (by cases h), fun _ _ h => (by cases h)⟩
def sp_X9_delay : ex_S := ex_sp cx_X9_delay cX9_delay 2 (some .int) 8
theorem mt_X9_delay (l : Launch) : ex_Met l yX9_delay cX9_delay 2 (some .int) 1 22 sp_X9_delay := ex_inl (by decide) rfl (ok_X9_delay l)
theorem cw_X9_known : ec_cw yX9_known cX9_known 3 (some .int) := ⟨ec_in (i := 1044) (by decide +kernel) rfl, ec_in (i := 58) (by decide +kernel) rfl, by decide, by decide⟩
theorem cv_X9_known : Cond.instanceMethod yX9_known ∈ ec_tb ∧ Cond.selects yX9_known.cls yX9_known yX9_known ∈ ec_tb := ⟨ec_in (i := 1042) (by decide +kernel) rfl, ec_in (i := 1043) (by decide +kernel) rfl⟩
def ca_X9_known : Nat → Option (Nat × Option Nat × ex_S) := fun ix => match ix with
  | 226 => some (3, some 5, sp_X5_latestHeard)
  | 64 => some (2, some 9, sp_X9_counted)
  | _ => none
theorem ck_X9_known (l : Launch) : ∀ (ix n : Nat) (rc : Option Nat) (sp : ex_S), ca_X9_known ix = some (n, rc, sp) → ex_cok l RX9 2 43 ix n rc sp := by
  intro ix n rc sp h
  unfold ca_X9_known at h
  split at h
  · cases h; exact ec_cV (mt_X5_latestHeard l) cw_X5_latestHeard cv_X5_latestHeard (by decide) (by decide) (Or.inl (ec_in (i := 1045) (by decide +kernel) rfl)) (T := TX5) (N := 10) rfl (by decide) (by decide +kernel)
  · cases h; exact ec_cV (mt_X9_counted l) cw_X9_counted cv_X9_counted (by decide) (by decide) (Or.inl (ec_in (i := 424) (by decide +kernel) rfl)) (T := TX9) (N := 10) rfl (by decide) (by decide +kernel)
  · cases h
def cx_X9_known : ex_K := (RX9, ec_fx fl_X9, ec_cx cl_X9, sl_X9, ca_X9_known, ec_nz, ec_no)
theorem ok_X9_known (l : Launch) : ex_ok l 2 43 cx_X9_known := ⟨ec_fok fo_X9, ec_cok co_X9, so_X9, ck_X9_known l, fun _ h => (by cases h), fun _ h => (by cases h), fun _ h => (by cases h), fun _ _ h => (by cases h)⟩
def sp_X9_known : ex_S := ex_sp cx_X9_known cX9_known 3 (some .int) 9
theorem mt_X9_known (l : Launch) : ex_Met l yX9_known cX9_known 3 (some .int) 2 43 sp_X9_known := ex_inl (by decide) rfl (ok_X9_known l)
theorem cw_X9_isMass : ec_cw yX9_isMass cX9_isMass 1 (some .boolean) := ⟨ec_in (i := 1060) (by decide +kernel) rfl, ec_in (i := 58) (by decide +kernel) rfl, by decide, by decide⟩
theorem cv_X9_isMass : Cond.static yX9_isMass ∈ ec_tb := ec_in (i := 1059) (by decide +kernel) rfl
def cx_X9_isMass : ex_K := (RX9, ec_fx fl_X9, ec_cx cl_X9, sl_X9, ec_no, ec_nz, ec_no)
theorem ok_X9_isMass (l : Launch) : ex_ok l 0 0 cx_X9_isMass := ⟨ec_fok fo_X9, ec_cok co_X9, so_X9, fun _ _ _ _ h => (by cases h), fun _ h => (by cases h), fun _ h => (by cases h), fun _ h => (by cases h), fun _ _ h => (by cases h)⟩
def sp_X9_isMass : ex_S := ex_sp cx_X9_isMass cX9_isMass 1 (some .boolean) 11
theorem mt_X9_isMass (l : Launch) : ex_Met l yX9_isMass cX9_isMass 1 (some .boolean) 0 0 sp_X9_isMass := ex_inl (by decide) rfl (ok_X9_isMass l)
theorem cw_X9_setMass : ec_cw yX9_setMass cX9_setMass 3 (some .int) := ⟨ec_in (i := 1057) (by decide +kernel) rfl, ec_in (i := 58) (by decide +kernel) rfl, by decide, by decide⟩
theorem cv_X9_setMass : Cond.instanceMethod yX9_setMass ∈ ec_tb ∧ Cond.selects yX9_setMass.cls yX9_setMass yX9_setMass ∈ ec_tb := ⟨ec_in (i := 1056) (by decide +kernel) rfl, ec_in (i := 24) (by decide +kernel) rfl⟩
def ca_X9_setMass : Nat → Option (Nat × Option Nat × ex_S) := fun ix => match ix with
  | 235 => some (1, none, sp_X9_isMass)
  | _ => none
theorem ck_X9_setMass (l : Launch) : ∀ (ix n : Nat) (rc : Option Nat) (sp : ex_S), ca_X9_setMass ix = some (n, rc, sp) → ex_cok l RX9 1 20 ix n rc sp := by
  intro ix n rc sp h
  unfold ca_X9_setMass at h
  split at h
  · cases h; exact ec_cS (mt_X9_isMass l) cw_X9_isMass cv_X9_isMass (by decide) (by decide) (Or.inl (ec_in (i := 1058) (by decide +kernel) rfl)) (by decide +kernel)
  · cases h
def cx_X9_setMass : ex_K := (RX9, ec_fx fl_X9, ec_cx cl_X9, sl_X9, ca_X9_setMass, ec_nz, ec_no)
theorem ok_X9_setMass (l : Launch) : ex_ok l 1 20 cx_X9_setMass := ⟨ec_fok fo_X9, ec_cok co_X9, so_X9, ck_X9_setMass l, fun _ h => (by cases h), fun _ h => (by cases h), fun _ h => (by cases h), fun _ _ h => (by cases h)⟩
def sp_X9_setMass : ex_S := ex_sp cx_X9_setMass cX9_setMass 3 (some .int) 20
theorem mt_X9_setMass (l : Launch) : ex_Met l yX9_setMass cX9_setMass 3 (some .int) 1 20 sp_X9_setMass := ex_inl (by decide) rfl (ok_X9_setMass l)
theorem cw_X9_isSpeed : ec_cw yX9_isSpeed cX9_isSpeed 1 (some .boolean) := ⟨ec_in (i := 1068) (by decide +kernel) rfl, ec_in (i := 58) (by decide +kernel) rfl, by decide, by decide⟩
theorem cv_X9_isSpeed : Cond.static yX9_isSpeed ∈ ec_tb := ec_in (i := 1067) (by decide +kernel) rfl
def cx_X9_isSpeed : ex_K := (RX9, ec_fx fl_X9, ec_cx cl_X9, sl_X9, ec_no, ec_nz, ec_no)
theorem ok_X9_isSpeed (l : Launch) : ex_ok l 0 0 cx_X9_isSpeed := ⟨ec_fok fo_X9, ec_cok co_X9, so_X9, fun _ _ _ _ h => (by cases h), fun _ h => (by cases h), fun _ h => (by cases h), fun _ h => (by cases h), fun _ _ h => (by cases h)⟩
def sp_X9_isSpeed : ex_S := ex_sp cx_X9_isSpeed cX9_isSpeed 1 (some .boolean) 11
theorem mt_X9_isSpeed (l : Launch) : ex_Met l yX9_isSpeed cX9_isSpeed 1 (some .boolean) 0 0 sp_X9_isSpeed := ex_inl (by decide) rfl (ok_X9_isSpeed l)
theorem cw_X9_setSpeed : ec_cw yX9_setSpeed cX9_setSpeed 3 (some .int) := ⟨ec_in (i := 1065) (by decide +kernel) rfl, ec_in (i := 58) (by decide +kernel) rfl, by decide, by decide⟩
theorem cv_X9_setSpeed : Cond.instanceMethod yX9_setSpeed ∈ ec_tb ∧ Cond.selects yX9_setSpeed.cls yX9_setSpeed yX9_setSpeed ∈ ec_tb := ⟨ec_in (i := 1064) (by decide +kernel) rfl, ec_in (i := 25) (by decide +kernel) rfl⟩
def ca_X9_setSpeed : Nat → Option (Nat × Option Nat × ex_S) := fun ix => match ix with
  | 238 => some (1, none, sp_X9_isSpeed)
  | _ => none
theorem ck_X9_setSpeed (l : Launch) : ∀ (ix n : Nat) (rc : Option Nat) (sp : ex_S), ca_X9_setSpeed ix = some (n, rc, sp) → ex_cok l RX9 1 20 ix n rc sp := by
  intro ix n rc sp h
  unfold ca_X9_setSpeed at h
  split at h
  · cases h; exact ec_cS (mt_X9_isSpeed l) cw_X9_isSpeed cv_X9_isSpeed (by decide) (by decide) (Or.inl (ec_in (i := 1066) (by decide +kernel) rfl)) (by decide +kernel)
  · cases h
def cx_X9_setSpeed : ex_K := (RX9, ec_fx fl_X9, ec_cx cl_X9, sl_X9, ca_X9_setSpeed, ec_nz, ec_no)
theorem ok_X9_setSpeed (l : Launch) : ex_ok l 1 20 cx_X9_setSpeed := ⟨ec_fok fo_X9, ec_cok co_X9, so_X9, ck_X9_setSpeed l, fun _ h => (by cases h), fun _ h => (by cases h), fun _ h => (by cases h), fun _ _ h => (by cases h)⟩
def sp_X9_setSpeed : ex_S := ex_sp cx_X9_setSpeed cX9_setSpeed 3 (some .int) 20
theorem mt_X9_setSpeed (l : Launch) : ex_Met l yX9_setSpeed cX9_setSpeed 3 (some .int) 1 20 sp_X9_setSpeed := ex_inl (by decide) rfl (ok_X9_setSpeed l)
theorem cw_X9_mass : ec_cw yX9_mass cX9_mass 3 (some .int) := ⟨ec_in (i := 1053) (by decide +kernel) rfl, ec_in (i := 58) (by decide +kernel) rfl, by decide, by decide⟩
theorem cv_X9_mass : Cond.instanceMethod yX9_mass ∈ ec_tb ∧ Cond.selects yX9_mass.cls yX9_mass yX9_mass ∈ ec_tb := ⟨ec_in (i := 1051) (by decide +kernel) rfl, ec_in (i := 1052) (by decide +kernel) rfl⟩
def ca_X9_mass : Nat → Option (Nat × Option Nat × ex_S) := fun ix => match ix with
  | 229 => some (2, some 9, sp_X9_setMass)
  | 64 => some (2, some 9, sp_X9_counted)
  | 232 => some (2, some 9, sp_X9_setSpeed)
  | _ => none
theorem ck_X9_mass (l : Launch) : ∀ (ix n : Nat) (rc : Option Nat) (sp : ex_S), ca_X9_mass ix = some (n, rc, sp) → ex_cok l RX9 2 42 ix n rc sp := by
  intro ix n rc sp h
  unfold ca_X9_mass at h
  split at h
  · cases h; exact ec_cV (mt_X9_setMass l) cw_X9_setMass cv_X9_setMass (by decide) (by decide) (Or.inl (ec_in (i := 1054) (by decide +kernel) rfl)) (T := TX9) (N := 10) rfl (by decide) (by decide +kernel)
  · cases h; exact ec_cV (mt_X9_counted l) cw_X9_counted cv_X9_counted (by decide) (by decide) (Or.inl (ec_in (i := 424) (by decide +kernel) rfl)) (T := TX9) (N := 10) rfl (by decide) (by decide +kernel)
  · cases h; exact ec_cV (mt_X9_setSpeed l) cw_X9_setSpeed cv_X9_setSpeed (by decide) (by decide) (Or.inl (ec_in (i := 1062) (by decide +kernel) rfl)) (T := TX9) (N := 10) rfl (by decide) (by decide +kernel)
  · cases h
def cx_X9_mass : ex_K := (RX9, ec_fx fl_X9, ec_cx cl_X9, sl_X9, ca_X9_mass, ec_nz, ec_no)
theorem ok_X9_mass (l : Launch) : ex_ok l 2 42 cx_X9_mass := ⟨ec_fok fo_X9, ec_cok co_X9, so_X9, ck_X9_mass l, fun _ h => (by cases h), fun _ h => (by cases h), fun _ h => (by cases h), fun _ _ h => (by cases h)⟩
def sp_X9_mass : ex_S := ex_sp cx_X9_mass cX9_mass 3 (some .int) 22
theorem mt_X9_mass (l : Launch) : ex_Met l yX9_mass cX9_mass 3 (some .int) 2 42 sp_X9_mass := ex_inl (by decide) rfl (ok_X9_mass l)
theorem cw_X9_dock : ec_cw yX9_dock cX9_dock 6 (some .int) := ⟨ec_in (i := 1072) (by decide +kernel) rfl, ec_in (i := 58) (by decide +kernel) rfl, by decide, by decide⟩
theorem cv_X9_dock : Cond.instanceMethod yX9_dock ∈ ec_tb ∧ Cond.selects yX9_dock.cls yX9_dock yX9_dock ∈ ec_tb := ⟨ec_in (i := 1070) (by decide +kernel) rfl, ec_in (i := 1071) (by decide +kernel) rfl⟩
def ca_X9_dock : Nat → Option (Nat × Option Nat × ex_S) := fun ix => match ix with
  | 235 => some (1, none, sp_X9_isMass)
  | 238 => some (1, none, sp_X9_isSpeed)
  | 64 => some (2, some 9, sp_X9_counted)
  | _ => none
theorem ck_X9_dock (l : Launch) : ∀ (ix n : Nat) (rc : Option Nat) (sp : ex_S), ca_X9_dock ix = some (n, rc, sp) → ex_cok l RX9 1 21 ix n rc sp := by
  intro ix n rc sp h
  unfold ca_X9_dock at h
  split at h
  · cases h; exact ec_cS (mt_X9_isMass l) cw_X9_isMass cv_X9_isMass (by decide) (by decide) (Or.inl (ec_in (i := 1058) (by decide +kernel) rfl)) (by decide +kernel)
  · cases h; exact ec_cS (mt_X9_isSpeed l) cw_X9_isSpeed cv_X9_isSpeed (by decide) (by decide) (Or.inl (ec_in (i := 1066) (by decide +kernel) rfl)) (by decide +kernel)
  · cases h; exact ec_cV (mt_X9_counted l) cw_X9_counted cv_X9_counted (by decide) (by decide) (Or.inl (ec_in (i := 424) (by decide +kernel) rfl)) (T := TX9) (N := 10) rfl (by decide) (by decide +kernel)
  · cases h
def cx_X9_dock : ex_K := (RX9, ec_fx fl_X9, ec_cx cl_X9, sl_X9, ca_X9_dock, ec_nz, ec_no)
theorem ok_X9_dock (l : Launch) : ex_ok l 1 21 cx_X9_dock := ⟨ec_fok fo_X9, ec_cok co_X9, so_X9, ck_X9_dock l, fun _ h => (by cases h), fun _ h => (by cases h), fun _ h => (by cases h), fun _ _ h => (by cases h)⟩
def sp_X9_dock : ex_S := ex_sp cx_X9_dock cX9_dock 6 (some .int) 50
theorem mt_X9_dock (l : Launch) : ex_Met l yX9_dock cX9_dock 6 (some .int) 1 21 sp_X9_dock := ex_inl (by decide) rfl (ok_X9_dock l)
theorem cw_X9_undock : ec_cw yX9_undock cX9_undock 2 (some .int) := ⟨ec_in (i := 1076) (by decide +kernel) rfl, ec_in (i := 58) (by decide +kernel) rfl, by decide, by decide⟩
theorem cv_X9_undock : Cond.instanceMethod yX9_undock ∈ ec_tb ∧ Cond.selects yX9_undock.cls yX9_undock yX9_undock ∈ ec_tb := ⟨ec_in (i := 1074) (by decide +kernel) rfl, ec_in (i := 1075) (by decide +kernel) rfl⟩
def ca_X9_undock : Nat → Option (Nat × Option Nat × ex_S) := fun ix => match ix with
  | 235 => some (1, none, sp_X9_isMass)
  | 64 => some (2, some 9, sp_X9_counted)
  | _ => none
theorem ck_X9_undock (l : Launch) : ∀ (ix n : Nat) (rc : Option Nat) (sp : ex_S), ca_X9_undock ix = some (n, rc, sp) → ex_cok l RX9 1 21 ix n rc sp := by
  intro ix n rc sp h
  unfold ca_X9_undock at h
  split at h
  · cases h; exact ec_cS (mt_X9_isMass l) cw_X9_isMass cv_X9_isMass (by decide) (by decide) (Or.inl (ec_in (i := 1058) (by decide +kernel) rfl)) (by decide +kernel)
  · cases h; exact ec_cV (mt_X9_counted l) cw_X9_counted cv_X9_counted (by decide) (by decide) (Or.inl (ec_in (i := 424) (by decide +kernel) rfl)) (T := TX9) (N := 10) rfl (by decide) (by decide +kernel)
  · cases h
def cx_X9_undock : ex_K := (RX9, ec_fx fl_X9, ec_cx cl_X9, sl_X9, ca_X9_undock, ec_nz, ec_no)
theorem ok_X9_undock (l : Launch) : ex_ok l 1 21 cx_X9_undock := ⟨ec_fok fo_X9, ec_cok co_X9, so_X9, ck_X9_undock l, fun _ h => (by cases h), fun _ h => (by cases h), fun _ h => (by cases h), fun _ _ h => (by cases h)⟩
def sp_X9_undock : ex_S := ex_sp cx_X9_undock cX9_undock 2 (some .int) 27
theorem mt_X9_undock (l : Launch) : ex_Met l yX9_undock cX9_undock 2 (some .int) 1 21 sp_X9_undock := ex_inl (by decide) rfl (ok_X9_undock l)
theorem cw_X9_tell : ec_cw yX9_tell cX9_tell 2 (some .int) := ⟨ec_in (i := 1080) (by decide +kernel) rfl, ec_in (i := 58) (by decide +kernel) rfl, by decide, by decide⟩
theorem cv_X9_tell : Cond.instanceMethod yX9_tell ∈ ec_tb ∧ Cond.selects yX9_tell.cls yX9_tell yX9_tell ∈ ec_tb := ⟨ec_in (i := 1078) (by decide +kernel) rfl, ec_in (i := 1079) (by decide +kernel) rfl⟩
def ca_X9_tell : Nat → Option (Nat × Option Nat × ex_S) := fun ix => match ix with
  | 64 => some (2, some 9, sp_X9_counted)
  | _ => none
theorem ck_X9_tell (l : Launch) : ∀ (ix n : Nat) (rc : Option Nat) (sp : ex_S), ca_X9_tell ix = some (n, rc, sp) → ex_cok l RX9 1 21 ix n rc sp := by
  intro ix n rc sp h
  unfold ca_X9_tell at h
  split at h
  · cases h; exact ec_cV (mt_X9_counted l) cw_X9_counted cv_X9_counted (by decide) (by decide) (Or.inl (ec_in (i := 424) (by decide +kernel) rfl)) (T := TX9) (N := 10) rfl (by decide) (by decide +kernel)
  · cases h
def cx_X9_tell : ex_K := (RX9, ec_fx fl_X9, ec_cx cl_X9, sl_X9, ca_X9_tell, ec_nz, ec_no)
theorem ok_X9_tell (l : Launch) : ex_ok l 1 21 cx_X9_tell := ⟨ec_fok fo_X9, ec_cok co_X9, so_X9, ck_X9_tell l, fun _ h => (by cases h), fun _ h => (by cases h), fun _ h => (by cases h), fun _ _ h => (by cases h)⟩
def sp_X9_tell : ex_S := ex_sp cx_X9_tell cX9_tell 2 (some .int) 24
theorem mt_X9_tell (l : Launch) : ex_Met l yX9_tell cX9_tell 2 (some .int) 1 21 sp_X9_tell := ex_inl (by decide) rfl (ok_X9_tell l)
theorem cw_X9_check : ec_cw yX9_check cX9_check 5 (some .int) := ⟨ec_in (i := 1084) (by decide +kernel) rfl, ec_in (i := 58) (by decide +kernel) rfl, by decide, by decide⟩
theorem cv_X9_check : Cond.instanceMethod yX9_check ∈ ec_tb ∧ Cond.selects yX9_check.cls yX9_check yX9_check ∈ ec_tb := ⟨ec_in (i := 1082) (by decide +kernel) rfl, ec_in (i := 1083) (by decide +kernel) rfl⟩
def ca_X9_check : Nat → Option (Nat × Option Nat × ex_S) := fun ix => match ix with
  | 88 => some (2, some 0, sp_X0_hasModule)
  | 248 => some (1, none, sp_X0_isSort)
  | 64 => some (2, some 9, sp_X9_counted)
  | 163 => some (2, some 8, sp_X8_becomeLike)
  | 156 => some (1, some 8, sp_X8_passTick)
  | 251 => some (3, some 0, sp_X0_amount)
  | _ => none
theorem ck_X9_check (l : Launch) : ∀ (ix n : Nat) (rc : Option Nat) (sp : ex_S), ca_X9_check ix = some (n, rc, sp) → ex_cok l RX9 6 134 ix n rc sp := by
  intro ix n rc sp h
  unfold ca_X9_check at h
  split at h
  · cases h; exact ec_cV (mt_X0_hasModule l) cw_X0_hasModule cv_X0_hasModule (by decide) (by decide) (Or.inl (ec_in (i := 502) (by decide +kernel) rfl)) (T := TX0) (N := 8) rfl (by decide) (by decide +kernel)
  · cases h; exact ec_cS (mt_X0_isSort l) cw_X0_isSort cv_X0_isSort (by decide) (by decide) (Or.inl (ec_in (i := 1085) (by decide +kernel) rfl)) (by decide +kernel)
  · cases h; exact ec_cV (mt_X9_counted l) cw_X9_counted cv_X9_counted (by decide) (by decide) (Or.inl (ec_in (i := 424) (by decide +kernel) rfl)) (T := TX9) (N := 10) rfl (by decide) (by decide +kernel)
  · cases h; exact ec_cV (mt_X8_becomeLike l) cw_X8_becomeLike cv_X8_becomeLike (by decide) (by decide) (Or.inl (ec_in (i := 864) (by decide +kernel) rfl)) (T := TX8) (N := 7) rfl (by decide) (by decide +kernel)
  · cases h; exact ec_cV (mt_X8_passTick l) cw_X8_passTick cv_X8_passTick (by decide) (by decide) (Or.inl (ec_in (i := 698) (by decide +kernel) rfl)) (T := TX8) (N := 7) rfl (by decide) (by decide +kernel)
  · cases h; exact ec_cV (mt_X0_amount l) cw_X0_amount cv_X0_amount (by decide) (by decide) (Or.inl (ec_in (i := 1086) (by decide +kernel) rfl)) (T := TX0) (N := 8) rfl (by decide) (by decide +kernel)
  · cases h
def cx_X9_check : ex_K := (RX9, ec_fx fl_X9, ec_cx cl_X9, sl_X9, ca_X9_check, ec_nz, ec_no)
theorem ok_X9_check (l : Launch) : ex_ok l 6 134 cx_X9_check := ⟨ec_fok fo_X9, ec_cok co_X9, so_X9, ck_X9_check l, fun _ h => (by cases h), fun _ h => (by cases h), fun _ h => (by cases h), fun _ _ h => (by cases h)⟩
def sp_X9_check : ex_S := ex_sp cx_X9_check cX9_check 5 (some .int) 400
theorem mt_X9_check (l : Launch) : ex_Met l yX9_check cX9_check 5 (some .int) 6 134 sp_X9_check := ex_inl (by decide) rfl (ok_X9_check l)
theorem cw_X9_count : ec_cw yX9_count cX9_count 2 (some .int) := ⟨ec_in (i := 1090) (by decide +kernel) rfl, ec_in (i := 58) (by decide +kernel) rfl, by decide, by decide⟩
theorem cv_X9_count : Cond.instanceMethod yX9_count ∈ ec_tb ∧ Cond.selects yX9_count.cls yX9_count yX9_count ∈ ec_tb := ⟨ec_in (i := 1088) (by decide +kernel) rfl, ec_in (i := 1089) (by decide +kernel) rfl⟩
def ca_X9_count : Nat → Option (Nat × Option Nat × ex_S) := fun ix => match ix with
  | 272 => some (1, some 3, sp_X3_menders)
  | 64 => some (2, some 9, sp_X9_counted)
  | _ => none
theorem ck_X9_count (l : Launch) : ∀ (ix n : Nat) (rc : Option Nat) (sp : ex_S), ca_X9_count ix = some (n, rc, sp) → ex_cok l RX9 2 43 ix n rc sp := by
  intro ix n rc sp h
  unfold ca_X9_count at h
  split at h
  · cases h; exact ec_cV (mt_X3_menders l) cw_X3_menders cv_X3_menders (by decide) (by decide) (Or.inl (ec_in (i := 1091) (by decide +kernel) rfl)) (T := TX3) (N := 7) rfl (by decide) (by decide +kernel)
  · cases h; exact ec_cV (mt_X9_counted l) cw_X9_counted cv_X9_counted (by decide) (by decide) (Or.inl (ec_in (i := 424) (by decide +kernel) rfl)) (T := TX9) (N := 10) rfl (by decide) (by decide +kernel)
  · cases h
def cx_X9_count : ex_K := (RX9, ec_fx fl_X9, ec_cx cl_X9, sl_X9, ca_X9_count, ec_nz, ec_no)
theorem ok_X9_count (l : Launch) : ex_ok l 2 43 cx_X9_count := ⟨ec_fok fo_X9, ec_cok co_X9, so_X9, ck_X9_count l, fun _ h => (by cases h), fun _ h => (by cases h), fun _ h => (by cases h), fun _ _ h => (by cases h)⟩
def sp_X9_count : ex_S := ex_sp cx_X9_count cX9_count 2 (some .int) 51
theorem mt_X9_count (l : Launch) : ex_Met l yX9_count cX9_count 2 (some .int) 2 43 sp_X9_count := ex_inl (by decide) rfl (ok_X9_count l)
theorem cw_X9_found : ec_cw yX9_found cX9_found 2 (some .int) := ⟨ec_in (i := 1098) (by decide +kernel) rfl, ec_in (i := 58) (by decide +kernel) rfl, by decide, by decide⟩
theorem cv_X9_found : Cond.instanceMethod yX9_found ∈ ec_tb ∧ Cond.selects yX9_found.cls yX9_found yX9_found ∈ ec_tb := ⟨ec_in (i := 1096) (by decide +kernel) rfl, ec_in (i := 1097) (by decide +kernel) rfl⟩
def ca_X9_found : Nat → Option (Nat × Option Nat × ex_S) := fun ix => match ix with
  | 64 => some (2, some 9, sp_X9_counted)
  | _ => none
theorem ck_X9_found (l : Launch) : ∀ (ix n : Nat) (rc : Option Nat) (sp : ex_S), ca_X9_found ix = some (n, rc, sp) → ex_cok l RX9 1 21 ix n rc sp := by
  intro ix n rc sp h
  unfold ca_X9_found at h
  split at h
  · cases h; exact ec_cV (mt_X9_counted l) cw_X9_counted cv_X9_counted (by decide) (by decide) (Or.inl (ec_in (i := 424) (by decide +kernel) rfl)) (T := TX9) (N := 10) rfl (by decide) (by decide +kernel)
  · cases h
def cx_X9_found : ex_K := (RX9, ec_fx fl_X9, ec_cx cl_X9, sl_X9, ca_X9_found, ec_nz, ec_no)
theorem ok_X9_found (l : Launch) : ex_ok l 1 21 cx_X9_found := ⟨ec_fok fo_X9, ec_cok co_X9, so_X9, ck_X9_found l, fun _ h => (by cases h), fun _ h => (by cases h), fun _ h => (by cases h), fun _ _ h => (by cases h)⟩
def sp_X9_found : ex_S := ex_sp cx_X9_found cX9_found 2 (some .int) 16
theorem mt_X9_found (l : Launch) : ex_Met l yX9_found cX9_found 2 (some .int) 1 21 sp_X9_found := ex_inl (by decide) rfl (ok_X9_found l)
end
section
theorem cw_X10_finding : ec_cw yX10_finding cX10_finding 2 (some .int) := ⟨ec_in (i := 1285) (by decide +kernel) rfl, ec_in (i := 68) (by decide +kernel) rfl, by decide, by decide⟩
theorem cv_X10_finding : Cond.instanceMethod yX10_finding ∈ ec_tb ∧ Cond.selects yX10_finding.cls yX10_finding yX10_finding ∈ ec_tb := ⟨ec_in (i := 1284) (by decide +kernel) rfl, ec_in (i := 26) (by decide +kernel) rfl⟩
def cx_X10_finding : ex_K := (RX10, ec_fx fl_X10, ec_cx cl_X10, sl_X10, ec_no, ec_nz, ec_no)
theorem ok_X10_finding (l : Launch) : ex_ok l 0 0 cx_X10_finding := ⟨ec_fok fo_X10, ec_cok co_X10, so_X10, fun _ _ _ _ h => (by cases h), fun _ h => (by cases h), fun _ h => (by cases h), fun _ h => (by cases h), fun _ _ h => (by cases h)⟩
def sp_X10_finding : ex_S := ex_sp cx_X10_finding cX10_finding 2 (some .int) 13
theorem mt_X10_finding (l : Launch) : ex_Met l yX10_finding cX10_finding 2 (some .int) 0 0 sp_X10_finding := ex_inl (by decide) rfl (ok_X10_finding l)
theorem cw_X10_isIn : ec_cw yX10_isIn cX10_isIn 3 (some .boolean) := ⟨ec_in (i := 1305) (by decide +kernel) rfl, ec_in (i := 68) (by decide +kernel) rfl, by decide, by decide⟩
theorem cv_X10_isIn : Cond.static yX10_isIn ∈ ec_tb := ec_in (i := 1304) (by decide +kernel) rfl
def cx_X10_isIn : ex_K := (RX10, ec_fx fl_X10, ec_cx cl_X10, sl_X10, ec_no, ec_nz, ec_no)
theorem ok_X10_isIn (l : Launch) : ex_ok l 0 0 cx_X10_isIn := ⟨ec_fok fo_X10, ec_cok co_X10, so_X10, fun _ _ _ _ h => (by cases h), fun _ h => (by cases h), fun _ h => (by cases h), fun _ h => (by cases h), fun _ _ h => (by cases h)⟩
def sp_X10_isIn : ex_S := ex_sp cx_X10_isIn cX10_isIn 3 (some .boolean) 11
theorem mt_X10_isIn (l : Launch) : ex_Met l yX10_isIn cX10_isIn 3 (some .boolean) 0 0 sp_X10_isIn := ex_inl (by decide) rfl (ok_X10_isIn l)
theorem cw_X10_isModule : ec_cw yX10_isModule cX10_isModule 2 (some .boolean) := ⟨ec_in (i := 1294) (by decide +kernel) rfl, ec_in (i := 68) (by decide +kernel) rfl, by decide, by decide⟩
theorem cv_X10_isModule : Cond.instanceMethod yX10_isModule ∈ ec_tb ∧ Cond.selects yX10_isModule.cls yX10_isModule yX10_isModule ∈ ec_tb := ⟨ec_in (i := 1293) (by decide +kernel) rfl, ec_in (i := 27) (by decide +kernel) rfl⟩
def cx_X10_isModule : ex_K := (RX10, ec_fx fl_X10, ec_cx cl_X10, sl_X10, ec_no, ec_nz, ec_no)
theorem ok_X10_isModule (l : Launch) : ex_ok l 0 0 cx_X10_isModule := ⟨ec_fok fo_X10, ec_cok co_X10, so_X10, fun _ _ _ _ h => (by cases h), fun _ h => (by cases h), fun _ h => (by cases h), fun _ h => (by cases h), fun _ _ h => (by cases h)⟩
def sp_X10_isModule : ex_S := ex_sp cx_X10_isModule cX10_isModule 2 (some .boolean) 11
theorem mt_X10_isModule (l : Launch) : ex_Met l yX10_isModule cX10_isModule 2 (some .boolean) 0 0 sp_X10_isModule := ex_inl (by decide) rfl (ok_X10_isModule l)
theorem cw_X10_isHatch : ec_cw yX10_isHatch cX10_isHatch 2 (some .boolean) := ⟨ec_in (i := 1302) (by decide +kernel) rfl, ec_in (i := 68) (by decide +kernel) rfl, by decide, by decide⟩
theorem cv_X10_isHatch : Cond.instanceMethod yX10_isHatch ∈ ec_tb ∧ Cond.selects yX10_isHatch.cls yX10_isHatch yX10_isHatch ∈ ec_tb := ⟨ec_in (i := 1301) (by decide +kernel) rfl, ec_in (i := 28) (by decide +kernel) rfl⟩
def cx_X10_isHatch : ex_K := (RX10, ec_fx fl_X10, ec_cx cl_X10, sl_X10, ec_no, ec_nz, ec_no)
theorem ok_X10_isHatch (l : Launch) : ex_ok l 0 0 cx_X10_isHatch := ⟨ec_fok fo_X10, ec_cok co_X10, so_X10, fun _ _ _ _ h => (by cases h), fun _ h => (by cases h), fun _ h => (by cases h), fun _ h => (by cases h), fun _ _ h => (by cases h)⟩
def sp_X10_isHatch : ex_S := ex_sp cx_X10_isHatch cX10_isHatch 2 (some .boolean) 11
theorem mt_X10_isHatch (l : Launch) : ex_Met l yX10_isHatch cX10_isHatch 2 (some .boolean) 0 0 sp_X10_isHatch := ex_inl (by decide) rfl (ok_X10_isHatch l)
theorem cw_X10_isPerson : ec_cw yX10_isPerson cX10_isPerson 2 (some .boolean) := ⟨ec_in (i := 1335) (by decide +kernel) rfl, ec_in (i := 68) (by decide +kernel) rfl, by decide, by decide⟩
theorem cv_X10_isPerson : Cond.instanceMethod yX10_isPerson ∈ ec_tb ∧ Cond.selects yX10_isPerson.cls yX10_isPerson yX10_isPerson ∈ ec_tb := ⟨ec_in (i := 1334) (by decide +kernel) rfl, ec_in (i := 29) (by decide +kernel) rfl⟩
def cx_X10_isPerson : ex_K := (RX10, ec_fx fl_X10, ec_cx cl_X10, sl_X10, ec_no, ec_nz, ec_no)
theorem ok_X10_isPerson (l : Launch) : ex_ok l 0 0 cx_X10_isPerson := ⟨ec_fok fo_X10, ec_cok co_X10, so_X10, fun _ _ _ _ h => (by cases h), fun _ h => (by cases h), fun _ h => (by cases h), fun _ h => (by cases h), fun _ _ h => (by cases h)⟩
def sp_X10_isPerson : ex_S := ex_sp cx_X10_isPerson cX10_isPerson 2 (some .boolean) 11
theorem mt_X10_isPerson (l : Launch) : ex_Met l yX10_isPerson cX10_isPerson 2 (some .boolean) 0 0 sp_X10_isPerson := ex_inl (by decide) rfl (ok_X10_isPerson l)
theorem cw_X10_isMachine : ec_cw yX10_isMachine cX10_isMachine 2 (some .boolean) := ⟨ec_in (i := 1359) (by decide +kernel) rfl, ec_in (i := 68) (by decide +kernel) rfl, by decide, by decide⟩
theorem cv_X10_isMachine : Cond.instanceMethod yX10_isMachine ∈ ec_tb ∧ Cond.selects yX10_isMachine.cls yX10_isMachine yX10_isMachine ∈ ec_tb := ⟨ec_in (i := 1358) (by decide +kernel) rfl, ec_in (i := 31) (by decide +kernel) rfl⟩
def cx_X10_isMachine : ex_K := (RX10, ec_fx fl_X10, ec_cx cl_X10, sl_X10, ec_no, ec_nz, ec_no)
theorem ok_X10_isMachine (l : Launch) : ex_ok l 0 0 cx_X10_isMachine := ⟨ec_fok fo_X10, ec_cok co_X10, so_X10, fun _ _ _ _ h => (by cases h), fun _ h => (by cases h), fun _ h => (by cases h), fun _ h => (by cases h), fun _ _ h => (by cases h)⟩
def sp_X10_isMachine : ex_S := ex_sp cx_X10_isMachine cX10_isMachine 2 (some .boolean) 11
theorem mt_X10_isMachine (l : Launch) : ex_Met l yX10_isMachine cX10_isMachine 2 (some .boolean) 0 0 sp_X10_isMachine := ex_inl (by decide) rfl (ok_X10_isMachine l)
theorem cw_X10_module : ec_cw yX10_module cX10_module 1 (some .int) := ⟨ec_in (i := 1281) (by decide +kernel) rfl, ec_in (i := 68) (by decide +kernel) rfl, by decide, by decide⟩
theorem cv_X10_module : Cond.instanceMethod yX10_module ∈ ec_tb ∧ Cond.selects yX10_module.cls yX10_module yX10_module ∈ ec_tb := ⟨ec_in (i := 1279) (by decide +kernel) rfl, ec_in (i := 1280) (by decide +kernel) rfl⟩
def ca_X10_module : Nat → Option (Nat × Option Nat × ex_S) := fun ix => match ix with
  | 160 => some (2, some 10, sp_X10_finding)
  | _ => none
theorem ck_X10_module (l : Launch) : ∀ (ix n : Nat) (rc : Option Nat) (sp : ex_S), ca_X10_module ix = some (n, rc, sp) → ex_cok l RX10 1 21 ix n rc sp := by
  intro ix n rc sp h
  unfold ca_X10_module at h
  split at h
  · cases h; exact ec_cV (mt_X10_finding l) cw_X10_finding cv_X10_finding (by decide) (by decide) (Or.inl (ec_in (i := 1282) (by decide +kernel) rfl)) (T := TX10) (N := 57) rfl (by decide) (by decide +kernel)
  · cases h
def cx_X10_module : ex_K := (RX10, ec_fx fl_X10, ec_cx cl_X10, sl_X10, ca_X10_module, ec_nz, ec_no)
theorem ok_X10_module (l : Launch) : ex_ok l 1 21 cx_X10_module := ⟨ec_fok fo_X10, ec_cok co_X10, so_X10, ck_X10_module l, fun _ h => (by cases h), fun _ h => (by cases h), fun _ h => (by cases h), fun _ _ h => (by cases h)⟩
def sp_X10_module : ex_S := ex_sp cx_X10_module cX10_module 1 (some .int) 20
theorem mt_X10_module (l : Launch) : ex_Met l yX10_module cX10_module 1 (some .int) 1 21 sp_X10_module := ex_inl (by decide) rfl (ok_X10_module l)
theorem cw_X10_hatch : ec_cw yX10_hatch cX10_hatch 3 (some .int) := ⟨ec_in (i := 1290) (by decide +kernel) rfl, ec_in (i := 68) (by decide +kernel) rfl, by decide, by decide⟩
theorem cv_X10_hatch : Cond.instanceMethod yX10_hatch ∈ ec_tb ∧ Cond.selects yX10_hatch.cls yX10_hatch yX10_hatch ∈ ec_tb := ⟨ec_in (i := 1288) (by decide +kernel) rfl, ec_in (i := 1289) (by decide +kernel) rfl⟩
def ca_X10_hatch : Nat → Option (Nat × Option Nat × ex_S) := fun ix => match ix with
  | 164 => some (2, some 10, sp_X10_isModule)
  | 160 => some (2, some 10, sp_X10_finding)
  | _ => none
theorem ck_X10_hatch (l : Launch) : ∀ (ix n : Nat) (rc : Option Nat) (sp : ex_S), ca_X10_hatch ix = some (n, rc, sp) → ex_cok l RX10 1 21 ix n rc sp := by
  intro ix n rc sp h
  unfold ca_X10_hatch at h
  split at h
  · cases h; exact ec_cV (mt_X10_isModule l) cw_X10_isModule cv_X10_isModule (by decide) (by decide) (Or.inl (ec_in (i := 1291) (by decide +kernel) rfl)) (T := TX10) (N := 57) rfl (by decide) (by decide +kernel)
  · cases h; exact ec_cV (mt_X10_finding l) cw_X10_finding cv_X10_finding (by decide) (by decide) (Or.inl (ec_in (i := 1282) (by decide +kernel) rfl)) (T := TX10) (N := 57) rfl (by decide) (by decide +kernel)
  · cases h
def cx_X10_hatch : ex_K := (RX10, ec_fx fl_X10, ec_cx cl_X10, sl_X10, ca_X10_hatch, ec_nz, ec_no)
theorem ok_X10_hatch (l : Launch) : ex_ok l 1 21 cx_X10_hatch := ⟨ec_fok fo_X10, ec_cok co_X10, so_X10, ck_X10_hatch l, fun _ h => (by cases h), fun _ h => (by cases h), fun _ h => (by cases h), fun _ _ h => (by cases h)⟩
def sp_X10_hatch : ex_S := ex_sp cx_X10_hatch cX10_hatch 3 (some .int) 53
theorem mt_X10_hatch (l : Launch) : ex_Met l yX10_hatch cX10_hatch 3 (some .int) 1 21 sp_X10_hatch := ex_inl (by decide) rfl (ok_X10_hatch l)
theorem cw_X10_shut : ec_cw yX10_shut cX10_shut 4 (some .int) := ⟨ec_in (i := 1298) (by decide +kernel) rfl, ec_in (i := 68) (by decide +kernel) rfl, by decide, by decide⟩
theorem cv_X10_shut : Cond.instanceMethod yX10_shut ∈ ec_tb ∧ Cond.selects yX10_shut.cls yX10_shut yX10_shut ∈ ec_tb := ⟨ec_in (i := 1296) (by decide +kernel) rfl, ec_in (i := 1297) (by decide +kernel) rfl⟩
def ca_X10_shut : Nat → Option (Nat × Option Nat × ex_S) := fun ix => match ix with
  | 168 => some (2, some 10, sp_X10_isHatch)
  | 171 => some (3, none, sp_X10_isIn)
  | 160 => some (2, some 10, sp_X10_finding)
  | _ => none
theorem ck_X10_shut (l : Launch) : ∀ (ix n : Nat) (rc : Option Nat) (sp : ex_S), ca_X10_shut ix = some (n, rc, sp) → ex_cok l RX10 1 22 ix n rc sp := by
  intro ix n rc sp h
  unfold ca_X10_shut at h
  split at h
  · cases h; exact ec_cV (mt_X10_isHatch l) cw_X10_isHatch cv_X10_isHatch (by decide) (by decide) (Or.inl (ec_in (i := 1299) (by decide +kernel) rfl)) (T := TX10) (N := 57) rfl (by decide) (by decide +kernel)
  · cases h; exact ec_cS (mt_X10_isIn l) cw_X10_isIn cv_X10_isIn (by decide) (by decide) (Or.inl (ec_in (i := 1303) (by decide +kernel) rfl)) (by decide +kernel)
  · cases h; exact ec_cV (mt_X10_finding l) cw_X10_finding cv_X10_finding (by decide) (by decide) (Or.inl (ec_in (i := 1282) (by decide +kernel) rfl)) (T := TX10) (N := 57) rfl (by decide) (by decide +kernel)
  · cases h
def cx_X10_shut : ex_K := (RX10, ec_fx fl_X10, ec_cx cl_X10, sl_X10, ca_X10_shut, ec_nz, ec_no)
theorem ok_X10_shut (l : Launch) : ex_ok l 1 22 cx_X10_shut := ⟨ec_fok fo_X10, ec_cok co_X10, so_X10, ck_X10_shut l, fun _ h => (by cases h), fun _ h => (by cases h), fun _ h => (by cases h), fun _ _ h => (by cases h)⟩
def sp_X10_shut : ex_S := ex_sp cx_X10_shut cX10_shut 4 (some .int) 26
theorem mt_X10_shut (l : Launch) : ex_Met l yX10_shut cX10_shut 4 (some .int) 1 22 sp_X10_shut := ex_inl (by decide) rfl (ok_X10_shut l)
theorem cw_X10_gas : ec_cw yX10_gas cX10_gas 5 (some .int) := ⟨ec_in (i := 1309) (by decide +kernel) rfl, ec_in (i := 68) (by decide +kernel) rfl, by decide, by decide⟩
theorem cv_X10_gas : Cond.instanceMethod yX10_gas ∈ ec_tb ∧ Cond.selects yX10_gas.cls yX10_gas yX10_gas ∈ ec_tb := ⟨ec_in (i := 1307) (by decide +kernel) rfl, ec_in (i := 1308) (by decide +kernel) rfl⟩
def ca_X10_gas : Nat → Option (Nat × Option Nat × ex_S) := fun ix => match ix with
  | 164 => some (2, some 10, sp_X10_isModule)
  | 171 => some (3, none, sp_X10_isIn)
  | 160 => some (2, some 10, sp_X10_finding)
  | _ => none
theorem ck_X10_gas (l : Launch) : ∀ (ix n : Nat) (rc : Option Nat) (sp : ex_S), ca_X10_gas ix = some (n, rc, sp) → ex_cok l RX10 1 22 ix n rc sp := by
  intro ix n rc sp h
  unfold ca_X10_gas at h
  split at h
  · cases h; exact ec_cV (mt_X10_isModule l) cw_X10_isModule cv_X10_isModule (by decide) (by decide) (Or.inl (ec_in (i := 1291) (by decide +kernel) rfl)) (T := TX10) (N := 57) rfl (by decide) (by decide +kernel)
  · cases h; exact ec_cS (mt_X10_isIn l) cw_X10_isIn cv_X10_isIn (by decide) (by decide) (Or.inl (ec_in (i := 1303) (by decide +kernel) rfl)) (by decide +kernel)
  · cases h; exact ec_cV (mt_X10_finding l) cw_X10_finding cv_X10_finding (by decide) (by decide) (Or.inl (ec_in (i := 1282) (by decide +kernel) rfl)) (T := TX10) (N := 57) rfl (by decide) (by decide +kernel)
  · cases h
def cx_X10_gas : ex_K := (RX10, ec_fx fl_X10, ec_cx cl_X10, sl_X10, ca_X10_gas, ec_nz, ec_no)
theorem ok_X10_gas (l : Launch) : ex_ok l 1 22 cx_X10_gas := ⟨ec_fok fo_X10, ec_cok co_X10, so_X10, ck_X10_gas l, fun _ h => (by cases h), fun _ h => (by cases h), fun _ h => (by cases h), fun _ _ h => (by cases h)⟩
def sp_X10_gas : ex_S := ex_sp cx_X10_gas cX10_gas 5 (some .int) 62
theorem mt_X10_gas (l : Launch) : ex_Met l yX10_gas cX10_gas 5 (some .int) 1 22 sp_X10_gas := ex_inl (by decide) rfl (ok_X10_gas l)
theorem cw_X10_leak : ec_cw yX10_leak cX10_leak 4 (some .int) := ⟨ec_in (i := 1314) (by decide +kernel) rfl, ec_in (i := 68) (by decide +kernel) rfl, by decide, by decide⟩
theorem cv_X10_leak : Cond.instanceMethod yX10_leak ∈ ec_tb ∧ Cond.selects yX10_leak.cls yX10_leak yX10_leak ∈ ec_tb := ⟨ec_in (i := 1312) (by decide +kernel) rfl, ec_in (i := 1313) (by decide +kernel) rfl⟩
def ca_X10_leak : Nat → Option (Nat × Option Nat × ex_S) := fun ix => match ix with
  | 164 => some (2, some 10, sp_X10_isModule)
  | 171 => some (3, none, sp_X10_isIn)
  | 160 => some (2, some 10, sp_X10_finding)
  | _ => none
theorem ck_X10_leak (l : Launch) : ∀ (ix n : Nat) (rc : Option Nat) (sp : ex_S), ca_X10_leak ix = some (n, rc, sp) → ex_cok l RX10 1 22 ix n rc sp := by
  intro ix n rc sp h
  unfold ca_X10_leak at h
  split at h
  · cases h; exact ec_cV (mt_X10_isModule l) cw_X10_isModule cv_X10_isModule (by decide) (by decide) (Or.inl (ec_in (i := 1291) (by decide +kernel) rfl)) (T := TX10) (N := 57) rfl (by decide) (by decide +kernel)
  · cases h; exact ec_cS (mt_X10_isIn l) cw_X10_isIn cv_X10_isIn (by decide) (by decide) (Or.inl (ec_in (i := 1303) (by decide +kernel) rfl)) (by decide +kernel)
  · cases h; exact ec_cV (mt_X10_finding l) cw_X10_finding cv_X10_finding (by decide) (by decide) (Or.inl (ec_in (i := 1282) (by decide +kernel) rfl)) (T := TX10) (N := 57) rfl (by decide) (by decide +kernel)
  · cases h
def cx_X10_leak : ex_K := (RX10, ec_fx fl_X10, ec_cx cl_X10, sl_X10, ca_X10_leak, ec_nz, ec_no)
theorem ok_X10_leak (l : Launch) : ex_ok l 1 22 cx_X10_leak := ⟨ec_fok fo_X10, ec_cok co_X10, so_X10, ck_X10_leak l, fun _ h => (by cases h), fun _ h => (by cases h), fun _ h => (by cases h), fun _ _ h => (by cases h)⟩
def sp_X10_leak : ex_S := ex_sp cx_X10_leak cX10_leak 4 (some .int) 26
theorem mt_X10_leak (l : Launch) : ex_Met l yX10_leak cX10_leak 4 (some .int) 1 22 sp_X10_leak := ex_inl (by decide) rfl (ok_X10_leak l)
theorem cw_X10_tank : ec_cw yX10_tank cX10_tank 4 (some .int) := ⟨ec_in (i := 1318) (by decide +kernel) rfl, ec_in (i := 68) (by decide +kernel) rfl, by decide, by decide⟩
theorem cv_X10_tank : Cond.instanceMethod yX10_tank ∈ ec_tb ∧ Cond.selects yX10_tank.cls yX10_tank yX10_tank ∈ ec_tb := ⟨ec_in (i := 1316) (by decide +kernel) rfl, ec_in (i := 1317) (by decide +kernel) rfl⟩
def ca_X10_tank : Nat → Option (Nat × Option Nat × ex_S) := fun ix => match ix with
  | 171 => some (3, none, sp_X10_isIn)
  | 160 => some (2, some 10, sp_X10_finding)
  | _ => none
theorem ck_X10_tank (l : Launch) : ∀ (ix n : Nat) (rc : Option Nat) (sp : ex_S), ca_X10_tank ix = some (n, rc, sp) → ex_cok l RX10 1 22 ix n rc sp := by
  intro ix n rc sp h
  unfold ca_X10_tank at h
  split at h
  · cases h; exact ec_cS (mt_X10_isIn l) cw_X10_isIn cv_X10_isIn (by decide) (by decide) (Or.inl (ec_in (i := 1303) (by decide +kernel) rfl)) (by decide +kernel)
  · cases h; exact ec_cV (mt_X10_finding l) cw_X10_finding cv_X10_finding (by decide) (by decide) (Or.inl (ec_in (i := 1282) (by decide +kernel) rfl)) (T := TX10) (N := 57) rfl (by decide) (by decide +kernel)
  · cases h
def cx_X10_tank : ex_K := (RX10, ec_fx fl_X10, ec_cx cl_X10, sl_X10, ca_X10_tank, ec_nz, ec_no)
theorem ok_X10_tank (l : Launch) : ex_ok l 1 22 cx_X10_tank := ⟨ec_fok fo_X10, ec_cok co_X10, so_X10, ck_X10_tank l, fun _ h => (by cases h), fun _ h => (by cases h), fun _ h => (by cases h), fun _ _ h => (by cases h)⟩
def sp_X10_tank : ex_S := ex_sp cx_X10_tank cX10_tank 4 (some .int) 31
theorem mt_X10_tank (l : Launch) : ex_Met l yX10_tank cX10_tank 4 (some .int) 1 22 sp_X10_tank := ex_inl (by decide) rfl (ok_X10_tank l)
theorem cw_X10_grams : ec_cw yX10_grams cX10_grams 3 (some .int) := ⟨ec_in (i := 1323) (by decide +kernel) rfl, ec_in (i := 68) (by decide +kernel) rfl, by decide, by decide⟩
theorem cv_X10_grams : Cond.instanceMethod yX10_grams ∈ ec_tb ∧ Cond.selects yX10_grams.cls yX10_grams yX10_grams ∈ ec_tb := ⟨ec_in (i := 1321) (by decide +kernel) rfl, ec_in (i := 1322) (by decide +kernel) rfl⟩
def cx_X10_grams : ex_K := (RX10, ec_fx fl_X10, ec_cx cl_X10, sl_X10, ec_no, ec_nz, ec_no)
theorem ok_X10_grams (l : Launch) : ex_ok l 0 0 cx_X10_grams := ⟨ec_fok fo_X10, ec_cok co_X10, so_X10, fun _ _ _ _ h => (by cases h), fun _ h => (by cases h), fun _ h => (by cases h), fun _ h => (by cases h), fun _ _ h => (by cases h)⟩
def sp_X10_grams : ex_S := ex_sp cx_X10_grams cX10_grams 3 (some .int) 400
theorem mt_X10_grams (l : Launch) : ex_Met l yX10_grams cX10_grams 3 (some .int) 0 0 sp_X10_grams := ex_inl (by decide) rfl (ok_X10_grams l)
theorem cw_X10_person : ec_cw yX10_person cX10_person 2 (some .int) := ⟨ec_in (i := 1327) (by decide +kernel) rfl, ec_in (i := 68) (by decide +kernel) rfl, by decide, by decide⟩
theorem cv_X10_person : Cond.instanceMethod yX10_person ∈ ec_tb ∧ Cond.selects yX10_person.cls yX10_person yX10_person ∈ ec_tb := ⟨ec_in (i := 1325) (by decide +kernel) rfl, ec_in (i := 1326) (by decide +kernel) rfl⟩
def ca_X10_person : Nat → Option (Nat × Option Nat × ex_S) := fun ix => match ix with
  | 164 => some (2, some 10, sp_X10_isModule)
  | 160 => some (2, some 10, sp_X10_finding)
  | _ => none
theorem ck_X10_person (l : Launch) : ∀ (ix n : Nat) (rc : Option Nat) (sp : ex_S), ca_X10_person ix = some (n, rc, sp) → ex_cok l RX10 1 21 ix n rc sp := by
  intro ix n rc sp h
  unfold ca_X10_person at h
  split at h
  · cases h; exact ec_cV (mt_X10_isModule l) cw_X10_isModule cv_X10_isModule (by decide) (by decide) (Or.inl (ec_in (i := 1291) (by decide +kernel) rfl)) (T := TX10) (N := 57) rfl (by decide) (by decide +kernel)
  · cases h; exact ec_cV (mt_X10_finding l) cw_X10_finding cv_X10_finding (by decide) (by decide) (Or.inl (ec_in (i := 1282) (by decide +kernel) rfl)) (T := TX10) (N := 57) rfl (by decide) (by decide +kernel)
  · cases h
def cx_X10_person : ex_K := (RX10, ec_fx fl_X10, ec_cx cl_X10, sl_X10, ca_X10_person, ec_nz, ec_no)
theorem ok_X10_person (l : Launch) : ex_ok l 1 21 cx_X10_person := ⟨ec_fok fo_X10, ec_cok co_X10, so_X10, ck_X10_person l, fun _ h => (by cases h), fun _ h => (by cases h), fun _ h => (by cases h), fun _ _ h => (by cases h)⟩
def sp_X10_person : ex_S := ex_sp cx_X10_person cX10_person 2 (some .int) 40
theorem mt_X10_person (l : Launch) : ex_Met l yX10_person cX10_person 2 (some .int) 1 21 sp_X10_person := ex_inl (by decide) rfl (ok_X10_person l)
theorem cw_X10_canGo : ec_cw yX10_canGo cX10_canGo 5 (some .boolean) := ⟨ec_in (i := 1339) (by decide +kernel) rfl, ec_in (i := 68) (by decide +kernel) rfl, by decide, by decide⟩
theorem cv_X10_canGo : Cond.instanceMethod yX10_canGo ∈ ec_tb ∧ Cond.selects yX10_canGo.cls yX10_canGo yX10_canGo ∈ ec_tb := ⟨ec_in (i := 1338) (by decide +kernel) rfl, ec_in (i := 30) (by decide +kernel) rfl⟩
def cx_X10_canGo : ex_K := (RX10, ec_fx fl_X10, ec_cx cl_X10, sl_X10, ec_no, ec_nz, ec_no)
theorem ok_X10_canGo (l : Launch) : ex_ok l 0 0 cx_X10_canGo := ⟨ec_fok fo_X10, ec_cok co_X10, so_X10, fun _ _ _ _ h => (by cases h), fun _ h => (by cases h), fun _ h => (by cases h), fun _ h => (by cases h), fun _ _ h => (by cases h)⟩
def sp_X10_canGo : ex_S := ex_sp cx_X10_canGo cX10_canGo 5 (some .boolean) 400
theorem mt_X10_canGo (l : Launch) : ex_Met l yX10_canGo cX10_canGo 5 (some .boolean) 0 0 sp_X10_canGo := ex_inl (by decide) rfl (ok_X10_canGo l)
theorem cw_X10_go : ec_cw yX10_go cX10_go 3 (some .int) := ⟨ec_in (i := 1331) (by decide +kernel) rfl, ec_in (i := 68) (by decide +kernel) rfl, by decide, by decide⟩
theorem cv_X10_go : Cond.instanceMethod yX10_go ∈ ec_tb ∧ Cond.selects yX10_go.cls yX10_go yX10_go ∈ ec_tb := ⟨ec_in (i := 1329) (by decide +kernel) rfl, ec_in (i := 1330) (by decide +kernel) rfl⟩
def ca_X10_go : Nat → Option (Nat × Option Nat × ex_S) := fun ix => match ix with
  | 177 => some (2, some 10, sp_X10_isPerson)
  | 164 => some (2, some 10, sp_X10_isModule)
  | 160 => some (2, some 10, sp_X10_finding)
  | 180 => some (3, some 10, sp_X10_canGo)
  | _ => none
theorem ck_X10_go (l : Launch) : ∀ (ix n : Nat) (rc : Option Nat) (sp : ex_S), ca_X10_go ix = some (n, rc, sp) → ex_cok l RX10 1 24 ix n rc sp := by
  intro ix n rc sp h
  unfold ca_X10_go at h
  split at h
  · cases h; exact ec_cV (mt_X10_isPerson l) cw_X10_isPerson cv_X10_isPerson (by decide) (by decide) (Or.inl (ec_in (i := 1332) (by decide +kernel) rfl)) (T := TX10) (N := 57) rfl (by decide) (by decide +kernel)
  · cases h; exact ec_cV (mt_X10_isModule l) cw_X10_isModule cv_X10_isModule (by decide) (by decide) (Or.inl (ec_in (i := 1291) (by decide +kernel) rfl)) (T := TX10) (N := 57) rfl (by decide) (by decide +kernel)
  · cases h; exact ec_cV (mt_X10_finding l) cw_X10_finding cv_X10_finding (by decide) (by decide) (Or.inl (ec_in (i := 1282) (by decide +kernel) rfl)) (T := TX10) (N := 57) rfl (by decide) (by decide +kernel)
  · cases h; exact ec_cV (mt_X10_canGo l) cw_X10_canGo cv_X10_canGo (by decide) (by decide) (Or.inl (ec_in (i := 1336) (by decide +kernel) rfl)) (T := TX10) (N := 57) rfl (by decide) (by decide +kernel)
  · cases h
def cx_X10_go : ex_K := (RX10, ec_fx fl_X10, ec_cx cl_X10, sl_X10, ca_X10_go, ec_nz, ec_no)
theorem ok_X10_go (l : Launch) : ex_ok l 1 24 cx_X10_go := ⟨ec_fok fo_X10, ec_cok co_X10, so_X10, ck_X10_go l, fun _ h => (by cases h), fun _ h => (by cases h), fun _ h => (by cases h), fun _ _ h => (by cases h)⟩
def sp_X10_go : ex_S := ex_sp cx_X10_go cX10_go 3 (some .int) 29
theorem mt_X10_go (l : Launch) : ex_Met l yX10_go cX10_go 3 (some .int) 1 24 sp_X10_go := ex_inl (by decide) rfl (ok_X10_go l)
theorem cw_X10_doing : ec_cw yX10_doing cX10_doing 4 (some .int) := ⟨ec_in (i := 1343) (by decide +kernel) rfl, ec_in (i := 68) (by decide +kernel) rfl, by decide, by decide⟩
theorem cv_X10_doing : Cond.instanceMethod yX10_doing ∈ ec_tb ∧ Cond.selects yX10_doing.cls yX10_doing yX10_doing ∈ ec_tb := ⟨ec_in (i := 1341) (by decide +kernel) rfl, ec_in (i := 1342) (by decide +kernel) rfl⟩
def ca_X10_doing : Nat → Option (Nat × Option Nat × ex_S) := fun ix => match ix with
  | 177 => some (2, some 10, sp_X10_isPerson)
  | 171 => some (3, none, sp_X10_isIn)
  | 160 => some (2, some 10, sp_X10_finding)
  | _ => none
theorem ck_X10_doing (l : Launch) : ∀ (ix n : Nat) (rc : Option Nat) (sp : ex_S), ca_X10_doing ix = some (n, rc, sp) → ex_cok l RX10 1 22 ix n rc sp := by
  intro ix n rc sp h
  unfold ca_X10_doing at h
  split at h
  · cases h; exact ec_cV (mt_X10_isPerson l) cw_X10_isPerson cv_X10_isPerson (by decide) (by decide) (Or.inl (ec_in (i := 1332) (by decide +kernel) rfl)) (T := TX10) (N := 57) rfl (by decide) (by decide +kernel)
  · cases h; exact ec_cS (mt_X10_isIn l) cw_X10_isIn cv_X10_isIn (by decide) (by decide) (Or.inl (ec_in (i := 1303) (by decide +kernel) rfl)) (by decide +kernel)
  · cases h; exact ec_cV (mt_X10_finding l) cw_X10_finding cv_X10_finding (by decide) (by decide) (Or.inl (ec_in (i := 1282) (by decide +kernel) rfl)) (T := TX10) (N := 57) rfl (by decide) (by decide +kernel)
  · cases h
def cx_X10_doing : ex_K := (RX10, ec_fx fl_X10, ec_cx cl_X10, sl_X10, ca_X10_doing, ec_nz, ec_no)
theorem ok_X10_doing (l : Launch) : ex_ok l 1 22 cx_X10_doing := ⟨ec_fok fo_X10, ec_cok co_X10, so_X10, ck_X10_doing l, fun _ h => (by cases h), fun _ h => (by cases h), fun _ h => (by cases h), fun _ _ h => (by cases h)⟩
def sp_X10_doing : ex_S := ex_sp cx_X10_doing cX10_doing 4 (some .int) 35
theorem mt_X10_doing (l : Launch) : ex_Met l yX10_doing cX10_doing 4 (some .int) 1 22 sp_X10_doing := ex_inl (by decide) rfl (ok_X10_doing l)
theorem cw_X10_about : ec_cw yX10_about cX10_about 3 (some .int) := ⟨ec_in (i := 1347) (by decide +kernel) rfl, ec_in (i := 68) (by decide +kernel) rfl, by decide, by decide⟩
theorem cv_X10_about : Cond.instanceMethod yX10_about ∈ ec_tb ∧ Cond.selects yX10_about.cls yX10_about yX10_about ∈ ec_tb := ⟨ec_in (i := 1345) (by decide +kernel) rfl, ec_in (i := 1346) (by decide +kernel) rfl⟩
def ca_X10_about : Nat → Option (Nat × Option Nat × ex_S) := fun ix => match ix with
  | 177 => some (2, some 10, sp_X10_isPerson)
  | 171 => some (3, none, sp_X10_isIn)
  | 160 => some (2, some 10, sp_X10_finding)
  | _ => none
theorem ck_X10_about (l : Launch) : ∀ (ix n : Nat) (rc : Option Nat) (sp : ex_S), ca_X10_about ix = some (n, rc, sp) → ex_cok l RX10 1 22 ix n rc sp := by
  intro ix n rc sp h
  unfold ca_X10_about at h
  split at h
  · cases h; exact ec_cV (mt_X10_isPerson l) cw_X10_isPerson cv_X10_isPerson (by decide) (by decide) (Or.inl (ec_in (i := 1332) (by decide +kernel) rfl)) (T := TX10) (N := 57) rfl (by decide) (by decide +kernel)
  · cases h; exact ec_cS (mt_X10_isIn l) cw_X10_isIn cv_X10_isIn (by decide) (by decide) (Or.inl (ec_in (i := 1303) (by decide +kernel) rfl)) (by decide +kernel)
  · cases h; exact ec_cV (mt_X10_finding l) cw_X10_finding cv_X10_finding (by decide) (by decide) (Or.inl (ec_in (i := 1282) (by decide +kernel) rfl)) (T := TX10) (N := 57) rfl (by decide) (by decide +kernel)
  · cases h
def cx_X10_about : ex_K := (RX10, ec_fx fl_X10, ec_cx cl_X10, sl_X10, ca_X10_about, ec_nz, ec_no)
theorem ok_X10_about (l : Launch) : ex_ok l 1 22 cx_X10_about := ⟨ec_fok fo_X10, ec_cok co_X10, so_X10, ck_X10_about l, fun _ h => (by cases h), fun _ h => (by cases h), fun _ h => (by cases h), fun _ _ h => (by cases h)⟩
def sp_X10_about : ex_S := ex_sp cx_X10_about cX10_about 3 (some .int) 46
theorem mt_X10_about (l : Launch) : ex_Met l yX10_about cX10_about 3 (some .int) 1 22 sp_X10_about := ex_inl (by decide) rfl (ok_X10_about l)
theorem cw_X10_machine : ec_cw yX10_machine cX10_machine 6 (some .int) := ⟨ec_in (i := 1351) (by decide +kernel) rfl, ec_in (i := 68) (by decide +kernel) rfl, by decide, by decide⟩
theorem cv_X10_machine : Cond.instanceMethod yX10_machine ∈ ec_tb ∧ Cond.selects yX10_machine.cls yX10_machine yX10_machine ∈ ec_tb := ⟨ec_in (i := 1349) (by decide +kernel) rfl, ec_in (i := 1350) (by decide +kernel) rfl⟩
def ca_X10_machine : Nat → Option (Nat × Option Nat × ex_S) := fun ix => match ix with
  | 171 => some (3, none, sp_X10_isIn)
  | 164 => some (2, some 10, sp_X10_isModule)
  | 160 => some (2, some 10, sp_X10_finding)
  | _ => none
theorem ck_X10_machine (l : Launch) : ∀ (ix n : Nat) (rc : Option Nat) (sp : ex_S), ca_X10_machine ix = some (n, rc, sp) → ex_cok l RX10 1 22 ix n rc sp := by
  intro ix n rc sp h
  unfold ca_X10_machine at h
  split at h
  · cases h; exact ec_cS (mt_X10_isIn l) cw_X10_isIn cv_X10_isIn (by decide) (by decide) (Or.inl (ec_in (i := 1303) (by decide +kernel) rfl)) (by decide +kernel)
  · cases h; exact ec_cV (mt_X10_isModule l) cw_X10_isModule cv_X10_isModule (by decide) (by decide) (Or.inl (ec_in (i := 1291) (by decide +kernel) rfl)) (T := TX10) (N := 57) rfl (by decide) (by decide +kernel)
  · cases h; exact ec_cV (mt_X10_finding l) cw_X10_finding cv_X10_finding (by decide) (by decide) (Or.inl (ec_in (i := 1282) (by decide +kernel) rfl)) (T := TX10) (N := 57) rfl (by decide) (by decide +kernel)
  · cases h
def cx_X10_machine : ex_K := (RX10, ec_fx fl_X10, ec_cx cl_X10, sl_X10, ca_X10_machine, ec_nz, ec_no)
theorem ok_X10_machine (l : Launch) : ex_ok l 1 22 cx_X10_machine := ⟨ec_fok fo_X10, ec_cok co_X10, so_X10, ck_X10_machine l, fun _ h => (by cases h), fun _ h => (by cases h), fun _ h => (by cases h), fun _ _ h => (by cases h)⟩
def sp_X10_machine : ex_S := ex_sp cx_X10_machine cX10_machine 6 (some .int) 119
theorem mt_X10_machine (l : Launch) : ex_Met l yX10_machine cX10_machine 6 (some .int) 1 22 sp_X10_machine := ex_inl (by decide) rfl (ok_X10_machine l)
theorem cw_X10_as : ec_cw yX10_as cX10_as 3 (some .int) := ⟨ec_in (i := 1355) (by decide +kernel) rfl, ec_in (i := 68) (by decide +kernel) rfl, by decide, by decide⟩
theorem cv_X10_as : Cond.instanceMethod yX10_as ∈ ec_tb ∧ Cond.selects yX10_as.cls yX10_as yX10_as ∈ ec_tb := ⟨ec_in (i := 1353) (by decide +kernel) rfl, ec_in (i := 1354) (by decide +kernel) rfl⟩
def ca_X10_as : Nat → Option (Nat × Option Nat × ex_S) := fun ix => match ix with
  | 184 => some (2, some 10, sp_X10_isMachine)
  | 171 => some (3, none, sp_X10_isIn)
  | 160 => some (2, some 10, sp_X10_finding)
  | _ => none
theorem ck_X10_as (l : Launch) : ∀ (ix n : Nat) (rc : Option Nat) (sp : ex_S), ca_X10_as ix = some (n, rc, sp) → ex_cok l RX10 1 22 ix n rc sp := by
  intro ix n rc sp h
  unfold ca_X10_as at h
  split at h
  · cases h; exact ec_cV (mt_X10_isMachine l) cw_X10_isMachine cv_X10_isMachine (by decide) (by decide) (Or.inl (ec_in (i := 1356) (by decide +kernel) rfl)) (T := TX10) (N := 57) rfl (by decide) (by decide +kernel)
  · cases h; exact ec_cS (mt_X10_isIn l) cw_X10_isIn cv_X10_isIn (by decide) (by decide) (Or.inl (ec_in (i := 1303) (by decide +kernel) rfl)) (by decide +kernel)
  · cases h; exact ec_cV (mt_X10_finding l) cw_X10_finding cv_X10_finding (by decide) (by decide) (Or.inl (ec_in (i := 1282) (by decide +kernel) rfl)) (T := TX10) (N := 57) rfl (by decide) (by decide +kernel)
  · cases h
def cx_X10_as : ex_K := (RX10, ec_fx fl_X10, ec_cx cl_X10, sl_X10, ca_X10_as, ec_nz, ec_no)
theorem ok_X10_as (l : Launch) : ex_ok l 1 22 cx_X10_as := ⟨ec_fok fo_X10, ec_cok co_X10, so_X10, ck_X10_as l, fun _ h => (by cases h), fun _ h => (by cases h), fun _ h => (by cases h), fun _ _ h => (by cases h)⟩
def sp_X10_as : ex_S := ex_sp cx_X10_as cX10_as 3 (some .int) 40
theorem mt_X10_as (l : Launch) : ex_Met l yX10_as cX10_as 3 (some .int) 1 22 sp_X10_as := ex_inl (by decide) rfl (ok_X10_as l)
theorem cw_X10_turn : ec_cw yX10_turn cX10_turn 4 (some .int) := ⟨ec_in (i := 1363) (by decide +kernel) rfl, ec_in (i := 68) (by decide +kernel) rfl, by decide, by decide⟩
theorem cv_X10_turn : Cond.instanceMethod yX10_turn ∈ ec_tb ∧ Cond.selects yX10_turn.cls yX10_turn yX10_turn ∈ ec_tb := ⟨ec_in (i := 1361) (by decide +kernel) rfl, ec_in (i := 1362) (by decide +kernel) rfl⟩
def ca_X10_turn : Nat → Option (Nat × Option Nat × ex_S) := fun ix => match ix with
  | 184 => some (2, some 10, sp_X10_isMachine)
  | 171 => some (3, none, sp_X10_isIn)
  | 160 => some (2, some 10, sp_X10_finding)
  | _ => none
theorem ck_X10_turn (l : Launch) : ∀ (ix n : Nat) (rc : Option Nat) (sp : ex_S), ca_X10_turn ix = some (n, rc, sp) → ex_cok l RX10 1 22 ix n rc sp := by
  intro ix n rc sp h
  unfold ca_X10_turn at h
  split at h
  · cases h; exact ec_cV (mt_X10_isMachine l) cw_X10_isMachine cv_X10_isMachine (by decide) (by decide) (Or.inl (ec_in (i := 1356) (by decide +kernel) rfl)) (T := TX10) (N := 57) rfl (by decide) (by decide +kernel)
  · cases h; exact ec_cS (mt_X10_isIn l) cw_X10_isIn cv_X10_isIn (by decide) (by decide) (Or.inl (ec_in (i := 1303) (by decide +kernel) rfl)) (by decide +kernel)
  · cases h; exact ec_cV (mt_X10_finding l) cw_X10_finding cv_X10_finding (by decide) (by decide) (Or.inl (ec_in (i := 1282) (by decide +kernel) rfl)) (T := TX10) (N := 57) rfl (by decide) (by decide +kernel)
  · cases h
def cx_X10_turn : ex_K := (RX10, ec_fx fl_X10, ec_cx cl_X10, sl_X10, ca_X10_turn, ec_nz, ec_no)
theorem ok_X10_turn (l : Launch) : ex_ok l 1 22 cx_X10_turn := ⟨ec_fok fo_X10, ec_cok co_X10, so_X10, ck_X10_turn l, fun _ h => (by cases h), fun _ h => (by cases h), fun _ h => (by cases h), fun _ _ h => (by cases h)⟩
def sp_X10_turn : ex_S := ex_sp cx_X10_turn cX10_turn 4 (some .int) 26
theorem mt_X10_turn (l : Launch) : ex_Met l yX10_turn cX10_turn 4 (some .int) 1 22 sp_X10_turn := ex_inl (by decide) rfl (ok_X10_turn l)
theorem cw_X10_of : ec_cw yX10_of cX10_of 3 (some .int) := ⟨ec_in (i := 1367) (by decide +kernel) rfl, ec_in (i := 68) (by decide +kernel) rfl, by decide, by decide⟩
theorem cv_X10_of : Cond.instanceMethod yX10_of ∈ ec_tb ∧ Cond.selects yX10_of.cls yX10_of yX10_of ∈ ec_tb := ⟨ec_in (i := 1365) (by decide +kernel) rfl, ec_in (i := 1366) (by decide +kernel) rfl⟩
def ca_X10_of : Nat → Option (Nat × Option Nat × ex_S) := fun ix => match ix with
  | 184 => some (2, some 10, sp_X10_isMachine)
  | 171 => some (3, none, sp_X10_isIn)
  | 160 => some (2, some 10, sp_X10_finding)
  | _ => none
theorem ck_X10_of (l : Launch) : ∀ (ix n : Nat) (rc : Option Nat) (sp : ex_S), ca_X10_of ix = some (n, rc, sp) → ex_cok l RX10 1 22 ix n rc sp := by
  intro ix n rc sp h
  unfold ca_X10_of at h
  split at h
  · cases h; exact ec_cV (mt_X10_isMachine l) cw_X10_isMachine cv_X10_isMachine (by decide) (by decide) (Or.inl (ec_in (i := 1356) (by decide +kernel) rfl)) (T := TX10) (N := 57) rfl (by decide) (by decide +kernel)
  · cases h; exact ec_cS (mt_X10_isIn l) cw_X10_isIn cv_X10_isIn (by decide) (by decide) (Or.inl (ec_in (i := 1303) (by decide +kernel) rfl)) (by decide +kernel)
  · cases h; exact ec_cV (mt_X10_finding l) cw_X10_finding cv_X10_finding (by decide) (by decide) (Or.inl (ec_in (i := 1282) (by decide +kernel) rfl)) (T := TX10) (N := 57) rfl (by decide) (by decide +kernel)
  · cases h
def cx_X10_of : ex_K := (RX10, ec_fx fl_X10, ec_cx cl_X10, sl_X10, ca_X10_of, ec_nz, ec_no)
theorem ok_X10_of (l : Launch) : ex_ok l 1 22 cx_X10_of := ⟨ec_fok fo_X10, ec_cok co_X10, so_X10, ck_X10_of l, fun _ h => (by cases h), fun _ h => (by cases h), fun _ h => (by cases h), fun _ _ h => (by cases h)⟩
def sp_X10_of : ex_S := ex_sp cx_X10_of cX10_of 3 (some .int) 61
theorem mt_X10_of (l : Launch) : ex_Met l yX10_of cX10_of 3 (some .int) 1 22 sp_X10_of := ex_inl (by decide) rfl (ok_X10_of l)
theorem cw_X10_spares : ec_cw yX10_spares cX10_spares 4 (some .int) := ⟨ec_in (i := 1371) (by decide +kernel) rfl, ec_in (i := 68) (by decide +kernel) rfl, by decide, by decide⟩
theorem cv_X10_spares : Cond.instanceMethod yX10_spares ∈ ec_tb ∧ Cond.selects yX10_spares.cls yX10_spares yX10_spares ∈ ec_tb := ⟨ec_in (i := 1369) (by decide +kernel) rfl, ec_in (i := 1370) (by decide +kernel) rfl⟩
def ca_X10_spares : Nat → Option (Nat × Option Nat × ex_S) := fun ix => match ix with
  | 171 => some (3, none, sp_X10_isIn)
  | 160 => some (2, some 10, sp_X10_finding)
  | _ => none
theorem ck_X10_spares (l : Launch) : ∀ (ix n : Nat) (rc : Option Nat) (sp : ex_S), ca_X10_spares ix = some (n, rc, sp) → ex_cok l RX10 1 22 ix n rc sp := by
  intro ix n rc sp h
  unfold ca_X10_spares at h
  split at h
  · cases h; exact ec_cS (mt_X10_isIn l) cw_X10_isIn cv_X10_isIn (by decide) (by decide) (Or.inl (ec_in (i := 1303) (by decide +kernel) rfl)) (by decide +kernel)
  · cases h; exact ec_cV (mt_X10_finding l) cw_X10_finding cv_X10_finding (by decide) (by decide) (Or.inl (ec_in (i := 1282) (by decide +kernel) rfl)) (T := TX10) (N := 57) rfl (by decide) (by decide +kernel)
  · cases h
def cx_X10_spares : ex_K := (RX10, ec_fx fl_X10, ec_cx cl_X10, sl_X10, ca_X10_spares, ec_nz, ec_no)
theorem ok_X10_spares (l : Launch) : ex_ok l 1 22 cx_X10_spares := ⟨ec_fok fo_X10, ec_cok co_X10, so_X10, ck_X10_spares l, fun _ h => (by cases h), fun _ h => (by cases h), fun _ h => (by cases h), fun _ _ h => (by cases h)⟩
def sp_X10_spares : ex_S := ex_sp cx_X10_spares cX10_spares 4 (some .int) 31
theorem mt_X10_spares (l : Launch) : ex_Met l yX10_spares cX10_spares 4 (some .int) 1 22 sp_X10_spares := ex_inl (by decide) rfl (ok_X10_spares l)
theorem cw_X10_isMended : ec_cw yX10_isMended cX10_isMended 4 (some .boolean) := ⟨ec_in (i := 1383) (by decide +kernel) rfl, ec_in (i := 68) (by decide +kernel) rfl, by decide, by decide⟩
theorem cv_X10_isMended : Cond.instanceMethod yX10_isMended ∈ ec_tb ∧ Cond.selects yX10_isMended.cls yX10_isMended yX10_isMended ∈ ec_tb := ⟨ec_in (i := 1382) (by decide +kernel) rfl, ec_in (i := 33) (by decide +kernel) rfl⟩
def cx_X10_isMended : ex_K := (RX10, ec_fx fl_X10, ec_cx cl_X10, sl_X10, ec_no, ec_nz, ec_no)
theorem ok_X10_isMended (l : Launch) : ex_ok l 0 0 cx_X10_isMended := ⟨ec_fok fo_X10, ec_cok co_X10, so_X10, fun _ _ _ _ h => (by cases h), fun _ h => (by cases h), fun _ h => (by cases h), fun _ h => (by cases h), fun _ _ h => (by cases h)⟩
def sp_X10_isMended : ex_S := ex_sp cx_X10_isMended cX10_isMended 4 (some .boolean) 400
theorem mt_X10_isMended (l : Launch) : ex_Met l yX10_isMended cX10_isMended 4 (some .boolean) 0 0 sp_X10_isMended := ex_inl (by decide) rfl (ok_X10_isMended l)
theorem cw_X10_refusesMend : ec_cw yX10_refusesMend cX10_refusesMend 4 (some .int) := ⟨ec_in (i := 1379) (by decide +kernel) rfl, ec_in (i := 68) (by decide +kernel) rfl, by decide, by decide⟩
theorem cv_X10_refusesMend : Cond.instanceMethod yX10_refusesMend ∈ ec_tb ∧ Cond.selects yX10_refusesMend.cls yX10_refusesMend yX10_refusesMend ∈ ec_tb := ⟨ec_in (i := 1378) (by decide +kernel) rfl, ec_in (i := 32) (by decide +kernel) rfl⟩
def ca_X10_refusesMend : Nat → Option (Nat × Option Nat × ex_S) := fun ix => match ix with
  | 177 => some (2, some 10, sp_X10_isPerson)
  | 184 => some (2, some 10, sp_X10_isMachine)
  | 171 => some (3, none, sp_X10_isIn)
  | 187 => some (2, some 10, sp_X10_isMended)
  | _ => none
theorem ck_X10_refusesMend (l : Launch) : ∀ (ix n : Nat) (rc : Option Nat) (sp : ex_S), ca_X10_refusesMend ix = some (n, rc, sp) → ex_cok l RX10 1 23 ix n rc sp := by
  intro ix n rc sp h
  unfold ca_X10_refusesMend at h
  split at h
  · cases h; exact ec_cV (mt_X10_isPerson l) cw_X10_isPerson cv_X10_isPerson (by decide) (by decide) (Or.inl (ec_in (i := 1332) (by decide +kernel) rfl)) (T := TX10) (N := 57) rfl (by decide) (by decide +kernel)
  · cases h; exact ec_cV (mt_X10_isMachine l) cw_X10_isMachine cv_X10_isMachine (by decide) (by decide) (Or.inl (ec_in (i := 1356) (by decide +kernel) rfl)) (T := TX10) (N := 57) rfl (by decide) (by decide +kernel)
  · cases h; exact ec_cS (mt_X10_isIn l) cw_X10_isIn cv_X10_isIn (by decide) (by decide) (Or.inl (ec_in (i := 1303) (by decide +kernel) rfl)) (by decide +kernel)
  · cases h; exact ec_cV (mt_X10_isMended l) cw_X10_isMended cv_X10_isMended (by decide) (by decide) (Or.inl (ec_in (i := 1380) (by decide +kernel) rfl)) (T := TX10) (N := 57) rfl (by decide) (by decide +kernel)
  · cases h
def cx_X10_refusesMend : ex_K := (RX10, ec_fx fl_X10, ec_cx cl_X10, sl_X10, ca_X10_refusesMend, ec_nz, ec_no)
theorem ok_X10_refusesMend (l : Launch) : ex_ok l 1 23 cx_X10_refusesMend := ⟨ec_fok fo_X10, ec_cok co_X10, so_X10, ck_X10_refusesMend l, fun _ h => (by cases h), fun _ h => (by cases h), fun _ h => (by cases h), fun _ _ h => (by cases h)⟩
def sp_X10_refusesMend : ex_S := ex_sp cx_X10_refusesMend cX10_refusesMend 4 (some .int) 53
theorem mt_X10_refusesMend (l : Launch) : ex_Met l yX10_refusesMend cX10_refusesMend 4 (some .int) 1 23 sp_X10_refusesMend := ex_inl (by decide) rfl (ok_X10_refusesMend l)
theorem cw_X10_beginMend : ec_cw yX10_beginMend cX10_beginMend 4 none := ⟨ec_in (i := 1387) (by decide +kernel) rfl, ec_in (i := 68) (by decide +kernel) rfl, by decide, by decide⟩
theorem cv_X10_beginMend : Cond.instanceMethod yX10_beginMend ∈ ec_tb ∧ Cond.selects yX10_beginMend.cls yX10_beginMend yX10_beginMend ∈ ec_tb := ⟨ec_in (i := 1386) (by decide +kernel) rfl, ec_in (i := 34) (by decide +kernel) rfl⟩
def cx_X10_beginMend : ex_K := (RX10, ec_fx fl_X10, ec_cx cl_X10, sl_X10, ec_no, ec_nz, ec_no)
theorem ok_X10_beginMend (l : Launch) : ex_ok l 0 0 cx_X10_beginMend := ⟨ec_fok fo_X10, ec_cok co_X10, so_X10, fun _ _ _ _ h => (by cases h), fun _ h => (by cases h), fun _ h => (by cases h), fun _ h => (by cases h), fun _ _ h => (by cases h)⟩
def sp_X10_beginMend : ex_S := ex_sp cx_X10_beginMend cX10_beginMend 4 none 28
theorem mt_X10_beginMend (l : Launch) : ex_Met l yX10_beginMend cX10_beginMend 4 none 0 0 sp_X10_beginMend := ex_inl (by decide) rfl (ok_X10_beginMend l)
theorem cw_X10_repair : ec_cw yX10_repair cX10_repair 5 (some .int) := ⟨ec_in (i := 1375) (by decide +kernel) rfl, ec_in (i := 68) (by decide +kernel) rfl, by decide, by decide⟩
theorem cv_X10_repair : Cond.instanceMethod yX10_repair ∈ ec_tb ∧ Cond.selects yX10_repair.cls yX10_repair yX10_repair ∈ ec_tb := ⟨ec_in (i := 1373) (by decide +kernel) rfl, ec_in (i := 1374) (by decide +kernel) rfl⟩
def ca_X10_repair : Nat → Option (Nat × Option Nat × ex_S) := fun ix => match ix with
  | 190 => some (4, some 10, sp_X10_refusesMend)
  | 160 => some (2, some 10, sp_X10_finding)
  | 194 => some (4, some 10, sp_X10_beginMend)
  | _ => none
theorem ck_X10_repair (l : Launch) : ∀ (ix n : Nat) (rc : Option Nat) (sp : ex_S), ca_X10_repair ix = some (n, rc, sp) → ex_cok l RX10 2 46 ix n rc sp := by
  intro ix n rc sp h
  unfold ca_X10_repair at h
  split at h
  · cases h; exact ec_cV (mt_X10_refusesMend l) cw_X10_refusesMend cv_X10_refusesMend (by decide) (by decide) (Or.inl (ec_in (i := 1376) (by decide +kernel) rfl)) (T := TX10) (N := 57) rfl (by decide) (by decide +kernel)
  · cases h; exact ec_cV (mt_X10_finding l) cw_X10_finding cv_X10_finding (by decide) (by decide) (Or.inl (ec_in (i := 1282) (by decide +kernel) rfl)) (T := TX10) (N := 57) rfl (by decide) (by decide +kernel)
  · cases h; exact ec_cV (mt_X10_beginMend l) cw_X10_beginMend cv_X10_beginMend (by decide) (by decide) (Or.inl (ec_in (i := 1384) (by decide +kernel) rfl)) (T := TX10) (N := 57) rfl (by decide) (by decide +kernel)
  · cases h
def cx_X10_repair : ex_K := (RX10, ec_fx fl_X10, ec_cx cl_X10, sl_X10, ca_X10_repair, ec_nz, ec_no)
theorem ok_X10_repair (l : Launch) : ex_ok l 2 46 cx_X10_repair := ⟨ec_fok fo_X10, ec_cok co_X10, so_X10, ck_X10_repair l, fun _ h => (by cases h), fun _ h => (by cases h), fun _ h => (by cases h), fun _ _ h => (by cases h)⟩
def sp_X10_repair : ex_S := ex_sp cx_X10_repair cX10_repair 5 (some .int) 26
theorem mt_X10_repair (l : Launch) : ex_Met l yX10_repair cX10_repair 5 (some .int) 2 46 sp_X10_repair := ex_inl (by decide) rfl (ok_X10_repair l)
theorem cw_X10_canShed : ec_cw yX10_canShed cX10_canShed 2 (some .boolean) := ⟨ec_in (i := 1395) (by decide +kernel) rfl, ec_in (i := 68) (by decide +kernel) rfl, by decide, by decide⟩
theorem cv_X10_canShed : Cond.instanceMethod yX10_canShed ∈ ec_tb ∧ Cond.selects yX10_canShed.cls yX10_canShed yX10_canShed ∈ ec_tb := ⟨ec_in (i := 1394) (by decide +kernel) rfl, ec_in (i := 35) (by decide +kernel) rfl⟩
def cx_X10_canShed : ex_K := (RX10, ec_fx fl_X10, ec_cx cl_X10, sl_X10, ec_no, ec_nz, ec_no)
theorem ok_X10_canShed (l : Launch) : ex_ok l 0 0 cx_X10_canShed := ⟨ec_fok fo_X10, ec_cok co_X10, so_X10, fun _ _ _ _ h => (by cases h), fun _ h => (by cases h), fun _ h => (by cases h), fun _ h => (by cases h), fun _ _ h => (by cases h)⟩
def sp_X10_canShed : ex_S := ex_sp cx_X10_canShed cX10_canShed 2 (some .boolean) 16
theorem mt_X10_canShed (l : Launch) : ex_Met l yX10_canShed cX10_canShed 2 (some .boolean) 0 0 sp_X10_canShed := ex_inl (by decide) rfl (ok_X10_canShed l)
theorem cw_X10_together : ec_cw yX10_together cX10_together 7 (some .int) := ⟨ec_in (i := 1399) (by decide +kernel) rfl, ec_in (i := 68) (by decide +kernel) rfl, by decide, by decide⟩
theorem cv_X10_together : Cond.instanceMethod yX10_together ∈ ec_tb ∧ Cond.selects yX10_together.cls yX10_together yX10_together ∈ ec_tb := ⟨ec_in (i := 1398) (by decide +kernel) rfl, ec_in (i := 36) (by decide +kernel) rfl⟩
def ca_X10_together : Nat → Option (Nat × Option Nat × ex_S) := fun ix => match ix with
  | 198 => some (2, some 10, sp_X10_canShed)
  | _ => none
theorem ck_X10_together (l : Launch) : ∀ (ix n : Nat) (rc : Option Nat) (sp : ex_S), ca_X10_together ix = some (n, rc, sp) → ex_cok l RX10 1 21 ix n rc sp := by
  intro ix n rc sp h
  unfold ca_X10_together at h
  split at h
  · cases h; exact ec_cV (mt_X10_canShed l) cw_X10_canShed cv_X10_canShed (by decide) (by decide) (Or.inl (ec_in (i := 1392) (by decide +kernel) rfl)) (T := TX10) (N := 57) rfl (by decide) (by decide +kernel)
  · cases h
def cx_X10_together : ex_K := (RX10, ec_fx fl_X10, ec_cx cl_X10, sl_X10, ca_X10_together, ec_nz, ec_no)
theorem ok_X10_together (l : Launch) : ex_ok l 1 21 cx_X10_together := ⟨ec_fok fo_X10, ec_cok co_X10, so_X10, ck_X10_together l, fun _ h => (by cases h), fun _ h => (by cases h), fun _ h => (by cases h), fun _ _ h => (by cases h)⟩
def sp_X10_together : ex_S := ex_sp cx_X10_together cX10_together 7 (some .int) 400
theorem mt_X10_together (l : Launch) : ex_Met l yX10_together cX10_together 7 (some .int) 1 21 sp_X10_together := ex_inl (by decide) rfl (ok_X10_together l)
theorem cw_X10_shed : ec_cw yX10_shed cX10_shed 8 (some .int) := ⟨ec_in (i := 1391) (by decide +kernel) rfl, ec_in (i := 68) (by decide +kernel) rfl, by decide, by decide⟩
theorem cv_X10_shed : Cond.instanceMethod yX10_shed ∈ ec_tb ∧ Cond.selects yX10_shed.cls yX10_shed yX10_shed ∈ ec_tb := ⟨ec_in (i := 1389) (by decide +kernel) rfl, ec_in (i := 1390) (by decide +kernel) rfl⟩
def ca_X10_shed : Nat → Option (Nat × Option Nat × ex_S) := fun ix => match ix with
  | 171 => some (3, none, sp_X10_isIn)
  | 160 => some (2, some 10, sp_X10_finding)
  | 198 => some (2, some 10, sp_X10_canShed)
  | 201 => some (4, some 10, sp_X10_together)
  | _ => none
theorem ck_X10_shed (l : Launch) : ∀ (ix n : Nat) (rc : Option Nat) (sp : ex_S), ca_X10_shed ix = some (n, rc, sp) → ex_cok l RX10 2 47 ix n rc sp := by
  intro ix n rc sp h
  unfold ca_X10_shed at h
  split at h
  · cases h; exact ec_cS (mt_X10_isIn l) cw_X10_isIn cv_X10_isIn (by decide) (by decide) (Or.inl (ec_in (i := 1303) (by decide +kernel) rfl)) (by decide +kernel)
  · cases h; exact ec_cV (mt_X10_finding l) cw_X10_finding cv_X10_finding (by decide) (by decide) (Or.inl (ec_in (i := 1282) (by decide +kernel) rfl)) (T := TX10) (N := 57) rfl (by decide) (by decide +kernel)
  · cases h; exact ec_cV (mt_X10_canShed l) cw_X10_canShed cv_X10_canShed (by decide) (by decide) (Or.inl (ec_in (i := 1392) (by decide +kernel) rfl)) (T := TX10) (N := 57) rfl (by decide) (by decide +kernel)
  · cases h; exact ec_cV (mt_X10_together l) cw_X10_together cv_X10_together (by decide) (by decide) (Or.inl (ec_in (i := 1396) (by decide +kernel) rfl)) (T := TX10) (N := 57) rfl (by decide) (by decide +kernel)
  · cases h
def cx_X10_shed : ex_K := (RX10, ec_fx fl_X10, ec_cx cl_X10, sl_X10, ca_X10_shed, ec_nz, ec_no)
theorem ok_X10_shed (l : Launch) : ex_ok l 2 47 cx_X10_shed := ⟨ec_fok fo_X10, ec_cok co_X10, so_X10, ck_X10_shed l, fun _ h => (by cases h), fun _ h => (by cases h), fun _ h => (by cases h), fun _ _ h => (by cases h)⟩
def sp_X10_shed : ex_S := ex_sp cx_X10_shed cX10_shed 8 (some .int) 400
theorem mt_X10_shed (l : Launch) : ex_Met l yX10_shed cX10_shed 8 (some .int) 2 47 sp_X10_shed := ex_inl (by decide) rfl (ok_X10_shed l)
theorem cw_X10_endText : ec_cw yX10_endText cX10_endText 2 none := ⟨ec_in (i := 1427) (by decide +kernel) rfl, ec_in (i := 68) (by decide +kernel) rfl, by decide, by decide⟩
theorem cv_X10_endText : Cond.instanceMethod yX10_endText ∈ ec_tb ∧ Cond.selects yX10_endText.cls yX10_endText yX10_endText ∈ ec_tb := ⟨ec_in (i := 1426) (by decide +kernel) rfl, ec_in (i := 38) (by decide +kernel) rfl⟩
def cx_X10_endText : ex_K := (RX10, ec_fx fl_X10, ec_cx cl_X10, sl_X10, ec_no, ec_nz, ec_no)
theorem ok_X10_endText (l : Launch) : ex_ok l 0 0 cx_X10_endText := ⟨ec_fok fo_X10, ec_cok co_X10, so_X10, fun _ _ _ _ h => (by cases h), fun _ h => (by cases h), fun _ h => (by cases h), fun _ h => (by cases h), fun _ _ h => (by cases h)⟩
def sp_X10_endText : ex_S := ex_sp cx_X10_endText cX10_endText 2 none 37
theorem mt_X10_endText (l : Launch) : ex_Met l yX10_endText cX10_endText 2 none 0 0 sp_X10_endText := ex_inl (by decide) rfl (ok_X10_endText l)
theorem cw_X10_abortText : ec_cw yX10_abortText cX10_abortText 1 none := ⟨ec_in (i := 1423) (by decide +kernel) rfl, ec_in (i := 68) (by decide +kernel) rfl, by decide, by decide⟩
theorem cv_X10_abortText : Cond.instanceMethod yX10_abortText ∈ ec_tb ∧ Cond.selects yX10_abortText.cls yX10_abortText yX10_abortText ∈ ec_tb := ⟨ec_in (i := 1422) (by decide +kernel) rfl, ec_in (i := 37) (by decide +kernel) rfl⟩
def ca_X10_abortText : Nat → Option (Nat × Option Nat × ex_S) := fun ix => match ix with
  | 205 => some (2, some 10, sp_X10_endText)
  | _ => none
theorem ck_X10_abortText (l : Launch) : ∀ (ix n : Nat) (rc : Option Nat) (sp : ex_S), ca_X10_abortText ix = some (n, rc, sp) → ex_cok l RX10 1 21 ix n rc sp := by
  intro ix n rc sp h
  unfold ca_X10_abortText at h
  split at h
  · cases h; exact ec_cV (mt_X10_endText l) cw_X10_endText cv_X10_endText (by decide) (by decide) (Or.inl (ec_in (i := 1424) (by decide +kernel) rfl)) (T := TX10) (N := 57) rfl (by decide) (by decide +kernel)
  · cases h
def cx_X10_abortText : ex_K := (RX10, ec_fx fl_X10, ec_cx cl_X10, sl_X10, ca_X10_abortText, ec_nz, ec_no)
theorem ok_X10_abortText (l : Launch) : ex_ok l 1 21 cx_X10_abortText := ⟨ec_fok fo_X10, ec_cok co_X10, so_X10, ck_X10_abortText l, fun _ h => (by cases h), fun _ h => (by cases h), fun _ h => (by cases h), fun _ _ h => (by cases h)⟩
def sp_X10_abortText : ex_S := ex_sp cx_X10_abortText cX10_abortText 1 none 40
theorem mt_X10_abortText (l : Launch) : ex_Met l yX10_abortText cX10_abortText 1 none 1 21 sp_X10_abortText := ex_inl (by decide) rfl (ok_X10_abortText l)
theorem cw_X10_isLine : ec_cw yX10_isLine cX10_isLine 2 (some .boolean) := ⟨ec_in (i := 1462) (by decide +kernel) rfl, ec_in (i := 68) (by decide +kernel) rfl, by decide, by decide⟩
theorem cv_X10_isLine : Cond.instanceMethod yX10_isLine ∈ ec_tb ∧ Cond.selects yX10_isLine.cls yX10_isLine yX10_isLine ∈ ec_tb := ⟨ec_in (i := 1461) (by decide +kernel) rfl, ec_in (i := 41) (by decide +kernel) rfl⟩
def cx_X10_isLine : ex_K := (RX10, ec_fx fl_X10, ec_cx cl_X10, sl_X10, ec_no, ec_nz, ec_no)
theorem ok_X10_isLine (l : Launch) : ex_ok l 0 0 cx_X10_isLine := ⟨ec_fok fo_X10, ec_cok co_X10, so_X10, fun _ _ _ _ h => (by cases h), fun _ h => (by cases h), fun _ h => (by cases h), fun _ h => (by cases h), fun _ _ h => (by cases h)⟩
def sp_X10_isLine : ex_S := ex_sp cx_X10_isLine cX10_isLine 2 (some .boolean) 11
theorem mt_X10_isLine (l : Launch) : ex_Met l yX10_isLine cX10_isLine 2 (some .boolean) 0 0 sp_X10_isLine := ex_inl (by decide) rfl (ok_X10_isLine l)
theorem cw_X10_canCheck : ec_cw yX10_canCheck cX10_canCheck 4 (some .boolean) := ⟨ec_in (i := 1470) (by decide +kernel) rfl, ec_in (i := 68) (by decide +kernel) rfl, by decide, by decide⟩
theorem cv_X10_canCheck : Cond.instanceMethod yX10_canCheck ∈ ec_tb ∧ Cond.selects yX10_canCheck.cls yX10_canCheck yX10_canCheck ∈ ec_tb := ⟨ec_in (i := 1469) (by decide +kernel) rfl, ec_in (i := 43) (by decide +kernel) rfl⟩
def ca_X10_canCheck : Nat → Option (Nat × Option Nat × ex_S) := fun ix => match ix with
  | 212 => some (2, some 10, sp_X10_isLine)
  | 171 => some (3, none, sp_X10_isIn)
  | 164 => some (2, some 10, sp_X10_isModule)
  | 184 => some (2, some 10, sp_X10_isMachine)
  | _ => none
theorem ck_X10_canCheck (l : Launch) : ∀ (ix n : Nat) (rc : Option Nat) (sp : ex_S), ca_X10_canCheck ix = some (n, rc, sp) → ex_cok l RX10 1 22 ix n rc sp := by
  intro ix n rc sp h
  unfold ca_X10_canCheck at h
  split at h
  · cases h; exact ec_cV (mt_X10_isLine l) cw_X10_isLine cv_X10_isLine (by decide) (by decide) (Or.inl (ec_in (i := 1459) (by decide +kernel) rfl)) (T := TX10) (N := 57) rfl (by decide) (by decide +kernel)
  · cases h; exact ec_cS (mt_X10_isIn l) cw_X10_isIn cv_X10_isIn (by decide) (by decide) (Or.inl (ec_in (i := 1303) (by decide +kernel) rfl)) (by decide +kernel)
  · cases h; exact ec_cV (mt_X10_isModule l) cw_X10_isModule cv_X10_isModule (by decide) (by decide) (Or.inl (ec_in (i := 1291) (by decide +kernel) rfl)) (T := TX10) (N := 57) rfl (by decide) (by decide +kernel)
  · cases h; exact ec_cV (mt_X10_isMachine l) cw_X10_isMachine cv_X10_isMachine (by decide) (by decide) (Or.inl (ec_in (i := 1356) (by decide +kernel) rfl)) (T := TX10) (N := 57) rfl (by decide) (by decide +kernel)
  · cases h
def cx_X10_canCheck : ex_K := (RX10, ec_fx fl_X10, ec_cx cl_X10, sl_X10, ca_X10_canCheck, ec_nz, ec_no)
theorem ok_X10_canCheck (l : Launch) : ex_ok l 1 22 cx_X10_canCheck := ⟨ec_fok fo_X10, ec_cok co_X10, so_X10, ck_X10_canCheck l, fun _ h => (by cases h), fun _ h => (by cases h), fun _ h => (by cases h), fun _ _ h => (by cases h)⟩
def sp_X10_canCheck : ex_S := ex_sp cx_X10_canCheck cX10_canCheck 4 (some .boolean) 52
theorem mt_X10_canCheck (l : Launch) : ex_Met l yX10_canCheck cX10_canCheck 4 (some .boolean) 1 22 sp_X10_canCheck := ex_inl (by decide) rfl (ok_X10_canCheck l)
theorem cw_X10_isSo : ec_cw yX10_isSo cX10_isSo 3 (some .boolean) := ⟨ec_in (i := 1474) (by decide +kernel) rfl, ec_in (i := 68) (by decide +kernel) rfl, by decide, by decide⟩
theorem cv_X10_isSo : Cond.instanceMethod yX10_isSo ∈ ec_tb ∧ Cond.selects yX10_isSo.cls yX10_isSo yX10_isSo ∈ ec_tb := ⟨ec_in (i := 1473) (by decide +kernel) rfl, ec_in (i := 44) (by decide +kernel) rfl⟩
def cx_X10_isSo : ex_K := (RX10, ec_fx fl_X10, ec_cx cl_X10, sl_X10, ec_no, ec_nz, ec_no)
theorem ok_X10_isSo (l : Launch) : ex_ok l 0 0 cx_X10_isSo := ⟨ec_fok fo_X10, ec_cok co_X10, so_X10, fun _ _ _ _ h => (by cases h), fun _ h => (by cases h), fun _ h => (by cases h), fun _ h => (by cases h), fun _ _ h => (by cases h)⟩
def sp_X10_isSo : ex_S := ex_sp cx_X10_isSo cX10_isSo 3 (some .boolean) 72
theorem mt_X10_isSo (l : Launch) : ex_Met l yX10_isSo cX10_isSo 3 (some .boolean) 0 0 sp_X10_isSo := ex_inl (by decide) rfl (ok_X10_isSo l)
theorem cw_X10_doLine : ec_cw yX10_doLine cX10_doLine 5 (some .boolean) := ⟨ec_in (i := 1466) (by decide +kernel) rfl, ec_in (i := 68) (by decide +kernel) rfl, by decide, by decide⟩
theorem cv_X10_doLine : Cond.instanceMethod yX10_doLine ∈ ec_tb ∧ Cond.selects yX10_doLine.cls yX10_doLine yX10_doLine ∈ ec_tb := ⟨ec_in (i := 1465) (by decide +kernel) rfl, ec_in (i := 42) (by decide +kernel) rfl⟩
def ca_X10_doLine : Nat → Option (Nat × Option Nat × ex_S) := fun ix => match ix with
  | 215 => some (4, some 10, sp_X10_canCheck)
  | 218 => some (3, some 10, sp_X10_isSo)
  | 184 => some (2, some 10, sp_X10_isMachine)
  | 168 => some (2, some 10, sp_X10_isHatch)
  | 171 => some (3, none, sp_X10_isIn)
  | 177 => some (2, some 10, sp_X10_isPerson)
  | 164 => some (2, some 10, sp_X10_isModule)
  | 180 => some (3, some 10, sp_X10_canGo)
  | 212 => some (2, some 10, sp_X10_isLine)
  | 190 => some (4, some 10, sp_X10_refusesMend)
  | 194 => some (4, some 10, sp_X10_beginMend)
  | _ => none
theorem ck_X10_doLine (l : Launch) : ∀ (ix n : Nat) (rc : Option Nat) (sp : ex_S), ca_X10_doLine ix = some (n, rc, sp) → ex_cok l RX10 2 46 ix n rc sp := by
  intro ix n rc sp h
  unfold ca_X10_doLine at h
  split at h
  · cases h; exact ec_cV (mt_X10_canCheck l) cw_X10_canCheck cv_X10_canCheck (by decide) (by decide) (Or.inl (ec_in (i := 1467) (by decide +kernel) rfl)) (T := TX10) (N := 57) rfl (by decide) (by decide +kernel)
  · cases h; exact ec_cV (mt_X10_isSo l) cw_X10_isSo cv_X10_isSo (by decide) (by decide) (Or.inl (ec_in (i := 1471) (by decide +kernel) rfl)) (T := TX10) (N := 57) rfl (by decide) (by decide +kernel)
  · cases h; exact ec_cV (mt_X10_isMachine l) cw_X10_isMachine cv_X10_isMachine (by decide) (by decide) (Or.inl (ec_in (i := 1356) (by decide +kernel) rfl)) (T := TX10) (N := 57) rfl (by decide) (by decide +kernel)
  · cases h; exact ec_cV (mt_X10_isHatch l) cw_X10_isHatch cv_X10_isHatch (by decide) (by decide) (Or.inl (ec_in (i := 1299) (by decide +kernel) rfl)) (T := TX10) (N := 57) rfl (by decide) (by decide +kernel)
  · cases h; exact ec_cS (mt_X10_isIn l) cw_X10_isIn cv_X10_isIn (by decide) (by decide) (Or.inl (ec_in (i := 1303) (by decide +kernel) rfl)) (by decide +kernel)
  · cases h; exact ec_cV (mt_X10_isPerson l) cw_X10_isPerson cv_X10_isPerson (by decide) (by decide) (Or.inl (ec_in (i := 1332) (by decide +kernel) rfl)) (T := TX10) (N := 57) rfl (by decide) (by decide +kernel)
  · cases h; exact ec_cV (mt_X10_isModule l) cw_X10_isModule cv_X10_isModule (by decide) (by decide) (Or.inl (ec_in (i := 1291) (by decide +kernel) rfl)) (T := TX10) (N := 57) rfl (by decide) (by decide +kernel)
  · cases h; exact ec_cV (mt_X10_canGo l) cw_X10_canGo cv_X10_canGo (by decide) (by decide) (Or.inl (ec_in (i := 1336) (by decide +kernel) rfl)) (T := TX10) (N := 57) rfl (by decide) (by decide +kernel)
  · cases h; exact ec_cV (mt_X10_isLine l) cw_X10_isLine cv_X10_isLine (by decide) (by decide) (Or.inl (ec_in (i := 1459) (by decide +kernel) rfl)) (T := TX10) (N := 57) rfl (by decide) (by decide +kernel)
  · cases h; exact ec_cV (mt_X10_refusesMend l) cw_X10_refusesMend cv_X10_refusesMend (by decide) (by decide) (Or.inl (ec_in (i := 1376) (by decide +kernel) rfl)) (T := TX10) (N := 57) rfl (by decide) (by decide +kernel)
  · cases h; exact ec_cV (mt_X10_beginMend l) cw_X10_beginMend cv_X10_beginMend (by decide) (by decide) (Or.inl (ec_in (i := 1384) (by decide +kernel) rfl)) (T := TX10) (N := 57) rfl (by decide) (by decide +kernel)
  · cases h
def cx_X10_doLine : ex_K := (RX10, ec_fx fl_X10, ec_cx cl_X10, sl_X10, ca_X10_doLine, ec_nz, ec_no)
theorem ok_X10_doLine (l : Launch) : ex_ok l 2 46 cx_X10_doLine := ⟨ec_fok fo_X10, ec_cok co_X10, so_X10, ck_X10_doLine l, fun _ h => (by cases h), fun _ h => (by cases h), fun _ h => (by cases h), fun _ _ h => (by cases h)⟩
def sp_X10_doLine : ex_S := ex_sp cx_X10_doLine cX10_doLine 5 (some .boolean) 151
theorem mt_X10_doLine (l : Launch) : ex_Met l yX10_doLine cX10_doLine 5 (some .boolean) 2 46 sp_X10_doLine := ex_inl (by decide) rfl (ok_X10_doLine l)
theorem cw_X10_runText : ec_cw yX10_runText cX10_runText 2 none := ⟨ec_in (i := 1458) (by decide +kernel) rfl, ec_in (i := 68) (by decide +kernel) rfl, by decide, by decide⟩
theorem cv_X10_runText : Cond.instanceMethod yX10_runText ∈ ec_tb ∧ Cond.selects yX10_runText.cls yX10_runText yX10_runText ∈ ec_tb := ⟨ec_in (i := 1457) (by decide +kernel) rfl, ec_in (i := 40) (by decide +kernel) rfl⟩
def ca_X10_runText : Nat → Option (Nat × Option Nat × ex_S) := fun ix => match ix with
  | 212 => some (2, some 10, sp_X10_isLine)
  | 205 => some (2, some 10, sp_X10_endText)
  | 221 => some (5, some 10, sp_X10_doLine)
  | 225 => some (1, some 10, sp_X10_abortText)
  | _ => none
theorem ck_X10_runText (l : Launch) : ∀ (ix n : Nat) (rc : Option Nat) (sp : ex_S), ca_X10_runText ix = some (n, rc, sp) → ex_cok l RX10 3 70 ix n rc sp := by
  intro ix n rc sp h
  unfold ca_X10_runText at h
  split at h
  · cases h; exact ec_cV (mt_X10_isLine l) cw_X10_isLine cv_X10_isLine (by decide) (by decide) (Or.inl (ec_in (i := 1459) (by decide +kernel) rfl)) (T := TX10) (N := 57) rfl (by decide) (by decide +kernel)
  · cases h; exact ec_cV (mt_X10_endText l) cw_X10_endText cv_X10_endText (by decide) (by decide) (Or.inl (ec_in (i := 1424) (by decide +kernel) rfl)) (T := TX10) (N := 57) rfl (by decide) (by decide +kernel)
  · cases h; exact ec_cV (mt_X10_doLine l) cw_X10_doLine cv_X10_doLine (by decide) (by decide) (Or.inl (ec_in (i := 1463) (by decide +kernel) rfl)) (T := TX10) (N := 57) rfl (by decide) (by decide +kernel)
  · cases h; exact ec_cV (mt_X10_abortText l) cw_X10_abortText cv_X10_abortText (by decide) (by decide) (Or.inl (ec_in (i := 1420) (by decide +kernel) rfl)) (T := TX10) (N := 57) rfl (by decide) (by decide +kernel)
  · cases h
def cx_X10_runText : ex_K := (RX10, ec_fx fl_X10, ec_cx cl_X10, sl_X10, ca_X10_runText, ec_nz, ec_no)
theorem ok_X10_runText (l : Launch) : ex_ok l 3 70 cx_X10_runText := ⟨ec_fok fo_X10, ec_cok co_X10, so_X10, ck_X10_runText l, fun _ h => (by cases h), fun _ h => (by cases h), fun _ h => (by cases h), fun _ _ h => (by cases h)⟩
def sp_X10_runText : ex_S := ex_sp cx_X10_runText cX10_runText 2 none 79
theorem mt_X10_runText (l : Launch) : ex_Met l yX10_runText cX10_runText 2 none 3 70 sp_X10_runText := ex_inl (by decide) rfl (ok_X10_runText l)
theorem cw_X10_line : ec_cw yX10_line cX10_line 5 (some .int) := ⟨ec_in (i := 1403) (by decide +kernel) rfl, ec_in (i := 68) (by decide +kernel) rfl, by decide, by decide⟩
theorem cv_X10_line : Cond.instanceMethod yX10_line ∈ ec_tb ∧ Cond.selects yX10_line.cls yX10_line yX10_line ∈ ec_tb := ⟨ec_in (i := 1401) (by decide +kernel) rfl, ec_in (i := 1402) (by decide +kernel) rfl⟩
def ca_X10_line : Nat → Option (Nat × Option Nat × ex_S) := fun ix => match ix with
  | 171 => some (3, none, sp_X10_isIn)
  | 160 => some (2, some 10, sp_X10_finding)
  | _ => none
theorem ck_X10_line (l : Launch) : ∀ (ix n : Nat) (rc : Option Nat) (sp : ex_S), ca_X10_line ix = some (n, rc, sp) → ex_cok l RX10 1 22 ix n rc sp := by
  intro ix n rc sp h
  unfold ca_X10_line at h
  split at h
  · cases h; exact ec_cS (mt_X10_isIn l) cw_X10_isIn cv_X10_isIn (by decide) (by decide) (Or.inl (ec_in (i := 1303) (by decide +kernel) rfl)) (by decide +kernel)
  · cases h; exact ec_cV (mt_X10_finding l) cw_X10_finding cv_X10_finding (by decide) (by decide) (Or.inl (ec_in (i := 1282) (by decide +kernel) rfl)) (T := TX10) (N := 57) rfl (by decide) (by decide +kernel)
  · cases h
def cx_X10_line : ex_K := (RX10, ec_fx fl_X10, ec_cx cl_X10, sl_X10, ca_X10_line, ec_nz, ec_no)
theorem ok_X10_line (l : Launch) : ex_ok l 1 22 cx_X10_line := ⟨ec_fok fo_X10, ec_cok co_X10, so_X10, ck_X10_line l, fun _ h => (by cases h), fun _ h => (by cases h), fun _ h => (by cases h), fun _ _ h => (by cases h)⟩
def sp_X10_line : ex_S := ex_sp cx_X10_line cX10_line 5 (some .int) 63
theorem mt_X10_line (l : Launch) : ex_Met l yX10_line cX10_line 5 (some .int) 1 22 sp_X10_line := ex_inl (by decide) rfl (ok_X10_line l)
theorem cw_X10_erase : ec_cw yX10_erase cX10_erase 2 (some .int) := ⟨ec_in (i := 1407) (by decide +kernel) rfl, ec_in (i := 68) (by decide +kernel) rfl, by decide, by decide⟩
theorem cv_X10_erase : Cond.instanceMethod yX10_erase ∈ ec_tb ∧ Cond.selects yX10_erase.cls yX10_erase yX10_erase ∈ ec_tb := ⟨ec_in (i := 1405) (by decide +kernel) rfl, ec_in (i := 1406) (by decide +kernel) rfl⟩
def ca_X10_erase : Nat → Option (Nat × Option Nat × ex_S) := fun ix => match ix with
  | 160 => some (2, some 10, sp_X10_finding)
  | _ => none
theorem ck_X10_erase (l : Launch) : ∀ (ix n : Nat) (rc : Option Nat) (sp : ex_S), ca_X10_erase ix = some (n, rc, sp) → ex_cok l RX10 1 21 ix n rc sp := by
  intro ix n rc sp h
  unfold ca_X10_erase at h
  split at h
  · cases h; exact ec_cV (mt_X10_finding l) cw_X10_finding cv_X10_finding (by decide) (by decide) (Or.inl (ec_in (i := 1282) (by decide +kernel) rfl)) (T := TX10) (N := 57) rfl (by decide) (by decide +kernel)
  · cases h
def cx_X10_erase : ex_K := (RX10, ec_fx fl_X10, ec_cx cl_X10, sl_X10, ca_X10_erase, ec_nz, ec_no)
theorem ok_X10_erase (l : Launch) : ex_ok l 1 21 cx_X10_erase := ⟨ec_fok fo_X10, ec_cok co_X10, so_X10, ck_X10_erase l, fun _ h => (by cases h), fun _ h => (by cases h), fun _ h => (by cases h), fun _ _ h => (by cases h)⟩
def sp_X10_erase : ex_S := ex_sp cx_X10_erase cX10_erase 2 (some .int) 19
theorem mt_X10_erase (l : Launch) : ex_Met l yX10_erase cX10_erase 2 (some .int) 1 21 sp_X10_erase := ex_inl (by decide) rfl (ok_X10_erase l)
theorem cw_X10_begin : ec_cw yX10_begin cX10_begin 1 (some .int) := ⟨ec_in (i := 1411) (by decide +kernel) rfl, ec_in (i := 68) (by decide +kernel) rfl, by decide, by decide⟩
theorem cv_X10_begin : Cond.instanceMethod yX10_begin ∈ ec_tb ∧ Cond.selects yX10_begin.cls yX10_begin yX10_begin ∈ ec_tb := ⟨ec_in (i := 1409) (by decide +kernel) rfl, ec_in (i := 1410) (by decide +kernel) rfl⟩
def ca_X10_begin : Nat → Option (Nat × Option Nat × ex_S) := fun ix => match ix with
  | 160 => some (2, some 10, sp_X10_finding)
  | _ => none
theorem ck_X10_begin (l : Launch) : ∀ (ix n : Nat) (rc : Option Nat) (sp : ex_S), ca_X10_begin ix = some (n, rc, sp) → ex_cok l RX10 1 21 ix n rc sp := by
  intro ix n rc sp h
  unfold ca_X10_begin at h
  split at h
  · cases h; exact ec_cV (mt_X10_finding l) cw_X10_finding cv_X10_finding (by decide) (by decide) (Or.inl (ec_in (i := 1282) (by decide +kernel) rfl)) (T := TX10) (N := 57) rfl (by decide) (by decide +kernel)
  · cases h
def cx_X10_begin : ex_K := (RX10, ec_fx fl_X10, ec_cx cl_X10, sl_X10, ca_X10_begin, ec_nz, ec_no)
theorem ok_X10_begin (l : Launch) : ex_ok l 1 21 cx_X10_begin := ⟨ec_fok fo_X10, ec_cok co_X10, so_X10, ck_X10_begin l, fun _ h => (by cases h), fun _ h => (by cases h), fun _ h => (by cases h), fun _ _ h => (by cases h)⟩
def sp_X10_begin : ex_S := ex_sp cx_X10_begin cX10_begin 1 (some .int) 26
theorem mt_X10_begin (l : Launch) : ex_Met l yX10_begin cX10_begin 1 (some .int) 1 21 sp_X10_begin := ex_inl (by decide) rfl (ok_X10_begin l)
theorem cw_X10_halt : ec_cw yX10_halt cX10_halt 2 (some .int) := ⟨ec_in (i := 1415) (by decide +kernel) rfl, ec_in (i := 68) (by decide +kernel) rfl, by decide, by decide⟩
theorem cv_X10_halt : Cond.instanceMethod yX10_halt ∈ ec_tb ∧ Cond.selects yX10_halt.cls yX10_halt yX10_halt ∈ ec_tb := ⟨ec_in (i := 1413) (by decide +kernel) rfl, ec_in (i := 1414) (by decide +kernel) rfl⟩
def ca_X10_halt : Nat → Option (Nat × Option Nat × ex_S) := fun ix => match ix with
  | 171 => some (3, none, sp_X10_isIn)
  | 160 => some (2, some 10, sp_X10_finding)
  | _ => none
theorem ck_X10_halt (l : Launch) : ∀ (ix n : Nat) (rc : Option Nat) (sp : ex_S), ca_X10_halt ix = some (n, rc, sp) → ex_cok l RX10 1 22 ix n rc sp := by
  intro ix n rc sp h
  unfold ca_X10_halt at h
  split at h
  · cases h; exact ec_cS (mt_X10_isIn l) cw_X10_isIn cv_X10_isIn (by decide) (by decide) (Or.inl (ec_in (i := 1303) (by decide +kernel) rfl)) (by decide +kernel)
  · cases h; exact ec_cV (mt_X10_finding l) cw_X10_finding cv_X10_finding (by decide) (by decide) (Or.inl (ec_in (i := 1282) (by decide +kernel) rfl)) (T := TX10) (N := 57) rfl (by decide) (by decide +kernel)
  · cases h
def cx_X10_halt : ex_K := (RX10, ec_fx fl_X10, ec_cx cl_X10, sl_X10, ca_X10_halt, ec_nz, ec_no)
theorem ok_X10_halt (l : Launch) : ex_ok l 1 22 cx_X10_halt := ⟨ec_fok fo_X10, ec_cok co_X10, so_X10, ck_X10_halt l, fun _ h => (by cases h), fun _ h => (by cases h), fun _ h => (by cases h), fun _ _ h => (by cases h)⟩
def sp_X10_halt : ex_S := ex_sp cx_X10_halt cX10_halt 2 (some .int) 32
theorem mt_X10_halt (l : Launch) : ex_Met l yX10_halt cX10_halt 2 (some .int) 1 22 sp_X10_halt := ex_inl (by decide) rfl (ok_X10_halt l)
theorem cw_X10_abort : ec_cw yX10_abort cX10_abort 1 (some .int) := ⟨ec_in (i := 1419) (by decide +kernel) rfl, ec_in (i := 68) (by decide +kernel) rfl, by decide, by decide⟩
theorem cv_X10_abort : Cond.instanceMethod yX10_abort ∈ ec_tb ∧ Cond.selects yX10_abort.cls yX10_abort yX10_abort ∈ ec_tb := ⟨ec_in (i := 1417) (by decide +kernel) rfl, ec_in (i := 1418) (by decide +kernel) rfl⟩
def ca_X10_abort : Nat → Option (Nat × Option Nat × ex_S) := fun ix => match ix with
  | 160 => some (2, some 10, sp_X10_finding)
  | 225 => some (1, some 10, sp_X10_abortText)
  | _ => none
theorem ck_X10_abort (l : Launch) : ∀ (ix n : Nat) (rc : Option Nat) (sp : ex_S), ca_X10_abort ix = some (n, rc, sp) → ex_cok l RX10 2 41 ix n rc sp := by
  intro ix n rc sp h
  unfold ca_X10_abort at h
  split at h
  · cases h; exact ec_cV (mt_X10_finding l) cw_X10_finding cv_X10_finding (by decide) (by decide) (Or.inl (ec_in (i := 1282) (by decide +kernel) rfl)) (T := TX10) (N := 57) rfl (by decide) (by decide +kernel)
  · cases h; exact ec_cV (mt_X10_abortText l) cw_X10_abortText cv_X10_abortText (by decide) (by decide) (Or.inl (ec_in (i := 1420) (by decide +kernel) rfl)) (T := TX10) (N := 57) rfl (by decide) (by decide +kernel)
  · cases h
def cx_X10_abort : ex_K := (RX10, ec_fx fl_X10, ec_cx cl_X10, sl_X10, ca_X10_abort, ec_nz, ec_no)
theorem ok_X10_abort (l : Launch) : ex_ok l 2 41 cx_X10_abort := ⟨ec_fok fo_X10, ec_cok co_X10, so_X10, ck_X10_abort l, fun _ h => (by cases h), fun _ h => (by cases h), fun _ h => (by cases h), fun _ _ h => (by cases h)⟩
def sp_X10_abort : ex_S := ex_sp cx_X10_abort cX10_abort 1 (some .int) 17
theorem mt_X10_abort (l : Launch) : ex_Met l yX10_abort cX10_abort 1 (some .int) 2 41 sp_X10_abort := ex_inl (by decide) rfl (ok_X10_abort l)
theorem cw_X10_text : ec_cw yX10_text cX10_text 2 (some .int) := ⟨ec_in (i := 1431) (by decide +kernel) rfl, ec_in (i := 68) (by decide +kernel) rfl, by decide, by decide⟩
theorem cv_X10_text : Cond.instanceMethod yX10_text ∈ ec_tb ∧ Cond.selects yX10_text.cls yX10_text yX10_text ∈ ec_tb := ⟨ec_in (i := 1429) (by decide +kernel) rfl, ec_in (i := 1430) (by decide +kernel) rfl⟩
def ca_X10_text : Nat → Option (Nat × Option Nat × ex_S) := fun ix => match ix with
  | 171 => some (3, none, sp_X10_isIn)
  | 160 => some (2, some 10, sp_X10_finding)
  | _ => none
theorem ck_X10_text (l : Launch) : ∀ (ix n : Nat) (rc : Option Nat) (sp : ex_S), ca_X10_text ix = some (n, rc, sp) → ex_cok l RX10 1 22 ix n rc sp := by
  intro ix n rc sp h
  unfold ca_X10_text at h
  split at h
  · cases h; exact ec_cS (mt_X10_isIn l) cw_X10_isIn cv_X10_isIn (by decide) (by decide) (Or.inl (ec_in (i := 1303) (by decide +kernel) rfl)) (by decide +kernel)
  · cases h; exact ec_cV (mt_X10_finding l) cw_X10_finding cv_X10_finding (by decide) (by decide) (Or.inl (ec_in (i := 1282) (by decide +kernel) rfl)) (T := TX10) (N := 57) rfl (by decide) (by decide +kernel)
  · cases h
def cx_X10_text : ex_K := (RX10, ec_fx fl_X10, ec_cx cl_X10, sl_X10, ca_X10_text, ec_nz, ec_no)
theorem ok_X10_text (l : Launch) : ex_ok l 1 22 cx_X10_text := ⟨ec_fok fo_X10, ec_cok co_X10, so_X10, ck_X10_text l, fun _ h => (by cases h), fun _ h => (by cases h), fun _ h => (by cases h), fun _ _ h => (by cases h)⟩
def sp_X10_text : ex_S := ex_sp cx_X10_text cX10_text 2 (some .int) 17
theorem mt_X10_text (l : Launch) : ex_Met l yX10_text cX10_text 2 (some .int) 1 22 sp_X10_text := ex_inl (by decide) rfl (ok_X10_text l)
theorem cw_X10_mendAll : ec_cw yX10_mendAll cX10_mendAll 2 none := ⟨ec_in (i := 1478) (by decide +kernel) rfl, ec_in (i := 68) (by decide +kernel) rfl, by decide, by decide⟩
theorem cv_X10_mendAll : Cond.instanceMethod yX10_mendAll ∈ ec_tb ∧ Cond.selects yX10_mendAll.cls yX10_mendAll yX10_mendAll ∈ ec_tb := ⟨ec_in (i := 1477) (by decide +kernel) rfl, ec_in (i := 45) (by decide +kernel) rfl⟩
def cx_X10_mendAll : ex_K := (RX10, ec_fx fl_X10, ec_cx cl_X10, sl_X10, ec_no, ec_nz, ec_no)
theorem ok_X10_mendAll (l : Launch) : ex_ok l 0 0 cx_X10_mendAll := ⟨ec_fok fo_X10, ec_cok co_X10, so_X10, fun _ _ _ _ h => (by cases h), fun _ h => (by cases h), fun _ h => (by cases h), fun _ h => (by cases h), fun _ _ h => (by cases h)⟩
def sp_X10_mendAll : ex_S := ex_sp cx_X10_mendAll cX10_mendAll 2 none 400
theorem mt_X10_mendAll (l : Launch) : ex_Met l yX10_mendAll cX10_mendAll 2 none 0 0 sp_X10_mendAll := ex_inl (by decide) rfl (ok_X10_mendAll l)
theorem cw_X10_feedAll : ec_cw yX10_feedAll cX10_feedAll 4 none := ⟨ec_in (i := 1482) (by decide +kernel) rfl, ec_in (i := 68) (by decide +kernel) rfl, by decide, by decide⟩
theorem cv_X10_feedAll : Cond.instanceMethod yX10_feedAll ∈ ec_tb ∧ Cond.selects yX10_feedAll.cls yX10_feedAll yX10_feedAll ∈ ec_tb := ⟨ec_in (i := 1481) (by decide +kernel) rfl, ec_in (i := 46) (by decide +kernel) rfl⟩
def ca_X10_feedAll : Nat → Option (Nat × Option Nat × ex_S) := fun ix => match ix with
  | 198 => some (2, some 10, sp_X10_canShed)
  | _ => none
theorem ck_X10_feedAll (l : Launch) : ∀ (ix n : Nat) (rc : Option Nat) (sp : ex_S), ca_X10_feedAll ix = some (n, rc, sp) → ex_cok l RX10 1 21 ix n rc sp := by
  intro ix n rc sp h
  unfold ca_X10_feedAll at h
  split at h
  · cases h; exact ec_cV (mt_X10_canShed l) cw_X10_canShed cv_X10_canShed (by decide) (by decide) (Or.inl (ec_in (i := 1392) (by decide +kernel) rfl)) (T := TX10) (N := 57) rfl (by decide) (by decide +kernel)
  · cases h
def cx_X10_feedAll : ex_K := (RX10, ec_fx fl_X10, ec_cx cl_X10, sl_X10, ca_X10_feedAll, ec_nz, ec_no)
theorem ok_X10_feedAll (l : Launch) : ex_ok l 1 21 cx_X10_feedAll := ⟨ec_fok fo_X10, ec_cok co_X10, so_X10, ck_X10_feedAll l, fun _ h => (by cases h), fun _ h => (by cases h), fun _ h => (by cases h), fun _ _ h => (by cases h)⟩
def sp_X10_feedAll : ex_S := ex_sp cx_X10_feedAll cX10_feedAll 4 none 400
theorem mt_X10_feedAll (l : Launch) : ex_Met l yX10_feedAll cX10_feedAll 4 none 1 21 sp_X10_feedAll := ex_inl (by decide) rfl (ok_X10_feedAll l)
theorem cw_X10_lesser : ec_cw yX10_lesser cX10_lesser 2 (some .int) := ⟨ec_in (i := 1438) (by decide +kernel) rfl, ec_in (i := 68) (by decide +kernel) rfl, by decide, by decide⟩
theorem cv_X10_lesser : Cond.static yX10_lesser ∈ ec_tb := ec_in (i := 1437) (by decide +kernel) rfl
def cx_X10_lesser : ex_K := (RX10, ec_fx fl_X10, ec_cx cl_X10, sl_X10, ec_no, ec_nz, ec_no)
theorem ok_X10_lesser (l : Launch) : ex_ok l 0 0 cx_X10_lesser := ⟨ec_fok fo_X10, ec_cok co_X10, so_X10, fun _ _ _ _ h => (by cases h), fun _ h => (by cases h), fun _ h => (by cases h), fun _ h => (by cases h), fun _ _ h => (by cases h)⟩
def sp_X10_lesser : ex_S := ex_sp cx_X10_lesser cX10_lesser 2 (some .int) 8
theorem mt_X10_lesser (l : Launch) : ex_Met l yX10_lesser cX10_lesser 2 (some .int) 0 0 sp_X10_lesser := ex_inl (by decide) rfl (ok_X10_lesser l)
theorem cw_X10_workOf : ec_cw yX10_workOf cX10_workOf 4 none := ⟨ec_in (i := 1486) (by decide +kernel) rfl, ec_in (i := 68) (by decide +kernel) rfl, by decide, by decide⟩
theorem cv_X10_workOf : Cond.instanceMethod yX10_workOf ∈ ec_tb ∧ Cond.selects yX10_workOf.cls yX10_workOf yX10_workOf ∈ ec_tb := ⟨ec_in (i := 1485) (by decide +kernel) rfl, ec_in (i := 47) (by decide +kernel) rfl⟩
def ca_X10_workOf : Nat → Option (Nat × Option Nat × ex_S) := fun ix => match ix with
  | 231 => some (2, none, sp_X10_lesser)
  | _ => none
theorem ck_X10_workOf (l : Launch) : ∀ (ix n : Nat) (rc : Option Nat) (sp : ex_S), ca_X10_workOf ix = some (n, rc, sp) → ex_cok l RX10 1 21 ix n rc sp := by
  intro ix n rc sp h
  unfold ca_X10_workOf at h
  split at h
  · cases h; exact ec_cS (mt_X10_lesser l) cw_X10_lesser cv_X10_lesser (by decide) (by decide) (Or.inl (ec_in (i := 1436) (by decide +kernel) rfl)) (by decide +kernel)
  · cases h
def cx_X10_workOf : ex_K := (RX10, ec_fx fl_X10, ec_cx cl_X10, sl_X10, ca_X10_workOf, ec_nz, ec_no)
theorem ok_X10_workOf (l : Launch) : ex_ok l 1 21 cx_X10_workOf := ⟨ec_fok fo_X10, ec_cok co_X10, so_X10, ck_X10_workOf l, fun _ h => (by cases h), fun _ h => (by cases h), fun _ h => (by cases h), fun _ _ h => (by cases h)⟩
def sp_X10_workOf : ex_S := ex_sp cx_X10_workOf cX10_workOf 4 none 241
theorem mt_X10_workOf (l : Launch) : ex_Met l yX10_workOf cX10_workOf 4 none 1 21 sp_X10_workOf := ex_inl (by decide) rfl (ok_X10_workOf l)
theorem cw_X10_breathe : ec_cw yX10_breathe cX10_breathe 5 none := ⟨ec_in (i := 1490) (by decide +kernel) rfl, ec_in (i := 68) (by decide +kernel) rfl, by decide, by decide⟩
theorem cv_X10_breathe : Cond.instanceMethod yX10_breathe ∈ ec_tb ∧ Cond.selects yX10_breathe.cls yX10_breathe yX10_breathe ∈ ec_tb := ⟨ec_in (i := 1489) (by decide +kernel) rfl, ec_in (i := 48) (by decide +kernel) rfl⟩
def ca_X10_breathe : Nat → Option (Nat × Option Nat × ex_S) := fun ix => match ix with
  | 231 => some (2, none, sp_X10_lesser)
  | _ => none
theorem ck_X10_breathe (l : Launch) : ∀ (ix n : Nat) (rc : Option Nat) (sp : ex_S), ca_X10_breathe ix = some (n, rc, sp) → ex_cok l RX10 1 21 ix n rc sp := by
  intro ix n rc sp h
  unfold ca_X10_breathe at h
  split at h
  · cases h; exact ec_cS (mt_X10_lesser l) cw_X10_lesser cv_X10_lesser (by decide) (by decide) (Or.inl (ec_in (i := 1436) (by decide +kernel) rfl)) (by decide +kernel)
  · cases h
def cx_X10_breathe : ex_K := (RX10, ec_fx fl_X10, ec_cx cl_X10, sl_X10, ca_X10_breathe, ec_nz, ec_no)
theorem ok_X10_breathe (l : Launch) : ex_ok l 1 21 cx_X10_breathe := ⟨ec_fok fo_X10, ec_cok co_X10, so_X10, ck_X10_breathe l, fun _ h => (by cases h), fun _ h => (by cases h), fun _ h => (by cases h), fun _ _ h => (by cases h)⟩
def sp_X10_breathe : ex_S := ex_sp cx_X10_breathe cX10_breathe 5 none 150
theorem mt_X10_breathe (l : Launch) : ex_Met l yX10_breathe cX10_breathe 5 none 1 21 sp_X10_breathe := ex_inl (by decide) rfl (ok_X10_breathe l)
theorem cw_X10_leakAll : ec_cw yX10_leakAll cX10_leakAll 3 none := ⟨ec_in (i := 1494) (by decide +kernel) rfl, ec_in (i := 68) (by decide +kernel) rfl, by decide, by decide⟩
theorem cv_X10_leakAll : Cond.instanceMethod yX10_leakAll ∈ ec_tb ∧ Cond.selects yX10_leakAll.cls yX10_leakAll yX10_leakAll ∈ ec_tb := ⟨ec_in (i := 1493) (by decide +kernel) rfl, ec_in (i := 49) (by decide +kernel) rfl⟩
def cx_X10_leakAll : ex_K := (RX10, ec_fx fl_X10, ec_cx cl_X10, sl_X10, ec_no, ec_nz, ll_X10)
theorem ok_X10_leakAll (l : Launch) : ex_ok l 0 0 cx_X10_leakAll := ⟨ec_fok fo_X10, ec_cok co_X10, so_X10, fun _ _ _ _ h => (by cases h), fun _ h => (by cases h), fun _ h => (by cases h), fun _ h => (by cases h), lo_X10⟩
def sp_X10_leakAll : ex_S := ex_sp cx_X10_leakAll cX10_leakAll 3 none 400
theorem mt_X10_leakAll (l : Launch) : ex_Met l yX10_leakAll cX10_leakAll 3 none 0 0 sp_X10_leakAll := ex_inl (by decide) rfl (ok_X10_leakAll l)
theorem cw_X10_mixAll : ec_cw yX10_mixAll cX10_mixAll 4 none := ⟨ec_in (i := 1499) (by decide +kernel) rfl, ec_in (i := 68) (by decide +kernel) rfl, by decide, by decide⟩
theorem cv_X10_mixAll : Cond.instanceMethod yX10_mixAll ∈ ec_tb ∧ Cond.selects yX10_mixAll.cls yX10_mixAll yX10_mixAll ∈ ec_tb := ⟨ec_in (i := 1498) (by decide +kernel) rfl, ec_in (i := 50) (by decide +kernel) rfl⟩
def cx_X10_mixAll : ex_K := (RX10, ec_fx fl_X10, ec_cx cl_X10, sl_X10, ec_no, ec_nz, ec_no)
theorem ok_X10_mixAll (l : Launch) : ex_ok l 0 0 cx_X10_mixAll := ⟨ec_fok fo_X10, ec_cok co_X10, so_X10, fun _ _ _ _ h => (by cases h), fun _ h => (by cases h), fun _ h => (by cases h), fun _ h => (by cases h), fun _ _ h => (by cases h)⟩
def sp_X10_mixAll : ex_S := ex_sp cx_X10_mixAll cX10_mixAll 4 none 400
theorem mt_X10_mixAll (l : Launch) : ex_Met l yX10_mixAll cX10_mixAll 4 none 0 0 sp_X10_mixAll := ex_inl (by decide) rfl (ok_X10_mixAll l)
theorem cw_X10_brokenAt : ec_cw yX10_brokenAt cX10_brokenAt 4 (some .int) := ⟨ec_in (i := 1503) (by decide +kernel) rfl, ec_in (i := 68) (by decide +kernel) rfl, by decide, by decide⟩
theorem cv_X10_brokenAt : Cond.instanceMethod yX10_brokenAt ∈ ec_tb ∧ Cond.selects yX10_brokenAt.cls yX10_brokenAt yX10_brokenAt ∈ ec_tb := ⟨ec_in (i := 1502) (by decide +kernel) rfl, ec_in (i := 51) (by decide +kernel) rfl⟩
def cx_X10_brokenAt : ex_K := (RX10, ec_fx fl_X10, ec_cx cl_X10, sl_X10, ec_no, ec_nz, ec_no)
theorem ok_X10_brokenAt (l : Launch) : ex_ok l 0 0 cx_X10_brokenAt := ⟨ec_fok fo_X10, ec_cok co_X10, so_X10, fun _ _ _ _ h => (by cases h), fun _ h => (by cases h), fun _ h => (by cases h), fun _ h => (by cases h), fun _ _ h => (by cases h)⟩
def sp_X10_brokenAt : ex_S := ex_sp cx_X10_brokenAt cX10_brokenAt 4 (some .int) 400
theorem mt_X10_brokenAt (l : Launch) : ex_Met l yX10_brokenAt cX10_brokenAt 4 (some .int) 0 0 sp_X10_brokenAt := ex_inl (by decide) rfl (ok_X10_brokenAt l)
theorem cw_X10_tick : ec_cw yX10_tick cX10_tick 2 (some .boolean) := ⟨ec_in (i := 1454) (by decide +kernel) rfl, ec_in (i := 68) (by decide +kernel) rfl, by decide, by decide⟩
theorem cv_X10_tick : Cond.instanceMethod yX10_tick ∈ ec_tb ∧ Cond.selects yX10_tick.cls yX10_tick yX10_tick ∈ ec_tb := ⟨ec_in (i := 1453) (by decide +kernel) rfl, ec_in (i := 39) (by decide +kernel) rfl⟩
def ca_X10_tick : Nat → Option (Nat × Option Nat × ex_S) := fun ix => match ix with
  | 237 => some (1, some 10, sp_X10_runText)
  | 240 => some (1, some 10, sp_X10_mendAll)
  | 243 => some (1, some 10, sp_X10_feedAll)
  | 246 => some (2, some 10, sp_X10_workOf)
  | 249 => some (2, some 10, sp_X10_breathe)
  | 252 => some (1, some 10, sp_X10_leakAll)
  | 255 => some (1, some 10, sp_X10_mixAll)
  | 258 => some (1, some 10, sp_X10_brokenAt)
  | _ => none
theorem ck_X10_tick (l : Launch) : ∀ (ix n : Nat) (rc : Option Nat) (sp : ex_S), ca_X10_tick ix = some (n, rc, sp) → ex_cok l RX10 4 91 ix n rc sp := by
  intro ix n rc sp h
  unfold ca_X10_tick at h
  split at h
  · cases h; exact ec_cV (mt_X10_runText l) cw_X10_runText cv_X10_runText (by decide) (by decide) (Or.inl (ec_in (i := 1455) (by decide +kernel) rfl)) (T := TX10) (N := 57) rfl (by decide) (by decide +kernel)
  · cases h; exact ec_cV (mt_X10_mendAll l) cw_X10_mendAll cv_X10_mendAll (by decide) (by decide) (Or.inl (ec_in (i := 1475) (by decide +kernel) rfl)) (T := TX10) (N := 57) rfl (by decide) (by decide +kernel)
  · cases h; exact ec_cV (mt_X10_feedAll l) cw_X10_feedAll cv_X10_feedAll (by decide) (by decide) (Or.inl (ec_in (i := 1479) (by decide +kernel) rfl)) (T := TX10) (N := 57) rfl (by decide) (by decide +kernel)
  · cases h; exact ec_cV (mt_X10_workOf l) cw_X10_workOf cv_X10_workOf (by decide) (by decide) (Or.inl (ec_in (i := 1483) (by decide +kernel) rfl)) (T := TX10) (N := 57) rfl (by decide) (by decide +kernel)
  · cases h; exact ec_cV (mt_X10_breathe l) cw_X10_breathe cv_X10_breathe (by decide) (by decide) (Or.inl (ec_in (i := 1487) (by decide +kernel) rfl)) (T := TX10) (N := 57) rfl (by decide) (by decide +kernel)
  · cases h; exact ec_cV (mt_X10_leakAll l) cw_X10_leakAll cv_X10_leakAll (by decide) (by decide) (Or.inl (ec_in (i := 1491) (by decide +kernel) rfl)) (T := TX10) (N := 57) rfl (by decide) (by decide +kernel)
  · cases h; exact ec_cV (mt_X10_mixAll l) cw_X10_mixAll cv_X10_mixAll (by decide) (by decide) (Or.inl (ec_in (i := 1496) (by decide +kernel) rfl)) (T := TX10) (N := 57) rfl (by decide) (by decide +kernel)
  · cases h; exact ec_cV (mt_X10_brokenAt l) cw_X10_brokenAt cv_X10_brokenAt (by decide) (by decide) (Or.inl (ec_in (i := 1500) (by decide +kernel) rfl)) (T := TX10) (N := 57) rfl (by decide) (by decide +kernel)
  · cases h
def cx_X10_tick : ex_K := (RX10, ec_fx fl_X10, ec_cx cl_X10, sl_X10, ca_X10_tick, ec_nz, ec_no)
theorem ok_X10_tick (l : Launch) : ex_ok l 4 91 cx_X10_tick := ⟨ec_fok fo_X10, ec_cok co_X10, so_X10, ck_X10_tick l, fun _ h => (by cases h), fun _ h => (by cases h), fun _ h => (by cases h), fun _ _ h => (by cases h)⟩
def sp_X10_tick : ex_S := ex_sp cx_X10_tick cX10_tick 2 (some .boolean) 400
theorem mt_X10_tick (l : Launch) : ex_Met l yX10_tick cX10_tick 2 (some .boolean) 4 91 sp_X10_tick := ex_inl (by decide) rfl (ok_X10_tick l)
theorem cw_X10_sun : ec_cw yX10_sun cX10_sun 3 (some .int) := ⟨ec_in (i := 1435) (by decide +kernel) rfl, ec_in (i := 68) (by decide +kernel) rfl, by decide, by decide⟩
theorem cv_X10_sun : Cond.instanceMethod yX10_sun ∈ ec_tb ∧ Cond.selects yX10_sun.cls yX10_sun yX10_sun ∈ ec_tb := ⟨ec_in (i := 1433) (by decide +kernel) rfl, ec_in (i := 1434) (by decide +kernel) rfl⟩
def ca_X10_sun : Nat → Option (Nat × Option Nat × ex_S) := fun ix => match ix with
  | 171 => some (3, none, sp_X10_isIn)
  | 160 => some (2, some 10, sp_X10_finding)
  | 231 => some (2, none, sp_X10_lesser)
  | _ => none
theorem ck_X10_sun (l : Launch) : ∀ (ix n : Nat) (rc : Option Nat) (sp : ex_S), ca_X10_sun ix = some (n, rc, sp) → ex_cok l RX10 1 22 ix n rc sp := by
  intro ix n rc sp h
  unfold ca_X10_sun at h
  split at h
  · cases h; exact ec_cS (mt_X10_isIn l) cw_X10_isIn cv_X10_isIn (by decide) (by decide) (Or.inl (ec_in (i := 1303) (by decide +kernel) rfl)) (by decide +kernel)
  · cases h; exact ec_cV (mt_X10_finding l) cw_X10_finding cv_X10_finding (by decide) (by decide) (Or.inl (ec_in (i := 1282) (by decide +kernel) rfl)) (T := TX10) (N := 57) rfl (by decide) (by decide +kernel)
  · cases h; exact ec_cS (mt_X10_lesser l) cw_X10_lesser cv_X10_lesser (by decide) (by decide) (Or.inl (ec_in (i := 1436) (by decide +kernel) rfl)) (by decide +kernel)
  · cases h
def cx_X10_sun : ex_K := (RX10, ec_fx fl_X10, ec_cx cl_X10, sl_X10, ca_X10_sun, ec_nz, ec_no)
theorem ok_X10_sun (l : Launch) : ex_ok l 1 22 cx_X10_sun := ⟨ec_fok fo_X10, ec_cok co_X10, so_X10, ck_X10_sun l, fun _ h => (by cases h), fun _ h => (by cases h), fun _ h => (by cases h), fun _ _ h => (by cases h)⟩
def sp_X10_sun : ex_S := ex_sp cx_X10_sun cX10_sun 3 (some .int) 37
theorem mt_X10_sun (l : Launch) : ex_Met l yX10_sun cX10_sun 3 (some .int) 1 22 sp_X10_sun := ex_inl (by decide) rfl (ok_X10_sun l)
theorem cw_X10_battery : ec_cw yX10_battery cX10_battery 3 (some .int) := ⟨ec_in (i := 1442) (by decide +kernel) rfl, ec_in (i := 68) (by decide +kernel) rfl, by decide, by decide⟩
theorem cv_X10_battery : Cond.instanceMethod yX10_battery ∈ ec_tb ∧ Cond.selects yX10_battery.cls yX10_battery yX10_battery ∈ ec_tb := ⟨ec_in (i := 1440) (by decide +kernel) rfl, ec_in (i := 1441) (by decide +kernel) rfl⟩
def ca_X10_battery : Nat → Option (Nat × Option Nat × ex_S) := fun ix => match ix with
  | 171 => some (3, none, sp_X10_isIn)
  | 160 => some (2, some 10, sp_X10_finding)
  | _ => none
theorem ck_X10_battery (l : Launch) : ∀ (ix n : Nat) (rc : Option Nat) (sp : ex_S), ca_X10_battery ix = some (n, rc, sp) → ex_cok l RX10 1 22 ix n rc sp := by
  intro ix n rc sp h
  unfold ca_X10_battery at h
  split at h
  · cases h; exact ec_cS (mt_X10_isIn l) cw_X10_isIn cv_X10_isIn (by decide) (by decide) (Or.inl (ec_in (i := 1303) (by decide +kernel) rfl)) (by decide +kernel)
  · cases h; exact ec_cV (mt_X10_finding l) cw_X10_finding cv_X10_finding (by decide) (by decide) (Or.inl (ec_in (i := 1282) (by decide +kernel) rfl)) (T := TX10) (N := 57) rfl (by decide) (by decide +kernel)
  · cases h
def cx_X10_battery : ex_K := (RX10, ec_fx fl_X10, ec_cx cl_X10, sl_X10, ca_X10_battery, ec_nz, ec_no)
theorem ok_X10_battery (l : Launch) : ex_ok l 1 22 cx_X10_battery := ⟨ec_fok fo_X10, ec_cok co_X10, so_X10, ck_X10_battery l, fun _ h => (by cases h), fun _ h => (by cases h), fun _ h => (by cases h), fun _ _ h => (by cases h)⟩
def sp_X10_battery : ex_S := ex_sp cx_X10_battery cX10_battery 3 (some .int) 27
theorem mt_X10_battery (l : Launch) : ex_Met l yX10_battery cX10_battery 3 (some .int) 1 22 sp_X10_battery := ex_inl (by decide) rfl (ok_X10_battery l)
theorem cw_X10_bounds : ec_cw yX10_bounds cX10_bounds 4 (some .int) := ⟨ec_in (i := 1446) (by decide +kernel) rfl, ec_in (i := 68) (by decide +kernel) rfl, by decide, by decide⟩
theorem cv_X10_bounds : Cond.instanceMethod yX10_bounds ∈ ec_tb ∧ Cond.selects yX10_bounds.cls yX10_bounds yX10_bounds ∈ ec_tb := ⟨ec_in (i := 1444) (by decide +kernel) rfl, ec_in (i := 1445) (by decide +kernel) rfl⟩
def ca_X10_bounds : Nat → Option (Nat × Option Nat × ex_S) := fun ix => match ix with
  | 171 => some (3, none, sp_X10_isIn)
  | 160 => some (2, some 10, sp_X10_finding)
  | _ => none
theorem ck_X10_bounds (l : Launch) : ∀ (ix n : Nat) (rc : Option Nat) (sp : ex_S), ca_X10_bounds ix = some (n, rc, sp) → ex_cok l RX10 1 22 ix n rc sp := by
  intro ix n rc sp h
  unfold ca_X10_bounds at h
  split at h
  · cases h; exact ec_cS (mt_X10_isIn l) cw_X10_isIn cv_X10_isIn (by decide) (by decide) (Or.inl (ec_in (i := 1303) (by decide +kernel) rfl)) (by decide +kernel)
  · cases h; exact ec_cV (mt_X10_finding l) cw_X10_finding cv_X10_finding (by decide) (by decide) (Or.inl (ec_in (i := 1282) (by decide +kernel) rfl)) (T := TX10) (N := 57) rfl (by decide) (by decide +kernel)
  · cases h
def cx_X10_bounds : ex_K := (RX10, ec_fx fl_X10, ec_cx cl_X10, sl_X10, ca_X10_bounds, ec_nz, ec_no)
theorem ok_X10_bounds (l : Launch) : ex_ok l 1 22 cx_X10_bounds := ⟨ec_fok fo_X10, ec_cok co_X10, so_X10, ck_X10_bounds l, fun _ h => (by cases h), fun _ h => (by cases h), fun _ h => (by cases h), fun _ _ h => (by cases h)⟩
def sp_X10_bounds : ex_S := ex_sp cx_X10_bounds cX10_bounds 4 (some .int) 31
theorem mt_X10_bounds (l : Launch) : ex_Met l yX10_bounds cX10_bounds 4 (some .int) 1 22 sp_X10_bounds := ex_inl (by decide) rfl (ok_X10_bounds l)
theorem cw_X10_ticks : ec_cw yX10_ticks cX10_ticks 4 (some .int) := ⟨ec_in (i := 1450) (by decide +kernel) rfl, ec_in (i := 68) (by decide +kernel) rfl, by decide, by decide⟩
theorem cv_X10_ticks : Cond.instanceMethod yX10_ticks ∈ ec_tb ∧ Cond.selects yX10_ticks.cls yX10_ticks yX10_ticks ∈ ec_tb := ⟨ec_in (i := 1448) (by decide +kernel) rfl, ec_in (i := 1449) (by decide +kernel) rfl⟩
def ca_X10_ticks : Nat → Option (Nat × Option Nat × ex_S) := fun ix => match ix with
  | 171 => some (3, none, sp_X10_isIn)
  | 160 => some (2, some 10, sp_X10_finding)
  | 262 => some (1, some 10, sp_X10_tick)
  | _ => none
theorem ck_X10_ticks (l : Launch) : ∀ (ix n : Nat) (rc : Option Nat) (sp : ex_S), ca_X10_ticks ix = some (n, rc, sp) → ex_cok l RX10 5 112 ix n rc sp := by
  intro ix n rc sp h
  unfold ca_X10_ticks at h
  split at h
  · cases h; exact ec_cS (mt_X10_isIn l) cw_X10_isIn cv_X10_isIn (by decide) (by decide) (Or.inl (ec_in (i := 1303) (by decide +kernel) rfl)) (by decide +kernel)
  · cases h; exact ec_cV (mt_X10_finding l) cw_X10_finding cv_X10_finding (by decide) (by decide) (Or.inl (ec_in (i := 1282) (by decide +kernel) rfl)) (T := TX10) (N := 57) rfl (by decide) (by decide +kernel)
  · cases h; exact ec_cV (mt_X10_tick l) cw_X10_tick cv_X10_tick (by decide) (by decide) (Or.inl (ec_in (i := 1451) (by decide +kernel) rfl)) (T := TX10) (N := 57) rfl (by decide) (by decide +kernel)
  · cases h
def cx_X10_ticks : ex_K := (RX10, ec_fx fl_X10, ec_cx cl_X10, sl_X10, ca_X10_ticks, ec_nz, ec_no)
theorem ok_X10_ticks (l : Launch) : ex_ok l 5 112 cx_X10_ticks := ⟨ec_fok fo_X10, ec_cok co_X10, so_X10, ck_X10_ticks l, fun _ h => (by cases h), fun _ h => (by cases h), fun _ h => (by cases h), fun _ _ h => (by cases h)⟩
def sp_X10_ticks : ex_S := ex_sp cx_X10_ticks cX10_ticks 4 (some .int) 400
theorem mt_X10_ticks (l : Launch) : ex_Met l yX10_ticks cX10_ticks 4 (some .int) 5 112 sp_X10_ticks := ex_inl (by decide) rfl (ok_X10_ticks l)
theorem cw_X10_broke : ec_cw yX10_broke cX10_broke 2 (some .int) := ⟨ec_in (i := 1507) (by decide +kernel) rfl, ec_in (i := 68) (by decide +kernel) rfl, by decide, by decide⟩
theorem cv_X10_broke : Cond.instanceMethod yX10_broke ∈ ec_tb ∧ Cond.selects yX10_broke.cls yX10_broke yX10_broke ∈ ec_tb := ⟨ec_in (i := 1505) (by decide +kernel) rfl, ec_in (i := 1506) (by decide +kernel) rfl⟩
def ca_X10_broke : Nat → Option (Nat × Option Nat × ex_S) := fun ix => match ix with
  | 171 => some (3, none, sp_X10_isIn)
  | 160 => some (2, some 10, sp_X10_finding)
  | _ => none
theorem ck_X10_broke (l : Launch) : ∀ (ix n : Nat) (rc : Option Nat) (sp : ex_S), ca_X10_broke ix = some (n, rc, sp) → ex_cok l RX10 1 22 ix n rc sp := by
  intro ix n rc sp h
  unfold ca_X10_broke at h
  split at h
  · cases h; exact ec_cS (mt_X10_isIn l) cw_X10_isIn cv_X10_isIn (by decide) (by decide) (Or.inl (ec_in (i := 1303) (by decide +kernel) rfl)) (by decide +kernel)
  · cases h; exact ec_cV (mt_X10_finding l) cw_X10_finding cv_X10_finding (by decide) (by decide) (Or.inl (ec_in (i := 1282) (by decide +kernel) rfl)) (T := TX10) (N := 57) rfl (by decide) (by decide +kernel)
  · cases h
def cx_X10_broke : ex_K := (RX10, ec_fx fl_X10, ec_cx cl_X10, sl_X10, ca_X10_broke, ec_nz, ec_no)
theorem ok_X10_broke (l : Launch) : ex_ok l 1 22 cx_X10_broke := ⟨ec_fok fo_X10, ec_cok co_X10, so_X10, ck_X10_broke l, fun _ h => (by cases h), fun _ h => (by cases h), fun _ h => (by cases h), fun _ _ h => (by cases h)⟩
def sp_X10_broke : ex_S := ex_sp cx_X10_broke cX10_broke 2 (some .int) 26
theorem mt_X10_broke (l : Launch) : ex_Met l yX10_broke cX10_broke 2 (some .int) 1 22 sp_X10_broke := ex_inl (by decide) rfl (ok_X10_broke l)
theorem cw_X10_lays : ec_cw yX10_lays cX10_lays 4 none := ⟨ec_in (i := 1519) (by decide +kernel) rfl, ec_in (i := 68) (by decide +kernel) rfl, by decide, by decide⟩
theorem cv_X10_lays : Cond.instanceMethod yX10_lays ∈ ec_tb ∧ Cond.selects yX10_lays.cls yX10_lays yX10_lays ∈ ec_tb := ⟨ec_in (i := 1518) (by decide +kernel) rfl, ec_in (i := 53) (by decide +kernel) rfl⟩
def cx_X10_lays : ex_K := (RX10, ec_fx fl_X10, ec_cx cl_X10, sl_X10, ec_no, ec_nz, ec_no)
theorem ok_X10_lays (l : Launch) : ex_ok l 0 0 cx_X10_lays := ⟨ec_fok fo_X10, ec_cok co_X10, so_X10, fun _ _ _ _ h => (by cases h), fun _ h => (by cases h), fun _ h => (by cases h), fun _ h => (by cases h), fun _ _ h => (by cases h)⟩
def sp_X10_lays : ex_S := ex_sp cx_X10_lays cX10_lays 4 none 400
theorem mt_X10_lays (l : Launch) : ex_Met l yX10_lays cX10_lays 4 none 0 0 sp_X10_lays := ex_inl (by decide) rfl (ok_X10_lays l)
theorem cw_X10_layAside : ec_cw yX10_layAside cX10_layAside 2 none := ⟨ec_in (i := 1515) (by decide +kernel) rfl, ec_in (i := 68) (by decide +kernel) rfl, by decide, by decide⟩
theorem cv_X10_layAside : Cond.instanceMethod yX10_layAside ∈ ec_tb ∧ Cond.selects yX10_layAside.cls yX10_layAside yX10_layAside ∈ ec_tb := ⟨ec_in (i := 1514) (by decide +kernel) rfl, ec_in (i := 52) (by decide +kernel) rfl⟩
def ca_X10_layAside : Nat → Option (Nat × Option Nat × ex_S) := fun ix => match ix with
  | 269 => some (3, some 10, sp_X10_lays)
  | _ => none
theorem ck_X10_layAside (l : Launch) : ∀ (ix n : Nat) (rc : Option Nat) (sp : ex_S), ca_X10_layAside ix = some (n, rc, sp) → ex_cok l RX10 1 23 ix n rc sp := by
  intro ix n rc sp h
  unfold ca_X10_layAside at h
  split at h
  · cases h; exact ec_cV (mt_X10_lays l) cw_X10_lays cv_X10_lays (by decide) (by decide) (Or.inl (ec_in (i := 1516) (by decide +kernel) rfl)) (T := TX10) (N := 57) rfl (by decide) (by decide +kernel)
  · cases h
def cx_X10_layAside : ex_K := (RX10, ec_fx fl_X10, ec_cx cl_X10, sl_X10, ca_X10_layAside, ec_nz, ec_no)
theorem ok_X10_layAside (l : Launch) : ex_ok l 1 23 cx_X10_layAside := ⟨ec_fok fo_X10, ec_cok co_X10, so_X10, ck_X10_layAside l, fun _ h => (by cases h), fun _ h => (by cases h), fun _ h => (by cases h), fun _ _ h => (by cases h)⟩
def sp_X10_layAside : ex_S := ex_sp cx_X10_layAside cX10_layAside 2 none 85
theorem mt_X10_layAside (l : Launch) : ex_Met l yX10_layAside cX10_layAside 2 none 1 23 sp_X10_layAside := ex_inl (by decide) rfl (ok_X10_layAside l)
theorem cw_X10_ahead : ec_cw yX10_ahead cX10_ahead 4 (some .int) := ⟨ec_in (i := 1511) (by decide +kernel) rfl, ec_in (i := 68) (by decide +kernel) rfl, by decide, by decide⟩
theorem cv_X10_ahead : Cond.instanceMethod yX10_ahead ∈ ec_tb ∧ Cond.selects yX10_ahead.cls yX10_ahead yX10_ahead ∈ ec_tb := ⟨ec_in (i := 1509) (by decide +kernel) rfl, ec_in (i := 1510) (by decide +kernel) rfl⟩
def ca_X10_ahead : Nat → Option (Nat × Option Nat × ex_S) := fun ix => match ix with
  | 171 => some (3, none, sp_X10_isIn)
  | 160 => some (2, some 10, sp_X10_finding)
  | 273 => some (2, some 10, sp_X10_layAside)
  | 262 => some (1, some 10, sp_X10_tick)
  | _ => none
theorem ck_X10_ahead (l : Launch) : ∀ (ix n : Nat) (rc : Option Nat) (sp : ex_S), ca_X10_ahead ix = some (n, rc, sp) → ex_cok l RX10 5 112 ix n rc sp := by
  intro ix n rc sp h
  unfold ca_X10_ahead at h
  split at h
  · cases h; exact ec_cS (mt_X10_isIn l) cw_X10_isIn cv_X10_isIn (by decide) (by decide) (Or.inl (ec_in (i := 1303) (by decide +kernel) rfl)) (by decide +kernel)
  · cases h; exact ec_cV (mt_X10_finding l) cw_X10_finding cv_X10_finding (by decide) (by decide) (Or.inl (ec_in (i := 1282) (by decide +kernel) rfl)) (T := TX10) (N := 57) rfl (by decide) (by decide +kernel)
  · cases h; exact ec_cV (mt_X10_layAside l) cw_X10_layAside cv_X10_layAside (by decide) (by decide) (Or.inl (ec_in (i := 1512) (by decide +kernel) rfl)) (T := TX10) (N := 57) rfl (by decide) (by decide +kernel)
  · cases h; exact ec_cV (mt_X10_tick l) cw_X10_tick cv_X10_tick (by decide) (by decide) (Or.inl (ec_in (i := 1451) (by decide +kernel) rfl)) (T := TX10) (N := 57) rfl (by decide) (by decide +kernel)
  · cases h
def cx_X10_ahead : ex_K := (RX10, ec_fx fl_X10, ec_cx cl_X10, sl_X10, ca_X10_ahead, ec_nz, ec_no)
theorem ok_X10_ahead (l : Launch) : ex_ok l 5 112 cx_X10_ahead := ⟨ec_fok fo_X10, ec_cok co_X10, so_X10, ck_X10_ahead l, fun _ h => (by cases h), fun _ h => (by cases h), fun _ h => (by cases h), fun _ _ h => (by cases h)⟩
def sp_X10_ahead : ex_S := ex_sp cx_X10_ahead cX10_ahead 4 (some .int) 400
theorem mt_X10_ahead (l : Launch) : ex_Met l yX10_ahead cX10_ahead 4 (some .int) 5 112 sp_X10_ahead := ex_inl (by decide) rfl (ok_X10_ahead l)
theorem cw_X10_partOf : ec_cw yX10_partOf cX10_partOf 7 (some .int) := ⟨ec_in (i := 1531) (by decide +kernel) rfl, ec_in (i := 68) (by decide +kernel) rfl, by decide, by decide⟩
theorem cv_X10_partOf : Cond.instanceMethod yX10_partOf ∈ ec_tb ∧ Cond.selects yX10_partOf.cls yX10_partOf yX10_partOf ∈ ec_tb := ⟨ec_in (i := 1530) (by decide +kernel) rfl, ec_in (i := 54) (by decide +kernel) rfl⟩
def cx_X10_partOf : ex_K := (RX10, ec_fx fl_X10, ec_cx cl_X10, sl_X10, ec_no, ec_nz, ec_no)
theorem ok_X10_partOf (l : Launch) : ex_ok l 0 0 cx_X10_partOf := ⟨ec_fok fo_X10, ec_cok co_X10, so_X10, fun _ _ _ _ h => (by cases h), fun _ h => (by cases h), fun _ h => (by cases h), fun _ h => (by cases h), fun _ _ h => (by cases h)⟩
def sp_X10_partOf : ex_S := ex_sp cx_X10_partOf cX10_partOf 7 (some .int) 400
theorem mt_X10_partOf (l : Launch) : ex_Met l yX10_partOf cX10_partOf 7 (some .int) 0 0 sp_X10_partOf := ex_inl (by decide) rfl (ok_X10_partOf l)
theorem cw_X10_ones : ec_cw yX10_ones cX10_ones 3 (some .int) := ⟨ec_in (i := 1542) (by decide +kernel) rfl, ec_in (i := 68) (by decide +kernel) rfl, by decide, by decide⟩
theorem cv_X10_ones : Cond.static yX10_ones ∈ ec_tb := ec_in (i := 1541) (by decide +kernel) rfl
def cx_X10_ones : ex_K := (RX10, ec_fx fl_X10, ec_cx cl_X10, sl_X10, ec_no, ec_nz, ec_no)
theorem ok_X10_ones (l : Launch) : ex_ok l 0 0 cx_X10_ones := ⟨ec_fok fo_X10, ec_cok co_X10, so_X10, fun _ _ _ _ h => (by cases h), fun _ h => (by cases h), fun _ h => (by cases h), fun _ h => (by cases h), fun _ _ h => (by cases h)⟩
def sp_X10_ones : ex_S := ex_sp cx_X10_ones cX10_ones 3 (some .int) 400
theorem mt_X10_ones (l : Launch) : ex_Met l yX10_ones cX10_ones 3 (some .int) 0 0 sp_X10_ones := ex_inl (by decide) rfl (ok_X10_ones l)
theorem cw_X10_hunt : ec_cw yX10_hunt cX10_hunt 1 (some .int) := ⟨ec_in (i := 1523) (by decide +kernel) rfl, ec_in (i := 68) (by decide +kernel) rfl, by decide, by decide⟩
theorem cv_X10_hunt : Cond.instanceMethod yX10_hunt ∈ ec_tb ∧ Cond.selects yX10_hunt.cls yX10_hunt yX10_hunt ∈ ec_tb := ⟨ec_in (i := 1521) (by decide +kernel) rfl, ec_in (i := 1522) (by decide +kernel) rfl⟩
def cx_X10_hunt : ex_K := (RX10, ec_fx fl_X10, ec_cx cl_X10, sl_X10, ec_no, ec_nz, ec_no)
theorem ok_X10_hunt (l : Launch) : ex_ok l 0 0 cx_X10_hunt := ⟨ec_fok fo_X10, ec_cok co_X10, so_X10, fun _ _ _ _ h => (by cases h), fun _ h => (by cases h), fun _ h => (by cases h), fun _ h => (by cases h), fun _ _ h => (by cases h)⟩
def sp_X10_hunt : ex_S := ex_sp cx_X10_hunt cX10_hunt 1 (some .int) 12
theorem mt_X10_hunt (l : Launch) : ex_Met l yX10_hunt cX10_hunt 1 (some .int) 0 0 sp_X10_hunt := ex_inl (by decide) rfl (ok_X10_hunt l)
theorem cw_X10_test : ec_cw yX10_test cX10_test 4 (some .int) := ⟨ec_in (i := 1527) (by decide +kernel) rfl, ec_in (i := 68) (by decide +kernel) rfl, by decide, by decide⟩
theorem cv_X10_test : Cond.instanceMethod yX10_test ∈ ec_tb ∧ Cond.selects yX10_test.cls yX10_test yX10_test ∈ ec_tb := ⟨ec_in (i := 1525) (by decide +kernel) rfl, ec_in (i := 1526) (by decide +kernel) rfl⟩
def ca_X10_test : Nat → Option (Nat × Option Nat × ex_S) := fun ix => match ix with
  | 164 => some (2, some 10, sp_X10_isModule)
  | 171 => some (3, none, sp_X10_isIn)
  | 160 => some (2, some 10, sp_X10_finding)
  | 280 => some (3, some 10, sp_X10_partOf)
  | _ => none
theorem ck_X10_test (l : Launch) : ∀ (ix n : Nat) (rc : Option Nat) (sp : ex_S), ca_X10_test ix = some (n, rc, sp) → ex_cok l RX10 1 26 ix n rc sp := by
  intro ix n rc sp h
  unfold ca_X10_test at h
  split at h
  · cases h; exact ec_cV (mt_X10_isModule l) cw_X10_isModule cv_X10_isModule (by decide) (by decide) (Or.inl (ec_in (i := 1291) (by decide +kernel) rfl)) (T := TX10) (N := 57) rfl (by decide) (by decide +kernel)
  · cases h; exact ec_cS (mt_X10_isIn l) cw_X10_isIn cv_X10_isIn (by decide) (by decide) (Or.inl (ec_in (i := 1303) (by decide +kernel) rfl)) (by decide +kernel)
  · cases h; exact ec_cV (mt_X10_finding l) cw_X10_finding cv_X10_finding (by decide) (by decide) (Or.inl (ec_in (i := 1282) (by decide +kernel) rfl)) (T := TX10) (N := 57) rfl (by decide) (by decide +kernel)
  · cases h; exact ec_cV (mt_X10_partOf l) cw_X10_partOf cv_X10_partOf (by decide) (by decide) (Or.inl (ec_in (i := 1528) (by decide +kernel) rfl)) (T := TX10) (N := 57) rfl (by decide) (by decide +kernel)
  · cases h
def cx_X10_test : ex_K := (RX10, ec_fx fl_X10, ec_cx cl_X10, sl_X10, ca_X10_test, ec_nz, ec_no)
theorem ok_X10_test (l : Launch) : ex_ok l 1 26 cx_X10_test := ⟨ec_fok fo_X10, ec_cok co_X10, so_X10, ck_X10_test l, fun _ h => (by cases h), fun _ h => (by cases h), fun _ h => (by cases h), fun _ _ h => (by cases h)⟩
def sp_X10_test : ex_S := ex_sp cx_X10_test cX10_test 4 (some .int) 39
theorem mt_X10_test (l : Launch) : ex_Met l yX10_test cX10_test 4 (some .int) 1 26 sp_X10_test := ex_inl (by decide) rfl (ok_X10_test l)
theorem cw_X10_worst : ec_cw yX10_worst cX10_worst 5 (some .int) := ⟨ec_in (i := 1539) (by decide +kernel) rfl, ec_in (i := 68) (by decide +kernel) rfl, by decide, by decide⟩
theorem cv_X10_worst : Cond.instanceMethod yX10_worst ∈ ec_tb ∧ Cond.selects yX10_worst.cls yX10_worst yX10_worst ∈ ec_tb := ⟨ec_in (i := 1538) (by decide +kernel) rfl, ec_in (i := 55) (by decide +kernel) rfl⟩
def ca_X10_worst : Nat → Option (Nat × Option Nat × ex_S) := fun ix => match ix with
  | 280 => some (3, some 10, sp_X10_partOf)
  | 283 => some (1, none, sp_X10_ones)
  | _ => none
theorem ck_X10_worst (l : Launch) : ∀ (ix n : Nat) (rc : Option Nat) (sp : ex_S), ca_X10_worst ix = some (n, rc, sp) → ex_cok l RX10 1 26 ix n rc sp := by
  intro ix n rc sp h
  unfold ca_X10_worst at h
  split at h
  · cases h; exact ec_cV (mt_X10_partOf l) cw_X10_partOf cv_X10_partOf (by decide) (by decide) (Or.inl (ec_in (i := 1528) (by decide +kernel) rfl)) (T := TX10) (N := 57) rfl (by decide) (by decide +kernel)
  · cases h; exact ec_cS (mt_X10_ones l) cw_X10_ones cv_X10_ones (by decide) (by decide) (Or.inl (ec_in (i := 1540) (by decide +kernel) rfl)) (by decide +kernel)
  · cases h
def cx_X10_worst : ex_K := (RX10, ec_fx fl_X10, ec_cx cl_X10, sl_X10, ca_X10_worst, ec_nz, ec_no)
theorem ok_X10_worst (l : Launch) : ex_ok l 1 26 cx_X10_worst := ⟨ec_fok fo_X10, ec_cok co_X10, so_X10, ck_X10_worst l, fun _ h => (by cases h), fun _ h => (by cases h), fun _ h => (by cases h), fun _ _ h => (by cases h)⟩
def sp_X10_worst : ex_S := ex_sp cx_X10_worst cX10_worst 5 (some .int) 400
theorem mt_X10_worst (l : Launch) : ex_Met l yX10_worst cX10_worst 5 (some .int) 1 26 sp_X10_worst := ex_inl (by decide) rfl (ok_X10_worst l)
theorem cw_X10_best : ec_cw yX10_best cX10_best 5 (some .int) := ⟨ec_in (i := 1535) (by decide +kernel) rfl, ec_in (i := 68) (by decide +kernel) rfl, by decide, by decide⟩
theorem cv_X10_best : Cond.instanceMethod yX10_best ∈ ec_tb ∧ Cond.selects yX10_best.cls yX10_best yX10_best ∈ ec_tb := ⟨ec_in (i := 1533) (by decide +kernel) rfl, ec_in (i := 1534) (by decide +kernel) rfl⟩
def ca_X10_best : Nat → Option (Nat × Option Nat × ex_S) := fun ix => match ix with
  | 171 => some (3, none, sp_X10_isIn)
  | 160 => some (2, some 10, sp_X10_finding)
  | 286 => some (2, some 10, sp_X10_worst)
  | 283 => some (1, none, sp_X10_ones)
  | _ => none
theorem ck_X10_best (l : Launch) : ∀ (ix n : Nat) (rc : Option Nat) (sp : ex_S), ca_X10_best ix = some (n, rc, sp) → ex_cok l RX10 2 50 ix n rc sp := by
  intro ix n rc sp h
  unfold ca_X10_best at h
  split at h
  · cases h; exact ec_cS (mt_X10_isIn l) cw_X10_isIn cv_X10_isIn (by decide) (by decide) (Or.inl (ec_in (i := 1303) (by decide +kernel) rfl)) (by decide +kernel)
  · cases h; exact ec_cV (mt_X10_finding l) cw_X10_finding cv_X10_finding (by decide) (by decide) (Or.inl (ec_in (i := 1282) (by decide +kernel) rfl)) (T := TX10) (N := 57) rfl (by decide) (by decide +kernel)
  · cases h; exact ec_cV (mt_X10_worst l) cw_X10_worst cv_X10_worst (by decide) (by decide) (Or.inl (ec_in (i := 1536) (by decide +kernel) rfl)) (T := TX10) (N := 57) rfl (by decide) (by decide +kernel)
  · cases h; exact ec_cS (mt_X10_ones l) cw_X10_ones cv_X10_ones (by decide) (by decide) (Or.inl (ec_in (i := 1540) (by decide +kernel) rfl)) (by decide +kernel)
  · cases h
def cx_X10_best : ex_K := (RX10, ec_fx fl_X10, ec_cx cl_X10, sl_X10, ca_X10_best, ec_nz, ec_no)
theorem ok_X10_best (l : Launch) : ex_ok l 2 50 cx_X10_best := ⟨ec_fok fo_X10, ec_cok co_X10, so_X10, ck_X10_best l, fun _ h => (by cases h), fun _ h => (by cases h), fun _ h => (by cases h), fun _ _ h => (by cases h)⟩
def sp_X10_best : ex_S := ex_sp cx_X10_best cX10_best 5 (some .int) 400
theorem mt_X10_best (l : Launch) : ex_Met l yX10_best cX10_best 5 (some .int) 2 50 sp_X10_best := ex_inl (by decide) rfl (ok_X10_best l)
theorem cw_X10_suspects : ec_cw yX10_suspects cX10_suspects 1 (some .int) := ⟨ec_in (i := 1546) (by decide +kernel) rfl, ec_in (i := 68) (by decide +kernel) rfl, by decide, by decide⟩
theorem cv_X10_suspects : Cond.instanceMethod yX10_suspects ∈ ec_tb ∧ Cond.selects yX10_suspects.cls yX10_suspects yX10_suspects ∈ ec_tb := ⟨ec_in (i := 1544) (by decide +kernel) rfl, ec_in (i := 1545) (by decide +kernel) rfl⟩
def cx_X10_suspects : ex_K := (RX10, ec_fx fl_X10, ec_cx cl_X10, sl_X10, ec_no, ec_nz, ec_no)
theorem ok_X10_suspects (l : Launch) : ex_ok l 0 0 cx_X10_suspects := ⟨ec_fok fo_X10, ec_cok co_X10, so_X10, fun _ _ _ _ h => (by cases h), fun _ h => (by cases h), fun _ h => (by cases h), fun _ h => (by cases h), fun _ _ h => (by cases h)⟩
def sp_X10_suspects : ex_S := ex_sp cx_X10_suspects cX10_suspects 1 (some .int) 4
theorem mt_X10_suspects (l : Launch) : ex_Met l yX10_suspects cX10_suspects 1 (some .int) 0 0 sp_X10_suspects := ex_inl (by decide) rfl (ok_X10_suspects l)
theorem cw_X10_read : ec_cw yX10_read cX10_read 3 (some .int) := ⟨ec_in (i := 1550) (by decide +kernel) rfl, ec_in (i := 68) (by decide +kernel) rfl, by decide, by decide⟩
theorem cv_X10_read : Cond.instanceMethod yX10_read ∈ ec_tb ∧ Cond.selects yX10_read.cls yX10_read yX10_read ∈ ec_tb := ⟨ec_in (i := 1548) (by decide +kernel) rfl, ec_in (i := 1549) (by decide +kernel) rfl⟩
def ca_X10_read : Nat → Option (Nat × Option Nat × ex_S) := fun ix => match ix with
  | 171 => some (3, none, sp_X10_isIn)
  | 160 => some (2, some 10, sp_X10_finding)
  | _ => none
theorem ck_X10_read (l : Launch) : ∀ (ix n : Nat) (rc : Option Nat) (sp : ex_S), ca_X10_read ix = some (n, rc, sp) → ex_cok l RX10 1 22 ix n rc sp := by
  intro ix n rc sp h
  unfold ca_X10_read at h
  split at h
  · cases h; exact ec_cS (mt_X10_isIn l) cw_X10_isIn cv_X10_isIn (by decide) (by decide) (Or.inl (ec_in (i := 1303) (by decide +kernel) rfl)) (by decide +kernel)
  · cases h; exact ec_cV (mt_X10_finding l) cw_X10_finding cv_X10_finding (by decide) (by decide) (Or.inl (ec_in (i := 1282) (by decide +kernel) rfl)) (T := TX10) (N := 57) rfl (by decide) (by decide +kernel)
  · cases h
def cx_X10_read : ex_K := (RX10, ec_fx fl_X10, ec_cx cl_X10, sl_X10, ca_X10_read, ec_nz, ec_no)
theorem ok_X10_read (l : Launch) : ex_ok l 1 22 cx_X10_read := ⟨ec_fok fo_X10, ec_cok co_X10, so_X10, ck_X10_read l, fun _ h => (by cases h), fun _ h => (by cases h), fun _ h => (by cases h), fun _ _ h => (by cases h)⟩
def sp_X10_read : ex_S := ex_sp cx_X10_read cX10_read 3 (some .int) 67
theorem mt_X10_read (l : Launch) : ex_Met l yX10_read cX10_read 3 (some .int) 1 22 sp_X10_read := ex_inl (by decide) rfl (ok_X10_read l)
theorem cw_X10_calibrate : ec_cw yX10_calibrate cX10_calibrate 3 (some .int) := ⟨ec_in (i := 1554) (by decide +kernel) rfl, ec_in (i := 68) (by decide +kernel) rfl, by decide, by decide⟩
theorem cv_X10_calibrate : Cond.instanceMethod yX10_calibrate ∈ ec_tb ∧ Cond.selects yX10_calibrate.cls yX10_calibrate yX10_calibrate ∈ ec_tb := ⟨ec_in (i := 1552) (by decide +kernel) rfl, ec_in (i := 1553) (by decide +kernel) rfl⟩
def ca_X10_calibrate : Nat → Option (Nat × Option Nat × ex_S) := fun ix => match ix with
  | 171 => some (3, none, sp_X10_isIn)
  | 160 => some (2, some 10, sp_X10_finding)
  | _ => none
theorem ck_X10_calibrate (l : Launch) : ∀ (ix n : Nat) (rc : Option Nat) (sp : ex_S), ca_X10_calibrate ix = some (n, rc, sp) → ex_cok l RX10 1 22 ix n rc sp := by
  intro ix n rc sp h
  unfold ca_X10_calibrate at h
  split at h
  · cases h; exact ec_cS (mt_X10_isIn l) cw_X10_isIn cv_X10_isIn (by decide) (by decide) (Or.inl (ec_in (i := 1303) (by decide +kernel) rfl)) (by decide +kernel)
  · cases h; exact ec_cV (mt_X10_finding l) cw_X10_finding cv_X10_finding (by decide) (by decide) (Or.inl (ec_in (i := 1282) (by decide +kernel) rfl)) (T := TX10) (N := 57) rfl (by decide) (by decide +kernel)
  · cases h
def cx_X10_calibrate : ex_K := (RX10, ec_fx fl_X10, ec_cx cl_X10, sl_X10, ca_X10_calibrate, ec_nz, ec_no)
theorem ok_X10_calibrate (l : Launch) : ex_ok l 1 22 cx_X10_calibrate := ⟨ec_fok fo_X10, ec_cok co_X10, so_X10, ck_X10_calibrate l, fun _ h => (by cases h), fun _ h => (by cases h), fun _ h => (by cases h), fun _ _ h => (by cases h)⟩
def sp_X10_calibrate : ex_S := ex_sp cx_X10_calibrate cX10_calibrate 3 (some .int) 53
theorem mt_X10_calibrate (l : Launch) : ex_Met l yX10_calibrate cX10_calibrate 3 (some .int) 1 22 sp_X10_calibrate := ex_inl (by decide) rfl (ok_X10_calibrate l)
theorem cw_X10_tooMuch : ec_cw yX10_tooMuch cX10_tooMuch 6 (some .int) := ⟨ec_in (i := 1562) (by decide +kernel) rfl, ec_in (i := 68) (by decide +kernel) rfl, by decide, by decide⟩
theorem cv_X10_tooMuch : Cond.instanceMethod yX10_tooMuch ∈ ec_tb ∧ Cond.selects yX10_tooMuch.cls yX10_tooMuch yX10_tooMuch ∈ ec_tb := ⟨ec_in (i := 1561) (by decide +kernel) rfl, ec_in (i := 56) (by decide +kernel) rfl⟩
def cx_X10_tooMuch : ex_K := (RX10, ec_fx fl_X10, ec_cx cl_X10, sl_X10, ec_no, ec_nz, ec_no)
theorem ok_X10_tooMuch (l : Launch) : ex_ok l 0 0 cx_X10_tooMuch := ⟨ec_fok fo_X10, ec_cok co_X10, so_X10, fun _ _ _ _ h => (by cases h), fun _ h => (by cases h), fun _ h => (by cases h), fun _ h => (by cases h), fun _ _ h => (by cases h)⟩
def sp_X10_tooMuch : ex_S := ex_sp cx_X10_tooMuch cX10_tooMuch 6 (some .int) 400
theorem mt_X10_tooMuch (l : Launch) : ex_Met l yX10_tooMuch cX10_tooMuch 6 (some .int) 0 0 sp_X10_tooMuch := ex_inl (by decide) rfl (ok_X10_tooMuch l)
theorem cw_X10_worked : ec_cw yX10_worked cX10_worked 2 (some .int) := ⟨ec_in (i := 1558) (by decide +kernel) rfl, ec_in (i := 68) (by decide +kernel) rfl, by decide, by decide⟩
theorem cv_X10_worked : Cond.instanceMethod yX10_worked ∈ ec_tb ∧ Cond.selects yX10_worked.cls yX10_worked yX10_worked ∈ ec_tb := ⟨ec_in (i := 1556) (by decide +kernel) rfl, ec_in (i := 1557) (by decide +kernel) rfl⟩
def ca_X10_worked : Nat → Option (Nat × Option Nat × ex_S) := fun ix => match ix with
  | 160 => some (2, some 10, sp_X10_finding)
  | 295 => some (3, some 10, sp_X10_tooMuch)
  | _ => none
theorem ck_X10_worked (l : Launch) : ∀ (ix n : Nat) (rc : Option Nat) (sp : ex_S), ca_X10_worked ix = some (n, rc, sp) → ex_cok l RX10 1 25 ix n rc sp := by
  intro ix n rc sp h
  unfold ca_X10_worked at h
  split at h
  · cases h; exact ec_cV (mt_X10_finding l) cw_X10_finding cv_X10_finding (by decide) (by decide) (Or.inl (ec_in (i := 1282) (by decide +kernel) rfl)) (T := TX10) (N := 57) rfl (by decide) (by decide +kernel)
  · cases h; exact ec_cV (mt_X10_tooMuch l) cw_X10_tooMuch cv_X10_tooMuch (by decide) (by decide) (Or.inl (ec_in (i := 1559) (by decide +kernel) rfl)) (T := TX10) (N := 57) rfl (by decide) (by decide +kernel)
  · cases h
def cx_X10_worked : ex_K := (RX10, ec_fx fl_X10, ec_cx cl_X10, sl_X10, ca_X10_worked, ec_nz, ec_no)
theorem ok_X10_worked (l : Launch) : ex_ok l 1 25 cx_X10_worked := ⟨ec_fok fo_X10, ec_cok co_X10, so_X10, ck_X10_worked l, fun _ h => (by cases h), fun _ h => (by cases h), fun _ h => (by cases h), fun _ _ h => (by cases h)⟩
def sp_X10_worked : ex_S := ex_sp cx_X10_worked cX10_worked 2 (some .int) 27
theorem mt_X10_worked (l : Launch) : ex_Met l yX10_worked cX10_worked 2 (some .int) 1 25 sp_X10_worked := ex_inl (by decide) rfl (ok_X10_worked l)
theorem cw_X10_delay : ec_cw yX10_delay cX10_delay 3 (some .int) := ⟨ec_in (i := 1566) (by decide +kernel) rfl, ec_in (i := 68) (by decide +kernel) rfl, by decide, by decide⟩
theorem cv_X10_delay : Cond.instanceMethod yX10_delay ∈ ec_tb ∧ Cond.selects yX10_delay.cls yX10_delay yX10_delay ∈ ec_tb := ⟨ec_in (i := 1564) (by decide +kernel) rfl, ec_in (i := 1565) (by decide +kernel) rfl⟩
def ca_X10_delay : Nat → Option (Nat × Option Nat × ex_S) := fun ix => match ix with
  | 171 => some (3, none, sp_X10_isIn)
  | 160 => some (2, some 10, sp_X10_finding)
  | _ => none
theorem ck_X10_delay (l : Launch) : ∀ (ix n : Nat) (rc : Option Nat) (sp : ex_S), ca_X10_delay ix = some (n, rc, sp) → ex_cok l RX10 1 22 ix n rc sp := by
  intro ix n rc sp h
  unfold ca_X10_delay at h
  split at h
  · cases h; exact ec_cS (mt_X10_isIn l) cw_X10_isIn cv_X10_isIn (by decide) (by decide) (Or.inl (ec_in (i := 1303) (by decide +kernel) rfl)) (by decide +kernel)
  · cases h; exact ec_cV (mt_X10_finding l) cw_X10_finding cv_X10_finding (by decide) (by decide) (Or.inl (ec_in (i := 1282) (by decide +kernel) rfl)) (T := TX10) (N := 57) rfl (by decide) (by decide +kernel)
  · cases h
def cx_X10_delay : ex_K := (RX10, ec_fx fl_X10, ec_cx cl_X10, sl_X10, ca_X10_delay, ec_nz, ec_no)
theorem ok_X10_delay (l : Launch) : ex_ok l 1 22 cx_X10_delay := ⟨ec_fok fo_X10, ec_cok co_X10, so_X10, ck_X10_delay l, fun _ h => (by cases h), fun _ h => (by cases h), fun _ h => (by cases h), fun _ _ h => (by cases h)⟩
def sp_X10_delay : ex_S := ex_sp cx_X10_delay cX10_delay 3 (some .int) 18
theorem mt_X10_delay (l : Launch) : ex_Met l yX10_delay cX10_delay 3 (some .int) 1 22 sp_X10_delay := ex_inl (by decide) rfl (ok_X10_delay l)
theorem cw_X10_known : ec_cw yX10_known cX10_known 5 (some .int) := ⟨ec_in (i := 1570) (by decide +kernel) rfl, ec_in (i := 68) (by decide +kernel) rfl, by decide, by decide⟩
theorem cv_X10_known : Cond.instanceMethod yX10_known ∈ ec_tb ∧ Cond.selects yX10_known.cls yX10_known yX10_known ∈ ec_tb := ⟨ec_in (i := 1568) (by decide +kernel) rfl, ec_in (i := 1569) (by decide +kernel) rfl⟩
def ca_X10_known : Nat → Option (Nat × Option Nat × ex_S) := fun ix => match ix with
  | 171 => some (3, none, sp_X10_isIn)
  | 160 => some (2, some 10, sp_X10_finding)
  | _ => none
theorem ck_X10_known (l : Launch) : ∀ (ix n : Nat) (rc : Option Nat) (sp : ex_S), ca_X10_known ix = some (n, rc, sp) → ex_cok l RX10 1 22 ix n rc sp := by
  intro ix n rc sp h
  unfold ca_X10_known at h
  split at h
  · cases h; exact ec_cS (mt_X10_isIn l) cw_X10_isIn cv_X10_isIn (by decide) (by decide) (Or.inl (ec_in (i := 1303) (by decide +kernel) rfl)) (by decide +kernel)
  · cases h; exact ec_cV (mt_X10_finding l) cw_X10_finding cv_X10_finding (by decide) (by decide) (Or.inl (ec_in (i := 1282) (by decide +kernel) rfl)) (T := TX10) (N := 57) rfl (by decide) (by decide +kernel)
  · cases h
def cx_X10_known : ex_K := (RX10, ec_fx fl_X10, ec_cx cl_X10, sl_X10, ca_X10_known, ec_nz, ec_no)
theorem ok_X10_known (l : Launch) : ex_ok l 1 22 cx_X10_known := ⟨ec_fok fo_X10, ec_cok co_X10, so_X10, ck_X10_known l, fun _ h => (by cases h), fun _ h => (by cases h), fun _ h => (by cases h), fun _ _ h => (by cases h)⟩
def sp_X10_known : ex_S := ex_sp cx_X10_known cX10_known 5 (some .int) 400
theorem mt_X10_known (l : Launch) : ex_Met l yX10_known cX10_known 5 (some .int) 1 22 sp_X10_known := ex_inl (by decide) rfl (ok_X10_known l)
theorem cw_X10_mass : ec_cw yX10_mass cX10_mass 4 (some .int) := ⟨ec_in (i := 1574) (by decide +kernel) rfl, ec_in (i := 68) (by decide +kernel) rfl, by decide, by decide⟩
theorem cv_X10_mass : Cond.instanceMethod yX10_mass ∈ ec_tb ∧ Cond.selects yX10_mass.cls yX10_mass yX10_mass ∈ ec_tb := ⟨ec_in (i := 1572) (by decide +kernel) rfl, ec_in (i := 1573) (by decide +kernel) rfl⟩
def ca_X10_mass : Nat → Option (Nat × Option Nat × ex_S) := fun ix => match ix with
  | 171 => some (3, none, sp_X10_isIn)
  | 160 => some (2, some 10, sp_X10_finding)
  | _ => none
theorem ck_X10_mass (l : Launch) : ∀ (ix n : Nat) (rc : Option Nat) (sp : ex_S), ca_X10_mass ix = some (n, rc, sp) → ex_cok l RX10 1 22 ix n rc sp := by
  intro ix n rc sp h
  unfold ca_X10_mass at h
  split at h
  · cases h; exact ec_cS (mt_X10_isIn l) cw_X10_isIn cv_X10_isIn (by decide) (by decide) (Or.inl (ec_in (i := 1303) (by decide +kernel) rfl)) (by decide +kernel)
  · cases h; exact ec_cV (mt_X10_finding l) cw_X10_finding cv_X10_finding (by decide) (by decide) (Or.inl (ec_in (i := 1282) (by decide +kernel) rfl)) (T := TX10) (N := 57) rfl (by decide) (by decide +kernel)
  · cases h
def cx_X10_mass : ex_K := (RX10, ec_fx fl_X10, ec_cx cl_X10, sl_X10, ca_X10_mass, ec_nz, ec_no)
theorem ok_X10_mass (l : Launch) : ex_ok l 1 22 cx_X10_mass := ⟨ec_fok fo_X10, ec_cok co_X10, so_X10, ck_X10_mass l, fun _ h => (by cases h), fun _ h => (by cases h), fun _ h => (by cases h), fun _ _ h => (by cases h)⟩
def sp_X10_mass : ex_S := ex_sp cx_X10_mass cX10_mass 4 (some .int) 53
theorem mt_X10_mass (l : Launch) : ex_Met l yX10_mass cX10_mass 4 (some .int) 1 22 sp_X10_mass := ex_inl (by decide) rfl (ok_X10_mass l)
theorem cw_X10_dock : ec_cw yX10_dock cX10_dock 3 (some .int) := ⟨ec_in (i := 1579) (by decide +kernel) rfl, ec_in (i := 68) (by decide +kernel) rfl, by decide, by decide⟩
theorem cv_X10_dock : Cond.instanceMethod yX10_dock ∈ ec_tb ∧ Cond.selects yX10_dock.cls yX10_dock yX10_dock ∈ ec_tb := ⟨ec_in (i := 1577) (by decide +kernel) rfl, ec_in (i := 1578) (by decide +kernel) rfl⟩
def ca_X10_dock : Nat → Option (Nat × Option Nat × ex_S) := fun ix => match ix with
  | 171 => some (3, none, sp_X10_isIn)
  | 160 => some (2, some 10, sp_X10_finding)
  | _ => none
theorem ck_X10_dock (l : Launch) : ∀ (ix n : Nat) (rc : Option Nat) (sp : ex_S), ca_X10_dock ix = some (n, rc, sp) → ex_cok l RX10 1 22 ix n rc sp := by
  intro ix n rc sp h
  unfold ca_X10_dock at h
  split at h
  · cases h; exact ec_cS (mt_X10_isIn l) cw_X10_isIn cv_X10_isIn (by decide) (by decide) (Or.inl (ec_in (i := 1303) (by decide +kernel) rfl)) (by decide +kernel)
  · cases h; exact ec_cV (mt_X10_finding l) cw_X10_finding cv_X10_finding (by decide) (by decide) (Or.inl (ec_in (i := 1282) (by decide +kernel) rfl)) (T := TX10) (N := 57) rfl (by decide) (by decide +kernel)
  · cases h
def cx_X10_dock : ex_K := (RX10, ec_fx fl_X10, ec_cx cl_X10, sl_X10, ca_X10_dock, ec_nz, ec_no)
theorem ok_X10_dock (l : Launch) : ex_ok l 1 22 cx_X10_dock := ⟨ec_fok fo_X10, ec_cok co_X10, so_X10, ck_X10_dock l, fun _ h => (by cases h), fun _ h => (by cases h), fun _ h => (by cases h), fun _ _ h => (by cases h)⟩
def sp_X10_dock : ex_S := ex_sp cx_X10_dock cX10_dock 3 (some .int) 56
theorem mt_X10_dock (l : Launch) : ex_Met l yX10_dock cX10_dock 3 (some .int) 1 22 sp_X10_dock := ex_inl (by decide) rfl (ok_X10_dock l)
theorem cw_X10_undock : ec_cw yX10_undock cX10_undock 2 (some .int) := ⟨ec_in (i := 1583) (by decide +kernel) rfl, ec_in (i := 68) (by decide +kernel) rfl, by decide, by decide⟩
theorem cv_X10_undock : Cond.instanceMethod yX10_undock ∈ ec_tb ∧ Cond.selects yX10_undock.cls yX10_undock yX10_undock ∈ ec_tb := ⟨ec_in (i := 1581) (by decide +kernel) rfl, ec_in (i := 1582) (by decide +kernel) rfl⟩
def ca_X10_undock : Nat → Option (Nat × Option Nat × ex_S) := fun ix => match ix with
  | 171 => some (3, none, sp_X10_isIn)
  | 160 => some (2, some 10, sp_X10_finding)
  | _ => none
theorem ck_X10_undock (l : Launch) : ∀ (ix n : Nat) (rc : Option Nat) (sp : ex_S), ca_X10_undock ix = some (n, rc, sp) → ex_cok l RX10 1 22 ix n rc sp := by
  intro ix n rc sp h
  unfold ca_X10_undock at h
  split at h
  · cases h; exact ec_cS (mt_X10_isIn l) cw_X10_isIn cv_X10_isIn (by decide) (by decide) (Or.inl (ec_in (i := 1303) (by decide +kernel) rfl)) (by decide +kernel)
  · cases h; exact ec_cV (mt_X10_finding l) cw_X10_finding cv_X10_finding (by decide) (by decide) (Or.inl (ec_in (i := 1282) (by decide +kernel) rfl)) (T := TX10) (N := 57) rfl (by decide) (by decide +kernel)
  · cases h
def cx_X10_undock : ex_K := (RX10, ec_fx fl_X10, ec_cx cl_X10, sl_X10, ca_X10_undock, ec_nz, ec_no)
theorem ok_X10_undock (l : Launch) : ex_ok l 1 22 cx_X10_undock := ⟨ec_fok fo_X10, ec_cok co_X10, so_X10, ck_X10_undock l, fun _ h => (by cases h), fun _ h => (by cases h), fun _ h => (by cases h), fun _ _ h => (by cases h)⟩
def sp_X10_undock : ex_S := ex_sp cx_X10_undock cX10_undock 2 (some .int) 29
theorem mt_X10_undock (l : Launch) : ex_Met l yX10_undock cX10_undock 2 (some .int) 1 22 sp_X10_undock := ex_inl (by decide) rfl (ok_X10_undock l)
theorem cw_X10_tell : ec_cw yX10_tell cX10_tell 2 (some .int) := ⟨ec_in (i := 1587) (by decide +kernel) rfl, ec_in (i := 68) (by decide +kernel) rfl, by decide, by decide⟩
theorem cv_X10_tell : Cond.instanceMethod yX10_tell ∈ ec_tb ∧ Cond.selects yX10_tell.cls yX10_tell yX10_tell ∈ ec_tb := ⟨ec_in (i := 1585) (by decide +kernel) rfl, ec_in (i := 1586) (by decide +kernel) rfl⟩
def ca_X10_tell : Nat → Option (Nat × Option Nat × ex_S) := fun ix => match ix with
  | 160 => some (2, some 10, sp_X10_finding)
  | _ => none
theorem ck_X10_tell (l : Launch) : ∀ (ix n : Nat) (rc : Option Nat) (sp : ex_S), ca_X10_tell ix = some (n, rc, sp) → ex_cok l RX10 1 21 ix n rc sp := by
  intro ix n rc sp h
  unfold ca_X10_tell at h
  split at h
  · cases h; exact ec_cV (mt_X10_finding l) cw_X10_finding cv_X10_finding (by decide) (by decide) (Or.inl (ec_in (i := 1282) (by decide +kernel) rfl)) (T := TX10) (N := 57) rfl (by decide) (by decide +kernel)
  · cases h
def cx_X10_tell : ex_K := (RX10, ec_fx fl_X10, ec_cx cl_X10, sl_X10, ca_X10_tell, ec_nz, ec_no)
theorem ok_X10_tell (l : Launch) : ex_ok l 1 21 cx_X10_tell := ⟨ec_fok fo_X10, ec_cok co_X10, so_X10, ck_X10_tell l, fun _ h => (by cases h), fun _ h => (by cases h), fun _ h => (by cases h), fun _ _ h => (by cases h)⟩
def sp_X10_tell : ex_S := ex_sp cx_X10_tell cX10_tell 2 (some .int) 24
theorem mt_X10_tell (l : Launch) : ex_Met l yX10_tell cX10_tell 2 (some .int) 1 21 sp_X10_tell := ex_inl (by decide) rfl (ok_X10_tell l)
theorem cw_X10_check : ec_cw yX10_check cX10_check 7 (some .int) := ⟨ec_in (i := 1591) (by decide +kernel) rfl, ec_in (i := 68) (by decide +kernel) rfl, by decide, by decide⟩
theorem cv_X10_check : Cond.instanceMethod yX10_check ∈ ec_tb ∧ Cond.selects yX10_check.cls yX10_check yX10_check ∈ ec_tb := ⟨ec_in (i := 1589) (by decide +kernel) rfl, ec_in (i := 1590) (by decide +kernel) rfl⟩
def ca_X10_check : Nat → Option (Nat × Option Nat × ex_S) := fun ix => match ix with
  | 164 => some (2, some 10, sp_X10_isModule)
  | 171 => some (3, none, sp_X10_isIn)
  | 160 => some (2, some 10, sp_X10_finding)
  | 273 => some (2, some 10, sp_X10_layAside)
  | 262 => some (1, some 10, sp_X10_tick)
  | _ => none
theorem ck_X10_check (l : Launch) : ∀ (ix n : Nat) (rc : Option Nat) (sp : ex_S), ca_X10_check ix = some (n, rc, sp) → ex_cok l RX10 5 112 ix n rc sp := by
  intro ix n rc sp h
  unfold ca_X10_check at h
  split at h
  · cases h; exact ec_cV (mt_X10_isModule l) cw_X10_isModule cv_X10_isModule (by decide) (by decide) (Or.inl (ec_in (i := 1291) (by decide +kernel) rfl)) (T := TX10) (N := 57) rfl (by decide) (by decide +kernel)
  · cases h; exact ec_cS (mt_X10_isIn l) cw_X10_isIn cv_X10_isIn (by decide) (by decide) (Or.inl (ec_in (i := 1303) (by decide +kernel) rfl)) (by decide +kernel)
  · cases h; exact ec_cV (mt_X10_finding l) cw_X10_finding cv_X10_finding (by decide) (by decide) (Or.inl (ec_in (i := 1282) (by decide +kernel) rfl)) (T := TX10) (N := 57) rfl (by decide) (by decide +kernel)
  · cases h; exact ec_cV (mt_X10_layAside l) cw_X10_layAside cv_X10_layAside (by decide) (by decide) (Or.inl (ec_in (i := 1512) (by decide +kernel) rfl)) (T := TX10) (N := 57) rfl (by decide) (by decide +kernel)
  · cases h; exact ec_cV (mt_X10_tick l) cw_X10_tick cv_X10_tick (by decide) (by decide) (Or.inl (ec_in (i := 1451) (by decide +kernel) rfl)) (T := TX10) (N := 57) rfl (by decide) (by decide +kernel)
  · cases h
def cx_X10_check : ex_K := (RX10, ec_fx fl_X10, ec_cx cl_X10, sl_X10, ca_X10_check, ec_nz, ec_no)
theorem ok_X10_check (l : Launch) : ex_ok l 5 112 cx_X10_check := ⟨ec_fok fo_X10, ec_cok co_X10, so_X10, ck_X10_check l, fun _ h => (by cases h), fun _ h => (by cases h), fun _ h => (by cases h), fun _ _ h => (by cases h)⟩
def sp_X10_check : ex_S := ex_sp cx_X10_check cX10_check 7 (some .int) 400
theorem mt_X10_check (l : Launch) : ex_Met l yX10_check cX10_check 7 (some .int) 5 112 sp_X10_check := ex_inl (by decide) rfl (ok_X10_check l)
theorem cw_X10_count : ec_cw yX10_count cX10_count 4 (some .int) := ⟨ec_in (i := 1595) (by decide +kernel) rfl, ec_in (i := 68) (by decide +kernel) rfl, by decide, by decide⟩
theorem cv_X10_count : Cond.instanceMethod yX10_count ∈ ec_tb ∧ Cond.selects yX10_count.cls yX10_count yX10_count ∈ ec_tb := ⟨ec_in (i := 1593) (by decide +kernel) rfl, ec_in (i := 1594) (by decide +kernel) rfl⟩
def ca_X10_count : Nat → Option (Nat × Option Nat × ex_S) := fun ix => match ix with
  | 160 => some (2, some 10, sp_X10_finding)
  | _ => none
theorem ck_X10_count (l : Launch) : ∀ (ix n : Nat) (rc : Option Nat) (sp : ex_S), ca_X10_count ix = some (n, rc, sp) → ex_cok l RX10 1 21 ix n rc sp := by
  intro ix n rc sp h
  unfold ca_X10_count at h
  split at h
  · cases h; exact ec_cV (mt_X10_finding l) cw_X10_finding cv_X10_finding (by decide) (by decide) (Or.inl (ec_in (i := 1282) (by decide +kernel) rfl)) (T := TX10) (N := 57) rfl (by decide) (by decide +kernel)
  · cases h
def cx_X10_count : ex_K := (RX10, ec_fx fl_X10, ec_cx cl_X10, sl_X10, ca_X10_count, ec_nz, ec_no)
theorem ok_X10_count (l : Launch) : ex_ok l 1 21 cx_X10_count := ⟨ec_fok fo_X10, ec_cok co_X10, so_X10, ck_X10_count l, fun _ h => (by cases h), fun _ h => (by cases h), fun _ h => (by cases h), fun _ _ h => (by cases h)⟩
def sp_X10_count : ex_S := ex_sp cx_X10_count cX10_count 4 (some .int) 400
theorem mt_X10_count (l : Launch) : ex_Met l yX10_count cX10_count 4 (some .int) 1 21 sp_X10_count := ex_inl (by decide) rfl (ok_X10_count l)
theorem cw_X10_found : ec_cw yX10_found cX10_found 2 (some .int) := ⟨ec_in (i := 1599) (by decide +kernel) rfl, ec_in (i := 68) (by decide +kernel) rfl, by decide, by decide⟩
theorem cv_X10_found : Cond.instanceMethod yX10_found ∈ ec_tb ∧ Cond.selects yX10_found.cls yX10_found yX10_found ∈ ec_tb := ⟨ec_in (i := 1597) (by decide +kernel) rfl, ec_in (i := 1598) (by decide +kernel) rfl⟩
def ca_X10_found : Nat → Option (Nat × Option Nat × ex_S) := fun ix => match ix with
  | 171 => some (3, none, sp_X10_isIn)
  | 160 => some (2, some 10, sp_X10_finding)
  | _ => none
theorem ck_X10_found (l : Launch) : ∀ (ix n : Nat) (rc : Option Nat) (sp : ex_S), ca_X10_found ix = some (n, rc, sp) → ex_cok l RX10 1 22 ix n rc sp := by
  intro ix n rc sp h
  unfold ca_X10_found at h
  split at h
  · cases h; exact ec_cS (mt_X10_isIn l) cw_X10_isIn cv_X10_isIn (by decide) (by decide) (Or.inl (ec_in (i := 1303) (by decide +kernel) rfl)) (by decide +kernel)
  · cases h; exact ec_cV (mt_X10_finding l) cw_X10_finding cv_X10_finding (by decide) (by decide) (Or.inl (ec_in (i := 1282) (by decide +kernel) rfl)) (T := TX10) (N := 57) rfl (by decide) (by decide +kernel)
  · cases h
def cx_X10_found : ex_K := (RX10, ec_fx fl_X10, ec_cx cl_X10, sl_X10, ca_X10_found, ec_nz, ec_no)
theorem ok_X10_found (l : Launch) : ex_ok l 1 22 cx_X10_found := ⟨ec_fok fo_X10, ec_cok co_X10, so_X10, ck_X10_found l, fun _ h => (by cases h), fun _ h => (by cases h), fun _ h => (by cases h), fun _ _ h => (by cases h)⟩
def sp_X10_found : ex_S := ex_sp cx_X10_found cX10_found 2 (some .int) 15
theorem mt_X10_found (l : Launch) : ex_Met l yX10_found cX10_found 2 (some .int) 1 22 sp_X10_found := ex_inl (by decide) rfl (ok_X10_found l)
end
