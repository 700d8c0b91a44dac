section
-- ===== PART A: goes FIRST, ahead of the names: the tables' words, and 'selects' of the private methods out of them =====
/-- a private method of a class that the tables say can be made, by its rows of tables_1 -/
def lw_okq (q : MethodName × Nat) : Prop := (q.1.cls ≠ "java/lang/invoke/MethodHandle" ∧ q.1.cls ≠ "java/lang/invoke/VarHandle") ∧ Cond.instantiable q.1.cls q.2 ∈ tables_1 ∧ Cond.privateMethod q.1 ∈ tables_1 ∧ Cond.instanceMethod q.1 ∈ tables_1
theorem lw_p0 : lw_okq (⟨"TinStation", "counted", "(I)I"⟩, 10) := ⟨⟨by decide +kernel, by decide +kernel⟩, List.mem_of_getElem? (i := 16) (by decide +kernel), List.mem_of_getElem? (i := 368) (by decide +kernel), List.mem_of_getElem? (i := 369) (by decide +kernel)⟩
theorem lw_p1 : lw_okq (⟨"TinStation$Plant", "leastHarm", "(I)I"⟩, 15) := ⟨⟨by decide +kernel, by decide +kernel⟩, List.mem_of_getElem? (i := 128) (by decide +kernel), List.mem_of_getElem? (i := 583) (by decide +kernel), List.mem_of_getElem? (i := 584) (by decide +kernel)⟩
theorem lw_p2 : lw_okq (⟨"TinStation$Plant", "readySet", "()I"⟩, 15) := ⟨⟨by decide +kernel, by decide +kernel⟩, List.mem_of_getElem? (i := 128) (by decide +kernel), List.mem_of_getElem? (i := 587) (by decide +kernel), List.mem_of_getElem? (i := 588) (by decide +kernel)⟩
theorem lw_p3 : lw_okq (⟨"TinStation$Plant", "isReady", "(I)Z"⟩, 15) := ⟨⟨by decide +kernel, by decide +kernel⟩, List.mem_of_getElem? (i := 128) (by decide +kernel), List.mem_of_getElem? (i := 591) (by decide +kernel), List.mem_of_getElem? (i := 592) (by decide +kernel)⟩
theorem lw_p4 : lw_okq (⟨"TinStation$Plant", "sumOver", "(I[I)I"⟩, 15) := ⟨⟨by decide +kernel, by decide +kernel⟩, List.mem_of_getElem? (i := 128) (by decide +kernel), List.mem_of_getElem? (i := 595) (by decide +kernel), List.mem_of_getElem? (i := 596) (by decide +kernel)⟩
theorem lw_p5 : lw_okq (⟨"TinStation$World", "doText", "()V"⟩, 7) := ⟨⟨by decide +kernel, by decide +kernel⟩, List.mem_of_getElem? (i := 52) (by decide +kernel), List.mem_of_getElem? (i := 646) (by decide +kernel), List.mem_of_getElem? (i := 647) (by decide +kernel)⟩
theorem lw_p6 : lw_okq (⟨"TinStation$World", "lineAfter", "(I)I"⟩, 7) := ⟨⟨by decide +kernel, by decide +kernel⟩, List.mem_of_getElem? (i := 52) (by decide +kernel), List.mem_of_getElem? (i := 658) (by decide +kernel), List.mem_of_getElem? (i := 659) (by decide +kernel)⟩
theorem lw_p7 : lw_okq (⟨"TinStation$World", "lineAfterCheck", "(I)I"⟩, 7) := ⟨⟨by decide +kernel, by decide +kernel⟩, List.mem_of_getElem? (i := 52) (by decide +kernel), List.mem_of_getElem? (i := 662) (by decide +kernel), List.mem_of_getElem? (i := 663) (by decide +kernel)⟩
theorem lw_p8 : lw_okq (⟨"TinStation$World", "isCheck", "(III)Z"⟩, 7) := ⟨⟨by decide +kernel, by decide +kernel⟩, List.mem_of_getElem? (i := 52) (by decide +kernel), List.mem_of_getElem? (i := 666) (by decide +kernel), List.mem_of_getElem? (i := 667) (by decide +kernel)⟩
theorem lw_p9 : lw_okq (⟨"TinStation$World", "holds", "(III)Z"⟩, 7) := ⟨⟨by decide +kernel, by decide +kernel⟩, List.mem_of_getElem? (i := 52) (by decide +kernel), List.mem_of_getElem? (i := 671) (by decide +kernel), List.mem_of_getElem? (i := 672) (by decide +kernel)⟩
theorem lw_p10 : lw_okq (⟨"TinStation$World", "actByText", "(I)I"⟩, 7) := ⟨⟨by decide +kernel, by decide +kernel⟩, List.mem_of_getElem? (i := 52) (by decide +kernel), List.mem_of_getElem? (i := 679) (by decide +kernel), List.mem_of_getElem? (i := 680) (by decide +kernel)⟩
theorem lw_p11 : lw_okq (⟨"TinStation$Plant", "work", "(ILTinStation$Air;)V"⟩, 15) := ⟨⟨by decide +kernel, by decide +kernel⟩, List.mem_of_getElem? (i := 128) (by decide +kernel), List.mem_of_getElem? (i := 713) (by decide +kernel), List.mem_of_getElem? (i := 714) (by decide +kernel)⟩
theorem lw_p12 : lw_okq (⟨"TinStation$Plant", "split", "(ILTinStation$Air;)V"⟩, 15) := ⟨⟨by decide +kernel, by decide +kernel⟩, List.mem_of_getElem? (i := 128) (by decide +kernel), List.mem_of_getElem? (i := 726) (by decide +kernel), List.mem_of_getElem? (i := 727) (by decide +kernel)⟩
theorem lw_p13 : lw_okq (⟨"TinStation$Plant", "distil", "(ILTinStation$Air;)V"⟩, 15) := ⟨⟨by decide +kernel, by decide +kernel⟩, List.mem_of_getElem? (i := 128) (by decide +kernel), List.mem_of_getElem? (i := 738) (by decide +kernel), List.mem_of_getElem? (i := 739) (by decide +kernel)⟩
theorem lw_p14 : lw_okq (⟨"TinStation$Crew", "breathe", "(ILTinStation$Air;)V"⟩, 7) := ⟨⟨by decide +kernel, by decide +kernel⟩, List.mem_of_getElem? (i := 98) (by decide +kernel), List.mem_of_getElem? (i := 746) (by decide +kernel), List.mem_of_getElem? (i := 747) (by decide +kernel)⟩
theorem lw_p15 : lw_okq (⟨"TinStation$Crew", "drink", "(ILTinStation$Air;)V"⟩, 7) := ⟨⟨by decide +kernel, by decide +kernel⟩, List.mem_of_getElem? (i := 98) (by decide +kernel), List.mem_of_getElem? (i := 755) (by decide +kernel), List.mem_of_getElem? (i := 756) (by decide +kernel)⟩
def lw_privs_1 : List (MethodName × Nat) := [(⟨"TinStation", "counted", "(I)I"⟩, 10), (⟨"TinStation$Plant", "leastHarm", "(I)I"⟩, 15), (⟨"TinStation$Plant", "readySet", "()I"⟩, 15), (⟨"TinStation$Plant", "isReady", "(I)Z"⟩, 15), (⟨"TinStation$Plant", "sumOver", "(I[I)I"⟩, 15), (⟨"TinStation$World", "doText", "()V"⟩, 7), (⟨"TinStation$World", "lineAfter", "(I)I"⟩, 7), (⟨"TinStation$World", "lineAfterCheck", "(I)I"⟩, 7), (⟨"TinStation$World", "isCheck", "(III)Z"⟩, 7), (⟨"TinStation$World", "holds", "(III)Z"⟩, 7), (⟨"TinStation$World", "actByText", "(I)I"⟩, 7), (⟨"TinStation$Plant", "work", "(ILTinStation$Air;)V"⟩, 15), (⟨"TinStation$Plant", "split", "(ILTinStation$Air;)V"⟩, 15), (⟨"TinStation$Plant", "distil", "(ILTinStation$Air;)V"⟩, 15), (⟨"TinStation$Crew", "breathe", "(ILTinStation$Air;)V"⟩, 7), (⟨"TinStation$Crew", "drink", "(ILTinStation$Air;)V"⟩, 7)]
theorem lw_r1 : ∀ q ∈ lw_privs_1, lw_okq q := List.forall_mem_cons.mpr ⟨lw_p0, List.forall_mem_cons.mpr ⟨lw_p1, List.forall_mem_cons.mpr ⟨lw_p2, List.forall_mem_cons.mpr ⟨lw_p3, List.forall_mem_cons.mpr ⟨lw_p4, List.forall_mem_cons.mpr ⟨lw_p5, List.forall_mem_cons.mpr ⟨lw_p6, List.forall_mem_cons.mpr ⟨lw_p7, List.forall_mem_cons.mpr ⟨lw_p8, List.forall_mem_cons.mpr ⟨lw_p9, List.forall_mem_cons.mpr ⟨lw_p10, List.forall_mem_cons.mpr ⟨lw_p11, List.forall_mem_cons.mpr ⟨lw_p12, List.forall_mem_cons.mpr ⟨lw_p13, List.forall_mem_cons.mpr ⟨lw_p14, List.forall_mem_cons.mpr ⟨lw_p15, fun _ h => absurd h List.not_mem_nil⟩⟩⟩⟩⟩⟩⟩⟩⟩⟩⟩⟩⟩⟩⟩⟩
theorem lw_p16 : lw_okq (⟨"TinStation$Air", "mix", "(II)V"⟩, 8) := ⟨⟨by decide +kernel, by decide +kernel⟩, List.mem_of_getElem? (i := 58) (by decide +kernel), List.mem_of_getElem? (i := 774) (by decide +kernel), List.mem_of_getElem? (i := 775) (by decide +kernel)⟩
theorem lw_p17 : lw_okq (⟨"TinStation$Bounds", "breaksIn", "(ILTinStation$Air;)Z"⟩, 6) := ⟨⟨by decide +kernel, by decide +kernel⟩, List.mem_of_getElem? (i := 186) (by decide +kernel), List.mem_of_getElem? (i := 786) (by decide +kernel), List.mem_of_getElem? (i := 787) (by decide +kernel)⟩
theorem lw_p18 : lw_okq (⟨"TinStation$Bounds", "keepFirst", "(II)V"⟩, 6) := ⟨⟨by decide +kernel, by decide +kernel⟩, List.mem_of_getElem? (i := 186) (by decide +kernel), List.mem_of_getElem? (i := 791) (by decide +kernel), List.mem_of_getElem? (i := 792) (by decide +kernel)⟩
theorem lw_p19 : lw_okq (⟨"TinStation$Hunt", "findParts", "(LTinStation$Air;I)V"⟩, 2) := ⟨⟨by decide +kernel, by decide +kernel⟩, List.mem_of_getElem? (i := 274) (by decide +kernel), List.mem_of_getElem? (i := 911) (by decide +kernel), List.mem_of_getElem? (i := 912) (by decide +kernel)⟩
theorem lw_p20 : lw_okq (⟨"TinStation$Hunt", "join", "(LTinStation$Air;I)V"⟩, 2) := ⟨⟨by decide +kernel, by decide +kernel⟩, List.mem_of_getElem? (i := 274) (by decide +kernel), List.mem_of_getElem? (i := 915) (by decide +kernel), List.mem_of_getElem? (i := 916) (by decide +kernel)⟩
theorem lw_p21 : lw_okq (⟨"TinStation$Hunt", "leftAtWorst", "(LTinStation$Air;I)I"⟩, 2) := ⟨⟨by decide +kernel, by decide +kernel⟩, List.mem_of_getElem? (i := 274) (by decide +kernel), List.mem_of_getElem? (i := 928) (by decide +kernel), List.mem_of_getElem? (i := 929) (by decide +kernel)⟩
theorem lw_p22 : lw_okq (⟨"TinStation$Journal", "tooMuch", "(II)I"⟩, 10) := ⟨⟨by decide +kernel, by decide +kernel⟩, List.mem_of_getElem? (i := 288) (by decide +kernel), List.mem_of_getElem? (i := 969) (by decide +kernel), List.mem_of_getElem? (i := 970) (by decide +kernel)⟩
theorem lw_p23 : lw_okq (⟨"TinStation$Journal", "between", "(III)I"⟩, 10) := ⟨⟨by decide +kernel, by decide +kernel⟩, List.mem_of_getElem? (i := 288) (by decide +kernel), List.mem_of_getElem? (i := 973) (by decide +kernel), List.mem_of_getElem? (i := 974) (by decide +kernel)⟩
theorem lw_p24 : lw_okq (⟨"TinStation", "setMass", "(I)I"⟩, 10) := ⟨⟨by decide +kernel, by decide +kernel⟩, List.mem_of_getElem? (i := 16) (by decide +kernel), List.mem_of_getElem? (i := 998) (by decide +kernel), List.mem_of_getElem? (i := 999) (by decide +kernel)⟩
theorem lw_p25 : lw_okq (⟨"TinStation", "setSpeed", "(I)I"⟩, 10) := ⟨⟨by decide +kernel, by decide +kernel⟩, List.mem_of_getElem? (i := 16) (by decide +kernel), List.mem_of_getElem? (i := 1006) (by decide +kernel), List.mem_of_getElem? (i := 1007) (by decide +kernel)⟩
theorem lw_p26 : lw_okq (⟨"TinStationModel", "finding", "(I)I"⟩, 57) := ⟨⟨by decide +kernel, by decide +kernel⟩, List.mem_of_getElem? (i := 1043) (by decide +kernel), List.mem_of_getElem? (i := 1226) (by decide +kernel), List.mem_of_getElem? (i := 1227) (by decide +kernel)⟩
theorem lw_p27 : lw_okq (⟨"TinStationModel", "isModule", "(I)Z"⟩, 57) := ⟨⟨by decide +kernel, by decide +kernel⟩, List.mem_of_getElem? (i := 1043) (by decide +kernel), List.mem_of_getElem? (i := 1235) (by decide +kernel), List.mem_of_getElem? (i := 1236) (by decide +kernel)⟩
theorem lw_p28 : lw_okq (⟨"TinStationModel", "isHatch", "(I)Z"⟩, 57) := ⟨⟨by decide +kernel, by decide +kernel⟩, List.mem_of_getElem? (i := 1043) (by decide +kernel), List.mem_of_getElem? (i := 1243) (by decide +kernel), List.mem_of_getElem? (i := 1244) (by decide +kernel)⟩
theorem lw_p29 : lw_okq (⟨"TinStationModel", "isPerson", "(I)Z"⟩, 57) := ⟨⟨by decide +kernel, by decide +kernel⟩, List.mem_of_getElem? (i := 1043) (by decide +kernel), List.mem_of_getElem? (i := 1276) (by decide +kernel), List.mem_of_getElem? (i := 1277) (by decide +kernel)⟩
theorem lw_p30 : lw_okq (⟨"TinStationModel", "canGo", "(II)Z"⟩, 57) := ⟨⟨by decide +kernel, by decide +kernel⟩, List.mem_of_getElem? (i := 1043) (by decide +kernel), List.mem_of_getElem? (i := 1280) (by decide +kernel), List.mem_of_getElem? (i := 1281) (by decide +kernel)⟩
theorem lw_p31 : lw_okq (⟨"TinStationModel", "isMachine", "(I)Z"⟩, 57) := ⟨⟨by decide +kernel, by decide +kernel⟩, List.mem_of_getElem? (i := 1043) (by decide +kernel), List.mem_of_getElem? (i := 1300) (by decide +kernel), List.mem_of_getElem? (i := 1301) (by decide +kernel)⟩
def lw_privs_2 : List (MethodName × Nat) := [(⟨"TinStation$Air", "mix", "(II)V"⟩, 8), (⟨"TinStation$Bounds", "breaksIn", "(ILTinStation$Air;)Z"⟩, 6), (⟨"TinStation$Bounds", "keepFirst", "(II)V"⟩, 6), (⟨"TinStation$Hunt", "findParts", "(LTinStation$Air;I)V"⟩, 2), (⟨"TinStation$Hunt", "join", "(LTinStation$Air;I)V"⟩, 2), (⟨"TinStation$Hunt", "leftAtWorst", "(LTinStation$Air;I)I"⟩, 2), (⟨"TinStation$Journal", "tooMuch", "(II)I"⟩, 10), (⟨"TinStation$Journal", "between", "(III)I"⟩, 10), (⟨"TinStation", "setMass", "(I)I"⟩, 10), (⟨"TinStation", "setSpeed", "(I)I"⟩, 10), (⟨"TinStationModel", "finding", "(I)I"⟩, 57), (⟨"TinStationModel", "isModule", "(I)Z"⟩, 57), (⟨"TinStationModel", "isHatch", "(I)Z"⟩, 57), (⟨"TinStationModel", "isPerson", "(I)Z"⟩, 57), (⟨"TinStationModel", "canGo", "(II)Z"⟩, 57), (⟨"TinStationModel", "isMachine", "(I)Z"⟩, 57)]
theorem lw_r2 : ∀ q ∈ lw_privs_2, lw_okq q := List.forall_mem_cons.mpr ⟨lw_p16, List.forall_mem_cons.mpr ⟨lw_p17, List.forall_mem_cons.mpr ⟨lw_p18, List.forall_mem_cons.mpr ⟨lw_p19, List.forall_mem_cons.mpr ⟨lw_p20, List.forall_mem_cons.mpr ⟨lw_p21, List.forall_mem_cons.mpr ⟨lw_p22, List.forall_mem_cons.mpr ⟨lw_p23, List.forall_mem_cons.mpr ⟨lw_p24, List.forall_mem_cons.mpr ⟨lw_p25, List.forall_mem_cons.mpr ⟨lw_p26, List.forall_mem_cons.mpr ⟨lw_p27, List.forall_mem_cons.mpr ⟨lw_p28, List.forall_mem_cons.mpr ⟨lw_p29, List.forall_mem_cons.mpr ⟨lw_p30, List.forall_mem_cons.mpr ⟨lw_p31, fun _ h => absurd h List.not_mem_nil⟩⟩⟩⟩⟩⟩⟩⟩⟩⟩⟩⟩⟩⟩⟩⟩
theorem lw_p32 : lw_okq (⟨"TinStationModel", "refusesMend", "(III)I"⟩, 57) := ⟨⟨by decide +kernel, by decide +kernel⟩, List.mem_of_getElem? (i := 1043) (by decide +kernel), List.mem_of_getElem? (i := 1320) (by decide +kernel), List.mem_of_getElem? (i := 1321) (by decide +kernel)⟩
theorem lw_p33 : lw_okq (⟨"TinStationModel", "isMended", "(I)Z"⟩, 57) := ⟨⟨by decide +kernel, by decide +kernel⟩, List.mem_of_getElem? (i := 1043) (by decide +kernel), List.mem_of_getElem? (i := 1324) (by decide +kernel), List.mem_of_getElem? (i := 1325) (by decide +kernel)⟩
theorem lw_p34 : lw_okq (⟨"TinStationModel", "beginMend", "(III)V"⟩, 57) := ⟨⟨by decide +kernel, by decide +kernel⟩, List.mem_of_getElem? (i := 1043) (by decide +kernel), List.mem_of_getElem? (i := 1328) (by decide +kernel), List.mem_of_getElem? (i := 1329) (by decide +kernel)⟩
theorem lw_p35 : lw_okq (⟨"TinStationModel", "canShed", "(I)Z"⟩, 57) := ⟨⟨by decide +kernel, by decide +kernel⟩, List.mem_of_getElem? (i := 1043) (by decide +kernel), List.mem_of_getElem? (i := 1336) (by decide +kernel), List.mem_of_getElem? (i := 1337) (by decide +kernel)⟩
theorem lw_p36 : lw_okq (⟨"TinStationModel", "together", "(IZI)I"⟩, 57) := ⟨⟨by decide +kernel, by decide +kernel⟩, List.mem_of_getElem? (i := 1043) (by decide +kernel), List.mem_of_getElem? (i := 1340) (by decide +kernel), List.mem_of_getElem? (i := 1341) (by decide +kernel)⟩
theorem lw_p37 : lw_okq (⟨"TinStationModel", "abortText", "()V"⟩, 57) := ⟨⟨by decide +kernel, by decide +kernel⟩, List.mem_of_getElem? (i := 1043) (by decide +kernel), List.mem_of_getElem? (i := 1364) (by decide +kernel), List.mem_of_getElem? (i := 1365) (by decide +kernel)⟩
theorem lw_p38 : lw_okq (⟨"TinStationModel", "endText", "(I)V"⟩, 57) := ⟨⟨by decide +kernel, by decide +kernel⟩, List.mem_of_getElem? (i := 1043) (by decide +kernel), List.mem_of_getElem? (i := 1368) (by decide +kernel), List.mem_of_getElem? (i := 1369) (by decide +kernel)⟩
theorem lw_p39 : lw_okq (⟨"TinStationModel", "tick", "()Z"⟩, 57) := ⟨⟨by decide +kernel, by decide +kernel⟩, List.mem_of_getElem? (i := 1043) (by decide +kernel), List.mem_of_getElem? (i := 1395) (by decide +kernel), List.mem_of_getElem? (i := 1396) (by decide +kernel)⟩
theorem lw_p40 : lw_okq (⟨"TinStationModel", "runText", "()V"⟩, 57) := ⟨⟨by decide +kernel, by decide +kernel⟩, List.mem_of_getElem? (i := 1043) (by decide +kernel), List.mem_of_getElem? (i := 1399) (by decide +kernel), List.mem_of_getElem? (i := 1400) (by decide +kernel)⟩
theorem lw_p41 : lw_okq (⟨"TinStationModel", "isLine", "(I)Z"⟩, 57) := ⟨⟨by decide +kernel, by decide +kernel⟩, List.mem_of_getElem? (i := 1043) (by decide +kernel), List.mem_of_getElem? (i := 1403) (by decide +kernel), List.mem_of_getElem? (i := 1404) (by decide +kernel)⟩
theorem lw_p42 : lw_okq (⟨"TinStationModel", "doLine", "(IIII)Z"⟩, 57) := ⟨⟨by decide +kernel, by decide +kernel⟩, List.mem_of_getElem? (i := 1043) (by decide +kernel), List.mem_of_getElem? (i := 1407) (by decide +kernel), List.mem_of_getElem? (i := 1408) (by decide +kernel)⟩
theorem lw_p43 : lw_okq (⟨"TinStationModel", "canCheck", "(III)Z"⟩, 57) := ⟨⟨by decide +kernel, by decide +kernel⟩, List.mem_of_getElem? (i := 1043) (by decide +kernel), List.mem_of_getElem? (i := 1411) (by decide +kernel), List.mem_of_getElem? (i := 1412) (by decide +kernel)⟩
theorem lw_p44 : lw_okq (⟨"TinStationModel", "isSo", "(II)Z"⟩, 57) := ⟨⟨by decide +kernel, by decide +kernel⟩, List.mem_of_getElem? (i := 1043) (by decide +kernel), List.mem_of_getElem? (i := 1415) (by decide +kernel), List.mem_of_getElem? (i := 1416) (by decide +kernel)⟩
theorem lw_p45 : lw_okq (⟨"TinStationModel", "mendAll", "()V"⟩, 57) := ⟨⟨by decide +kernel, by decide +kernel⟩, List.mem_of_getElem? (i := 1043) (by decide +kernel), List.mem_of_getElem? (i := 1419) (by decide +kernel), List.mem_of_getElem? (i := 1420) (by decide +kernel)⟩
theorem lw_p46 : lw_okq (⟨"TinStationModel", "feedAll", "()V"⟩, 57) := ⟨⟨by decide +kernel, by decide +kernel⟩, List.mem_of_getElem? (i := 1043) (by decide +kernel), List.mem_of_getElem? (i := 1423) (by decide +kernel), List.mem_of_getElem? (i := 1424) (by decide +kernel)⟩
theorem lw_p47 : lw_okq (⟨"TinStationModel", "workOf", "(I)V"⟩, 57) := ⟨⟨by decide +kernel, by decide +kernel⟩, List.mem_of_getElem? (i := 1043) (by decide +kernel), List.mem_of_getElem? (i := 1427) (by decide +kernel), List.mem_of_getElem? (i := 1428) (by decide +kernel)⟩
def lw_privs_3 : List (MethodName × Nat) := [(⟨"TinStationModel", "refusesMend", "(III)I"⟩, 57), (⟨"TinStationModel", "isMended", "(I)Z"⟩, 57), (⟨"TinStationModel", "beginMend", "(III)V"⟩, 57), (⟨"TinStationModel", "canShed", "(I)Z"⟩, 57), (⟨"TinStationModel", "together", "(IZI)I"⟩, 57), (⟨"TinStationModel", "abortText", "()V"⟩, 57), (⟨"TinStationModel", "endText", "(I)V"⟩, 57), (⟨"TinStationModel", "tick", "()Z"⟩, 57), (⟨"TinStationModel", "runText", "()V"⟩, 57), (⟨"TinStationModel", "isLine", "(I)Z"⟩, 57), (⟨"TinStationModel", "doLine", "(IIII)Z"⟩, 57), (⟨"TinStationModel", "canCheck", "(III)Z"⟩, 57), (⟨"TinStationModel", "isSo", "(II)Z"⟩, 57), (⟨"TinStationModel", "mendAll", "()V"⟩, 57), (⟨"TinStationModel", "feedAll", "()V"⟩, 57), (⟨"TinStationModel", "workOf", "(I)V"⟩, 57)]
theorem lw_r3 : ∀ q ∈ lw_privs_3, lw_okq q := List.forall_mem_cons.mpr ⟨lw_p32, List.forall_mem_cons.mpr ⟨lw_p33, List.forall_mem_cons.mpr ⟨lw_p34, List.forall_mem_cons.mpr ⟨lw_p35, List.forall_mem_cons.mpr ⟨lw_p36, List.forall_mem_cons.mpr ⟨lw_p37, List.forall_mem_cons.mpr ⟨lw_p38, List.forall_mem_cons.mpr ⟨lw_p39, List.forall_mem_cons.mpr ⟨lw_p40, List.forall_mem_cons.mpr ⟨lw_p41, List.forall_mem_cons.mpr ⟨lw_p42, List.forall_mem_cons.mpr ⟨lw_p43, List.forall_mem_cons.mpr ⟨lw_p44, List.forall_mem_cons.mpr ⟨lw_p45, List.forall_mem_cons.mpr ⟨lw_p46, List.forall_mem_cons.mpr ⟨lw_p47, fun _ h => absurd h List.not_mem_nil⟩⟩⟩⟩⟩⟩⟩⟩⟩⟩⟩⟩⟩⟩⟩⟩
theorem lw_p48 : lw_okq (⟨"TinStationModel", "breathe", "(I)V"⟩, 57) := ⟨⟨by decide +kernel, by decide +kernel⟩, List.mem_of_getElem? (i := 1043) (by decide +kernel), List.mem_of_getElem? (i := 1431) (by decide +kernel), List.mem_of_getElem? (i := 1432) (by decide +kernel)⟩
theorem lw_p49 : lw_okq (⟨"TinStationModel", "leakAll", "()V"⟩, 57) := ⟨⟨by decide +kernel, by decide +kernel⟩, List.mem_of_getElem? (i := 1043) (by decide +kernel), List.mem_of_getElem? (i := 1435) (by decide +kernel), List.mem_of_getElem? (i := 1436) (by decide +kernel)⟩
theorem lw_p50 : lw_okq (⟨"TinStationModel", "mixAll", "()V"⟩, 57) := ⟨⟨by decide +kernel, by decide +kernel⟩, List.mem_of_getElem? (i := 1043) (by decide +kernel), List.mem_of_getElem? (i := 1440) (by decide +kernel), List.mem_of_getElem? (i := 1441) (by decide +kernel)⟩
theorem lw_p51 : lw_okq (⟨"TinStationModel", "brokenAt", "()I"⟩, 57) := ⟨⟨by decide +kernel, by decide +kernel⟩, List.mem_of_getElem? (i := 1043) (by decide +kernel), List.mem_of_getElem? (i := 1444) (by decide +kernel), List.mem_of_getElem? (i := 1445) (by decide +kernel)⟩
theorem lw_p52 : lw_okq (⟨"TinStationModel", "layAside", "(Z)V"⟩, 57) := ⟨⟨by decide +kernel, by decide +kernel⟩, List.mem_of_getElem? (i := 1043) (by decide +kernel), List.mem_of_getElem? (i := 1456) (by decide +kernel), List.mem_of_getElem? (i := 1457) (by decide +kernel)⟩
theorem lw_p53 : lw_okq (⟨"TinStationModel", "lays", "([IZ)V"⟩, 57) := ⟨⟨by decide +kernel, by decide +kernel⟩, List.mem_of_getElem? (i := 1043) (by decide +kernel), List.mem_of_getElem? (i := 1460) (by decide +kernel), List.mem_of_getElem? (i := 1461) (by decide +kernel)⟩
theorem lw_p54 : lw_okq (⟨"TinStationModel", "partOf", "(II)I"⟩, 57) := ⟨⟨by decide +kernel, by decide +kernel⟩, List.mem_of_getElem? (i := 1043) (by decide +kernel), List.mem_of_getElem? (i := 1472) (by decide +kernel), List.mem_of_getElem? (i := 1473) (by decide +kernel)⟩
theorem lw_p55 : lw_okq (⟨"TinStationModel", "worst", "(I)I"⟩, 57) := ⟨⟨by decide +kernel, by decide +kernel⟩, List.mem_of_getElem? (i := 1043) (by decide +kernel), List.mem_of_getElem? (i := 1480) (by decide +kernel), List.mem_of_getElem? (i := 1481) (by decide +kernel)⟩
theorem lw_p56 : lw_okq (⟨"TinStationModel", "tooMuch", "(II)I"⟩, 57) := ⟨⟨by decide +kernel, by decide +kernel⟩, List.mem_of_getElem? (i := 1043) (by decide +kernel), List.mem_of_getElem? (i := 1503) (by decide +kernel), List.mem_of_getElem? (i := 1504) (by decide +kernel)⟩
def lw_privs_4 : List (MethodName × Nat) := [(⟨"TinStationModel", "breathe", "(I)V"⟩, 57), (⟨"TinStationModel", "leakAll", "()V"⟩, 57), (⟨"TinStationModel", "mixAll", "()V"⟩, 57), (⟨"TinStationModel", "brokenAt", "()I"⟩, 57), (⟨"TinStationModel", "layAside", "(Z)V"⟩, 57), (⟨"TinStationModel", "lays", "([IZ)V"⟩, 57), (⟨"TinStationModel", "partOf", "(II)I"⟩, 57), (⟨"TinStationModel", "worst", "(I)I"⟩, 57), (⟨"TinStationModel", "tooMuch", "(II)I"⟩, 57)]
theorem lw_r4 : ∀ q ∈ lw_privs_4, lw_okq q := List.forall_mem_cons.mpr ⟨lw_p48, List.forall_mem_cons.mpr ⟨lw_p49, List.forall_mem_cons.mpr ⟨lw_p50, List.forall_mem_cons.mpr ⟨lw_p51, List.forall_mem_cons.mpr ⟨lw_p52, List.forall_mem_cons.mpr ⟨lw_p53, List.forall_mem_cons.mpr ⟨lw_p54, List.forall_mem_cons.mpr ⟨lw_p55, List.forall_mem_cons.mpr ⟨lw_p56, fun _ h => absurd h List.not_mem_nil⟩⟩⟩⟩⟩⟩⟩⟩⟩
def lw_privs : List (MethodName × Nat) := lw_privs_1 ++ (lw_privs_2 ++ (lw_privs_3 ++ (lw_privs_4)))
def lw_tbl : List Cond := k2_sels lw_privs ++ tables_1
theorem lw_privs_ok : ∀ q ∈ lw_privs, lw_okq q := by
  show ∀ q ∈ lw_privs_1 ++ (lw_privs_2 ++ (lw_privs_3 ++ (lw_privs_4))), lw_okq q
  exact List.forall_mem_append.mpr ⟨lw_r1, List.forall_mem_append.mpr ⟨lw_r2, List.forall_mem_append.mpr ⟨lw_r3, lw_r4⟩⟩⟩
end
section
def RX0 : String := "TinStation$Air"
def TX0 : u_T := fun k => match k with
  | 0 => ("TinStation$Air", "held", "[I", true)
  | 1 => ("TinStation$Air", "leaks", "[I", true)
  | 2 => ("TinStation$Air", "oneEnd", "[I", true)
  | 3 => ("TinStation$Air", "otherEnd", "[I", true)
  | 4 => ("TinStation$Air", "open", "[Z", true)
  | 5 => ("TinStation$Air", "stored", "[I", true)
  | 6 => ("TinStation$Air", "modules", "I", false)
  | _ => ("TinStation$Air", "hatches", "I", false)
def tyX0 : Nat → FieldType := fun k => match k with
  | 0 => .array .int
  | 1 => .array .int
  | 2 => .array .int
  | 3 => .array .int
  | 4 => .array .boolean
  | 5 => .array .int
  | 6 => .int
  | _ => .int
theorem nmX0 : ∀ a, a < 8 → ∀ b, b < 8 → a ≠ b → (TX0 a).2.1 ≠ (TX0 b).2.1 := by decide +kernel
theorem tyX0_ok : ∀ k, k < 8 → parseFieldDescriptor (TX0 k).2.2.1 = some (tyX0 k) := by decide +kernel
abbrev cX0_init : ByteArray := prog_2_method_1_code
def yX0_init : MethodName := ⟨RX0, "<init>", "()V"⟩
abbrev cX0_becomeLike : ByteArray := prog_2_method_2_code
def yX0_becomeLike : MethodName := ⟨RX0, "becomeLike", "(LTinStation$Air;)V"⟩
abbrev cX0_isSort : ByteArray := prog_2_method_3_code
def yX0_isSort : MethodName := ⟨RX0, "isSort", "(I)Z"⟩
abbrev cX0_hasModule : ByteArray := prog_2_method_4_code
def yX0_hasModule : MethodName := ⟨RX0, "hasModule", "(I)Z"⟩
abbrev cX0_hasHatch : ByteArray := prog_2_method_5_code
def yX0_hasHatch : MethodName := ⟨RX0, "hasHatch", "(I)Z"⟩
abbrev cX0_addModule : ByteArray := prog_2_method_6_code
def yX0_addModule : MethodName := ⟨RX0, "addModule", "()I"⟩
abbrev cX0_addHatch : ByteArray := prog_2_method_7_code
def yX0_addHatch : MethodName := ⟨RX0, "addHatch", "(II)I"⟩
abbrev cX0_setOpen : ByteArray := prog_2_method_8_code
def yX0_setOpen : MethodName := ⟨RX0, "setOpen", "(II)I"⟩
abbrev cX0_setHeld : ByteArray := prog_2_method_9_code
def yX0_setHeld : MethodName := ⟨RX0, "setHeld", "(III)I"⟩
abbrev cX0_setLeak : ByteArray := prog_2_method_10_code
def yX0_setLeak : MethodName := ⟨RX0, "setLeak", "(II)I"⟩
abbrev cX0_setStored : ByteArray := prog_2_method_11_code
def yX0_setStored : MethodName := ⟨RX0, "setStored", "(II)I"⟩
abbrev cX0_allGrams : ByteArray := prog_2_method_12_code
def yX0_allGrams : MethodName := ⟨RX0, "allGrams", "()I"⟩
abbrev cX0_amount : ByteArray := prog_2_method_13_code
def yX0_amount : MethodName := ⟨RX0, "amount", "(II)I"⟩
abbrev cX0_give : ByteArray := prog_2_method_14_code
def yX0_give : MethodName := ⟨RX0, "give", "(III)V"⟩
abbrev cX0_take : ByteArray := prog_2_method_15_code
def yX0_take : MethodName := ⟨RX0, "take", "(III)I"⟩
abbrev cX0_fill : ByteArray := prog_2_method_16_code
def yX0_fill : MethodName := ⟨RX0, "fill", "(II)V"⟩
abbrev cX0_draw : ByteArray := prog_2_method_17_code
def yX0_draw : MethodName := ⟨RX0, "draw", "(II)I"⟩
abbrev cX0_openBetween : ByteArray := prog_2_method_18_code
def yX0_openBetween : MethodName := ⟨RX0, "openBetween", "(II)Z"⟩
abbrev cX0_leakOut : ByteArray := prog_2_method_19_code
def yX0_leakOut : MethodName := ⟨RX0, "leakOut", "()V"⟩
abbrev cX0_mixThroughHatches : ByteArray := prog_2_method_20_code
def yX0_mixThroughHatches : MethodName := ⟨RX0, "mixThroughHatches", "()V"⟩
abbrev cX0_mix : ByteArray := prog_2_method_21_code
def yX0_mix : MethodName := ⟨RX0, "mix", "(II)V"⟩
def RX1 : String := "TinStation$Bounds"
def TX1 : u_T := fun k => match k with
  | 0 => ("TinStation$Bounds", "leastOxygen", "I", false)
  | 1 => ("TinStation$Bounds", "mostCarbon", "I", false)
  | 2 => ("TinStation$Bounds", "mostHeat", "I", false)
  | 3 => ("TinStation$Bounds", "broken", "Z", false)
  | 4 => ("TinStation$Bounds", "firstTick", "I", false)
  | _ => ("TinStation$Bounds", "firstModule", "I", false)
def tyX1 : Nat → FieldType := fun k => match k with
  | 0 => .int
  | 1 => .int
  | 2 => .int
  | 3 => .boolean
  | 4 => .int
  | _ => .int
theorem nmX1 : ∀ a, a < 6 → ∀ b, b < 6 → a ≠ b → (TX1 a).2.1 ≠ (TX1 b).2.1 := by decide +kernel
theorem tyX1_ok : ∀ k, k < 6 → parseFieldDescriptor (TX1 k).2.2.1 = some (tyX1 k) := by decide +kernel
abbrev cX1_init : ByteArray := prog_3_method_1_code
def yX1_init : MethodName := ⟨RX1, "<init>", "()V"⟩
abbrev cX1_becomeLike : ByteArray := prog_3_method_2_code
def yX1_becomeLike : MethodName := ⟨RX1, "becomeLike", "(LTinStation$Bounds;)V"⟩
abbrev cX1_setAll : ByteArray := prog_3_method_3_code
def yX1_setAll : MethodName := ⟨RX1, "setAll", "(III)I"⟩
abbrev cX1_isBound : ByteArray := prog_3_method_4_code
def yX1_isBound : MethodName := ⟨RX1, "isBound", "(I)Z"⟩
abbrev cX1_tellFirstBreak : ByteArray := prog_3_method_5_code
def yX1_tellFirstBreak : MethodName := ⟨RX1, "tellFirstBreak", "(I)I"⟩
abbrev cX1_look : ByteArray := prog_3_method_6_code
def yX1_look : MethodName := ⟨RX1, "look", "(LTinStation$Air;LTinStation$Crew;I)Z"⟩
abbrev cX1_breaksIn : ByteArray := prog_3_method_7_code
def yX1_breaksIn : MethodName := ⟨RX1, "breaksIn", "(ILTinStation$Air;)Z"⟩
abbrev cX1_keepFirst : ByteArray := prog_3_method_8_code
def yX1_keepFirst : MethodName := ⟨RX1, "keepFirst", "(II)V"⟩
def RX2 : String := "TinStation$Course"
def TX2 : u_T := fun k => match k with
  | 0 => ("TinStation$Course", "runs", "Z", false)
  | 1 => ("TinStation$Course", "halted", "Z", false)
  | 2 => ("TinStation$Course", "aborting", "Z", false)
  | 3 => ("TinStation$Course", "next", "I", false)
  | 4 => ("TinStation$Course", "safe", "I", false)
  | 5 => ("TinStation$Course", "waitLeft", "I", false)
  | _ => ("TinStation$Course", "ended", "I", false)
def tyX2 : Nat → FieldType := fun k => match k with
  | 0 => .boolean
  | 1 => .boolean
  | 2 => .boolean
  | 3 => .int
  | 4 => .int
  | 5 => .int
  | _ => .int
theorem nmX2 : ∀ a, a < 7 → ∀ b, b < 7 → a ≠ b → (TX2 a).2.1 ≠ (TX2 b).2.1 := by decide +kernel
theorem tyX2_ok : ∀ k, k < 7 → parseFieldDescriptor (TX2 k).2.2.1 = some (tyX2 k) := by decide +kernel
abbrev cX2_init : ByteArray := prog_4_method_1_code
def yX2_init : MethodName := ⟨RX2, "<init>", "()V"⟩
abbrev cX2_becomeLike : ByteArray := prog_4_method_2_code
def yX2_becomeLike : MethodName := ⟨RX2, "becomeLike", "(LTinStation$Course;)V"⟩
abbrev cX2_start : ByteArray := prog_4_method_3_code
def yX2_start : MethodName := ⟨RX2, "start", "()V"⟩
abbrev cX2_finish : ByteArray := prog_4_method_4_code
def yX2_finish : MethodName := ⟨RX2, "finish", "(I)V"⟩
abbrev cX2_goOnAt : ByteArray := prog_4_method_5_code
def yX2_goOnAt : MethodName := ⟨RX2, "goOnAt", "(I)V"⟩
abbrev cX2_giveUp : ByteArray := prog_4_method_6_code
def yX2_giveUp : MethodName := ⟨RX2, "giveUp", "()V"⟩
abbrev cX2_setHalted : ByteArray := prog_4_method_7_code
def yX2_setHalted : MethodName := ⟨RX2, "setHalted", "(I)I"⟩
abbrev cX2_tellOf : ByteArray := prog_4_method_8_code
def yX2_tellOf : MethodName := ⟨RX2, "tellOf", "(I)I"⟩
def RX3 : String := "TinStation$Crew"
def TX3 : u_T := fun k => match k with
  | 0 => ("TinStation$Crew", "place", "[I", true)
  | 1 => ("TinStation$Crew", "does", "[I", true)
  | 2 => ("TinStation$Crew", "mended", "[I", true)
  | 3 => ("TinStation$Crew", "ticksLeft", "[I", true)
  | 4 => ("TinStation$Crew", "shortOfAir", "[I", true)
  | 5 => ("TinStation$Crew", "dry", "[I", true)
  | _ => ("TinStation$Crew", "people", "I", false)
def tyX3 : Nat → FieldType := fun k => match k with
  | 0 => .array .int
  | 1 => .array .int
  | 2 => .array .int
  | 3 => .array .int
  | 4 => .array .int
  | 5 => .array .int
  | _ => .int
theorem nmX3 : ∀ a, a < 7 → ∀ b, b < 7 → a ≠ b → (TX3 a).2.1 ≠ (TX3 b).2.1 := by decide +kernel
theorem tyX3_ok : ∀ k, k < 7 → parseFieldDescriptor (TX3 k).2.2.1 = some (tyX3 k) := by decide +kernel
abbrev cX3_init : ByteArray := prog_5_method_1_code
def yX3_init : MethodName := ⟨RX3, "<init>", "()V"⟩
abbrev cX3_becomeLike : ByteArray := prog_5_method_2_code
def yX3_becomeLike : MethodName := ⟨RX3, "becomeLike", "(LTinStation$Crew;)V"⟩
abbrev cX3_has : ByteArray := prog_5_method_3_code
def yX3_has : MethodName := ⟨RX3, "has", "(I)Z"⟩
abbrev cX3_mends : ByteArray := prog_5_method_4_code
def yX3_mends : MethodName := ⟨RX3, "mends", "(I)Z"⟩
abbrev cX3_addPerson : ByteArray := prog_5_method_5_code
def yX3_addPerson : MethodName := ⟨RX3, "addPerson", "(I)I"⟩
abbrev cX3_setDoing : ByteArray := prog_5_method_6_code
def yX3_setDoing : MethodName := ⟨RX3, "setDoing", "(II)I"⟩
abbrev cX3_tellOf : ByteArray := prog_5_method_7_code
def yX3_tellOf : MethodName := ⟨RX3, "tellOf", "(II)I"⟩
abbrev cX3_startMending : ByteArray := prog_5_method_8_code
def yX3_startMending : MethodName := ⟨RX3, "startMending", "(III)V"⟩
abbrev cX3_isMended : ByteArray := prog_5_method_9_code
def yX3_isMended : MethodName := ⟨RX3, "isMended", "(I)Z"⟩
abbrev cX3_menders : ByteArray := prog_5_method_10_code
def yX3_menders : MethodName := ⟨RX3, "menders", "()I"⟩
abbrev cX3_anyoneIn : ByteArray := prog_5_method_11_code
def yX3_anyoneIn : MethodName := ⟨RX3, "anyoneIn", "(I)Z"⟩
abbrev cX3_mendOn : ByteArray := prog_5_method_12_code
def yX3_mendOn : MethodName := ⟨RX3, "mendOn", "(LTinStation$Plant;)V"⟩
abbrev cX3_live : ByteArray := prog_5_method_13_code
def yX3_live : MethodName := ⟨RX3, "live", "(LTinStation$Air;)V"⟩
abbrev cX3_breathe : ByteArray := prog_5_method_14_code
def yX3_breathe : MethodName := ⟨RX3, "breathe", "(ILTinStation$Air;)V"⟩
abbrev cX3_drink : ByteArray := prog_5_method_15_code
def yX3_drink : MethodName := ⟨RX3, "drink", "(ILTinStation$Air;)V"⟩
def RX4 : String := "TinStation$Hunt"
def TX4 : u_T := fun k => match k with
  | 0 => ("TinStation$Hunt", "part", "[I", true)
  | _ => ("TinStation$Hunt", "suspected", "I", false)
def tyX4 : Nat → FieldType := fun k => match k with
  | 0 => .array .int
  | _ => .int
theorem nmX4 : ∀ a, a < 2 → ∀ b, b < 2 → a ≠ b → (TX4 a).2.1 ≠ (TX4 b).2.1 := by decide +kernel
theorem tyX4_ok : ∀ k, k < 2 → parseFieldDescriptor (TX4 k).2.2.1 = some (tyX4 k) := by decide +kernel
abbrev cX4_init : ByteArray := prog_6_method_1_code
def yX4_init : MethodName := ⟨RX4, "<init>", "()V"⟩
abbrev cX4_startOver : ByteArray := prog_6_method_2_code
def yX4_startOver : MethodName := ⟨RX4, "startOver", "(LTinStation$Air;)I"⟩
abbrev cX4_narrow : ByteArray := prog_6_method_3_code
def yX4_narrow : MethodName := ⟨RX4, "narrow", "(LTinStation$Air;II)I"⟩
abbrev cX4_bestTest : ByteArray := prog_6_method_4_code
def yX4_bestTest : MethodName := ⟨RX4, "bestTest", "(LTinStation$Air;I)I"⟩
abbrev cX4_leftAtWorst : ByteArray := prog_6_method_5_code
def yX4_leftAtWorst : MethodName := ⟨RX4, "leftAtWorst", "(LTinStation$Air;I)I"⟩
abbrev cX4_findParts : ByteArray := prog_6_method_6_code
def yX4_findParts : MethodName := ⟨RX4, "findParts", "(LTinStation$Air;I)V"⟩
abbrev cX4_join : ByteArray := prog_6_method_7_code
def yX4_join : MethodName := ⟨RX4, "join", "(LTinStation$Air;I)V"⟩
def RX5 : String := "TinStation$Journal"
def TX5 : u_T := fun k => match k with
  | 0 => ("TinStation$Journal", "readSensor", "[I", true)
  | 1 => ("TinStation$Journal", "readTick", "[I", true)
  | 2 => ("TinStation$Journal", "readValue", "[I", true)
  | 3 => ("TinStation$Journal", "heardTick", "[I", true)
  | 4 => ("TinStation$Journal", "setSensor", "[I", true)
  | 5 => ("TinStation$Journal", "setTick", "[I", true)
  | 6 => ("TinStation$Journal", "setOver", "[I", true)
  | 7 => ("TinStation$Journal", "readings", "I", false)
  | 8 => ("TinStation$Journal", "calibrations", "I", false)
  | _ => ("TinStation$Journal", "lag", "I", false)
def tyX5 : Nat → FieldType := fun k => match k with
  | 0 => .array .int
  | 1 => .array .int
  | 2 => .array .int
  | 3 => .array .int
  | 4 => .array .int
  | 5 => .array .int
  | 6 => .array .int
  | 7 => .int
  | 8 => .int
  | _ => .int
theorem nmX5 : ∀ a, a < 10 → ∀ b, b < 10 → a ≠ b → (TX5 a).2.1 ≠ (TX5 b).2.1 := by decide +kernel
theorem tyX5_ok : ∀ k, k < 10 → parseFieldDescriptor (TX5 k).2.2.1 = some (tyX5 k) := by decide +kernel
abbrev cX5_init : ByteArray := prog_7_method_1_code
def yX5_init : MethodName := ⟨RX5, "<init>", "()V"⟩
abbrev cX5_isSensor : ByteArray := prog_7_method_2_code
def yX5_isSensor : MethodName := ⟨RX5, "isSensor", "(I)Z"⟩
abbrev cX5_addReading : ByteArray := prog_7_method_3_code
def yX5_addReading : MethodName := ⟨RX5, "addReading", "(III)I"⟩
abbrev cX5_addCalibration : ByteArray := prog_7_method_4_code
def yX5_addCalibration : MethodName := ⟨RX5, "addCalibration", "(III)I"⟩
abbrev cX5_setDelay : ByteArray := prog_7_method_5_code
def yX5_setDelay : MethodName := ⟨RX5, "setDelay", "(I)I"⟩
abbrev cX5_latestHeard : ByteArray := prog_7_method_6_code
def yX5_latestHeard : MethodName := ⟨RX5, "latestHeard", "(II)I"⟩
abbrev cX5_workedBack : ByteArray := prog_7_method_7_code
def yX5_workedBack : MethodName := ⟨RX5, "workedBack", "(I)I"⟩
abbrev cX5_tooMuch : ByteArray := prog_7_method_8_code
def yX5_tooMuch : MethodName := ⟨RX5, "tooMuch", "(II)I"⟩
abbrev cX5_between : ByteArray := prog_7_method_9_code
def yX5_between : MethodName := ⟨RX5, "between", "(III)I"⟩
def RX6 : String := "TinStation$Plant"
def TX6 : u_T := fun k => match k with
  | 0 => ("TinStation$Plant", "kind", "[I", true)
  | 1 => ("TinStation$Plant", "place", "[I", true)
  | 2 => ("TinStation$Plant", "rate", "[I", true)
  | 3 => ("TinStation$Plant", "power", "[I", true)
  | 4 => ("TinStation$Plant", "harm", "[I", true)
  | 5 => ("TinStation$Plant", "life", "[I", true)
  | 6 => ("TinStation$Plant", "wear", "[I", true)
  | 7 => ("TinStation$Plant", "on", "[Z", true)
  | 8 => ("TinStation$Plant", "fault", "[Z", true)
  | 9 => ("TinStation$Plant", "ran", "[Z", true)
  | 10 => ("TinStation$Plant", "sparesLeft", "[I", true)
  | 11 => ("TinStation$Plant", "machines", "I", false)
  | 12 => ("TinStation$Plant", "light", "I", false)
  | 13 => ("TinStation$Plant", "store", "I", false)
  | _ => ("TinStation$Plant", "charge", "I", false)
def tyX6 : Nat → FieldType := fun k => match k with
  | 0 => .array .int
  | 1 => .array .int
  | 2 => .array .int
  | 3 => .array .int
  | 4 => .array .int
  | 5 => .array .int
  | 6 => .array .int
  | 7 => .array .boolean
  | 8 => .array .boolean
  | 9 => .array .boolean
  | 10 => .array .int
  | 11 => .int
  | 12 => .int
  | 13 => .int
  | _ => .int
theorem nmX6 : ∀ a, a < 15 → ∀ b, b < 15 → a ≠ b → (TX6 a).2.1 ≠ (TX6 b).2.1 := by decide +kernel
theorem tyX6_ok : ∀ k, k < 15 → parseFieldDescriptor (TX6 k).2.2.1 = some (tyX6 k) := by decide +kernel
abbrev cX6_init : ByteArray := prog_8_method_1_code
def yX6_init : MethodName := ⟨RX6, "<init>", "()V"⟩
abbrev cX6_becomeLike : ByteArray := prog_8_method_2_code
def yX6_becomeLike : MethodName := ⟨RX6, "becomeLike", "(LTinStation$Plant;)V"⟩
abbrev cX6_isKind : ByteArray := prog_8_method_3_code
def yX6_isKind : MethodName := ⟨RX6, "isKind", "(I)Z"⟩
abbrev cX6_has : ByteArray := prog_8_method_4_code
def yX6_has : MethodName := ⟨RX6, "has", "(I)Z"⟩
abbrev cX6_addMachine : ByteArray := prog_8_method_5_code
def yX6_addMachine : MethodName := ⟨RX6, "addMachine", "(IIII)I"⟩
abbrev cX6_isUse : ByteArray := prog_8_method_6_code
def yX6_isUse : MethodName := ⟨RX6, "isUse", "(I)Z"⟩
abbrev cX6_rateAs : ByteArray := prog_8_method_7_code
def yX6_rateAs : MethodName := ⟨RX6, "rateAs", "(II)I"⟩
abbrev cX6_isUnder : ByteArray := prog_8_method_8_code
def yX6_isUnder : MethodName := ⟨RX6, "isUnder", "(II)Z"⟩
abbrev cX6_setOn : ByteArray := prog_8_method_9_code
def yX6_setOn : MethodName := ⟨RX6, "setOn", "(II)I"⟩
abbrev cX6_tellOf : ByteArray := prog_8_method_10_code
def yX6_tellOf : MethodName := ⟨RX6, "tellOf", "(II)I"⟩
abbrev cX6_setSpares : ByteArray := prog_8_method_11_code
def yX6_setSpares : MethodName := ⟨RX6, "setSpares", "(II)I"⟩
abbrev cX6_setSun : ByteArray := prog_8_method_12_code
def yX6_setSun : MethodName := ⟨RX6, "setSun", "(II)I"⟩
abbrev cX6_setBattery : ByteArray := prog_8_method_13_code
def yX6_setBattery : MethodName := ⟨RX6, "setBattery", "(I)I"⟩
abbrev cX6_makeNew : ByteArray := prog_8_method_14_code
def yX6_makeNew : MethodName := ⟨RX6, "makeNew", "(I)V"⟩
abbrev cX6_isReady : ByteArray := prog_8_method_15_code
def yX6_isReady : MethodName := ⟨RX6, "isReady", "(I)Z"⟩
abbrev cX6_sharePower : ByteArray := prog_8_method_16_code
def yX6_sharePower : MethodName := ⟨RX6, "sharePower", "(I)V"⟩
abbrev cX6_workAll : ByteArray := prog_8_method_17_code
def yX6_workAll : MethodName := ⟨RX6, "workAll", "(LTinStation$Air;)V"⟩
abbrev cX6_work : ByteArray := prog_8_method_18_code
def yX6_work : MethodName := ⟨RX6, "work", "(ILTinStation$Air;)V"⟩
abbrev cX6_split : ByteArray := prog_8_method_19_code
def yX6_split : MethodName := ⟨RX6, "split", "(ILTinStation$Air;)V"⟩
abbrev cX6_distil : ByteArray := prog_8_method_20_code
def yX6_distil : MethodName := ⟨RX6, "distil", "(ILTinStation$Air;)V"⟩
abbrev cX6_shedding : ByteArray := prog_8_method_21_code
def yX6_shedding : MethodName := ⟨RX6, "shedding", "(II)I"⟩
abbrev cX6_readySet : ByteArray := prog_8_method_22_code
def yX6_readySet : MethodName := ⟨RX6, "readySet", "()I"⟩
abbrev cX6_sumOver : ByteArray := prog_8_method_23_code
def yX6_sumOver : MethodName := ⟨RX6, "sumOver", "(I[I)I"⟩
abbrev cX6_leastHarm : ByteArray := prog_8_method_24_code
def yX6_leastHarm : MethodName := ⟨RX6, "leastHarm", "(I)I"⟩
def RX7 : String := "TinStation$Script"
def TX7 : u_T := fun k => match k with
  | 0 => ("TinStation$Script", "op", "[I", true)
  | 1 => ("TinStation$Script", "a", "[I", true)
  | 2 => ("TinStation$Script", "b", "[I", true)
  | 3 => ("TinStation$Script", "c", "[I", true)
  | _ => ("TinStation$Script", "lines", "I", false)
def tyX7 : Nat → FieldType := fun k => match k with
  | 0 => .array .int
  | 1 => .array .int
  | 2 => .array .int
  | 3 => .array .int
  | _ => .int
theorem nmX7 : ∀ a, a < 5 → ∀ b, b < 5 → a ≠ b → (TX7 a).2.1 ≠ (TX7 b).2.1 := by decide +kernel
theorem tyX7_ok : ∀ k, k < 5 → parseFieldDescriptor (TX7 k).2.2.1 = some (tyX7 k) := by decide +kernel
abbrev cX7_init : ByteArray := prog_9_method_1_code
def yX7_init : MethodName := ⟨RX7, "<init>", "()V"⟩
abbrev cX7_has : ByteArray := prog_9_method_2_code
def yX7_has : MethodName := ⟨RX7, "has", "(I)Z"⟩
abbrev cX7_addLine : ByteArray := prog_9_method_3_code
def yX7_addLine : MethodName := ⟨RX7, "addLine", "(IIII)I"⟩
def RX8 : String := "TinStation$World"
def TX8 : u_T := fun k => match k with
  | 0 => ("TinStation$World", "script", "LTinStation$Script;", true)
  | 1 => ("TinStation$World", "air", "LTinStation$Air;", true)
  | 2 => ("TinStation$World", "crew", "LTinStation$Crew;", true)
  | 3 => ("TinStation$World", "plant", "LTinStation$Plant;", true)
  | 4 => ("TinStation$World", "bounds", "LTinStation$Bounds;", true)
  | 5 => ("TinStation$World", "course", "LTinStation$Course;", true)
  | _ => ("TinStation$World", "tick", "I", false)
def tyX8 : Nat → FieldType := fun k => match k with
  | 0 => .object "TinStation$Script"
  | 1 => .object "TinStation$Air"
  | 2 => .object "TinStation$Crew"
  | 3 => .object "TinStation$Plant"
  | 4 => .object "TinStation$Bounds"
  | 5 => .object "TinStation$Course"
  | _ => .int
theorem nmX8 : ∀ a, a < 7 → ∀ b, b < 7 → a ≠ b → (TX8 a).2.1 ≠ (TX8 b).2.1 := by decide +kernel
theorem tyX8_ok : ∀ k, k < 7 → parseFieldDescriptor (TX8 k).2.2.1 = some (tyX8 k) := by decide +kernel
abbrev cX8_init : ByteArray := prog_10_method_1_code
def yX8_init : MethodName := ⟨RX8, "<init>", "(LTinStation$Script;)V"⟩
abbrev cX8_becomeLike : ByteArray := prog_10_method_2_code
def yX8_becomeLike : MethodName := ⟨RX8, "becomeLike", "(LTinStation$World;)V"⟩
abbrev cX8_passTick : ByteArray := prog_10_method_3_code
def yX8_passTick : MethodName := ⟨RX8, "passTick", "()Z"⟩
abbrev cX8_walk : ByteArray := prog_10_method_4_code
def yX8_walk : MethodName := ⟨RX8, "walk", "(II)I"⟩
abbrev cX8_mend : ByteArray := prog_10_method_5_code
def yX8_mend : MethodName := ⟨RX8, "mend", "(III)I"⟩
abbrev cX8_doText : ByteArray := prog_10_method_6_code
def yX8_doText : MethodName := ⟨RX8, "doText", "()V"⟩
abbrev cX8_lineAfter : ByteArray := prog_10_method_7_code
def yX8_lineAfter : MethodName := ⟨RX8, "lineAfter", "(I)I"⟩
abbrev cX8_actByText : ByteArray := prog_10_method_8_code
def yX8_actByText : MethodName := ⟨RX8, "actByText", "(I)I"⟩
abbrev cX8_lineAfterCheck : ByteArray := prog_10_method_9_code
def yX8_lineAfterCheck : MethodName := ⟨RX8, "lineAfterCheck", "(I)I"⟩
abbrev cX8_isCheck : ByteArray := prog_10_method_10_code
def yX8_isCheck : MethodName := ⟨RX8, "isCheck", "(III)Z"⟩
abbrev cX8_holds : ByteArray := prog_10_method_11_code
def yX8_holds : MethodName := ⟨RX8, "holds", "(III)Z"⟩
def RX9 : String := "TinStation"
def TX9 : u_T := fun k => match k with
  | 0 => ("TinStation", "script", "LTinStation$Script;", true)
  | 1 => ("TinStation", "now", "LTinStation$World;", true)
  | 2 => ("TinStation", "later", "LTinStation$World;", true)
  | 3 => ("TinStation", "leakHunt", "LTinStation$Hunt;", true)
  | 4 => ("TinStation", "journal", "LTinStation$Journal;", true)
  | 5 => ("TinStation", "waiting", "[I", true)
  | 6 => ("TinStation", "findings", "[I", true)
  | 7 => ("TinStation", "waitingNumbers", "I", false)
  | 8 => ("TinStation", "stationMass", "I", false)
  | _ => ("TinStation", "stationSpeed", "I", false)
def tyX9 : Nat → FieldType := fun k => match k with
  | 0 => .object "TinStation$Script"
  | 1 => .object "TinStation$World"
  | 2 => .object "TinStation$World"
  | 3 => .object "TinStation$Hunt"
  | 4 => .object "TinStation$Journal"
  | 5 => .array .int
  | 6 => .array .int
  | 7 => .int
  | 8 => .int
  | _ => .int
theorem nmX9 : ∀ a, a < 10 → ∀ b, b < 10 → a ≠ b → (TX9 a).2.1 ≠ (TX9 b).2.1 := by decide +kernel
theorem tyX9_ok : ∀ k, k < 10 → parseFieldDescriptor (TX9 k).2.2.1 = some (tyX9 k) := by decide +kernel
abbrev cX9_init : ByteArray := prog_1_method_1_code
def yX9_init : MethodName := ⟨RX9, "<init>", "()V"⟩
abbrev cX9_module : ByteArray := prog_1_method_2_code
def yX9_module : MethodName := ⟨RX9, "module", "()I"⟩
abbrev cX9_hatch : ByteArray := prog_1_method_3_code
def yX9_hatch : MethodName := ⟨RX9, "hatch", "(II)I"⟩
abbrev cX9_shut : ByteArray := prog_1_method_4_code
def yX9_shut : MethodName := ⟨RX9, "shut", "(II)I"⟩
abbrev cX9_gas : ByteArray := prog_1_method_5_code
def yX9_gas : MethodName := ⟨RX9, "gas", "(III)I"⟩
abbrev cX9_leak : ByteArray := prog_1_method_6_code
def yX9_leak : MethodName := ⟨RX9, "leak", "(II)I"⟩
abbrev cX9_tank : ByteArray := prog_1_method_7_code
def yX9_tank : MethodName := ⟨RX9, "tank", "(II)I"⟩
abbrev cX9_grams : ByteArray := prog_1_method_8_code
def yX9_grams : MethodName := ⟨RX9, "grams", "()I"⟩
abbrev cX9_person : ByteArray := prog_1_method_9_code
def yX9_person : MethodName := ⟨RX9, "person", "(I)I"⟩
abbrev cX9_go : ByteArray := prog_1_method_10_code
def yX9_go : MethodName := ⟨RX9, "go", "(II)I"⟩
abbrev cX9_doing : ByteArray := prog_1_method_11_code
def yX9_doing : MethodName := ⟨RX9, "doing", "(II)I"⟩
abbrev cX9_about : ByteArray := prog_1_method_12_code
def yX9_about : MethodName := ⟨RX9, "about", "(II)I"⟩
abbrev cX9_machine : ByteArray := prog_1_method_13_code
def yX9_machine : MethodName := ⟨RX9, "machine", "(IIII)I"⟩
abbrev cX9_as : ByteArray := prog_1_method_14_code
def yX9_as : MethodName := ⟨RX9, "as", "(II)I"⟩
abbrev cX9_turn : ByteArray := prog_1_method_15_code
def yX9_turn : MethodName := ⟨RX9, "turn", "(II)I"⟩
abbrev cX9_of : ByteArray := prog_1_method_16_code
def yX9_of : MethodName := ⟨RX9, "of", "(II)I"⟩
abbrev cX9_spares : ByteArray := prog_1_method_17_code
def yX9_spares : MethodName := ⟨RX9, "spares", "(II)I"⟩
abbrev cX9_repair : ByteArray := prog_1_method_18_code
def yX9_repair : MethodName := ⟨RX9, "repair", "(III)I"⟩
abbrev cX9_shed : ByteArray := prog_1_method_19_code
def yX9_shed : MethodName := ⟨RX9, "shed", "(II)I"⟩
abbrev cX9_sun : ByteArray := prog_1_method_20_code
def yX9_sun : MethodName := ⟨RX9, "sun", "(II)I"⟩
abbrev cX9_battery : ByteArray := prog_1_method_21_code
def yX9_battery : MethodName := ⟨RX9, "battery", "(I)I"⟩
abbrev cX9_bounds : ByteArray := prog_1_method_22_code
def yX9_bounds : MethodName := ⟨RX9, "bounds", "(III)I"⟩
abbrev cX9_ticks : ByteArray := prog_1_method_23_code
def yX9_ticks : MethodName := ⟨RX9, "ticks", "(I)I"⟩
abbrev cX9_broke : ByteArray := prog_1_method_24_code
def yX9_broke : MethodName := ⟨RX9, "broke", "(I)I"⟩
abbrev cX9_ahead : ByteArray := prog_1_method_25_code
def yX9_ahead : MethodName := ⟨RX9, "ahead", "(I)I"⟩
abbrev cX9_line : ByteArray := prog_1_method_26_code
def yX9_line : MethodName := ⟨RX9, "line", "(IIII)I"⟩
abbrev cX9_erase : ByteArray := prog_1_method_27_code
def yX9_erase : MethodName := ⟨RX9, "erase", "()I"⟩
abbrev cX9_begin : ByteArray := prog_1_method_28_code
def yX9_begin : MethodName := ⟨RX9, "begin", "()I"⟩
abbrev cX9_halt : ByteArray := prog_1_method_29_code
def yX9_halt : MethodName := ⟨RX9, "halt", "(I)I"⟩
abbrev cX9_abort : ByteArray := prog_1_method_30_code
def yX9_abort : MethodName := ⟨RX9, "abort", "()I"⟩
abbrev cX9_text : ByteArray := prog_1_method_31_code
def yX9_text : MethodName := ⟨RX9, "text", "(I)I"⟩
abbrev cX9_hunt : ByteArray := prog_1_method_32_code
def yX9_hunt : MethodName := ⟨RX9, "hunt", "()I"⟩
abbrev cX9_test : ByteArray := prog_1_method_33_code
def yX9_test : MethodName := ⟨RX9, "test", "(II)I"⟩
abbrev cX9_best : ByteArray := prog_1_method_34_code
def yX9_best : MethodName := ⟨RX9, "best", "(I)I"⟩
abbrev cX9_suspects : ByteArray := prog_1_method_35_code
def yX9_suspects : MethodName := ⟨RX9, "suspects", "()I"⟩
abbrev cX9_read : ByteArray := prog_1_method_36_code
def yX9_read : MethodName := ⟨RX9, "read", "(II)I"⟩
abbrev cX9_calibrate : ByteArray := prog_1_method_37_code
def yX9_calibrate : MethodName := ⟨RX9, "calibrate", "(II)I"⟩
abbrev cX9_worked : ByteArray := prog_1_method_38_code
def yX9_worked : MethodName := ⟨RX9, "worked", "(I)I"⟩
abbrev cX9_delay : ByteArray := prog_1_method_39_code
def yX9_delay : MethodName := ⟨RX9, "delay", "(I)I"⟩
abbrev cX9_known : ByteArray := prog_1_method_40_code
def yX9_known : MethodName := ⟨RX9, "known", "(II)I"⟩
abbrev cX9_mass : ByteArray := prog_1_method_41_code
def yX9_mass : MethodName := ⟨RX9, "mass", "(II)I"⟩
abbrev cX9_dock : ByteArray := prog_1_method_42_code
def yX9_dock : MethodName := ⟨RX9, "dock", "(II)I"⟩
abbrev cX9_undock : ByteArray := prog_1_method_43_code
def yX9_undock : MethodName := ⟨RX9, "undock", "(I)I"⟩
abbrev cX9_tell : ByteArray := prog_1_method_44_code
def yX9_tell : MethodName := ⟨RX9, "tell", "(I)I"⟩
abbrev cX9_check : ByteArray := prog_1_method_45_code
def yX9_check : MethodName := ⟨RX9, "check", "(II)I"⟩
abbrev cX9_count : ByteArray := prog_1_method_46_code
def yX9_count : MethodName := ⟨RX9, "count", "(I)I"⟩
abbrev cX9_found : ByteArray := prog_1_method_47_code
def yX9_found : MethodName := ⟨RX9, "found", "(I)I"⟩
abbrev cX9_counted : ByteArray := prog_1_method_48_code
def yX9_counted : MethodName := ⟨RX9, "counted", "(I)I"⟩
abbrev cX9_setMass : ByteArray := prog_1_method_49_code
def yX9_setMass : MethodName := ⟨RX9, "setMass", "(I)I"⟩
abbrev cX9_setSpeed : ByteArray := prog_1_method_50_code
def yX9_setSpeed : MethodName := ⟨RX9, "setSpeed", "(I)I"⟩
abbrev cX9_isMass : ByteArray := prog_1_method_51_code
def yX9_isMass : MethodName := ⟨RX9, "isMass", "(I)Z"⟩
abbrev cX9_isSpeed : ByteArray := prog_1_method_52_code
def yX9_isSpeed : MethodName := ⟨RX9, "isSpeed", "(I)Z"⟩
abbrev cX9_isSwitch : ByteArray := prog_1_method_53_code
def yX9_isSwitch : MethodName := ⟨RX9, "isSwitch", "(I)Z"⟩
abbrev cX9_one : ByteArray := prog_1_method_54_code
def yX9_one : MethodName := ⟨RX9, "one", "(Z)I"⟩
abbrev cX9_copy : ByteArray := prog_1_method_55_code
def yX9_copy : MethodName := ⟨RX9, "copy", "([I[I)V"⟩
abbrev cX9_copyFlags : ByteArray := prog_1_method_56_code
def yX9_copyFlags : MethodName := ⟨RX9, "copyFlags", "([Z[Z)V"⟩
def RX10 : String := "TinStationModel"
def TX10 : u_T := fun k => match k with
  | 0 => ("TinStationModel", "modules", "I", false)
  | 1 => ("TinStationModel", "gas", "[I", true)
  | 2 => ("TinStationModel", "heat", "[I", true)
  | 3 => ("TinStationModel", "leak", "[I", true)
  | 4 => ("TinStationModel", "hatches", "I", false)
  | 5 => ("TinStationModel", "from", "[I", true)
  | 6 => ("TinStationModel", "to", "[I", true)
  | 7 => ("TinStationModel", "isOpen", "[I", true)
  | 8 => ("TinStationModel", "tank", "[I", true)
  | 9 => ("TinStationModel", "people", "I", false)
  | 10 => ("TinStationModel", "place", "[I", true)
  | 11 => ("TinStationModel", "does", "[I", true)
  | 12 => ("TinStationModel", "mends", "[I", true)
  | 13 => ("TinStationModel", "hours", "[I", true)
  | 14 => ("TinStationModel", "shorts", "[I", true)
  | 15 => ("TinStationModel", "dry", "[I", true)
  | 16 => ("TinStationModel", "machines", "I", false)
  | 17 => ("TinStationModel", "kind", "[I", true)
  | 18 => ("TinStationModel", "room", "[I", true)
  | 19 => ("TinStationModel", "rate", "[I", true)
  | 20 => ("TinStationModel", "power", "[I", true)
  | 21 => ("TinStationModel", "harm", "[I", true)
  | 22 => ("TinStationModel", "life", "[I", true)
  | 23 => ("TinStationModel", "wear", "[I", true)
  | 24 => ("TinStationModel", "isOn", "[I", true)
  | 25 => ("TinStationModel", "fault", "[I", true)
  | 26 => ("TinStationModel", "ran", "[I", true)
  | 27 => ("TinStationModel", "spares", "[I", true)
  | 28 => ("TinStationModel", "misc", "[I", true)
  | 29 => ("TinStationModel", "light", "I", false)
  | 30 => ("TinStationModel", "store", "I", false)
  | 31 => ("TinStationModel", "leastOxygen", "I", false)
  | 32 => ("TinStationModel", "mostCarbon", "I", false)
  | 33 => ("TinStationModel", "mostHeat", "I", false)
  | 34 => ("TinStationModel", "lines", "I", false)
  | 35 => ("TinStationModel", "op", "[I", true)
  | 36 => ("TinStationModel", "lineA", "[I", true)
  | 37 => ("TinStationModel", "lineB", "[I", true)
  | 38 => ("TinStationModel", "lineC", "[I", true)
  | 39 => ("TinStationModel", "suspects", "I", false)
  | 40 => ("TinStationModel", "readings", "I", false)
  | 41 => ("TinStationModel", "sensor", "[I", true)
  | 42 => ("TinStationModel", "readAt", "[I", true)
  | 43 => ("TinStationModel", "value", "[I", true)
  | 44 => ("TinStationModel", "heardAt", "[I", true)
  | 45 => ("TinStationModel", "calibrations", "I", false)
  | 46 => ("TinStationModel", "calSensor", "[I", true)
  | 47 => ("TinStationModel", "calAt", "[I", true)
  | 48 => ("TinStationModel", "over", "[I", true)
  | 49 => ("TinStationModel", "delay", "I", false)
  | 50 => ("TinStationModel", "mass", "I", false)
  | 51 => ("TinStationModel", "speed", "I", false)
  | 52 => ("TinStationModel", "waits", "I", false)
  | 53 => ("TinStationModel", "waiting", "[I", true)
  | 54 => ("TinStationModel", "found", "[I", true)
  | 55 => ("TinStationModel", "aside", "[I", true)
  | _ => ("TinStationModel", "asideAt", "I", false)
def tyX10 : Nat → FieldType := fun k => match k with
  | 0 => .int
  | 1 => .array .int
  | 2 => .array .int
  | 3 => .array .int
  | 4 => .int
  | 5 => .array .int
  | 6 => .array .int
  | 7 => .array .int
  | 8 => .array .int
  | 9 => .int
  | 10 => .array .int
  | 11 => .array .int
  | 12 => .array .int
  | 13 => .array .int
  | 14 => .array .int
  | 15 => .array .int
  | 16 => .int
  | 17 => .array .int
  | 18 => .array .int
  | 19 => .array .int
  | 20 => .array .int
  | 21 => .array .int
  | 22 => .array .int
  | 23 => .array .int
  | 24 => .array .int
  | 25 => .array .int
  | 26 => .array .int
  | 27 => .array .int
  | 28 => .array .int
  | 29 => .int
  | 30 => .int
  | 31 => .int
  | 32 => .int
  | 33 => .int
  | 34 => .int
  | 35 => .array .int
  | 36 => .array .int
  | 37 => .array .int
  | 38 => .array .int
  | 39 => .int
  | 40 => .int
  | 41 => .array .int
  | 42 => .array .int
  | 43 => .array .int
  | 44 => .array .int
  | 45 => .int
  | 46 => .array .int
  | 47 => .array .int
  | 48 => .array .int
  | 49 => .int
  | 50 => .int
  | 51 => .int
  | 52 => .int
  | 53 => .array .int
  | 54 => .array .int
  | 55 => .array .int
  | _ => .int
theorem nmX10 : ∀ a, a < 57 → ∀ b, b < 57 → a ≠ b → (TX10 a).2.1 ≠ (TX10 b).2.1 := by decide +kernel
theorem tyX10_ok : ∀ k, k < 57 → parseFieldDescriptor (TX10 k).2.2.1 = some (tyX10 k) := by decide +kernel
abbrev cX10_init : ByteArray := prog_12_method_1_code
def yX10_init : MethodName := ⟨RX10, "<init>", "()V"⟩
abbrev cX10_finding : ByteArray := prog_12_method_2_code
def yX10_finding : MethodName := ⟨RX10, "finding", "(I)I"⟩
abbrev cX10_isIn : ByteArray := prog_12_method_3_code
def yX10_isIn : MethodName := ⟨RX10, "isIn", "(III)Z"⟩
abbrev cX10_isModule : ByteArray := prog_12_method_4_code
def yX10_isModule : MethodName := ⟨RX10, "isModule", "(I)Z"⟩
abbrev cX10_isHatch : ByteArray := prog_12_method_5_code
def yX10_isHatch : MethodName := ⟨RX10, "isHatch", "(I)Z"⟩
abbrev cX10_isPerson : ByteArray := prog_12_method_6_code
def yX10_isPerson : MethodName := ⟨RX10, "isPerson", "(I)Z"⟩
abbrev cX10_isMachine : ByteArray := prog_12_method_7_code
def yX10_isMachine : MethodName := ⟨RX10, "isMachine", "(I)Z"⟩
abbrev cX10_module : ByteArray := prog_12_method_8_code
def yX10_module : MethodName := ⟨RX10, "module", "()I"⟩
abbrev cX10_hatch : ByteArray := prog_12_method_9_code
def yX10_hatch : MethodName := ⟨RX10, "hatch", "(II)I"⟩
abbrev cX10_shut : ByteArray := prog_12_method_10_code
def yX10_shut : MethodName := ⟨RX10, "shut", "(II)I"⟩
abbrev cX10_gas : ByteArray := prog_12_method_11_code
def yX10_gas : MethodName := ⟨RX10, "gas", "(III)I"⟩
abbrev cX10_leak : ByteArray := prog_12_method_12_code
def yX10_leak : MethodName := ⟨RX10, "leak", "(II)I"⟩
abbrev cX10_tank : ByteArray := prog_12_method_13_code
def yX10_tank : MethodName := ⟨RX10, "tank", "(II)I"⟩
abbrev cX10_grams : ByteArray := prog_12_method_14_code
def yX10_grams : MethodName := ⟨RX10, "grams", "()I"⟩
abbrev cX10_person : ByteArray := prog_12_method_15_code
def yX10_person : MethodName := ⟨RX10, "person", "(I)I"⟩
abbrev cX10_canGo : ByteArray := prog_12_method_16_code
def yX10_canGo : MethodName := ⟨RX10, "canGo", "(II)Z"⟩
abbrev cX10_go : ByteArray := prog_12_method_17_code
def yX10_go : MethodName := ⟨RX10, "go", "(II)I"⟩
abbrev cX10_doing : ByteArray := prog_12_method_18_code
def yX10_doing : MethodName := ⟨RX10, "doing", "(II)I"⟩
abbrev cX10_about : ByteArray := prog_12_method_19_code
def yX10_about : MethodName := ⟨RX10, "about", "(II)I"⟩
abbrev cX10_machine : ByteArray := prog_12_method_20_code
def yX10_machine : MethodName := ⟨RX10, "machine", "(IIII)I"⟩
abbrev cX10_as : ByteArray := prog_12_method_21_code
def yX10_as : MethodName := ⟨RX10, "as", "(II)I"⟩
abbrev cX10_turn : ByteArray := prog_12_method_22_code
def yX10_turn : MethodName := ⟨RX10, "turn", "(II)I"⟩
abbrev cX10_of : ByteArray := prog_12_method_23_code
def yX10_of : MethodName := ⟨RX10, "of", "(II)I"⟩
abbrev cX10_spares : ByteArray := prog_12_method_24_code
def yX10_spares : MethodName := ⟨RX10, "spares", "(II)I"⟩
abbrev cX10_isMended : ByteArray := prog_12_method_25_code
def yX10_isMended : MethodName := ⟨RX10, "isMended", "(I)Z"⟩
abbrev cX10_refusesMend : ByteArray := prog_12_method_26_code
def yX10_refusesMend : MethodName := ⟨RX10, "refusesMend", "(III)I"⟩
abbrev cX10_beginMend : ByteArray := prog_12_method_27_code
def yX10_beginMend : MethodName := ⟨RX10, "beginMend", "(III)V"⟩
abbrev cX10_repair : ByteArray := prog_12_method_28_code
def yX10_repair : MethodName := ⟨RX10, "repair", "(III)I"⟩
abbrev cX10_canShed : ByteArray := prog_12_method_29_code
def yX10_canShed : MethodName := ⟨RX10, "canShed", "(I)Z"⟩
abbrev cX10_together : ByteArray := prog_12_method_30_code
def yX10_together : MethodName := ⟨RX10, "together", "(IZI)I"⟩
abbrev cX10_shed : ByteArray := prog_12_method_31_code
def yX10_shed : MethodName := ⟨RX10, "shed", "(II)I"⟩
abbrev cX10_endText : ByteArray := prog_12_method_32_code
def yX10_endText : MethodName := ⟨RX10, "endText", "(I)V"⟩
abbrev cX10_abortText : ByteArray := prog_12_method_33_code
def yX10_abortText : MethodName := ⟨RX10, "abortText", "()V"⟩
abbrev cX10_isLine : ByteArray := prog_12_method_34_code
def yX10_isLine : MethodName := ⟨RX10, "isLine", "(I)Z"⟩
abbrev cX10_canCheck : ByteArray := prog_12_method_35_code
def yX10_canCheck : MethodName := ⟨RX10, "canCheck", "(III)Z"⟩
abbrev cX10_isSo : ByteArray := prog_12_method_36_code
def yX10_isSo : MethodName := ⟨RX10, "isSo", "(II)Z"⟩
abbrev cX10_doLine : ByteArray := prog_12_method_37_code
def yX10_doLine : MethodName := ⟨RX10, "doLine", "(IIII)Z"⟩
abbrev cX10_runText : ByteArray := prog_12_method_38_code
def yX10_runText : MethodName := ⟨RX10, "runText", "()V"⟩
abbrev cX10_line : ByteArray := prog_12_method_39_code
def yX10_line : MethodName := ⟨RX10, "line", "(IIII)I"⟩
abbrev cX10_erase : ByteArray := prog_12_method_40_code
def yX10_erase : MethodName := ⟨RX10, "erase", "()I"⟩
abbrev cX10_begin : ByteArray := prog_12_method_41_code
def yX10_begin : MethodName := ⟨RX10, "begin", "()I"⟩
abbrev cX10_halt : ByteArray := prog_12_method_42_code
def yX10_halt : MethodName := ⟨RX10, "halt", "(I)I"⟩
abbrev cX10_abort : ByteArray := prog_12_method_43_code
def yX10_abort : MethodName := ⟨RX10, "abort", "()I"⟩
abbrev cX10_text : ByteArray := prog_12_method_44_code
def yX10_text : MethodName := ⟨RX10, "text", "(I)I"⟩
abbrev cX10_mendAll : ByteArray := prog_12_method_45_code
def yX10_mendAll : MethodName := ⟨RX10, "mendAll", "()V"⟩
abbrev cX10_feedAll : ByteArray := prog_12_method_46_code
def yX10_feedAll : MethodName := ⟨RX10, "feedAll", "()V"⟩
abbrev cX10_lesser : ByteArray := prog_12_method_47_code
def yX10_lesser : MethodName := ⟨RX10, "lesser", "(II)I"⟩
abbrev cX10_workOf : ByteArray := prog_12_method_48_code
def yX10_workOf : MethodName := ⟨RX10, "workOf", "(I)V"⟩
abbrev cX10_breathe : ByteArray := prog_12_method_49_code
def yX10_breathe : MethodName := ⟨RX10, "breathe", "(I)V"⟩
abbrev cX10_leakAll : ByteArray := prog_12_method_50_code
def yX10_leakAll : MethodName := ⟨RX10, "leakAll", "()V"⟩
abbrev cX10_mixAll : ByteArray := prog_12_method_51_code
def yX10_mixAll : MethodName := ⟨RX10, "mixAll", "()V"⟩
abbrev cX10_brokenAt : ByteArray := prog_12_method_52_code
def yX10_brokenAt : MethodName := ⟨RX10, "brokenAt", "()I"⟩
abbrev cX10_tick : ByteArray := prog_12_method_53_code
def yX10_tick : MethodName := ⟨RX10, "tick", "()Z"⟩
abbrev cX10_sun : ByteArray := prog_12_method_54_code
def yX10_sun : MethodName := ⟨RX10, "sun", "(II)I"⟩
abbrev cX10_battery : ByteArray := prog_12_method_55_code
def yX10_battery : MethodName := ⟨RX10, "battery", "(I)I"⟩
abbrev cX10_bounds : ByteArray := prog_12_method_56_code
def yX10_bounds : MethodName := ⟨RX10, "bounds", "(III)I"⟩
abbrev cX10_ticks : ByteArray := prog_12_method_57_code
def yX10_ticks : MethodName := ⟨RX10, "ticks", "(I)I"⟩
abbrev cX10_broke : ByteArray := prog_12_method_58_code
def yX10_broke : MethodName := ⟨RX10, "broke", "(I)I"⟩
abbrev cX10_lays : ByteArray := prog_12_method_59_code
def yX10_lays : MethodName := ⟨RX10, "lays", "([IZ)V"⟩
abbrev cX10_layAside : ByteArray := prog_12_method_60_code
def yX10_layAside : MethodName := ⟨RX10, "layAside", "(Z)V"⟩
abbrev cX10_ahead : ByteArray := prog_12_method_61_code
def yX10_ahead : MethodName := ⟨RX10, "ahead", "(I)I"⟩
abbrev cX10_partOf : ByteArray := prog_12_method_62_code
def yX10_partOf : MethodName := ⟨RX10, "partOf", "(II)I"⟩
abbrev cX10_ones : ByteArray := prog_12_method_63_code
def yX10_ones : MethodName := ⟨RX10, "ones", "(I)I"⟩
abbrev cX10_hunt : ByteArray := prog_12_method_64_code
def yX10_hunt : MethodName := ⟨RX10, "hunt", "()I"⟩
abbrev cX10_test : ByteArray := prog_12_method_65_code
def yX10_test : MethodName := ⟨RX10, "test", "(II)I"⟩
abbrev cX10_worst : ByteArray := prog_12_method_66_code
def yX10_worst : MethodName := ⟨RX10, "worst", "(I)I"⟩
abbrev cX10_best : ByteArray := prog_12_method_67_code
def yX10_best : MethodName := ⟨RX10, "best", "(I)I"⟩
abbrev cX10_suspects : ByteArray := prog_12_method_68_code
def yX10_suspects : MethodName := ⟨RX10, "suspects", "()I"⟩
abbrev cX10_read : ByteArray := prog_12_method_69_code
def yX10_read : MethodName := ⟨RX10, "read", "(II)I"⟩
abbrev cX10_calibrate : ByteArray := prog_12_method_70_code
def yX10_calibrate : MethodName := ⟨RX10, "calibrate", "(II)I"⟩
abbrev cX10_tooMuch : ByteArray := prog_12_method_71_code
def yX10_tooMuch : MethodName := ⟨RX10, "tooMuch", "(II)I"⟩
abbrev cX10_worked : ByteArray := prog_12_method_72_code
def yX10_worked : MethodName := ⟨RX10, "worked", "(I)I"⟩
abbrev cX10_delay : ByteArray := prog_12_method_73_code
def yX10_delay : MethodName := ⟨RX10, "delay", "(I)I"⟩
abbrev cX10_known : ByteArray := prog_12_method_74_code
def yX10_known : MethodName := ⟨RX10, "known", "(II)I"⟩
abbrev cX10_mass : ByteArray := prog_12_method_75_code
def yX10_mass : MethodName := ⟨RX10, "mass", "(II)I"⟩
abbrev cX10_dock : ByteArray := prog_12_method_76_code
def yX10_dock : MethodName := ⟨RX10, "dock", "(II)I"⟩
abbrev cX10_undock : ByteArray := prog_12_method_77_code
def yX10_undock : MethodName := ⟨RX10, "undock", "(I)I"⟩
abbrev cX10_tell : ByteArray := prog_12_method_78_code
def yX10_tell : MethodName := ⟨RX10, "tell", "(I)I"⟩
abbrev cX10_check : ByteArray := prog_12_method_79_code
def yX10_check : MethodName := ⟨RX10, "check", "(II)I"⟩
abbrev cX10_count : ByteArray := prog_12_method_80_code
def yX10_count : MethodName := ⟨RX10, "count", "(I)I"⟩
abbrev cX10_found : ByteArray := prog_12_method_81_code
def yX10_found : MethodName := ⟨RX10, "found", "(I)I"⟩
def RJ6 : String := "java/lang/Integer"
def TJ6 : u_T := fun k => match k with
  | _ => ("", "", "", false)
def tyJ6 : Nat → FieldType := fun k => match k with
  | _ => .int
theorem tyJ6_ok : ∀ k, k < 0 → parseFieldDescriptor (TJ6 k).2.2.1 = some (tyJ6 k) := by decide +kernel
abbrev cJ6_bitCount_0f7a4 : ByteArray := prog_13_method_49_code
def yJ6_bitCount_0f7a4 : MethodName := ⟨RJ6, "bitCount", "(I)I"⟩
def RJ9 : String := "java/lang/Math"
def TJ9 : u_T := fun k => match k with
  | _ => ("", "", "", false)
def tyJ9 : Nat → FieldType := fun k => match k with
  | _ => .int
theorem tyJ9_ok : ∀ k, k < 0 → parseFieldDescriptor (TJ9 k).2.2.1 = some (tyJ9 k) := by decide +kernel
abbrev cJ9_max_7cf53 : ByteArray := prog_14_method_65_code
def yJ9_max_7cf53 : MethodName := ⟨RJ9, "max", "(II)I"⟩
abbrev cJ9_min_7cf53 : ByteArray := prog_14_method_69_code
def yJ9_min_7cf53 : MethodName := ⟨RJ9, "min", "(II)I"⟩
def RJ10 : String := "java/lang/System"
def TJ10 : u_T := fun k => match k with
  | _ => ("", "", "", false)
def tyJ10 : Nat → FieldType := fun k => match k with
  | _ => .int
theorem tyJ10_ok : ∀ k, k < 0 → parseFieldDescriptor (TJ10 k).2.2.1 = some (tyJ10 k) := by decide +kernel
def RL : String := "TinStationLaw"
abbrev cL_law : ByteArray := code
def yL_law : MethodName := ⟨RL, "law", "([I)Z"⟩
abbrev vwCl : List vw_C := [(RX0, TX0, 8), (RX1, TX1, 6), (RX2, TX2, 7), (RX3, TX3, 7), (RX4, TX4, 2), (RX5, TX5, 10), (RX6, TX6, 15), (RX7, TX7, 5), (RX8, TX8, 7), (RX9, TX9, 10), (RX10, TX10, 57)]
end
section
/-- the words, the kinds of objects, the static arrays that the engine speaks of -/
def ec_tb : List Cond := lw_tbl.filter goodWord
abbrev ec_cl : List vw_C := vwCl
def ec_xt : List (Nat × (Nat → Int32)) := [(6, fun i => match i with
  | 0 => -1
  | 4 => 3
  | _ => 0), (3, fun i => match i with
  | 0 => 4
  | 1 => 6
  | _ => 14), (3, fun i => match i with
  | 0 => 10
  | 1 => 15
  | _ => 40)]
def ec_zs : List (String × String × String × Nat) := [("TinStation$Plant", "KIND_ABOVE", "[I", 0), ("TinStation$Crew", "BREATH", "[I", 1), ("TinStation$Crew", "WARMTH", "[I", 2)]
theorem ec_good : ∀ w ∈ ec_tb, (w.onTables && w.keeps) = true ∨ ∃ ty, w = .arrayClass ty := fun w hw => good_of_word (List.mem_filter.mp hw).2
theorem ec_sub : ∀ w ∈ ec_tb, w ∈ lw_tbl := fun w hw => (List.mem_filter.mp hw).1
theorem ec_in {w : Cond} {i : Nat} (h : lw_tbl[i]? = some w) (hg : goodWord w = true) : w ∈ ec_tb := List.mem_filter.mpr ⟨List.mem_of_getElem? h, hg⟩
theorem ec_ins {ws : List Cond} (h : ws.all (fun w => decide (w ∈ lw_tbl) && goodWord w) = true) : ∀ w ∈ ws, w ∈ ec_tb := fun w hw => by
  have h1 := List.all_eq_true.mp h w hw
  simp only [Bool.and_eq_true, decide_eq_true_eq] at h1
  exact List.mem_filter.mpr h1
theorem ec_k0 : ∀ w ∈ u_ws RX0 TX0 8, w ∈ ec_tb := ec_ins (by decide +kernel)
theorem ec_k1 : ∀ w ∈ u_ws RX1 TX1 6, w ∈ ec_tb := ec_ins (by decide +kernel)
theorem ec_k2 : ∀ w ∈ u_ws RX2 TX2 7, w ∈ ec_tb := ec_ins (by decide +kernel)
theorem ec_k3 : ∀ w ∈ u_ws RX3 TX3 7, w ∈ ec_tb := ec_ins (by decide +kernel)
theorem ec_k4 : ∀ w ∈ u_ws RX4 TX4 2, w ∈ ec_tb := ec_ins (by decide +kernel)
theorem ec_k5 : ∀ w ∈ u_ws RX5 TX5 10, w ∈ ec_tb := ec_ins (by decide +kernel)
theorem ec_k6 : ∀ w ∈ u_ws RX6 TX6 15, w ∈ ec_tb := ec_ins (by decide +kernel)
theorem ec_k7 : ∀ w ∈ u_ws RX7 TX7 5, w ∈ ec_tb := ec_ins (by decide +kernel)
theorem ec_k8 : ∀ w ∈ u_ws RX8 TX8 7, w ∈ ec_tb := ec_ins (by decide +kernel)
theorem ec_k9 : ∀ w ∈ u_ws RX9 TX9 10, w ∈ ec_tb := ec_ins (by decide +kernel)
theorem ec_k10 : ∀ w ∈ u_ws RX10 TX10 57, w ∈ ec_tb := ec_ins (by decide +kernel)
theorem ec_clok {ci : Nat} {C : String} {T : u_T} {N : Nat} (h : ec_cl[ci]? = some (C, T, N)) : (∀ w ∈ u_ws C T N, w ∈ ec_tb) ∧ ∃ ty0 : Nat → FieldType, (∀ k, k < N → parseFieldDescriptor (T k).2.2.1 = some (ty0 k)) ∧ (∀ a, a < N → ∀ b, b < N → a ≠ b → (T a).2.1 ≠ (T b).2.1) := by
  match ci, h with
  | 0, h => cases h; exact ⟨ec_k0, tyX0, tyX0_ok, nmX0⟩
  | 1, h => cases h; exact ⟨ec_k1, tyX1, tyX1_ok, nmX1⟩
  | 2, h => cases h; exact ⟨ec_k2, tyX2, tyX2_ok, nmX2⟩
  | 3, h => cases h; exact ⟨ec_k3, tyX3, tyX3_ok, nmX3⟩
  | 4, h => cases h; exact ⟨ec_k4, tyX4, tyX4_ok, nmX4⟩
  | 5, h => cases h; exact ⟨ec_k5, tyX5, tyX5_ok, nmX5⟩
  | 6, h => cases h; exact ⟨ec_k6, tyX6, tyX6_ok, nmX6⟩
  | 7, h => cases h; exact ⟨ec_k7, tyX7, tyX7_ok, nmX7⟩
  | 8, h => cases h; exact ⟨ec_k8, tyX8, tyX8_ok, nmX8⟩
  | 9, h => cases h; exact ⟨ec_k9, tyX9, tyX9_ok, nmX9⟩
  | 10, h => cases h; exact ⟨ec_k10, tyX10, tyX10_ok, nmX10⟩
  | k + 11, h => simp [ec_cl, vwCl] at h
/-- links to nest mates -/
def ec_ns : List (String × Nat × MethodName × String) := [(RX0, 31, yX9_copy, "TinStation"), (RX0, 35, yX9_copyFlags, "TinStation"), (RX0, 55, yX9_isSwitch, "TinStation"), (RX0, 58, yX9_one, "TinStation"), (RX2, 41, yX9_isSwitch, "TinStation"), (RX2, 47, yX9_one, "TinStation"), (RX3, 30, yX9_copy, "TinStation"), (RX3, 48, yX9_one, "TinStation"), (RX6, 50, yX9_copy, "TinStation"), (RX6, 54, yX9_copyFlags, "TinStation"), (RX6, 88, yX9_isSwitch, "TinStation"), (RX6, 91, yX9_one, "TinStation"), (RX8, 11, yX0_init, "TinStation"), (RX8, 20, yX3_init, "TinStation"), (RX8, 27, yX6_init, "TinStation"), (RX8, 34, yX1_init, "TinStation"), (RX8, 41, yX2_init, "TinStation"), (RX9, 11, yX7_init, "TinStation"), (RX9, 30, yX4_init, "TinStation"), (RX9, 37, yX5_init, "TinStation")]
end
section
/-! THE ENGINE: walks over abstract states. A ref is a PLACE in the list of cells; ad says its address; ca says which array kind a tag is (0: int, 1: boolean). -/
abbrev ex_V : Type := List Value
abbrev ex_C : Type := List va_E
abbrev ex_Q : Type := Option Value → ex_C → Prop
abbrev ex_S : Type := ex_V → ex_C → ex_Q → Prop
abbrev ex_L : Type := List (Option Value)
def ex_v (ad : Nat → Nat) (v : Value) : Value := match v with
  | .ref k => .ref (ad k)
  | w => w
theorem ex_v_cat (ad : Nat → Nat) (v : Value) : (ex_v ad v).category = v.category := by cases v <;> rfl
def ex_e (ad ca : Nat → Nat) (e : va_E) : va_E := match e with
  | .inl a => .inl (ca a.1, a.2)
  | .inr o => .inr (o.1, o.2.map (ex_v ad))
def ex_w (ad ca : Nat → Nat) (cs : ex_C) : va_W := cs.mapIdx (fun k e => (ad k, ex_e ad ca e))
theorem ex_w_get {ad ca : Nat → Nat} {cs : ex_C} {k : Nat} {e : va_E} (h : cs[k]? = some e) : (ex_w ad ca cs)[k]? = some (ad k, ex_e ad ca e) := by
  unfold ex_w
  rw [List.getElem?_mapIdx, h]
  rfl
theorem ex_w_at {ad ca : Nat → Nat} {cs : ex_C} {k : Nat} {q : Nat × va_E} (h : (ex_w ad ca cs)[k]? = some q) : ∃ e, cs[k]? = some e ∧ q = (ad k, ex_e ad ca e) := by
  unfold ex_w at h
  rw [List.getElem?_mapIdx] at h
  cases hc : cs[k]? with
  | none => rw [hc] at h; cases h
  | some e => rw [hc] at h; exact ⟨e, rfl, (Option.some.inj h).symm⟩
theorem ex_w_len {ad ca : Nat → Nat} {cs : ex_C} : (ex_w ad ca cs).length = cs.length := by
  unfold ex_w
  exact List.length_mapIdx
theorem ex_w_set {ad ca : Nat → Nat} {cs : ex_C} {k : Nat} {e : va_E} : (ex_w ad ca cs).set k (ad k, ex_e ad ca e) = ex_w ad ca (cs.set k e) := by
  apply List.ext_getElem?
  intro i
  unfold ex_w
  rw [List.getElem?_mapIdx, List.getElem?_set, List.getElem?_set, List.getElem?_mapIdx, List.length_mapIdx]
  by_cases hk : k = i
  · subst hk
    simp only [if_true]
    split <;> rfl
  · simp only [if_neg hk]
/-- the places' addresses are apart, and of a kind -/
def ex_D (ad : Nat → Nat) (n : Nat) (A : Nat → Prop) : Prop := (∀ i j, i < n → j < n → ad i = ad j → i = j) ∧ ∀ k, k < n → A (ad k)
theorem ex_D.va {ad ca : Nat → Nat} {cs : ex_C} {n : Nat} {A : Nat → Prop} (h : ex_D ad n A) (hn : cs.length = n) : va_D A (ex_w ad ca cs) := by
  have lt : ∀ {k : Nat} {q : Nat × va_E}, (ex_w ad ca cs)[k]? = some q → k < n ∧ q.1 = ad k := by
    intro k q hq
    obtain ⟨e, he, hqe⟩ := ex_w_at hq
    exact ⟨by rw [← hn]; exact (List.getElem?_eq_some_iff.mp he).1, by rw [hqe]⟩
  refine ⟨fun i j p q hi hj hpq => ?_, fun k q hk => ?_⟩
  · obtain ⟨h1, e1⟩ := lt hi
    obtain ⟨h2, e2⟩ := lt hj
    exact h.1 i j h1 h2 (by rw [← e1, ← e2]; exact hpq)
  · obtain ⟨h1, e1⟩ := lt hk
    rw [e1]
    exact h.2 k h1
/-- which cells a walk may change -/
def ex_A (ad : Nat → Nat) (n sz : Nat) : Nat → Prop := fun q => (∃ k, k < n ∧ q = ad k) ∨ sz ≤ q
theorem ex_D.self {ad : Nat → Nat} {n sz : Nat} {A : Nat → Prop} (h : ex_D ad n A) : ex_D ad n (ex_A ad n sz) := ⟨h.1, fun k hk => Or.inl ⟨k, hk, rfl⟩⟩
/-- what is known of the locals -/
def ex_ls (ad : Nat → Nat) (lv : ex_L) (nL : Nat) (ls : Array Slot) : Prop := ls.size = nL ∧ lv_wf ls ∧ lv.length ≤ nL ∧ ∀ (i : Nat) (v : Value), lv[i]? = some (some v) → ls[i]? = some (.val (ex_v ad v))
def ex_ll (ad : Nat → Nat) (lv : ex_L) : List (Nat × Value) := lv.zipIdx.filterMap (fun q => q.1.map (fun v => (q.2, ex_v ad v)))
theorem ex_ll_mem {ad : Nat → Nat} {lv : ex_L} {q : Nat × Value} : q ∈ ex_ll ad lv ↔ ∃ v, lv[q.1]? = some (some v) ∧ q.2 = ex_v ad v := by
  unfold ex_ll
  rw [List.mem_filterMap]
  constructor
  · rintro ⟨⟨o, i⟩, h1, h2⟩
    rw [List.mk_mem_zipIdx_iff_getElem?] at h1
    cases o with
    | none => cases h2
    | some v =>
      have := (Option.some.inj h2)
      subst this
      exact ⟨v, h1, rfl⟩
  · rintro ⟨v, h1, h2⟩
    refine ⟨(some v, q.1), ?_, ?_⟩
    · rw [List.mk_mem_zipIdx_iff_getElem?]; exact h1
    · show some (q.1, ex_v ad v) = some q
      rw [← h2]
theorem ex_ls.has {ad : Nat → Nat} {lv : ex_L} {nL : Nat} {ls : Array Slot} (h : ex_ls ad lv nL ls) : lv_has ls nL (ex_ll ad lv) := by
  refine ⟨h.1, h.2.1, fun q hq => ?_⟩
  obtain ⟨v, h1, h2⟩ := ex_ll_mem.mp hq
  rw [h2]
  exact h.2.2.2 _ _ h1
/-- no value of two slots begins just below i -/
def ex_so (lv : ex_L) (i : Nat) : Prop := i < lv.length ∧ match i with
  | 0 => True
  | j + 1 => match lv[j]? with
    | some (some w) => w.category = 1
    | _ => True
theorem ex_so.at {lv : ex_L} {i j : Nat} {w : Value} (h : ex_so lv i) (hj : j + 1 = i) (hw : lv[j]? = some (some w)) : w.category = 1 := by
  subst hj
  have h2 := h.2
  simp only [hw] at h2
  exact h2
theorem ex_ls.set1 {ad : Nat → Nat} {lv : ex_L} {nL i : Nat} {ls ls' : Array Slot} {v : Value} (h : ex_ls ad lv nL ls) (hs : ex_so lv i) (h' : lv_has ls' nL ((i, ex_v ad v) :: (ex_ll ad lv).filter (fun q => !(q.1 == i) && !(q.1 + 1 == i && q.2.category == 2)))) : ex_ls ad (lv.set i (some v)) nL ls' := by
  refine ⟨h'.1, h'.2.1, by rw [List.length_set]; exact h.2.2.1, fun j w hj => ?_⟩
  by_cases hij : j = i
  · subst hij
    rw [List.getElem?_set_self hs.1] at hj
    cases hj
    exact h'.2.2 (j, ex_v ad v) List.mem_cons_self
  · rw [List.getElem?_set_ne (Ne.symm hij)] at hj
    refine h'.2.2 (j, ex_v ad w) (List.mem_cons_of_mem _ (List.mem_filter.mpr ⟨ex_ll_mem.mpr ⟨w, hj, rfl⟩, ?_⟩))
    by_cases hj1 : j + 1 = i
    · have hc := hs.at hj1 hj
      simp [hij, ex_v_cat, hc]
    · simp [hij, hj1]
theorem ex_ls.set2 {ad : Nat → Nat} {lv : ex_L} {nL i : Nat} {ls ls' : Array Slot} {v : Value} (h : ex_ls ad lv nL ls) (hs : ex_so lv i) (h' : lv_has ls' nL ((i, ex_v ad v) :: (ex_ll ad lv).filter (fun q => !(q.1 == i) && (!(q.1 == i + 1) && !(q.1 + 1 == i && q.2.category == 2))))) : ex_ls ad ((lv.set i (some v)).set (i + 1) none) nL ls' := by
  refine ⟨h'.1, h'.2.1, by rw [List.length_set, List.length_set]; exact h.2.2.1, fun j w hj => ?_⟩
  by_cases hi1 : j = i + 1
  · subst hi1
    rw [List.getElem?_set] at hj
    split at hj
    · split at hj <;> cases hj
    · exact absurd rfl (by assumption)
  · rw [List.getElem?_set_ne (Ne.symm hi1)] at hj
    by_cases hij : j = i
    · subst hij
      rw [List.getElem?_set_self hs.1] at hj
      cases hj
      exact h'.2.2 (j, ex_v ad v) List.mem_cons_self
    · rw [List.getElem?_set_ne (Ne.symm hij)] at hj
      refine h'.2.2 (j, ex_v ad w) (List.mem_cons_of_mem _ (List.mem_filter.mpr ⟨ex_ll_mem.mpr ⟨w, hj, rfl⟩, ?_⟩))
      by_cases hj1 : j + 1 = i
      · have hc := hs.at hj1 hj
        simp [hij, hi1, ex_v_cat, hc]
      · simp [hij, hi1, hj1]
/-- static arrays: places from 1000 on; nobody writes them -/
abbrev ex_xt : Type := List (Nat × (Nat → Int32))
def ex_X (xt : ex_xt) (ad : Nat → Nat) (A : Nat → Prop) (U : State) (H : Heap) : Prop := ∀ (j n : Nat) (f : Nat → Int32), xt[j]? = some (n, f) → va_T .int (ad (1000 + j)) n (fun i => .int (f i)) A U H
def ex_Z (ad : Nat → Nat) (A : Nat → Prop) (U : State) (H : Heap) : Prop := ∀ (C n d : String) (j : Nat), (C, n, d, j) ∈ ec_zs → va_Z C n d (.ref (ad (1000 + j))) A U H
def ex_Nw (U : State) : Prop := ∀ q ∈ ec_ns, va_Nw (.methodLinkNest q.1 q.2.1 q.2.2.1 q.2.2.2) U
abbrev ex_tys (ca : Nat → Nat) : List (ClassId × FieldType) := [(ca 0, .int), (ca 1, .boolean)]
/-- the world of a state -/
def ex_U (D : va_G) (ad ca : Nat → Nat) (cs : ex_C) (n : Nat) (A : Nat → Prop) (U : State) : Prop := cs.length = n ∧ va_P D ec_cl (ex_w ad ca cs) U.heap ∧ ex_D ad n A ∧ va_K D ec_cl (ex_tys ca) U ∧ ex_X ec_xt ad A U U.heap ∧ ex_Z ad A U U.heap ∧ ex_Nw U
def ex_Pc (D : va_G) (ad ca : Nat → Nat) (av : ex_V) (cs : ex_C) (n sz : Nat) : Array Value → State → Prop := fun v U => v = (av.map (ex_v ad)).toArray ∧ U.heap.size = sz ∧ ex_U D ad ca cs n (ex_A ad n sz) U
def ex_Qc (D : va_G) (ad ca : Nat → Nat) (Q : ex_Q) (n : Nat) (A : Nat → Prop) : Array Value → State → Outcome → State → Prop := fun _ st oc t => (∃ (r : Option Value) (cs' : ex_C), oc = .returned (r.map (ex_v ad)) ∧ Q r cs' ∧ cs'.length = n ∧ va_P D ec_cl (ex_w ad ca cs') t.heap) ∧ va_F A st t
abbrev ex_rm (fr lo : Nat) : Room := { frames := fr, cells := 0, slots := 0, locals := lo }
def ex_Met (l : Launch) (y : MethodName) (bytes : ByteArray) (maxL : Nat) (ret : Option FieldType) (fr lo : Nat) (sp : ex_S) : Prop :=
  ∀ (D : va_G) (ad ca : Nat → Nat) (n sz : Nat) (av : ex_V) (cs : ex_C) (Q : ex_Q), sp av cs Q →
    Met l y (.code y bytes maxL ret :: ec_tb) (ex_rm fr lo) (ex_Pc D ad ca av cs n sz) (ex_Qc D ad ca Q n (ex_A ad n sz)) 0 0 (ex_A ad n sz)
theorem ex_blind {D : va_G} {ad ca : Nat → Nat} {av : ex_V} {cs : ex_C} {n sz : Nat} : FrameBlind (ex_Pc D ad ca av cs n sz) := by
  intro a U g mk ⟨h1, h2, h3, h4, h5, h6, h7, h8, h9⟩
  refine ⟨h1, h2, h3, h4, h5, va_K.moved (u := U) (U := U.calling g mk a) (Vm.Alike.refl U.vm) h6, fun j m f hj => ?_, fun C m d j hj => ?_, fun q hq => va_Nw.same (u := U) (U := U.calling g mk a) rfl rfl (h9 q hq)⟩
  · exact va_T.moved (u := U) (U := U.calling g mk a) (Vm.Alike.refl U.vm) (h7 j m f hj)
  · exact va_Z.moved (u := U) (U := U.calling g mk a) (Vm.Alike.refl U.vm) (h8 C m d j hj)
/-! what a method's instructions link: its own name; fields (kind number, slot, may it be written, type); int constants; static arrays; calls (how many values with the receiver, the receiver's kind number, the callee's spec); which call is System.arraycopy (1), Math.min (2), Math.max (3); long constants -/
abbrev ex_K : Type := String × (Nat → Option (Nat × Nat × Bool × FieldType)) × (Nat → Option Int32) × (Nat → Option Nat) × (Nat → Option (Nat × Option Nat × ex_S)) × (Nat → Nat) × (Nat → Option Int64)
def ex_o {α : Type} (o : Option α) (k : α → Prop) : Prop := match o with
  | some a => k a
  | none => False
theorem ex_o.at {α : Type} {o : Option α} {k : α → Prop} (h : ex_o o k) : ∃ a, o = some a ∧ k a := by
  cases o with
  | none => exact h.elim
  | some a => exact ⟨a, rfl, h⟩
def ex_i1 (st : ex_V) (k : Int32 → ex_V → Prop) : Prop := match st with
  | .int x :: r => k x r
  | _ => False
def ex_i2 (st : ex_V) (k : Int32 → Int32 → ex_V → Prop) : Prop := match st with
  | .int y :: .int x :: r => k x y r
  | _ => False
def ex_l1 (st : ex_V) (k : Int64 → ex_V → Prop) : Prop := match st with
  | .long x :: r => k x r
  | _ => False
def ex_l2 (st : ex_V) (k : Int64 → Int64 → ex_V → Prop) : Prop := match st with
  | .long y :: .long x :: r => k x y r
  | _ => False
def ex_r1 (st : ex_V) (k : Nat → ex_V → Prop) : Prop := match st with
  | .ref a :: r => k a r
  | _ => False
def ex_ir (st : ex_V) (k : Int32 → Nat → ex_V → Prop) : Prop := match st with
  | .int i :: .ref a :: r => k i a r
  | _ => False
def ex_iir (st : ex_V) (k : Int32 → Int32 → Nat → ex_V → Prop) : Prop := match st with
  | .int x :: .int i :: .ref a :: r => k x i a r
  | _ => False
def ex_vr (st : ex_V) (k : Value → Nat → ex_V → Prop) : Prop := match st with
  | v :: .ref a :: r => k v a r
  | _ => False
def ex_v1 (st : ex_V) (k : Value → ex_V → Prop) : Prop := match st with
  | v :: r => k v r
  | _ => False
def ex_v2 (st : ex_V) (k : Value → Value → ex_V → Prop) : Prop := match st with
  | v :: w :: r => k v w r
  | _ => False
theorem ex_i1.at {st : ex_V} {k : Int32 → ex_V → Prop} (h : ex_i1 st k) : ∃ x r, st = .int x :: r ∧ k x r := by
  unfold ex_i1 at h
  split at h
  · exact ⟨_, _, rfl, h⟩
  · exact h.elim
theorem ex_i2.at {st : ex_V} {k : Int32 → Int32 → ex_V → Prop} (h : ex_i2 st k) : ∃ x y r, st = .int y :: .int x :: r ∧ k x y r := by
  unfold ex_i2 at h
  split at h
  · exact ⟨_, _, _, rfl, h⟩
  · exact h.elim
theorem ex_l1.at {st : ex_V} {k : Int64 → ex_V → Prop} (h : ex_l1 st k) : ∃ x r, st = .long x :: r ∧ k x r := by
  unfold ex_l1 at h
  split at h
  · exact ⟨_, _, rfl, h⟩
  · exact h.elim
theorem ex_l2.at {st : ex_V} {k : Int64 → Int64 → ex_V → Prop} (h : ex_l2 st k) : ∃ x y r, st = .long y :: .long x :: r ∧ k x y r := by
  unfold ex_l2 at h
  split at h
  · exact ⟨_, _, _, rfl, h⟩
  · exact h.elim
theorem ex_r1.at {st : ex_V} {k : Nat → ex_V → Prop} (h : ex_r1 st k) : ∃ a r, st = .ref a :: r ∧ k a r := by
  unfold ex_r1 at h
  split at h
  · exact ⟨_, _, rfl, h⟩
  · exact h.elim
theorem ex_ir.at {st : ex_V} {k : Int32 → Nat → ex_V → Prop} (h : ex_ir st k) : ∃ i a r, st = .int i :: .ref a :: r ∧ k i a r := by
  unfold ex_ir at h
  split at h
  · exact ⟨_, _, _, rfl, h⟩
  · exact h.elim
theorem ex_iir.at {st : ex_V} {k : Int32 → Int32 → Nat → ex_V → Prop} (h : ex_iir st k) : ∃ x i a r, st = .int x :: .int i :: .ref a :: r ∧ k x i a r := by
  unfold ex_iir at h
  split at h
  · exact ⟨_, _, _, _, rfl, h⟩
  · exact h.elim
theorem ex_vr.at {st : ex_V} {k : Value → Nat → ex_V → Prop} (h : ex_vr st k) : ∃ v a r, st = v :: .ref a :: r ∧ k v a r := by
  unfold ex_vr at h
  split at h
  · exact ⟨_, _, _, rfl, h⟩
  · exact h.elim
theorem ex_v1.at {st : ex_V} {k : Value → ex_V → Prop} (h : ex_v1 st k) : ∃ v r, st = v :: r ∧ k v r := by
  unfold ex_v1 at h
  split at h
  · exact ⟨_, _, rfl, h⟩
  · exact h.elim
theorem ex_v2.at {st : ex_V} {k : Value → Value → ex_V → Prop} (h : ex_v2 st k) : ∃ v w r, st = v :: w :: r ∧ k v w r := by
  unfold ex_v2 at h
  split at h
  · exact ⟨_, _, _, rfl, h⟩
  · exact h.elim
def ex_gi (lv : ex_L) (i : Nat) (k : Int32 → Prop) : Prop := match lv[i]? with
  | some (some (.int x)) => k x
  | _ => False
def ex_gl (lv : ex_L) (i : Nat) (k : Int64 → Prop) : Prop := match lv[i]? with
  | some (some (.long x)) => k x
  | _ => False
def ex_gr (lv : ex_L) (i : Nat) (k : Nat → Prop) : Prop := match lv[i]? with
  | some (some (.ref a)) => k a
  | _ => False
theorem ex_gi.at {lv : ex_L} {i : Nat} {k : Int32 → Prop} (h : ex_gi lv i k) : ∃ x, lv[i]? = some (some (.int x)) ∧ k x := by
  unfold ex_gi at h
  split at h
  · rename_i x e; exact ⟨x, e, h⟩
  · exact h.elim
theorem ex_gl.at {lv : ex_L} {i : Nat} {k : Int64 → Prop} (h : ex_gl lv i k) : ∃ x, lv[i]? = some (some (.long x)) ∧ k x := by
  unfold ex_gl at h
  split at h
  · rename_i x e; exact ⟨x, e, h⟩
  · exact h.elim
theorem ex_gr.at {lv : ex_L} {i : Nat} {k : Nat → Prop} (h : ex_gr lv i k) : ∃ a, lv[i]? = some (some (.ref a)) ∧ k a := by
  unfold ex_gr at h
  split at h
  · rename_i x e; exact ⟨x, e, h⟩
  · exact h.elim
/-- the object at a place -/
def ex_ob (cs : ex_C) (a ci : Nat) (k : List Value → Prop) : Prop := match cs[a]? with
  | some (.inr (c2, fs)) => c2 = ci ∧ k fs
  | _ => False
theorem ex_ob.at {cs : ex_C} {a ci : Nat} {k : List Value → Prop} (h : ex_ob cs a ci k) : ∃ fs, cs[a]? = some (.inr (ci, fs)) ∧ k fs := by
  unfold ex_ob at h
  split at h
  · rename_i c2 fs e
    obtain ⟨rfl, h⟩ := h
    exact ⟨fs, e, h⟩
  · exact h.elim
/-- the array of tag t at a place -/
def ex_ar (cs : ex_C) (a t : Nat) (k : Nat → (Nat → Int32) → Prop) : Prop := match cs[a]? with
  | some (.inl (t2, n, .inl f)) => t2 = t ∧ k n f
  | _ => False
theorem ex_ar.at {cs : ex_C} {a t : Nat} {k : Nat → (Nat → Int32) → Prop} (h : ex_ar cs a t k) : ∃ n f, cs[a]? = some (.inl (t, n, .inl f)) ∧ k n f := by
  unfold ex_ar at h
  split at h
  · rename_i t2 n f e
    obtain ⟨rfl, h⟩ := h
    exact ⟨n, f, e, h⟩
  · exact h.elim
/-- an array of ints at a place, or a static one -/
def ex_ax (xt : ex_xt) (cs : ex_C) (a : Nat) (k : Nat → (Nat → Int32) → Prop) : Prop := if 1000 ≤ a then ex_o xt[a - 1000]? (fun q => k q.1 q.2) else ex_ar cs a 0 k
/-- may a value be stored in a field of this type -/
def ex_fit (ty : FieldType) (v : Value) : Prop := match ty, v with
  | .int, .int _ => True
  | .long, .long _ => True
  | .boolean, .int x => x = 0 ∨ x = 1
  | .object _, .ref _ => True
  | .array _, .ref _ => True
  | _, _ => False
theorem ex_fit.ok {ad : Nat → Nat} {ty : FieldType} {v : Value} (h : ex_fit ty v) : narrow ty (ex_v ad v) = ex_v ad v ∧ fits ty (ex_v ad v) = true := by
  unfold ex_fit at h
  split at h
  · exact ⟨rfl, rfl⟩
  · exact ⟨rfl, rfl⟩
  · rcases h with rfl | rfl
    · exact ⟨(by decide : narrow .boolean (.int 0) = .int 0), (by decide : fits .boolean (.int 0) = true)⟩
    · exact ⟨(by decide : narrow .boolean (.int 1) = .int 1), (by decide : fits .boolean (.int 1) = true)⟩
  · exact ⟨rfl, rfl⟩
  · exact ⟨rfl, rfl⟩
  · exact h.elim
def ex_ret (ret : Option FieldType) (v : Int32) : Prop := match ret with
  | some .int => True
  | some .boolean => v = 0 ∨ v = 1
  | _ => False
/-- a jump -/
def ex_to (pc : Nat) (off : Int) (k : Nat → Prop) : Prop := 0 ≤ (pc : Int) + off ∧ k ((pc : Int) + off).toNat
theorem ex_to.at {pc : Nat} {off : Int} {k : Nat → Prop} (h : ex_to pc off k) : ∃ t : Nat, (pc : Int) + off = (t : Int) ∧ k t := ⟨_, (Int.toNat_of_nonneg h.1).symm, h.2⟩
def ex_tb (x : Int32) (k : Int → Prop) : Int → List Int → Prop
  | _, [] => True
  | lo, o :: r => (x = Int32.ofInt lo → k o) ∧ ex_tb x k (lo + 1) r
def ex_lk (x : Int32) (k : Int → Prop) : List (Int × Int) → Prop
  | [] => True
  | q :: r => (x = Int32.ofInt q.1 → k q.2) ∧ ex_lk x k r
def ex_ln (x : Int32) : List (Int × Int) → Prop
  | [] => True
  | q :: r => ¬ x = Int32.ofInt q.1 ∧ ex_ln x r
def ex_b (A B C : Prop) : Prop := (A → B) ∧ (¬ A → C)
end
section
/-- System.arraycopy of ints -/
def ex_cp (cs : ex_C) (st : ex_V) (k : ex_V → ex_C → Prop) : Prop := match st with
  | .int n :: .int dp :: .ref a :: .int sp :: .ref a0 :: r => ex_ar cs a0 0 (fun n0 f => ex_ar cs a 0 (fun n1 g => ¬ sp < 0 ∧ ¬ dp < 0 ∧ ¬ n < 0 ∧ sp.toNatClampNeg + n.toNatClampNeg ≤ n0 ∧ dp.toNatClampNeg + n.toNatClampNeg ≤ n1 ∧ (r.map (fun v => v.category)).sum ≤ 8 ∧ k r (cs.set a (.inl (0, n1, .inl (va_cpy f g sp.toNatClampNeg dp.toNatClampNeg n.toNatClampNeg))))))
  | _ => False
theorem ex_cp.at {cs : ex_C} {st : ex_V} {k : ex_V → ex_C → Prop} (h : ex_cp cs st k) : ∃ n dp a sp a0 r n0 f n1 g, st = .int n :: .int dp :: .ref a :: .int sp :: .ref a0 :: r ∧ cs[a0]? = some (.inl (0, n0, .inl f)) ∧ cs[a]? = some (.inl (0, n1, .inl g)) ∧ ¬ sp < 0 ∧ ¬ dp < 0 ∧ ¬ n < 0 ∧ sp.toNatClampNeg + n.toNatClampNeg ≤ n0 ∧ dp.toNatClampNeg + n.toNatClampNeg ≤ n1 ∧ (r.map (fun v => v.category)).sum ≤ 8 ∧ k r (cs.set a (.inl (0, n1, .inl (va_cpy f g sp.toNatClampNeg dp.toNatClampNeg n.toNatClampNeg)))) := by
  unfold ex_cp at h
  split at h
  · obtain ⟨n0, f, h1, h⟩ := ex_ar.at h
    obtain ⟨n1, g, h2, h⟩ := ex_ar.at h
    exact ⟨_, _, _, _, _, _, n0, f, n1, g, rfl, h1, h2, h⟩
  · exact h.elim
/-- one instruction: what must hold so that the walk goes on (K) or ends (Q) -/
def ex_i (xt : ex_xt) (cx : ex_K) (ret : Option FieldType) (Q : ex_Q) (i : Instr) (len pc : Nat) (lv : ex_L) (st : ex_V) (cs : ex_C) (K : Nat → ex_L → ex_V → ex_C → Prop) : Prop := match i with
  | .iconst n => len = 1 ∧ K (pc + 1) lv (.int (Int32.ofInt n) :: st) cs
  | .bipush n => len = 2 ∧ K (pc + 2) lv (.int (Int8.ofInt n).toInt32 :: st) cs
  | .sipush n => len = 3 ∧ K (pc + 3) lv (.int (Int16.ofInt n).toInt32 :: st) cs
  | .ldc ix => len = 2 ∧ ex_o (cx.2.2.1 ix) (fun v => K (pc + 2) lv (.int v :: st) cs)
  | .ldc_w ix => len = 3 ∧ ex_o (cx.2.2.1 ix) (fun v => K (pc + 3) lv (.int v :: st) cs)
  | .ldc2_w ix => len = 3 ∧ ex_o (cx.2.2.2.2.2.2 ix) (fun v => K (pc + 3) lv (.long v :: st) cs)
  | .lconst n => len = 1 ∧ K (pc + 1) lv (.long (Int64.ofNat n) :: st) cs
  | .iload_n k => len = 1 ∧ ex_gi lv k (fun x => K (pc + 1) lv (.int x :: st) cs)
  | .iload k => len = 2 ∧ ex_gi lv k (fun x => K (pc + 2) lv (.int x :: st) cs)
  | .lload_n k => len = 1 ∧ ex_gl lv k (fun x => K (pc + 1) lv (.long x :: st) cs)
  | .lload k => len = 2 ∧ ex_gl lv k (fun x => K (pc + 2) lv (.long x :: st) cs)
  | .aload_n k => len = 1 ∧ ex_gr lv k (fun x => K (pc + 1) lv (.ref x :: st) cs)
  | .aload k => len = 2 ∧ ex_gr lv k (fun x => K (pc + 2) lv (.ref x :: st) cs)
  | .istore_n k => len = 1 ∧ ex_i1 st (fun x r => ex_so lv k ∧ K (pc + 1) (lv.set k (some (.int x))) r cs)
  | .istore k => len = 2 ∧ ex_i1 st (fun x r => ex_so lv k ∧ K (pc + 2) (lv.set k (some (.int x))) r cs)
  | .astore_n k => len = 1 ∧ ex_r1 st (fun x r => ex_so lv k ∧ K (pc + 1) (lv.set k (some (.ref x))) r cs)
  | .astore k => len = 2 ∧ ex_r1 st (fun x r => ex_so lv k ∧ K (pc + 2) (lv.set k (some (.ref x))) r cs)
  | .lstore_n k => len = 1 ∧ ex_l1 st (fun x r => ex_so lv k ∧ k + 1 < lv.length ∧ K (pc + 1) ((lv.set k (some (.long x))).set (k + 1) none) r cs)
  | .lstore k => len = 2 ∧ ex_l1 st (fun x r => ex_so lv k ∧ k + 1 < lv.length ∧ K (pc + 2) ((lv.set k (some (.long x))).set (k + 1) none) r cs)
  | .iinc k n => len = 3 ∧ ex_gi lv k (fun x => ex_so lv k ∧ K (pc + 3) (lv.set k (some (.int (x + Int32.ofInt n)))) st cs)
  | .iadd => len = 1 ∧ ex_i2 st (fun x y r => K (pc + 1) lv (.int (x + y) :: r) cs)
  | .isub => len = 1 ∧ ex_i2 st (fun x y r => K (pc + 1) lv (.int (x - y) :: r) cs)
  | .imul => len = 1 ∧ ex_i2 st (fun x y r => K (pc + 1) lv (.int (x * y) :: r) cs)
  | .iand => len = 1 ∧ ex_i2 st (fun x y r => K (pc + 1) lv (.int (x &&& y) :: r) cs)
  | .ior => len = 1 ∧ ex_i2 st (fun x y r => K (pc + 1) lv (.int (x ||| y) :: r) cs)
  | .ixor => len = 1 ∧ ex_i2 st (fun x y r => K (pc + 1) lv (.int (x ^^^ y) :: r) cs)
  | .ishl => len = 1 ∧ ex_i2 st (fun x y r => K (pc + 1) lv (.int (x <<< (y &&& 31)) :: r) cs)
  | .ishr => len = 1 ∧ ex_i2 st (fun x y r => K (pc + 1) lv (.int (x >>> (y &&& 31)) :: r) cs)
  | .iushr => len = 1 ∧ ex_i2 st (fun x y r => K (pc + 1) lv (.int (x.toUInt32 >>> (y.toUInt32 &&& Int32.toUInt32 31)).toInt32 :: r) cs)
  | .idiv => len = 1 ∧ ex_i2 st (fun x y r => ¬ y = 0 ∧ K (pc + 1) lv (.int (x / y) :: r) cs)
  | .irem => len = 1 ∧ ex_i2 st (fun x y r => ¬ y = 0 ∧ K (pc + 1) lv (.int (x - x / y * y) :: r) cs)
  | .ineg => len = 1 ∧ ex_i1 st (fun x r => K (pc + 1) lv (.int (-x) :: r) cs)
  | .i2l => len = 1 ∧ ex_i1 st (fun x r => K (pc + 1) lv (.long x.toInt64 :: r) cs)
  | .l2i => len = 1 ∧ ex_l1 st (fun x r => K (pc + 1) lv (.int x.toInt32 :: r) cs)
  | .ladd => len = 1 ∧ ex_l2 st (fun x y r => K (pc + 1) lv (.long (x + y) :: r) cs)
  | .lsub => len = 1 ∧ ex_l2 st (fun x y r => K (pc + 1) lv (.long (x - y) :: r) cs)
  | .lmul => len = 1 ∧ ex_l2 st (fun x y r => K (pc + 1) lv (.long (x * y) :: r) cs)
  | .ldiv => len = 1 ∧ ex_l2 st (fun x y r => ¬ y = 0 ∧ K (pc + 1) lv (.long (x / y) :: r) cs)
  | .dup => len = 1 ∧ ex_v1 st (fun v r => v.category = 1 ∧ K (pc + 1) lv (v :: v :: r) cs)
  | .pop => len = 1 ∧ ex_v1 st (fun v r => v.category = 1 ∧ K (pc + 1) lv r cs)
  | .dup_x1 => len = 1 ∧ ex_v2 st (fun v w r => v.category = 1 ∧ w.category = 1 ∧ K (pc + 1) lv (v :: w :: v :: r) cs)
  | .dup2 => len = 1 ∧ ex_v2 st (fun v w r => v.category = 1 ∧ w.category = 1 ∧ K (pc + 1) lv (v :: w :: v :: w :: r) cs)
  | .ifCond .eq off => len = 3 ∧ ex_i1 st (fun x r => ex_to pc off (fun t => ex_b (x = 0) (K t lv r cs) (K (pc + 3) lv r cs)))
  | .ifCond .ne off => len = 3 ∧ ex_i1 st (fun x r => ex_to pc off (fun t => ex_b (x = 0) (K (pc + 3) lv r cs) (K t lv r cs)))
  | .ifCond .lt off => len = 3 ∧ ex_i1 st (fun x r => ex_to pc off (fun t => ex_b (x < 0) (K t lv r cs) (K (pc + 3) lv r cs)))
  | .ifCond .ge off => len = 3 ∧ ex_i1 st (fun x r => ex_to pc off (fun t => ex_b (0 ≤ x) (K t lv r cs) (K (pc + 3) lv r cs)))
  | .ifCond .gt off => len = 3 ∧ ex_i1 st (fun x r => ex_to pc off (fun t => ex_b (0 < x) (K t lv r cs) (K (pc + 3) lv r cs)))
  | .ifCond .le off => len = 3 ∧ ex_i1 st (fun x r => ex_to pc off (fun t => ex_b (x ≤ 0) (K t lv r cs) (K (pc + 3) lv r cs)))
  | .if_icmp .eq off => len = 3 ∧ ex_i2 st (fun x y r => ex_to pc off (fun t => ex_b (x = y) (K t lv r cs) (K (pc + 3) lv r cs)))
  | .if_icmp .ne off => len = 3 ∧ ex_i2 st (fun x y r => ex_to pc off (fun t => ex_b (x = y) (K (pc + 3) lv r cs) (K t lv r cs)))
  | .if_icmp .lt off => len = 3 ∧ ex_i2 st (fun x y r => ex_to pc off (fun t => ex_b (x < y) (K t lv r cs) (K (pc + 3) lv r cs)))
  | .if_icmp .ge off => len = 3 ∧ ex_i2 st (fun x y r => ex_to pc off (fun t => ex_b (y ≤ x) (K t lv r cs) (K (pc + 3) lv r cs)))
  | .if_icmp .gt off => len = 3 ∧ ex_i2 st (fun x y r => ex_to pc off (fun t => ex_b (y < x) (K t lv r cs) (K (pc + 3) lv r cs)))
  | .if_icmp .le off => len = 3 ∧ ex_i2 st (fun x y r => ex_to pc off (fun t => ex_b (x ≤ y) (K t lv r cs) (K (pc + 3) lv r cs)))
  | .goto off => len = 3 ∧ ex_to pc off (fun t => K t lv st cs)
  | .tableswitch dflt lo hi offs => hi = lo + offs.size - 1 ∧ ex_i1 st (fun x r => (x.toInt < lo ∨ hi < x.toInt → ex_to pc dflt (fun t => K t lv r cs)) ∧ ex_tb x (fun o => ex_to pc o (fun t => K t lv r cs)) lo offs.toList)
  | .lookupswitch dflt ps => (ps.toList.zip (ps.toList.drop 1)).all (fun (a, next) => a.1 < next.1) = true ∧ ps.toList.all (fun q => decide (-2147483648 ≤ q.1 ∧ q.1 < 2147483648)) = true ∧ ex_i1 st (fun x r => (ex_ln x ps.toList → ex_to pc dflt (fun t => K t lv r cs)) ∧ ex_lk x (fun o => ex_to pc o (fun t => K t lv r cs)) ps.toList)
  | .getfield ix => len = 3 ∧ ex_r1 st (fun a r => ex_o (cx.2.1 ix) (fun q => ex_ob cs a q.1 (fun fs => ex_o fs[q.2.1]? (fun v => K (pc + 3) lv (v :: r) cs))))
  | .putfield ix => len = 3 ∧ ex_vr st (fun v a r => ex_o (cx.2.1 ix) (fun q => ex_ob cs a q.1 (fun fs => q.2.1 < fs.length ∧ q.2.2.1 = true ∧ ex_fit q.2.2.2 v ∧ K (pc + 3) lv r (cs.set a (.inr (q.1, fs.set q.2.1 v))))))
  | .getstatic ix => len = 3 ∧ ex_o (cx.2.2.2.1 ix) (fun j => K (pc + 3) lv (.ref (1000 + j) :: st) cs)
  | .iaload => len = 1 ∧ ex_ir st (fun i a r => ex_ax xt cs a (fun n f => vp_in i n ∧ K (pc + 1) lv (.int (f i.toNatClampNeg) :: r) cs))
  | .baload => len = 1 ∧ ex_ir st (fun i a r => ex_ar cs a 1 (fun n f => vp_in i n ∧ K (pc + 1) lv (.int (f i.toNatClampNeg) :: r) cs))
  | .iastore => len = 1 ∧ ex_iir st (fun x i a r => ex_ar cs a 0 (fun n f => vp_in i n ∧ K (pc + 1) lv r (cs.set a (.inl (0, n, .inl (upd f i.toNatClampNeg x))))))
  | .bastore => len = 1 ∧ ex_iir st (fun x i a r => ex_ar cs a 1 (fun n f => vp_in i n ∧ (x = 0 ∨ x = 1) ∧ K (pc + 1) lv r (cs.set a (.inl (1, n, .inl (upd f i.toNatClampNeg x))))))
  | .arraylength => len = 1 ∧ ex_r1 st (fun a r => match cs[a]? with
    | some (.inl (t, n, .inl _)) => (t = 0 ∨ t = 1) ∧ K (pc + 1) lv (.int (Int32.ofNat n) :: r) cs
    | _ => False)
  | .invokevirtual ix => len = 3 ∧ ex_o (cx.2.2.2.2.1 ix) (fun q => q.1 ≤ st.length ∧ ((st.drop q.1).map (fun v => v.category)).sum ≤ 8 ∧ ex_o q.2.1 (fun ci => ex_o (st[q.1 - 1]?) (fun v => match v with
    | .ref a => ex_ob cs a ci (fun _ => q.2.2 (st.take q.1).reverse cs (fun r cs' => K (pc + 3) lv (r.toList ++ st.drop q.1) cs'))
    | _ => False)))
  | .invokestatic ix => len = 3 ∧ (match cx.2.2.2.2.2.1 ix with
    | 1 => ex_cp cs st (fun r cs' => K (pc + 3) lv r cs')
    | 2 => ex_i2 st (fun x y r => (r.map (fun v => v.category)).sum ≤ 8 ∧ K (pc + 3) lv (.int (if y < x then y else x) :: r) cs)
    | 3 => ex_i2 st (fun x y r => (r.map (fun v => v.category)).sum ≤ 8 ∧ K (pc + 3) lv (.int (if x < y then y else x) :: r) cs)
    | _ => ex_o (cx.2.2.2.2.1 ix) (fun q => q.1 ≤ st.length ∧ ((st.drop q.1).map (fun v => v.category)).sum ≤ 8 ∧ q.2.1 = none ∧ q.2.2 (st.take q.1).reverse cs (fun r cs' => K (pc + 3) lv (r.toList ++ st.drop q.1) cs')))
  | .ireturn => len = 1 ∧ match st with
    | [.int v] => ex_ret ret v ∧ Q (some (.int v)) cs
    | _ => False
  | .return_ => len = 1 ∧ ret = none ∧ st = [] ∧ Q none cs
  | _ => False
/-- the walk from a place in the code, up to the cut points of I -/
def ex_wp (xt : ex_xt) (cx : ex_K) (cc : ByteArray) (ret : Option FieldType) (I : Nat → Option (ex_L → ex_V → ex_C → Prop)) (Q : ex_Q) : Nat → Nat → ex_L → ex_V → ex_C → Prop
  | 0, _, _, _, _ => False
  | n + 1, pc, lv, st, cs => match decode cc pc with
    | .ok (i, len) => ex_i xt cx ret Q i len pc lv st cs (fun pc' lv' st' cs' => match I pc' with
      | some J => J lv' st' cs'
      | none => ex_wp xt cx cc ret I Q n pc' lv' st' cs')
    | .error _ => False
/-- a call's callee: what is known of it -/
def ex_cok (l : Launch) (own : String) (fr lo ix n : Nat) (rc : Option Nat) (sp : ex_S) : Prop :=
  ∃ (y : MethodName) (bytes : ByteArray) (maxL : Nat) (ret : Option FieldType) (fr' lo' : Nat), fr' + 1 ≤ fr ∧ 8 + (maxL + 11) + lo' ≤ lo ∧ ex_Met l y bytes maxL ret fr' lo' sp ∧ Cond.code y bytes maxL ret ∈ ec_tb ∧ Cond.initialized y.cls ∈ ec_tb ∧ (y.cls ≠ "java/lang/invoke/MethodHandle" ∧ y.cls ≠ "java/lang/invoke/VarHandle") ∧
    (Cond.methodLink own ix y ∈ ec_tb ∨ ∃ host, (own, ix, y, host) ∈ ec_ns) ∧
    (match rc with
      | none => Cond.static y ∈ ec_tb ∧ (parseMethodDescriptor y.desc).map (fun d => d.parameters.length) = some n
      | some ci => (∃ T N, ec_cl[ci]? = some (y.cls, T, N)) ∧ Cond.instanceMethod y ∈ ec_tb ∧ Cond.selects y.cls y y ∈ ec_tb ∧ 1 ≤ n ∧ (parseMethodDescriptor y.desc).map (fun d => d.parameters.length) = some (n - 1))
/-- all that a method links is in the tables -/
def ex_ok (l : Launch) (fr lo : Nat) (cx : ex_K) : Prop :=
  (∀ (ix ci k : Nat) (b : Bool) (ty : FieldType), cx.2.1 ix = some (ci, k, b, ty) → ∃ C T N, ec_cl[ci]? = some (C, T, N) ∧ k < N ∧ (Cond.fieldLink cx.1 ix (T k).1 (T k).2.1 (T k).2.2.1 ∈ ec_tb) ∧ parseFieldDescriptor (T k).2.2.1 = some ty ∧ (b = true → (T k).2.2.2 = false)) ∧
  (∀ (ix : Nat) (v : Int32), cx.2.2.1 ix = some v → Cond.constant cx.1 ix v ∈ ec_tb) ∧
  (∀ (ix j : Nat), cx.2.2.2.1 ix = some j → ∃ C n dd, (C, n, dd, j) ∈ ec_zs ∧ Cond.fieldLink cx.1 ix C n dd ∈ ec_tb) ∧
  (∀ (ix n : Nat) (rc : Option Nat) (sp : ex_S), cx.2.2.2.2.1 ix = some (n, rc, sp) → ex_cok l cx.1 fr lo ix n rc sp) ∧
  (∀ (ix : Nat), cx.2.2.2.2.2.1 ix = 2 → Cond.methodLink cx.1 ix Lib.Math.min.name ∈ ec_tb ∧ Cond.static Lib.Math.min.name ∈ ec_tb ∧ Cond.initialized "java/lang/Math" ∈ ec_tb ∧ Cond.code Lib.Math.min.name Lib.Math.min.code 2 (some .int) ∈ ec_tb ∧ 1 ≤ fr ∧ 21 ≤ lo) ∧
  (∀ (ix : Nat), cx.2.2.2.2.2.1 ix = 3 → Cond.methodLink cx.1 ix Lib.Math.max.name ∈ ec_tb ∧ Cond.static Lib.Math.max.name ∈ ec_tb ∧ Cond.initialized "java/lang/Math" ∈ ec_tb ∧ Cond.code Lib.Math.max.name Lib.Math.max.code 2 (some .int) ∈ ec_tb ∧ 1 ≤ fr ∧ 21 ≤ lo) ∧
  (∀ (ix : Nat), cx.2.2.2.2.2.1 ix = 1 → Cond.methodLink cx.1 ix arraycopyName ∈ ec_tb ∧ Cond.native arraycopyName ∈ ec_tb ∧ Cond.static arraycopyName ∈ ec_tb ∧ Cond.initialized "java/lang/System" ∈ ec_tb ∧ 1 ≤ fr ∧ 8 + (nativeFrameWords "java/lang/System" "arraycopy" 5 + 11) ≤ lo) ∧
  (∀ (ix : Nat) (v : Int64), cx.2.2.2.2.2.2 ix = some v → Cond.constantLong cx.1 ix v ∈ ec_tb)
end
section
section EXS
variable {p : Program} {l : Launch} {e : Env} {R : Room} {s : State} {m : MethodId} {args : Array Value} {below : List Frame} {meth : Method} {c : Code}
variable {D : va_G} {ad ca : Nat → Nat} {n0 nL fr lo : Nat} {A : Nat → Prop} {cc : ByteArray} {ret : Option FieldType} {own : String} {Qw : State → Prop} {kc ks : Nat} {xt : ex_xt}
/-- a state of the walk -/
def ex_G (s : State) (D : va_G) (ad ca : Nat → Nat) (n0 nL : Nat) (A : Nat → Prop) (lv : ex_L) (cs : ex_C) (ls : Array Slot) (H : Heap) (locs : List Loc) : Prop := cs.length = n0 ∧ ex_ls ad lv nL ls ∧ va_P D ec_cl (ex_w ad ca cs) H ∧ va_S A s.heap H locs
/-- from here the walk ends, with Q -/
def ex_T (p : Program) (l : Launch) (e : Env) (R : Room) (s : State) (m : MethodId) (args : Array Value) (below : List Frame) (meth : Method) (c : Code) (D : va_G) (ad ca : Nat → Nat) (n0 nL : Nat) (A : Nat → Prop) (kc ks : Nat) (Qw : State → Prop) (pc : Nat) (lv : ex_L) (st : ex_V) (cs : ex_C) : Prop :=
  ∀ (ls : Array Slot) (H : Heap) (locs : List Loc), ex_G s D ad ca n0 nL A lv cs ls H locs → W p l e R s m args below meth c H locs kc ks Qw (F0 m pc ls (st.map (ex_v ad)))
/-- what holds in the whole method -/
def ex_Cx (xt : ex_xt) (p : Program) (R : Room) (s : State) (m : MethodId) (args : Array Value) (meth : Method) (c : Code) (D : va_G) (ad ca : Nat → Nat) (n0 nL fr lo : Nat) (A : Nat → Prop) (cc : ByteArray) (ret : Option FieldType) (own : String) : Prop :=
  p.tables.exec = Jvm.exec ∧ c.code = cc ∧ c.maxLocals = nL ∧ s.vm.findClass own = some m.cls ∧ (∀ w ∈ ec_tb, w.before args s = true) ∧ meth.sig.returnType = ret ∧ meth.locks = false ∧ ex_D ad n0 A ∧ va_K D ec_cl (ex_tys ca) s ∧ ex_X xt ad A s s.heap ∧ ex_Z ad A s s.heap ∧ (∀ q, ex_A ad n0 s.heap.size q → A q) ∧ fr ≤ R.frames ∧ lo ≤ R.locals ∧ (∀ (j : Nat) (q : Nat × (Nat → Int32)), ec_xt[j]? = some q → xt[j]? = some q) ∧ ex_Nw s
theorem ex_s_iconst (C : ex_Cx xt p R s m args meth c D ad ca n0 nL fr lo A cc ret own) {pc : Nat} {lv : ex_L} {cs : ex_C} {k : Int} {r : ex_V} (hd : decode cc pc = .ok (.iconst k, 1)) (k : ex_T p l e R s m args below meth c D ad ca n0 nL A kc ks Qw (pc + 1) lv (.int (Int32.ofInt k) :: r) cs) : ex_T p l e R s m args below meth c D ad ca n0 nL A kc ks Qw pc lv r cs := by
  obtain ⟨hx, hb, hml, hown, hts, hr, hlk, hD, hK, hX, hZ, hAe, hR1, hR2, hxt, hNw⟩ := C
  intro ls H locs G
  exact lv_iconst (v := Int32.ofInt _) hx hb hd rfl (k ls H locs G)
theorem ex_s_bipush (C : ex_Cx xt p R s m args meth c D ad ca n0 nL fr lo A cc ret own) {pc : Nat} {lv : ex_L} {cs : ex_C} {k : Int} {r : ex_V} (hd : decode cc pc = .ok (.bipush k, 2)) (k : ex_T p l e R s m args below meth c D ad ca n0 nL A kc ks Qw (pc + 2) lv (.int (Int8.ofInt k).toInt32 :: r) cs) : ex_T p l e R s m args below meth c D ad ca n0 nL A kc ks Qw pc lv r cs := by
  obtain ⟨hx, hb, hml, hown, hts, hr, hlk, hD, hK, hX, hZ, hAe, hR1, hR2, hxt, hNw⟩ := C
  intro ls H locs G
  exact lv_bipush (v := (Int8.ofInt _).toInt32) hx hb hd rfl (k ls H locs G)
theorem ex_s_sipush (C : ex_Cx xt p R s m args meth c D ad ca n0 nL fr lo A cc ret own) {pc : Nat} {lv : ex_L} {cs : ex_C} {k : Int} {r : ex_V} (hd : decode cc pc = .ok (.sipush k, 3)) (k : ex_T p l e R s m args below meth c D ad ca n0 nL A kc ks Qw (pc + 3) lv (.int (Int16.ofInt k).toInt32 :: r) cs) : ex_T p l e R s m args below meth c D ad ca n0 nL A kc ks Qw pc lv r cs := by
  obtain ⟨hx, hb, hml, hown, hts, hr, hlk, hD, hK, hX, hZ, hAe, hR1, hR2, hxt, hNw⟩ := C
  intro ls H locs G
  exact lv_sipush (v := (Int16.ofInt _).toInt32) hx hb hd rfl (k ls H locs G)
theorem ex_s_lconst (C : ex_Cx xt p R s m args meth c D ad ca n0 nL fr lo A cc ret own) {pc : Nat} {lv : ex_L} {cs : ex_C} {k : Fin 2} {r : ex_V} (hd : decode cc pc = .ok (.lconst k, 1)) (k : ex_T p l e R s m args below meth c D ad ca n0 nL A kc ks Qw (pc + 1) lv (.long (Int64.ofNat k) :: r) cs) : ex_T p l e R s m args below meth c D ad ca n0 nL A kc ks Qw pc lv r cs := by
  obtain ⟨hx, hb, hml, hown, hts, hr, hlk, hD, hK, hX, hZ, hAe, hR1, hR2, hxt, hNw⟩ := C
  intro ls H locs G
  exact lv_lconst (v := Int64.ofNat _) hx hb hd rfl (k ls H locs G)
theorem ex_s_iadd (C : ex_Cx xt p R s m args meth c D ad ca n0 nL fr lo A cc ret own) {pc : Nat} {lv : ex_L} {cs : ex_C} {x y : Int32} {r : ex_V} (hd : decode cc pc = .ok (.iadd, 1)) (k : ex_T p l e R s m args below meth c D ad ca n0 nL A kc ks Qw (pc + 1) lv (.int (x + y) :: r) cs) : ex_T p l e R s m args below meth c D ad ca n0 nL A kc ks Qw pc lv (.int y :: .int x :: r) cs := by
  obtain ⟨hx, hb, hml, hown, hts, hr, hlk, hD, hK, hX, hZ, hAe, hR1, hR2, hxt, hNw⟩ := C
  intro ls H locs G
  exact lv_iadd (x := x) (y := y) (rest := r.map (ex_v ad)) hx hb hd (k ls H locs G)
theorem ex_s_isub (C : ex_Cx xt p R s m args meth c D ad ca n0 nL fr lo A cc ret own) {pc : Nat} {lv : ex_L} {cs : ex_C} {x y : Int32} {r : ex_V} (hd : decode cc pc = .ok (.isub, 1)) (k : ex_T p l e R s m args below meth c D ad ca n0 nL A kc ks Qw (pc + 1) lv (.int (x - y) :: r) cs) : ex_T p l e R s m args below meth c D ad ca n0 nL A kc ks Qw pc lv (.int y :: .int x :: r) cs := by
  obtain ⟨hx, hb, hml, hown, hts, hr, hlk, hD, hK, hX, hZ, hAe, hR1, hR2, hxt, hNw⟩ := C
  intro ls H locs G
  exact lv_isub (x := x) (y := y) (rest := r.map (ex_v ad)) hx hb hd (k ls H locs G)
theorem ex_s_imul (C : ex_Cx xt p R s m args meth c D ad ca n0 nL fr lo A cc ret own) {pc : Nat} {lv : ex_L} {cs : ex_C} {x y : Int32} {r : ex_V} (hd : decode cc pc = .ok (.imul, 1)) (k : ex_T p l e R s m args below meth c D ad ca n0 nL A kc ks Qw (pc + 1) lv (.int (x * y) :: r) cs) : ex_T p l e R s m args below meth c D ad ca n0 nL A kc ks Qw pc lv (.int y :: .int x :: r) cs := by
  obtain ⟨hx, hb, hml, hown, hts, hr, hlk, hD, hK, hX, hZ, hAe, hR1, hR2, hxt, hNw⟩ := C
  intro ls H locs G
  exact lv_imul (x := x) (y := y) (rest := r.map (ex_v ad)) hx hb hd (k ls H locs G)
theorem ex_s_iand (C : ex_Cx xt p R s m args meth c D ad ca n0 nL fr lo A cc ret own) {pc : Nat} {lv : ex_L} {cs : ex_C} {x y : Int32} {r : ex_V} (hd : decode cc pc = .ok (.iand, 1)) (k : ex_T p l e R s m args below meth c D ad ca n0 nL A kc ks Qw (pc + 1) lv (.int (x &&& y) :: r) cs) : ex_T p l e R s m args below meth c D ad ca n0 nL A kc ks Qw pc lv (.int y :: .int x :: r) cs := by
  obtain ⟨hx, hb, hml, hown, hts, hr, hlk, hD, hK, hX, hZ, hAe, hR1, hR2, hxt, hNw⟩ := C
  intro ls H locs G
  exact lv_iand (x := x) (y := y) (rest := r.map (ex_v ad)) hx hb hd (k ls H locs G)
theorem ex_s_ior (C : ex_Cx xt p R s m args meth c D ad ca n0 nL fr lo A cc ret own) {pc : Nat} {lv : ex_L} {cs : ex_C} {x y : Int32} {r : ex_V} (hd : decode cc pc = .ok (.ior, 1)) (k : ex_T p l e R s m args below meth c D ad ca n0 nL A kc ks Qw (pc + 1) lv (.int (x ||| y) :: r) cs) : ex_T p l e R s m args below meth c D ad ca n0 nL A kc ks Qw pc lv (.int y :: .int x :: r) cs := by
  obtain ⟨hx, hb, hml, hown, hts, hr, hlk, hD, hK, hX, hZ, hAe, hR1, hR2, hxt, hNw⟩ := C
  intro ls H locs G
  exact lv_ior (x := x) (y := y) (rest := r.map (ex_v ad)) hx hb hd (k ls H locs G)
theorem ex_s_ixor (C : ex_Cx xt p R s m args meth c D ad ca n0 nL fr lo A cc ret own) {pc : Nat} {lv : ex_L} {cs : ex_C} {x y : Int32} {r : ex_V} (hd : decode cc pc = .ok (.ixor, 1)) (k : ex_T p l e R s m args below meth c D ad ca n0 nL A kc ks Qw (pc + 1) lv (.int (x ^^^ y) :: r) cs) : ex_T p l e R s m args below meth c D ad ca n0 nL A kc ks Qw pc lv (.int y :: .int x :: r) cs := by
  obtain ⟨hx, hb, hml, hown, hts, hr, hlk, hD, hK, hX, hZ, hAe, hR1, hR2, hxt, hNw⟩ := C
  intro ls H locs G
  exact lv_ixor (x := x) (y := y) (rest := r.map (ex_v ad)) hx hb hd (k ls H locs G)
theorem ex_s_ishl (C : ex_Cx xt p R s m args meth c D ad ca n0 nL fr lo A cc ret own) {pc : Nat} {lv : ex_L} {cs : ex_C} {x y : Int32} {r : ex_V} (hd : decode cc pc = .ok (.ishl, 1)) (k : ex_T p l e R s m args below meth c D ad ca n0 nL A kc ks Qw (pc + 1) lv (.int (x <<< (y &&& 31)) :: r) cs) : ex_T p l e R s m args below meth c D ad ca n0 nL A kc ks Qw pc lv (.int y :: .int x :: r) cs := by
  obtain ⟨hx, hb, hml, hown, hts, hr, hlk, hD, hK, hX, hZ, hAe, hR1, hR2, hxt, hNw⟩ := C
  intro ls H locs G
  exact lv_ishl (x := x) (y := y) (rest := r.map (ex_v ad)) hx hb hd (k ls H locs G)
theorem ex_s_ishr (C : ex_Cx xt p R s m args meth c D ad ca n0 nL fr lo A cc ret own) {pc : Nat} {lv : ex_L} {cs : ex_C} {x y : Int32} {r : ex_V} (hd : decode cc pc = .ok (.ishr, 1)) (k : ex_T p l e R s m args below meth c D ad ca n0 nL A kc ks Qw (pc + 1) lv (.int (x >>> (y &&& 31)) :: r) cs) : ex_T p l e R s m args below meth c D ad ca n0 nL A kc ks Qw pc lv (.int y :: .int x :: r) cs := by
  obtain ⟨hx, hb, hml, hown, hts, hr, hlk, hD, hK, hX, hZ, hAe, hR1, hR2, hxt, hNw⟩ := C
  intro ls H locs G
  exact lv_ishr (x := x) (y := y) (rest := r.map (ex_v ad)) hx hb hd (k ls H locs G)
theorem ex_s_iushr (C : ex_Cx xt p R s m args meth c D ad ca n0 nL fr lo A cc ret own) {pc : Nat} {lv : ex_L} {cs : ex_C} {x y : Int32} {r : ex_V} (hd : decode cc pc = .ok (.iushr, 1)) (k : ex_T p l e R s m args below meth c D ad ca n0 nL A kc ks Qw (pc + 1) lv (.int (x.toUInt32 >>> (y.toUInt32 &&& Int32.toUInt32 31)).toInt32 :: r) cs) : ex_T p l e R s m args below meth c D ad ca n0 nL A kc ks Qw pc lv (.int y :: .int x :: r) cs := by
  obtain ⟨hx, hb, hml, hown, hts, hr, hlk, hD, hK, hX, hZ, hAe, hR1, hR2, hxt, hNw⟩ := C
  intro ls H locs G
  exact lv_iushr (x := x) (y := y) (rest := r.map (ex_v ad)) hx hb hd rfl (k ls H locs G)
theorem ex_s_idiv (C : ex_Cx xt p R s m args meth c D ad ca n0 nL fr lo A cc ret own) {pc : Nat} {lv : ex_L} {cs : ex_C} {x y : Int32} {r : ex_V} (hy : ¬ y = 0) (hd : decode cc pc = .ok (.idiv, 1)) (k : ex_T p l e R s m args below meth c D ad ca n0 nL A kc ks Qw (pc + 1) lv (.int (x / y) :: r) cs) : ex_T p l e R s m args below meth c D ad ca n0 nL A kc ks Qw pc lv (.int y :: .int x :: r) cs := by
  obtain ⟨hx, hb, hml, hown, hts, hr, hlk, hD, hK, hX, hZ, hAe, hR1, hR2, hxt, hNw⟩ := C
  intro ls H locs G
  exact lv_idiv (x := x) (y := y) (rest := r.map (ex_v ad)) hx hb hd hy (k ls H locs G)
theorem ex_s_irem (C : ex_Cx xt p R s m args meth c D ad ca n0 nL fr lo A cc ret own) {pc : Nat} {lv : ex_L} {cs : ex_C} {x y : Int32} {r : ex_V} (hy : ¬ y = 0) (hd : decode cc pc = .ok (.irem, 1)) (k : ex_T p l e R s m args below meth c D ad ca n0 nL A kc ks Qw (pc + 1) lv (.int (x - x / y * y) :: r) cs) : ex_T p l e R s m args below meth c D ad ca n0 nL A kc ks Qw pc lv (.int y :: .int x :: r) cs := by
  obtain ⟨hx, hb, hml, hown, hts, hr, hlk, hD, hK, hX, hZ, hAe, hR1, hR2, hxt, hNw⟩ := C
  intro ls H locs G
  exact lv_irem (x := x) (y := y) (rest := r.map (ex_v ad)) hx hb hd hy (k ls H locs G)
theorem ex_s_ineg (C : ex_Cx xt p R s m args meth c D ad ca n0 nL fr lo A cc ret own) {pc : Nat} {lv : ex_L} {cs : ex_C} {x : Int32} {r : ex_V} (hd : decode cc pc = .ok (.ineg, 1)) (k : ex_T p l e R s m args below meth c D ad ca n0 nL A kc ks Qw (pc + 1) lv (.int (-x) :: r) cs) : ex_T p l e R s m args below meth c D ad ca n0 nL A kc ks Qw pc lv (.int x :: r) cs := by
  obtain ⟨hx, hb, hml, hown, hts, hr, hlk, hD, hK, hX, hZ, hAe, hR1, hR2, hxt, hNw⟩ := C
  intro ls H locs G
  exact lv_ineg (x := x) (rest := r.map (ex_v ad)) hx hb hd (k ls H locs G)
theorem ex_s_i2l (C : ex_Cx xt p R s m args meth c D ad ca n0 nL fr lo A cc ret own) {pc : Nat} {lv : ex_L} {cs : ex_C} {x : Int32} {r : ex_V} (hd : decode cc pc = .ok (.i2l, 1)) (k : ex_T p l e R s m args below meth c D ad ca n0 nL A kc ks Qw (pc + 1) lv (.long x.toInt64 :: r) cs) : ex_T p l e R s m args below meth c D ad ca n0 nL A kc ks Qw pc lv (.int x :: r) cs := by
  obtain ⟨hx, hb, hml, hown, hts, hr, hlk, hD, hK, hX, hZ, hAe, hR1, hR2, hxt, hNw⟩ := C
  intro ls H locs G
  exact lv_i2l (x := x) (rest := r.map (ex_v ad)) hx hb hd rfl (k ls H locs G)
theorem ex_s_l2i (C : ex_Cx xt p R s m args meth c D ad ca n0 nL fr lo A cc ret own) {pc : Nat} {lv : ex_L} {cs : ex_C} {x : Int64} {r : ex_V} (hd : decode cc pc = .ok (.l2i, 1)) (k : ex_T p l e R s m args below meth c D ad ca n0 nL A kc ks Qw (pc + 1) lv (.int x.toInt32 :: r) cs) : ex_T p l e R s m args below meth c D ad ca n0 nL A kc ks Qw pc lv (.long x :: r) cs := by
  obtain ⟨hx, hb, hml, hown, hts, hr, hlk, hD, hK, hX, hZ, hAe, hR1, hR2, hxt, hNw⟩ := C
  intro ls H locs G
  exact lv_l2i (x := x) (rest := r.map (ex_v ad)) hx hb hd rfl (k ls H locs G)
theorem ex_s_ladd (C : ex_Cx xt p R s m args meth c D ad ca n0 nL fr lo A cc ret own) {pc : Nat} {lv : ex_L} {cs : ex_C} {x y : Int64} {r : ex_V} (hd : decode cc pc = .ok (.ladd, 1)) (k : ex_T p l e R s m args below meth c D ad ca n0 nL A kc ks Qw (pc + 1) lv (.long (x + y) :: r) cs) : ex_T p l e R s m args below meth c D ad ca n0 nL A kc ks Qw pc lv (.long y :: .long x :: r) cs := by
  obtain ⟨hx, hb, hml, hown, hts, hr, hlk, hD, hK, hX, hZ, hAe, hR1, hR2, hxt, hNw⟩ := C
  intro ls H locs G
  exact lv_ladd (x := x) (y := y) (rest := r.map (ex_v ad)) hx hb hd (k ls H locs G)
theorem ex_s_lsub (C : ex_Cx xt p R s m args meth c D ad ca n0 nL fr lo A cc ret own) {pc : Nat} {lv : ex_L} {cs : ex_C} {x y : Int64} {r : ex_V} (hd : decode cc pc = .ok (.lsub, 1)) (k : ex_T p l e R s m args below meth c D ad ca n0 nL A kc ks Qw (pc + 1) lv (.long (x - y) :: r) cs) : ex_T p l e R s m args below meth c D ad ca n0 nL A kc ks Qw pc lv (.long y :: .long x :: r) cs := by
  obtain ⟨hx, hb, hml, hown, hts, hr, hlk, hD, hK, hX, hZ, hAe, hR1, hR2, hxt, hNw⟩ := C
  intro ls H locs G
  exact lv_lsub (x := x) (y := y) (rest := r.map (ex_v ad)) hx hb hd (k ls H locs G)
theorem ex_s_lmul (C : ex_Cx xt p R s m args meth c D ad ca n0 nL fr lo A cc ret own) {pc : Nat} {lv : ex_L} {cs : ex_C} {x y : Int64} {r : ex_V} (hd : decode cc pc = .ok (.lmul, 1)) (k : ex_T p l e R s m args below meth c D ad ca n0 nL A kc ks Qw (pc + 1) lv (.long (x * y) :: r) cs) : ex_T p l e R s m args below meth c D ad ca n0 nL A kc ks Qw pc lv (.long y :: .long x :: r) cs := by
  obtain ⟨hx, hb, hml, hown, hts, hr, hlk, hD, hK, hX, hZ, hAe, hR1, hR2, hxt, hNw⟩ := C
  intro ls H locs G
  exact lv_lmul (x := x) (y := y) (rest := r.map (ex_v ad)) hx hb hd (k ls H locs G)
theorem ex_s_ldiv (C : ex_Cx xt p R s m args meth c D ad ca n0 nL fr lo A cc ret own) {pc : Nat} {lv : ex_L} {cs : ex_C} {x y : Int64} {r : ex_V} (hy : ¬ y = 0) (hd : decode cc pc = .ok (.ldiv, 1)) (k : ex_T p l e R s m args below meth c D ad ca n0 nL A kc ks Qw (pc + 1) lv (.long (x / y) :: r) cs) : ex_T p l e R s m args below meth c D ad ca n0 nL A kc ks Qw pc lv (.long y :: .long x :: r) cs := by
  obtain ⟨hx, hb, hml, hown, hts, hr, hlk, hD, hK, hX, hZ, hAe, hR1, hR2, hxt, hNw⟩ := C
  intro ls H locs G
  exact lv_ldiv (x := x) (y := y) (rest := r.map (ex_v ad)) hx hb hd hy (k ls H locs G)
theorem ex_s_dup (C : ex_Cx xt p R s m args meth c D ad ca n0 nL fr lo A cc ret own) {pc : Nat} {lv : ex_L} {cs : ex_C} {v : Value} {r : ex_V} (h1 : v.category = 1) (hd : decode cc pc = .ok (.dup, 1)) (k : ex_T p l e R s m args below meth c D ad ca n0 nL A kc ks Qw (pc + 1) lv (v :: v :: r) cs) : ex_T p l e R s m args below meth c D ad ca n0 nL A kc ks Qw pc lv (v :: r) cs := by
  obtain ⟨hx, hb, hml, hown, hts, hr, hlk, hD, hK, hX, hZ, hAe, hR1, hR2, hxt, hNw⟩ := C
  intro ls H locs G
  exact lv_dup (va := ex_v ad v) (rest := r.map (ex_v ad)) hx hb hd (by rw [ex_v_cat]; exact h1) (k ls H locs G)
theorem ex_s_pop (C : ex_Cx xt p R s m args meth c D ad ca n0 nL fr lo A cc ret own) {pc : Nat} {lv : ex_L} {cs : ex_C} {v : Value} {r : ex_V} (h1 : v.category = 1) (hd : decode cc pc = .ok (.pop, 1)) (k : ex_T p l e R s m args below meth c D ad ca n0 nL A kc ks Qw (pc + 1) lv r cs) : ex_T p l e R s m args below meth c D ad ca n0 nL A kc ks Qw pc lv (v :: r) cs := by
  obtain ⟨hx, hb, hml, hown, hts, hr, hlk, hD, hK, hX, hZ, hAe, hR1, hR2, hxt, hNw⟩ := C
  intro ls H locs G
  exact lv_pop (va := ex_v ad v) (rest := r.map (ex_v ad)) hx hb hd (by rw [ex_v_cat]; exact h1) (k ls H locs G)
theorem ex_s_dup_x1 (C : ex_Cx xt p R s m args meth c D ad ca n0 nL fr lo A cc ret own) {pc : Nat} {lv : ex_L} {cs : ex_C} {v w : Value} {r : ex_V} (h1 : v.category = 1) (h2 : w.category = 1) (hd : decode cc pc = .ok (.dup_x1, 1)) (k : ex_T p l e R s m args below meth c D ad ca n0 nL A kc ks Qw (pc + 1) lv (v :: w :: v :: r) cs) : ex_T p l e R s m args below meth c D ad ca n0 nL A kc ks Qw pc lv (v :: w :: r) cs := by
  obtain ⟨hx, hb, hml, hown, hts, hr, hlk, hD, hK, hX, hZ, hAe, hR1, hR2, hxt, hNw⟩ := C
  intro ls H locs G
  exact lv_dup_x1 (va := ex_v ad v) (vb := ex_v ad w) (rest := r.map (ex_v ad)) hx hb hd (by rw [ex_v_cat]; exact h1) (by rw [ex_v_cat]; exact h2) (k ls H locs G)
theorem ex_s_dup2 (C : ex_Cx xt p R s m args meth c D ad ca n0 nL fr lo A cc ret own) {pc : Nat} {lv : ex_L} {cs : ex_C} {v w : Value} {r : ex_V} (h1 : v.category = 1) (h2 : w.category = 1) (hd : decode cc pc = .ok (.dup2, 1)) (k : ex_T p l e R s m args below meth c D ad ca n0 nL A kc ks Qw (pc + 1) lv (v :: w :: v :: w :: r) cs) : ex_T p l e R s m args below meth c D ad ca n0 nL A kc ks Qw pc lv (v :: w :: r) cs := by
  obtain ⟨hx, hb, hml, hown, hts, hr, hlk, hD, hK, hX, hZ, hAe, hR1, hR2, hxt, hNw⟩ := C
  intro ls H locs G
  exact lv_dup2_11 (va := ex_v ad v) (vb := ex_v ad w) (rest := r.map (ex_v ad)) hx hb hd (by rw [ex_v_cat]; exact h1) (by rw [ex_v_cat]; exact h2) (k ls H locs G)
theorem ex_s_iload_n (C : ex_Cx xt p R s m args meth c D ad ca n0 nL fr lo A cc ret own) {pc : Nat} {lv : ex_L} {cs : ex_C} {k : Fin 4} {x : Int32} {r : ex_V} (hd : decode cc pc = .ok (.iload_n k, 1)) (hv : lv[(k : Nat)]? = some (some (.int x))) (k : ex_T p l e R s m args below meth c D ad ca n0 nL A kc ks Qw (pc + 1) lv (.int x :: r) cs) : ex_T p l e R s m args below meth c D ad ca n0 nL A kc ks Qw pc lv r cs := by
  obtain ⟨hx, hb, hml, hown, hts, hr, hlk, hD, hK, hX, hZ, hAe, hR1, hR2, hxt, hNw⟩ := C
  intro ls H locs G
  exact lv_iload_n (x := x) (rest := r.map (ex_v ad)) hx hb hd rfl (G.2.1.2.2.2 _ _ hv) (k ls H locs G)
theorem ex_s_iload (C : ex_Cx xt p R s m args meth c D ad ca n0 nL fr lo A cc ret own) {pc : Nat} {lv : ex_L} {cs : ex_C} {k : Nat} {x : Int32} {r : ex_V} (hd : decode cc pc = .ok (.iload k, 2)) (hv : lv[k]? = some (some (.int x))) (k : ex_T p l e R s m args below meth c D ad ca n0 nL A kc ks Qw (pc + 2) lv (.int x :: r) cs) : ex_T p l e R s m args below meth c D ad ca n0 nL A kc ks Qw pc lv r cs := by
  obtain ⟨hx, hb, hml, hown, hts, hr, hlk, hD, hK, hX, hZ, hAe, hR1, hR2, hxt, hNw⟩ := C
  intro ls H locs G
  exact lv_iload (x := x) (rest := r.map (ex_v ad)) hx hb hd (G.2.1.2.2.2 _ _ hv) (k ls H locs G)
theorem ex_s_lload_n (C : ex_Cx xt p R s m args meth c D ad ca n0 nL fr lo A cc ret own) {pc : Nat} {lv : ex_L} {cs : ex_C} {k : Fin 4} {x : Int64} {r : ex_V} (hd : decode cc pc = .ok (.lload_n k, 1)) (hv : lv[(k : Nat)]? = some (some (.long x))) (k : ex_T p l e R s m args below meth c D ad ca n0 nL A kc ks Qw (pc + 1) lv (.long x :: r) cs) : ex_T p l e R s m args below meth c D ad ca n0 nL A kc ks Qw pc lv r cs := by
  obtain ⟨hx, hb, hml, hown, hts, hr, hlk, hD, hK, hX, hZ, hAe, hR1, hR2, hxt, hNw⟩ := C
  intro ls H locs G
  exact lv_lload_n (x := x) (rest := r.map (ex_v ad)) hx hb hd rfl (G.2.1.2.2.2 _ _ hv) (k ls H locs G)
theorem ex_s_lload (C : ex_Cx xt p R s m args meth c D ad ca n0 nL fr lo A cc ret own) {pc : Nat} {lv : ex_L} {cs : ex_C} {k : Nat} {x : Int64} {r : ex_V} (hd : decode cc pc = .ok (.lload k, 2)) (hv : lv[k]? = some (some (.long x))) (k : ex_T p l e R s m args below meth c D ad ca n0 nL A kc ks Qw (pc + 2) lv (.long x :: r) cs) : ex_T p l e R s m args below meth c D ad ca n0 nL A kc ks Qw pc lv r cs := by
  obtain ⟨hx, hb, hml, hown, hts, hr, hlk, hD, hK, hX, hZ, hAe, hR1, hR2, hxt, hNw⟩ := C
  intro ls H locs G
  exact lv_lload (x := x) (rest := r.map (ex_v ad)) hx hb hd (G.2.1.2.2.2 _ _ hv) (k ls H locs G)
theorem ex_s_aload_n (C : ex_Cx xt p R s m args meth c D ad ca n0 nL fr lo A cc ret own) {pc : Nat} {lv : ex_L} {cs : ex_C} {k : Fin 4} {x : Nat} {r : ex_V} (hd : decode cc pc = .ok (.aload_n k, 1)) (hv : lv[(k : Nat)]? = some (some (.ref x))) (k : ex_T p l e R s m args below meth c D ad ca n0 nL A kc ks Qw (pc + 1) lv (.ref x :: r) cs) : ex_T p l e R s m args below meth c D ad ca n0 nL A kc ks Qw pc lv r cs := by
  obtain ⟨hx, hb, hml, hown, hts, hr, hlk, hD, hK, hX, hZ, hAe, hR1, hR2, hxt, hNw⟩ := C
  intro ls H locs G
  exact lv_aload_n (x := ad x) (rest := r.map (ex_v ad)) hx hb hd rfl (G.2.1.2.2.2 _ _ hv) (k ls H locs G)
theorem ex_s_aload (C : ex_Cx xt p R s m args meth c D ad ca n0 nL fr lo A cc ret own) {pc : Nat} {lv : ex_L} {cs : ex_C} {k : Nat} {x : Nat} {r : ex_V} (hd : decode cc pc = .ok (.aload k, 2)) (hv : lv[k]? = some (some (.ref x))) (k : ex_T p l e R s m args below meth c D ad ca n0 nL A kc ks Qw (pc + 2) lv (.ref x :: r) cs) : ex_T p l e R s m args below meth c D ad ca n0 nL A kc ks Qw pc lv r cs := by
  obtain ⟨hx, hb, hml, hown, hts, hr, hlk, hD, hK, hX, hZ, hAe, hR1, hR2, hxt, hNw⟩ := C
  intro ls H locs G
  exact lv_aload (x := ad x) (rest := r.map (ex_v ad)) hx hb hd (G.2.1.2.2.2 _ _ hv) (k ls H locs G)
theorem ex_s_istore_n (C : ex_Cx xt p R s m args meth c D ad ca n0 nL fr lo A cc ret own) {pc : Nat} {lv : ex_L} {cs : ex_C} {k : Fin 4} {x : Int32} {r : ex_V} (hd : decode cc pc = .ok (.istore_n k, 1)) (hs : ex_so lv k) (kk : ex_T p l e R s m args below meth c D ad ca n0 nL A kc ks Qw (pc + 1) (lv.set k (some (.int x))) r cs) : ex_T p l e R s m args below meth c D ad ca n0 nL A kc ks Qw pc lv (.int x :: r) cs := by
  obtain ⟨hx, hb, hml, hown, hts, hr, hlk, hD, hK, hX, hZ, hAe, hR1, hR2, hxt, hNw⟩ := C
  intro ls H locs G
  refine lv_istore_n (x := x) (rest := r.map (ex_v ad)) hx hb hd rfl G.2.1.has (Nat.lt_of_lt_of_le hs.1 G.2.1.2.2.1) rfl (fun ls' h' => ?_)
  exact kk ls' H locs ⟨G.1, G.2.1.set1 (v := .int x) hs h', G.2.2⟩
theorem ex_s_istore (C : ex_Cx xt p R s m args meth c D ad ca n0 nL fr lo A cc ret own) {pc : Nat} {lv : ex_L} {cs : ex_C} {k : Nat} {x : Int32} {r : ex_V} (hd : decode cc pc = .ok (.istore k, 2)) (hs : ex_so lv k) (kk : ex_T p l e R s m args below meth c D ad ca n0 nL A kc ks Qw (pc + 2) (lv.set k (some (.int x))) r cs) : ex_T p l e R s m args below meth c D ad ca n0 nL A kc ks Qw pc lv (.int x :: r) cs := by
  obtain ⟨hx, hb, hml, hown, hts, hr, hlk, hD, hK, hX, hZ, hAe, hR1, hR2, hxt, hNw⟩ := C
  intro ls H locs G
  refine lv_istore (x := x) (rest := r.map (ex_v ad)) hx hb hd G.2.1.has (Nat.lt_of_lt_of_le hs.1 G.2.1.2.2.1) rfl (fun ls' h' => ?_)
  exact kk ls' H locs ⟨G.1, G.2.1.set1 (v := .int x) hs h', G.2.2⟩
theorem ex_s_astore_n (C : ex_Cx xt p R s m args meth c D ad ca n0 nL fr lo A cc ret own) {pc : Nat} {lv : ex_L} {cs : ex_C} {k : Fin 4} {x : Nat} {r : ex_V} (hd : decode cc pc = .ok (.astore_n k, 1)) (hs : ex_so lv k) (kk : ex_T p l e R s m args below meth c D ad ca n0 nL A kc ks Qw (pc + 1) (lv.set k (some (.ref x))) r cs) : ex_T p l e R s m args below meth c D ad ca n0 nL A kc ks Qw pc lv (.ref x :: r) cs := by
  obtain ⟨hx, hb, hml, hown, hts, hr, hlk, hD, hK, hX, hZ, hAe, hR1, hR2, hxt, hNw⟩ := C
  intro ls H locs G
  refine lv_astore_n (x := ad x) (rest := r.map (ex_v ad)) hx hb hd rfl G.2.1.has (Nat.lt_of_lt_of_le hs.1 G.2.1.2.2.1) rfl (fun ls' h' => ?_)
  exact kk ls' H locs ⟨G.1, G.2.1.set1 (v := .ref x) hs h', G.2.2⟩
theorem ex_s_astore (C : ex_Cx xt p R s m args meth c D ad ca n0 nL fr lo A cc ret own) {pc : Nat} {lv : ex_L} {cs : ex_C} {k : Nat} {x : Nat} {r : ex_V} (hd : decode cc pc = .ok (.astore k, 2)) (hs : ex_so lv k) (kk : ex_T p l e R s m args below meth c D ad ca n0 nL A kc ks Qw (pc + 2) (lv.set k (some (.ref x))) r cs) : ex_T p l e R s m args below meth c D ad ca n0 nL A kc ks Qw pc lv (.ref x :: r) cs := by
  obtain ⟨hx, hb, hml, hown, hts, hr, hlk, hD, hK, hX, hZ, hAe, hR1, hR2, hxt, hNw⟩ := C
  intro ls H locs G
  refine lv_astore (x := ad x) (rest := r.map (ex_v ad)) hx hb hd G.2.1.has (Nat.lt_of_lt_of_le hs.1 G.2.1.2.2.1) rfl (fun ls' h' => ?_)
  exact kk ls' H locs ⟨G.1, G.2.1.set1 (v := .ref x) hs h', G.2.2⟩
theorem ex_s_lstore_n (C : ex_Cx xt p R s m args meth c D ad ca n0 nL fr lo A cc ret own) {pc : Nat} {lv : ex_L} {cs : ex_C} {k : Fin 4} {x : Int64} {r : ex_V} (hd : decode cc pc = .ok (.lstore_n k, 1)) (hs : ex_so lv k) (hs2 : (k : Nat) + 1 < lv.length) (kk : ex_T p l e R s m args below meth c D ad ca n0 nL A kc ks Qw (pc + 1) ((lv.set k (some (.long x))).set (k + 1) none) r cs) : ex_T p l e R s m args below meth c D ad ca n0 nL A kc ks Qw pc lv (.long x :: r) cs := by
  obtain ⟨hx, hb, hml, hown, hts, hr, hlk, hD, hK, hX, hZ, hAe, hR1, hR2, hxt, hNw⟩ := C
  intro ls H locs G
  refine lv_lstore_n (x := x) (rest := r.map (ex_v ad)) hx hb hd rfl G.2.1.has (Nat.lt_of_lt_of_le hs2 G.2.1.2.2.1) rfl (fun ls' h' => ?_)
  exact kk ls' H locs ⟨G.1, G.2.1.set2 (v := .long x) hs h', G.2.2⟩
theorem ex_s_lstore (C : ex_Cx xt p R s m args meth c D ad ca n0 nL fr lo A cc ret own) {pc : Nat} {lv : ex_L} {cs : ex_C} {k : Nat} {x : Int64} {r : ex_V} (hd : decode cc pc = .ok (.lstore k, 2)) (hs : ex_so lv k) (hs2 : (k : Nat) + 1 < lv.length) (kk : ex_T p l e R s m args below meth c D ad ca n0 nL A kc ks Qw (pc + 2) ((lv.set k (some (.long x))).set (k + 1) none) r cs) : ex_T p l e R s m args below meth c D ad ca n0 nL A kc ks Qw pc lv (.long x :: r) cs := by
  obtain ⟨hx, hb, hml, hown, hts, hr, hlk, hD, hK, hX, hZ, hAe, hR1, hR2, hxt, hNw⟩ := C
  intro ls H locs G
  refine lv_lstore (x := x) (rest := r.map (ex_v ad)) hx hb hd G.2.1.has (Nat.lt_of_lt_of_le hs2 G.2.1.2.2.1) rfl (fun ls' h' => ?_)
  exact kk ls' H locs ⟨G.1, G.2.1.set2 (v := .long x) hs h', G.2.2⟩
theorem ex_s_iinc (C : ex_Cx xt p R s m args meth c D ad ca n0 nL fr lo A cc ret own) {pc : Nat} {lv : ex_L} {cs : ex_C} {k : Nat} {n : Int} {x : Int32} {r : ex_V} (hd : decode cc pc = .ok (.iinc k n, 3)) (hv : lv[k]? = some (some (.int x))) (hs : ex_so lv k) (kk : ex_T p l e R s m args below meth c D ad ca n0 nL A kc ks Qw (pc + 3) (lv.set k (some (.int (x + Int32.ofInt n)))) r cs) : ex_T p l e R s m args below meth c D ad ca n0 nL A kc ks Qw pc lv r cs := by
  obtain ⟨hx, hb, hml, hown, hts, hr, hlk, hD, hK, hX, hZ, hAe, hR1, hR2, hxt, hNw⟩ := C
  intro ls H locs G
  obtain ⟨j, hj⟩ := List.getElem?_of_mem (ex_ll_mem (ad := ad) (lv := lv) (q := (k, .int x)) |>.mpr ⟨.int x, hv, rfl⟩)
  refine lv_iinc (x := x) (v := x + Int32.ofInt n) (k := j) (rest := r.map (ex_v ad)) hx hb hd G.2.1.has hj rfl (Nat.lt_of_lt_of_le hs.1 G.2.1.2.2.1) rfl (fun ls' h' => ?_)
  exact kk ls' H locs ⟨G.1, G.2.1.set1 (v := .int (x + Int32.ofInt n)) hs h', G.2.2⟩
theorem ex_s_if_eq (C : ex_Cx xt p R s m args meth c D ad ca n0 nL fr lo A cc ret own) {pc : Nat} {lv : ex_L} {cs : ex_C} {x : Int32} {r : ex_V} {off : Int} {t : Nat} (hd : decode cc pc = .ok (.ifCond .eq off, 3)) (ht : (pc : Int) + off = (t : Int)) (kt : x = 0 → ex_T p l e R s m args below meth c D ad ca n0 nL A kc ks Qw t lv r cs) (kf : ¬ x = 0 → ex_T p l e R s m args below meth c D ad ca n0 nL A kc ks Qw (pc + 3) lv r cs) : ex_T p l e R s m args below meth c D ad ca n0 nL A kc ks Qw pc lv (.int x :: r) cs := by
  obtain ⟨hx, hb, hml, hown, hts, hr, hlk, hD, hK, hX, hZ, hAe, hR1, hR2, hxt, hNw⟩ := C
  intro ls H locs G
  exact lv_if_eq (x := x) (rest := r.map (ex_v ad)) (tgt := t) hx hb hd ht (fun h => kt h ls H locs G) (fun h => kf h ls H locs G)
theorem ex_s_icmp_eq (C : ex_Cx xt p R s m args meth c D ad ca n0 nL fr lo A cc ret own) {pc : Nat} {lv : ex_L} {cs : ex_C} {x y : Int32} {r : ex_V} {off : Int} {t : Nat} (hd : decode cc pc = .ok (.if_icmp .eq off, 3)) (ht : (pc : Int) + off = (t : Int)) (kt : x = y → ex_T p l e R s m args below meth c D ad ca n0 nL A kc ks Qw t lv r cs) (kf : ¬ x = y → ex_T p l e R s m args below meth c D ad ca n0 nL A kc ks Qw (pc + 3) lv r cs) : ex_T p l e R s m args below meth c D ad ca n0 nL A kc ks Qw pc lv (.int y :: .int x :: r) cs := by
  obtain ⟨hx, hb, hml, hown, hts, hr, hlk, hD, hK, hX, hZ, hAe, hR1, hR2, hxt, hNw⟩ := C
  intro ls H locs G
  exact lv_icmp_eq (x := x) (y := y) (rest := r.map (ex_v ad)) (tgt := t) hx hb hd ht (fun h => kt h ls H locs G) (fun h => kf h ls H locs G)
theorem ex_s_if_ne (C : ex_Cx xt p R s m args meth c D ad ca n0 nL fr lo A cc ret own) {pc : Nat} {lv : ex_L} {cs : ex_C} {x : Int32} {r : ex_V} {off : Int} {t : Nat} (hd : decode cc pc = .ok (.ifCond .ne off, 3)) (ht : (pc : Int) + off = (t : Int)) (kf : x = 0 → ex_T p l e R s m args below meth c D ad ca n0 nL A kc ks Qw (pc + 3) lv r cs) (kt : ¬ x = 0 → ex_T p l e R s m args below meth c D ad ca n0 nL A kc ks Qw t lv r cs) : ex_T p l e R s m args below meth c D ad ca n0 nL A kc ks Qw pc lv (.int x :: r) cs := by
  obtain ⟨hx, hb, hml, hown, hts, hr, hlk, hD, hK, hX, hZ, hAe, hR1, hR2, hxt, hNw⟩ := C
  intro ls H locs G
  exact lv_if_ne (x := x) (rest := r.map (ex_v ad)) (tgt := t) hx hb hd ht (fun h => kt h ls H locs G) (fun h => kf h ls H locs G)
theorem ex_s_icmp_ne (C : ex_Cx xt p R s m args meth c D ad ca n0 nL fr lo A cc ret own) {pc : Nat} {lv : ex_L} {cs : ex_C} {x y : Int32} {r : ex_V} {off : Int} {t : Nat} (hd : decode cc pc = .ok (.if_icmp .ne off, 3)) (ht : (pc : Int) + off = (t : Int)) (kf : x = y → ex_T p l e R s m args below meth c D ad ca n0 nL A kc ks Qw (pc + 3) lv r cs) (kt : ¬ x = y → ex_T p l e R s m args below meth c D ad ca n0 nL A kc ks Qw t lv r cs) : ex_T p l e R s m args below meth c D ad ca n0 nL A kc ks Qw pc lv (.int y :: .int x :: r) cs := by
  obtain ⟨hx, hb, hml, hown, hts, hr, hlk, hD, hK, hX, hZ, hAe, hR1, hR2, hxt, hNw⟩ := C
  intro ls H locs G
  exact lv_icmp_ne (x := x) (y := y) (rest := r.map (ex_v ad)) (tgt := t) hx hb hd ht (fun h => kt h ls H locs G) (fun h => kf h ls H locs G)
theorem ex_s_if_lt (C : ex_Cx xt p R s m args meth c D ad ca n0 nL fr lo A cc ret own) {pc : Nat} {lv : ex_L} {cs : ex_C} {x : Int32} {r : ex_V} {off : Int} {t : Nat} (hd : decode cc pc = .ok (.ifCond .lt off, 3)) (ht : (pc : Int) + off = (t : Int)) (kt : x < 0 → ex_T p l e R s m args below meth c D ad ca n0 nL A kc ks Qw t lv r cs) (kf : ¬ x < 0 → ex_T p l e R s m args below meth c D ad ca n0 nL A kc ks Qw (pc + 3) lv r cs) : ex_T p l e R s m args below meth c D ad ca n0 nL A kc ks Qw pc lv (.int x :: r) cs := by
  obtain ⟨hx, hb, hml, hown, hts, hr, hlk, hD, hK, hX, hZ, hAe, hR1, hR2, hxt, hNw⟩ := C
  intro ls H locs G
  exact lv_if_lt (x := x) (rest := r.map (ex_v ad)) (tgt := t) hx hb hd ht (fun h => kt h ls H locs G) (fun h => kf h ls H locs G)
theorem ex_s_icmp_lt (C : ex_Cx xt p R s m args meth c D ad ca n0 nL fr lo A cc ret own) {pc : Nat} {lv : ex_L} {cs : ex_C} {x y : Int32} {r : ex_V} {off : Int} {t : Nat} (hd : decode cc pc = .ok (.if_icmp .lt off, 3)) (ht : (pc : Int) + off = (t : Int)) (kt : x < y → ex_T p l e R s m args below meth c D ad ca n0 nL A kc ks Qw t lv r cs) (kf : ¬ x < y → ex_T p l e R s m args below meth c D ad ca n0 nL A kc ks Qw (pc + 3) lv r cs) : ex_T p l e R s m args below meth c D ad ca n0 nL A kc ks Qw pc lv (.int y :: .int x :: r) cs := by
  obtain ⟨hx, hb, hml, hown, hts, hr, hlk, hD, hK, hX, hZ, hAe, hR1, hR2, hxt, hNw⟩ := C
  intro ls H locs G
  exact lv_icmp_lt (x := x) (y := y) (rest := r.map (ex_v ad)) (tgt := t) hx hb hd ht (fun h => kt h ls H locs G) (fun h => kf h ls H locs G)
theorem ex_s_if_ge (C : ex_Cx xt p R s m args meth c D ad ca n0 nL fr lo A cc ret own) {pc : Nat} {lv : ex_L} {cs : ex_C} {x : Int32} {r : ex_V} {off : Int} {t : Nat} (hd : decode cc pc = .ok (.ifCond .ge off, 3)) (ht : (pc : Int) + off = (t : Int)) (kt : 0 ≤ x → ex_T p l e R s m args below meth c D ad ca n0 nL A kc ks Qw t lv r cs) (kf : ¬ 0 ≤ x → ex_T p l e R s m args below meth c D ad ca n0 nL A kc ks Qw (pc + 3) lv r cs) : ex_T p l e R s m args below meth c D ad ca n0 nL A kc ks Qw pc lv (.int x :: r) cs := by
  obtain ⟨hx, hb, hml, hown, hts, hr, hlk, hD, hK, hX, hZ, hAe, hR1, hR2, hxt, hNw⟩ := C
  intro ls H locs G
  exact lv_if_ge (x := x) (rest := r.map (ex_v ad)) (tgt := t) hx hb hd ht (fun h => kt h ls H locs G) (fun h => kf h ls H locs G)
theorem ex_s_icmp_ge (C : ex_Cx xt p R s m args meth c D ad ca n0 nL fr lo A cc ret own) {pc : Nat} {lv : ex_L} {cs : ex_C} {x y : Int32} {r : ex_V} {off : Int} {t : Nat} (hd : decode cc pc = .ok (.if_icmp .ge off, 3)) (ht : (pc : Int) + off = (t : Int)) (kt : y ≤ x → ex_T p l e R s m args below meth c D ad ca n0 nL A kc ks Qw t lv r cs) (kf : ¬ y ≤ x → ex_T p l e R s m args below meth c D ad ca n0 nL A kc ks Qw (pc + 3) lv r cs) : ex_T p l e R s m args below meth c D ad ca n0 nL A kc ks Qw pc lv (.int y :: .int x :: r) cs := by
  obtain ⟨hx, hb, hml, hown, hts, hr, hlk, hD, hK, hX, hZ, hAe, hR1, hR2, hxt, hNw⟩ := C
  intro ls H locs G
  exact lv_icmp_ge (x := x) (y := y) (rest := r.map (ex_v ad)) (tgt := t) hx hb hd ht (fun h => kt h ls H locs G) (fun h => kf h ls H locs G)
theorem ex_s_if_gt (C : ex_Cx xt p R s m args meth c D ad ca n0 nL fr lo A cc ret own) {pc : Nat} {lv : ex_L} {cs : ex_C} {x : Int32} {r : ex_V} {off : Int} {t : Nat} (hd : decode cc pc = .ok (.ifCond .gt off, 3)) (ht : (pc : Int) + off = (t : Int)) (kt : 0 < x → ex_T p l e R s m args below meth c D ad ca n0 nL A kc ks Qw t lv r cs) (kf : ¬ 0 < x → ex_T p l e R s m args below meth c D ad ca n0 nL A kc ks Qw (pc + 3) lv r cs) : ex_T p l e R s m args below meth c D ad ca n0 nL A kc ks Qw pc lv (.int x :: r) cs := by
  obtain ⟨hx, hb, hml, hown, hts, hr, hlk, hD, hK, hX, hZ, hAe, hR1, hR2, hxt, hNw⟩ := C
  intro ls H locs G
  exact lv_if_gt (x := x) (rest := r.map (ex_v ad)) (tgt := t) hx hb hd ht (fun h => kt h ls H locs G) (fun h => kf h ls H locs G)
theorem ex_s_icmp_gt (C : ex_Cx xt p R s m args meth c D ad ca n0 nL fr lo A cc ret own) {pc : Nat} {lv : ex_L} {cs : ex_C} {x y : Int32} {r : ex_V} {off : Int} {t : Nat} (hd : decode cc pc = .ok (.if_icmp .gt off, 3)) (ht : (pc : Int) + off = (t : Int)) (kt : y < x → ex_T p l e R s m args below meth c D ad ca n0 nL A kc ks Qw t lv r cs) (kf : ¬ y < x → ex_T p l e R s m args below meth c D ad ca n0 nL A kc ks Qw (pc + 3) lv r cs) : ex_T p l e R s m args below meth c D ad ca n0 nL A kc ks Qw pc lv (.int y :: .int x :: r) cs := by
  obtain ⟨hx, hb, hml, hown, hts, hr, hlk, hD, hK, hX, hZ, hAe, hR1, hR2, hxt, hNw⟩ := C
  intro ls H locs G
  exact lv_icmp_gt (x := x) (y := y) (rest := r.map (ex_v ad)) (tgt := t) hx hb hd ht (fun h => kt h ls H locs G) (fun h => kf h ls H locs G)
theorem ex_s_if_le (C : ex_Cx xt p R s m args meth c D ad ca n0 nL fr lo A cc ret own) {pc : Nat} {lv : ex_L} {cs : ex_C} {x : Int32} {r : ex_V} {off : Int} {t : Nat} (hd : decode cc pc = .ok (.ifCond .le off, 3)) (ht : (pc : Int) + off = (t : Int)) (kt : x ≤ 0 → ex_T p l e R s m args below meth c D ad ca n0 nL A kc ks Qw t lv r cs) (kf : ¬ x ≤ 0 → ex_T p l e R s m args below meth c D ad ca n0 nL A kc ks Qw (pc + 3) lv r cs) : ex_T p l e R s m args below meth c D ad ca n0 nL A kc ks Qw pc lv (.int x :: r) cs := by
  obtain ⟨hx, hb, hml, hown, hts, hr, hlk, hD, hK, hX, hZ, hAe, hR1, hR2, hxt, hNw⟩ := C
  intro ls H locs G
  exact lv_if_le (x := x) (rest := r.map (ex_v ad)) (tgt := t) hx hb hd ht (fun h => kt h ls H locs G) (fun h => kf h ls H locs G)
theorem ex_s_icmp_le (C : ex_Cx xt p R s m args meth c D ad ca n0 nL fr lo A cc ret own) {pc : Nat} {lv : ex_L} {cs : ex_C} {x y : Int32} {r : ex_V} {off : Int} {t : Nat} (hd : decode cc pc = .ok (.if_icmp .le off, 3)) (ht : (pc : Int) + off = (t : Int)) (kt : x ≤ y → ex_T p l e R s m args below meth c D ad ca n0 nL A kc ks Qw t lv r cs) (kf : ¬ x ≤ y → ex_T p l e R s m args below meth c D ad ca n0 nL A kc ks Qw (pc + 3) lv r cs) : ex_T p l e R s m args below meth c D ad ca n0 nL A kc ks Qw pc lv (.int y :: .int x :: r) cs := by
  obtain ⟨hx, hb, hml, hown, hts, hr, hlk, hD, hK, hX, hZ, hAe, hR1, hR2, hxt, hNw⟩ := C
  intro ls H locs G
  exact lv_icmp_le (x := x) (y := y) (rest := r.map (ex_v ad)) (tgt := t) hx hb hd ht (fun h => kt h ls H locs G) (fun h => kf h ls H locs G)
theorem ex_s_goto (C : ex_Cx xt p R s m args meth c D ad ca n0 nL fr lo A cc ret own) {pc : Nat} {lv : ex_L} {cs : ex_C} {r : ex_V} {off : Int} {t : Nat} (hd : decode cc pc = .ok (.goto off, 3)) (ht : (pc : Int) + off = (t : Int)) (k : ex_T p l e R s m args below meth c D ad ca n0 nL A kc ks Qw t lv r cs) : ex_T p l e R s m args below meth c D ad ca n0 nL A kc ks Qw pc lv r cs := by
  obtain ⟨hx, hb, hml, hown, hts, hr, hlk, hD, hK, hX, hZ, hAe, hR1, hR2, hxt, hNw⟩ := C
  intro ls H locs G
  exact lv_goto (tgt := t) hx hb hd ht (k ls H locs G)
theorem ex_s_ldc (C : ex_Cx xt p R s m args meth c D ad ca n0 nL fr lo A cc ret own) {pc : Nat} {lv : ex_L} {cs : ex_C} {ix : Nat} {v : Int32} {r : ex_V} (hd : decode cc pc = .ok (.ldc ix, 2)) (hc : Cond.constant own ix v ∈ ec_tb) (k : ex_T p l e R s m args below meth c D ad ca n0 nL A kc ks Qw (pc + 2) lv (.int v :: r) cs) : ex_T p l e R s m args below meth c D ad ca n0 nL A kc ks Qw pc lv r cs := by
  obtain ⟨hx, hb, hml, hown, hts, hr, hlk, hD, hK, hX, hZ, hAe, hR1, hR2, hxt, hNw⟩ := C
  intro ls H locs G
  exact lv_ldc hx hb hown (hts _ hc) hd (k ls H locs G)
theorem ex_s_ldc_w (C : ex_Cx xt p R s m args meth c D ad ca n0 nL fr lo A cc ret own) {pc : Nat} {lv : ex_L} {cs : ex_C} {ix : Nat} {v : Int32} {r : ex_V} (hd : decode cc pc = .ok (.ldc_w ix, 3)) (hc : Cond.constant own ix v ∈ ec_tb) (k : ex_T p l e R s m args below meth c D ad ca n0 nL A kc ks Qw (pc + 3) lv (.int v :: r) cs) : ex_T p l e R s m args below meth c D ad ca n0 nL A kc ks Qw pc lv r cs := by
  obtain ⟨hx, hb, hml, hown, hts, hr, hlk, hD, hK, hX, hZ, hAe, hR1, hR2, hxt, hNw⟩ := C
  intro ls H locs G
  exact lv_ldcw hx hb hown (hts _ hc) hd (k ls H locs G)
theorem ex_s_ldc2_w (C : ex_Cx xt p R s m args meth c D ad ca n0 nL fr lo A cc ret own) {pc : Nat} {lv : ex_L} {cs : ex_C} {ix : Nat} {v : Int64} {r : ex_V} (hd : decode cc pc = .ok (.ldc2_w ix, 3)) (hc : Cond.constantLong own ix v ∈ ec_tb) (k : ex_T p l e R s m args below meth c D ad ca n0 nL A kc ks Qw (pc + 3) lv (.long v :: r) cs) : ex_T p l e R s m args below meth c D ad ca n0 nL A kc ks Qw pc lv r cs := by
  obtain ⟨hx, hb, hml, hown, hts, hr, hlk, hD, hK, hX, hZ, hAe, hR1, hR2, hxt, hNw⟩ := C
  intro ls H locs G
  exact lv_ldc2 hx hb hown (hts _ hc) hd (k ls H locs G)
theorem ex_s_tableOut (C : ex_Cx xt p R s m args meth c D ad ca n0 nL fr lo A cc ret own) {pc : Nat} {lv : ex_L} {cs : ex_C} {dflt lo hi : Int} {offs : Array Int} {len : Nat} {x : Int32} {t : Nat} {r : ex_V} (hd : decode cc pc = .ok (.tableswitch dflt lo hi offs, len)) (h : x.toInt < lo ∨ hi < x.toInt) (ht : (pc : Int) + dflt = (t : Int)) (k : ex_T p l e R s m args below meth c D ad ca n0 nL A kc ks Qw t lv r cs) : ex_T p l e R s m args below meth c D ad ca n0 nL A kc ks Qw pc lv (.int x :: r) cs := by
  obtain ⟨hx, hb, hml, hown, hts, hr, hlk, hD, hK, hX, hZ, hAe, hR1, hR2, hxt, hNw⟩ := C
  intro ls H locs G
  exact lv_tableOut (x := x) (tgt := t) (rest := r.map (ex_v ad)) hx hb hd h ht (k ls H locs G)
theorem ex_s_tableIn (C : ex_Cx xt p R s m args meth c D ad ca n0 nL fr lo A cc ret own) {pc : Nat} {lv : ex_L} {cs : ex_C} {dflt lo hi : Int} {offs : Array Int} {len : Nat} {x : Int32} {off : Int} {t : Nat} {r : ex_V} (hd : decode cc pc = .ok (.tableswitch dflt lo hi offs, len)) (h1 : ¬ x.toInt < lo) (h2 : ¬ hi < x.toInt) (ho : offs[(x.toInt - lo).toNat]? = some off) (ht : (pc : Int) + off = (t : Int)) (k : ex_T p l e R s m args below meth c D ad ca n0 nL A kc ks Qw t lv r cs) : ex_T p l e R s m args below meth c D ad ca n0 nL A kc ks Qw pc lv (.int x :: r) cs := by
  obtain ⟨hx, hb, hml, hown, hts, hr, hlk, hD, hK, hX, hZ, hAe, hR1, hR2, hxt, hNw⟩ := C
  intro ls H locs G
  exact lv_tableIn (x := x) (tgt := t) (rest := r.map (ex_v ad)) hx hb hd h1 h2 ho ht (k ls H locs G)
theorem ex_s_lookup (C : ex_Cx xt p R s m args meth c D ad ca n0 nL fr lo A cc ret own) {pc : Nat} {lv : ex_L} {cs : ex_C} {dflt : Int} {ps : Array (Int × Int)} {len : Nat} {x : Int32} {off : Int} {t : Nat} {r : ex_V} (hd : decode cc pc = .ok (.lookupswitch dflt ps, len)) (hp : (ps.toList.zip (ps.toList.drop 1)).all (fun (a, next) => a.1 < next.1) = true) (ho : Op.lookupswitch.offset ps.toList dflt x.toInt = off) (ht : (pc : Int) + off = (t : Int)) (k : ex_T p l e R s m args below meth c D ad ca n0 nL A kc ks Qw t lv r cs) : ex_T p l e R s m args below meth c D ad ca n0 nL A kc ks Qw pc lv (.int x :: r) cs := by
  obtain ⟨hx, hb, hml, hown, hts, hr, hlk, hD, hK, hX, hZ, hAe, hR1, hR2, hxt, hNw⟩ := C
  intro ls H locs G
  exact lv_lookup (x := x) (tgt := t) (rest := r.map (ex_v ad)) hx hb hd hp ho ht (k ls H locs G)
theorem ex_tb_at {x : Int32} {k : Int → Prop} : ∀ {offs : List Int} {lo : Int} {j : Nat} {o : Int}, ex_tb x k lo offs → offs[j]? = some o → x = Int32.ofInt (lo + j) → k o
  | [], _, _, _, _, h, _ => by simp at h
  | o1 :: r, lo, 0, o, h, h2, h3 => by
    simp at h2
    subst h2
    exact h.1 (by rw [h3]; simp)
  | o1 :: r, lo, j + 1, o, h, h2, h3 => by
    refine ex_tb_at (j := j) h.2 (by simpa using h2) ?_
    rw [h3]
    congr 1
    omega
theorem ex_lk_at {x : Int32} {k : Int → Prop} {d : Int} : ∀ {ps : List (Int × Int)}, (ex_ln x ps → k d) → ex_lk x k ps → (∀ q ∈ ps, -2147483648 ≤ q.1 ∧ q.1 < 2147483648) → k (Op.lookupswitch.offset ps d x.toInt)
  | [], h, _, _ => by
    have h0 := h trivial
    simpa [Op.lookupswitch.offset] using h0
  | q :: r, h, h2, hq => by
    obtain ⟨a, o⟩ := q
    have ha := hq (a, o) List.mem_cons_self
    rw [Op.lookupswitch.offset_cons]
    by_cases hx : x = Int32.ofInt a
    · have e : x.toInt = a := by rw [hx]; exact Int32.toInt_ofInt_of_le (by simpa using ha.1) (by simpa using ha.2)
      rw [if_pos e.symm]
      exact h2.1 hx
    · rw [if_neg (fun e => hx (by rw [e]; exact (Int32.ofInt_toInt x).symm))]
      exact ex_lk_at (fun hn => h ⟨hx, hn⟩) h2.2 (fun q h' => hq q (List.mem_cons_of_mem _ h'))
end EXS
end
section
section EXW
variable {p : Program} {l : Launch} {e : Env} {R : Room} {s : State} {m : MethodId} {args : Array Value} {below : List Frame} {meth : Method} {c : Code}
variable {D : va_G} {ad ca : Nat → Nat} {n0 nL fr lo : Nat} {A : Nat → Prop} {cc : ByteArray} {ret : Option FieldType} {own : String} {Q : ex_Q} {Qw : State → Prop} {kc ks : Nat} {xt : ex_xt}
theorem ex_s_getfield (C : ex_Cx xt p R s m args meth c D ad ca n0 nL fr lo A cc ret own) {pc : Nat} {lv : ex_L} {cs : ex_C} {ix ci k a : Nat} {fs : List Value} {v : Value} {r : ex_V} (hd : decode cc pc = .ok (.getfield ix, 3)) (ho : cs[a]? = some (.inr (ci, fs))) (hv : fs[k]? = some v)
    (hl : ∃ Cn T N, ec_cl[ci]? = some (Cn, T, N) ∧ k < N ∧ Cond.fieldLink own ix (T k).1 (T k).2.1 (T k).2.2.1 ∈ ec_tb)
    (kk : ex_T p l e R s m args below meth c D ad ca n0 nL A kc ks Qw (pc + 3) lv (v :: r) cs) : ex_T p l e R s m args below meth c D ad ca n0 nL A kc ks Qw pc lv (.ref a :: r) cs := by
  obtain ⟨hx, hb, hml, hown, hts, hr, hlk, hD, hK, hX, hZ, hAe, hR1, hR2, hxt, hNw⟩ := C
  obtain ⟨Cn, T, N, h1, h2, h3⟩ := hl
  intro ls H locs G
  exact va_get (D := D) (ci := ci) (v := ex_v ad v) (C := Cn) (T := T) (N := N) (rest := r.map (ex_v ad)) hx hb hts (ec_clok h1).1 hown hK G.2.2.1 a (ex_w_get ho) h1 k h2 (hts _ h3) (fun _ h9 => h9) (by rw [List.getElem?_map, hv]; rfl) hd (kk ls H locs G)
theorem ex_s_putfield (C : ex_Cx xt p R s m args meth c D ad ca n0 nL fr lo A cc ret own) {pc : Nat} {lv : ex_L} {cs : ex_C} {ix ci k a : Nat} {fs : List Value} {v : Value} {r : ex_V} {ty : FieldType} (hd : decode cc pc = .ok (.putfield ix, 3)) (ho : cs[a]? = some (.inr (ci, fs))) (hkl : k < fs.length) (hf : ex_fit ty v)
    (hl : ∃ Cn T N, ec_cl[ci]? = some (Cn, T, N) ∧ k < N ∧ Cond.fieldLink own ix (T k).1 (T k).2.1 (T k).2.2.1 ∈ ec_tb ∧ parseFieldDescriptor (T k).2.2.1 = some ty ∧ (T k).2.2.2 = false)
    (kk : ex_T p l e R s m args below meth c D ad ca n0 nL A kc ks Qw (pc + 3) lv r (cs.set a (.inr (ci, fs.set k v)))) : ex_T p l e R s m args below meth c D ad ca n0 nL A kc ks Qw pc lv (v :: .ref a :: r) cs := by
  obtain ⟨hx, hb, hml, hown, hts, hr, hlk, hD, hK, hX, hZ, hAe, hR1, hR2, hxt, hNw⟩ := C
  obtain ⟨Cn, T, N, h1, h2, h3, h4, h5⟩ := hl
  obtain ⟨hin, ty0, hty, hnm⟩ := ec_clok h1
  intro ls H locs G
  refine va_put (D := D) (ci := ci) (v := ex_v ad v) (ty := ty) (C := Cn) (T := T) (N := N) (rest := r.map (ex_v ad)) hx hb hts hin ty0 hty hnm hown hK G.2.2.1 (hD.va G.1) G.2.2.2 a (ex_w_get ho) h1 k h2 (hts _ h3) (fun _ h9 => h9) h5 h4 hf.ok.1 hf.ok.2 (by rw [List.length_map]; exact hkl) hd (fun H1 locs1 hP1 hD1 hS1 => ?_)
  refine kk ls H1 locs1 ⟨by rw [List.length_set]; exact G.1, G.2.1, ?_, hS1⟩
  rw [← ex_w_set]
  show va_P D ec_cl ((ex_w ad ca cs).set a (ad a, .inr (ci, (fs.set k v).map (ex_v ad)))) H1
  rw [List.map_set]
  exact hP1
theorem ex_s_getstatic (C : ex_Cx xt p R s m args meth c D ad ca n0 nL fr lo A cc ret own) {pc : Nat} {lv : ex_L} {cs : ex_C} {ix j : Nat} {r : ex_V} (hd : decode cc pc = .ok (.getstatic ix, 3)) (hl : ∃ Cn n dd, (Cn, n, dd, j) ∈ ec_zs ∧ Cond.fieldLink own ix Cn n dd ∈ ec_tb)
    (kk : ex_T p l e R s m args below meth c D ad ca n0 nL A kc ks Qw (pc + 3) lv (.ref (1000 + j) :: r) cs) : ex_T p l e R s m args below meth c D ad ca n0 nL A kc ks Qw pc lv r cs := by
  obtain ⟨hx, hb, hml, hown, hts, hr, hlk, hD, hK, hX, hZ, hAe, hR1, hR2, hxt, hNw⟩ := C
  obtain ⟨Cn, n, dd, h1, h2⟩ := hl
  intro ls H locs G
  exact va_gets (v := .ref (ad (1000 + j))) (rest := r.map (ex_v ad)) hx hb (hZ Cn n dd j h1) G.2.2.2 hown (hts _ h2) (fun _ h9 => h9) hd (kk ls H locs G)
theorem ex_s_iaload (C : ex_Cx xt p R s m args meth c D ad ca n0 nL fr lo A cc ret own) {pc : Nat} {lv : ex_L} {cs : ex_C} {a n : Nat} {f : Nat → Int32} {i : Int32} {r : ex_V} (hd : decode cc pc = .ok (.iaload, 1)) (ho : cs[a]? = some (.inl (0, n, .inl f))) (hi : vp_in i n)
    (kk : ex_T p l e R s m args below meth c D ad ca n0 nL A kc ks Qw (pc + 1) lv (.int (f i.toNatClampNeg) :: r) cs) : ex_T p l e R s m args below meth c D ad ca n0 nL A kc ks Qw pc lv (.int i :: .ref a :: r) cs := by
  obtain ⟨hx, hb, hml, hown, hts, hr, hlk, hD, hK, hX, hZ, hAe, hR1, hR2, hxt, hNw⟩ := C
  intro ls H locs G
  exact va_iald (rest := r.map (ex_v ad)) hx hb hK G.2.2.1 a 0 (ex_w_get ho) rfl hi hd (kk ls H locs G)
theorem ex_s_ialoadX (C : ex_Cx xt p R s m args meth c D ad ca n0 nL fr lo A cc ret own) {pc : Nat} {lv : ex_L} {cs : ex_C} {a n : Nat} {f : Nat → Int32} {i : Int32} {r : ex_V} (hd : decode cc pc = .ok (.iaload, 1)) (ha : 1000 ≤ a) (ho : xt[a - 1000]? = some (n, f)) (hi : vp_in i n)
    (kk : ex_T p l e R s m args below meth c D ad ca n0 nL A kc ks Qw (pc + 1) lv (.int (f i.toNatClampNeg) :: r) cs) : ex_T p l e R s m args below meth c D ad ca n0 nL A kc ks Qw pc lv (.int i :: .ref a :: r) cs := by
  obtain ⟨hx, hb, hml, hown, hts, hr, hlk, hD, hK, hX, hZ, hAe, hR1, hR2, hxt, hNw⟩ := C
  intro ls H locs G
  have hT := hX (a - 1000) n f ho
  rw [show 1000 + (a - 1000) = a by omega] at hT
  exact va_ti (v := .int (f i.toNatClampNeg)) (rest := r.map (ex_v ad)) hx hb hT G.2.2.2 hi rfl hd (kk ls H locs G)
theorem ex_s_baload (C : ex_Cx xt p R s m args meth c D ad ca n0 nL fr lo A cc ret own) {pc : Nat} {lv : ex_L} {cs : ex_C} {a n : Nat} {f : Nat → Int32} {i : Int32} {r : ex_V} (hd : decode cc pc = .ok (.baload, 1)) (ho : cs[a]? = some (.inl (1, n, .inl f))) (hi : vp_in i n)
    (kk : ex_T p l e R s m args below meth c D ad ca n0 nL A kc ks Qw (pc + 1) lv (.int (f i.toNatClampNeg) :: r) cs) : ex_T p l e R s m args below meth c D ad ca n0 nL A kc ks Qw pc lv (.int i :: .ref a :: r) cs := by
  obtain ⟨hx, hb, hml, hown, hts, hr, hlk, hD, hK, hX, hZ, hAe, hR1, hR2, hxt, hNw⟩ := C
  intro ls H locs G
  exact va_zald (rest := r.map (ex_v ad)) hx hb hK G.2.2.1 a 1 (ex_w_get ho) rfl hi hd (kk ls H locs G)
theorem ex_s_iastore (C : ex_Cx xt p R s m args meth c D ad ca n0 nL fr lo A cc ret own) {pc : Nat} {lv : ex_L} {cs : ex_C} {a n : Nat} {f : Nat → Int32} {i x : Int32} {r : ex_V} (hd : decode cc pc = .ok (.iastore, 1)) (ho : cs[a]? = some (.inl (0, n, .inl f))) (hi : vp_in i n)
    (kk : ex_T p l e R s m args below meth c D ad ca n0 nL A kc ks Qw (pc + 1) lv r (cs.set a (.inl (0, n, .inl (upd f i.toNatClampNeg x))))) : ex_T p l e R s m args below meth c D ad ca n0 nL A kc ks Qw pc lv (.int x :: .int i :: .ref a :: r) cs := by
  obtain ⟨hx, hb, hml, hown, hts, hr, hlk, hD, hK, hX, hZ, hAe, hR1, hR2, hxt, hNw⟩ := C
  intro ls H locs G
  refine va_iast (rest := r.map (ex_v ad)) hx hb hK G.2.2.1 (hD.va G.1) G.2.2.2 a 0 (ex_w_get ho) rfl hi hd (fun H1 locs1 hP1 hD1 hS1 => ?_)
  refine kk ls H1 locs1 ⟨by rw [List.length_set]; exact G.1, G.2.1, ?_, hS1⟩
  rw [← ex_w_set]
  exact hP1
theorem ex_nar {x : Int32} (h : x = 0 ∨ x = 1) : vp_nar .boolean x = x := by
  rcases h with rfl | rfl <;> decide
theorem ex_s_bastore (C : ex_Cx xt p R s m args meth c D ad ca n0 nL fr lo A cc ret own) {pc : Nat} {lv : ex_L} {cs : ex_C} {a n : Nat} {f : Nat → Int32} {i x : Int32} {r : ex_V} (hd : decode cc pc = .ok (.bastore, 1)) (ho : cs[a]? = some (.inl (1, n, .inl f))) (hi : vp_in i n) (h01 : x = 0 ∨ x = 1)
    (kk : ex_T p l e R s m args below meth c D ad ca n0 nL A kc ks Qw (pc + 1) lv r (cs.set a (.inl (1, n, .inl (upd f i.toNatClampNeg x))))) : ex_T p l e R s m args below meth c D ad ca n0 nL A kc ks Qw pc lv (.int x :: .int i :: .ref a :: r) cs := by
  obtain ⟨hx, hb, hml, hown, hts, hr, hlk, hD, hK, hX, hZ, hAe, hR1, hR2, hxt, hNw⟩ := C
  intro ls H locs G
  refine va_zast (rest := r.map (ex_v ad)) hx hb hK G.2.2.1 (hD.va G.1) G.2.2.2 a 1 (ex_w_get ho) rfl hi hd (fun H1 locs1 hP1 hD1 hS1 => ?_)
  refine kk ls H1 locs1 ⟨by rw [List.length_set]; exact G.1, G.2.1, ?_, hS1⟩
  rw [← ex_w_set]
  rw [ex_nar h01] at hP1
  exact hP1
theorem ex_s_arraylength (C : ex_Cx xt p R s m args meth c D ad ca n0 nL fr lo A cc ret own) {pc : Nat} {lv : ex_L} {cs : ex_C} {a t n : Nat} {f : Nat → Int32} {r : ex_V} (hd : decode cc pc = .ok (.arraylength, 1)) (ho : cs[a]? = some (.inl (t, n, .inl f))) (ht : t = 0 ∨ t = 1)
    (kk : ex_T p l e R s m args below meth c D ad ca n0 nL A kc ks Qw (pc + 1) lv (.int (Int32.ofNat n) :: r) cs) : ex_T p l e R s m args below meth c D ad ca n0 nL A kc ks Qw pc lv (.ref a :: r) cs := by
  obtain ⟨hx, hb, hml, hown, hts, hr, hlk, hD, hK, hX, hZ, hAe, hR1, hR2, hxt, hNw⟩ := C
  intro ls H locs G
  rcases ht with rfl | rfl
  · exact va_alen (rest := r.map (ex_v ad)) (x := (n, .inl f)) hx hb hK G.2.2.1 a 0 (ex_w_get ho) rfl rfl hd (kk ls H locs G)
  · exact va_alen (rest := r.map (ex_v ad)) (x := (n, .inl f)) hx hb hK G.2.2.1 a 1 (ex_w_get ho) rfl rfl hd (kk ls H locs G)
theorem ex_s_ireturn (C : ex_Cx xt p R s m args meth c D ad ca n0 nL fr lo A cc ret own) {pc : Nat} {lv : ex_L} {cs : ex_C} {v : Int32} (hd : decode cc pc = .ok (.ireturn, 1)) (hv : ex_ret ret v) (hq : Q (some (.int v)) cs) : ex_T p l e R s m args below meth c D ad ca n0 nL A 0 0 (MQ below (ex_Qc D ad ca Q n0 A) args s 0 0 A) pc lv [.int v] cs := by
  obtain ⟨hx, hb, hml, hown, hts, hr, hlk, hD, hK, hX, hZ, hAe, hR1, hR2, hxt, hNw⟩ := C
  intro ls H locs G
  unfold ex_ret at hv
  split at hv
  · exact W.zret (ty := .int) hx hb hr rfl (fun t ht hW => ⟨⟨some (.int v), cs, rfl, hq, G.1, by rw [ht]; exact G.2.2.1⟩, G.2.2.2.F ht⟩) G.2.2.2.2.2 hd hlk
  · exact W.zret (ty := .boolean) hx hb hr (by rcases hv with rfl | rfl <;> rfl) (fun t ht hW => ⟨⟨some (.int v), cs, rfl, hq, G.1, by rw [ht]; exact G.2.2.1⟩, G.2.2.2.F ht⟩) G.2.2.2.2.2 hd hlk
  · exact hv.elim
theorem ex_s_return (C : ex_Cx xt p R s m args meth c D ad ca n0 nL fr lo A cc ret own) {pc : Nat} {lv : ex_L} {cs : ex_C} (hd : decode cc pc = .ok (.return_, 1)) (hv : ret = none) (hq : Q none cs) : ex_T p l e R s m args below meth c D ad ca n0 nL A 0 0 (MQ below (ex_Qc D ad ca Q n0 A) args s 0 0 A) pc lv [] cs := by
  obtain ⟨hx, hb, hml, hown, hts, hr, hlk, hD, hK, hX, hZ, hAe, hR1, hR2, hxt, hNw⟩ := C
  intro ls H locs G
  exact W.vret hx hb (hr.trans hv) (fun t ht hW => ⟨⟨none, cs, rfl, hq, G.1, by rw [ht]; exact G.2.2.1⟩, G.2.2.2.F ht⟩) G.2.2.2.2.2 hd hlk
/-- behind a call -/
theorem ex_s_run {pc : Nat} {lv : ex_L} {r : ex_V} {Qk : ex_Q} {ls : Array Slot} {H : Heap} {locs : List Loc} {st0 : List Value} {a : Array Value} (hr : va_Run p l e R s m args below meth c H locs kc ks 0 0 (F0 m pc ls st0) (r.map (ex_v ad)) (ex_Qc D ad ca Qk n0 (ex_A ad n0 H.size) a) (ex_A ad n0 H.size))
    (hA : ∀ q, ex_A ad n0 s.heap.size q → A q) (hl : ex_ls ad lv nL ls) (hS : va_S A s.heap H locs) (kk : ∀ (rv : Option Value) (cs' : ex_C), Qk rv cs' → ex_T p l e R s m args below meth c D ad ca n0 nL A kc ks Qw (pc + 3) lv (rv.toList ++ r) cs') :
    W p l e R s m args below meth c H locs kc ks Qw (F0 m pc ls st0) := by
  intro T hT X
  obtain ⟨v, st₀, t, T', L, h0, X', hL, e1, e2, ⟨⟨rv, cs', hv, hq, hn, hp⟩, hz, hk⟩, st⟩ := hr T hT X
  cases hv
  rw [h0] at hz hk
  have hsub : ∀ q, ex_A ad n0 H.size q → A q := by
    intro q h
    rcases h with h | h
    · exact hA q (Or.inl h)
    · exact hA q (Or.inr (Nat.le_trans hS.1 h))
  have hstk : (rv.toList ++ r).map (ex_v ad) = (rv.map (ex_v ad)).toList ++ r.map (ex_v ad) := by cases rv <;> simp
  have k2 := kk rv cs' hq ls T'.heap (locs ++ L) ⟨hn, hl, by rw [e1]; exact hp, Nat.le_trans hS.1 (by rw [e1]; exact hz), fun q h1 h2 => by rw [e1, hk q (Nat.lt_of_lt_of_le h1 hS.1) (fun z => h2 (hsub q z))]; exact hS.2.1 q h1 h2, fun q hq => by
      rcases List.mem_append.mp hq with h | h
      · exact hS.2.2 q h
      · exact hsub _ (hL q h)⟩
  rw [hstk] at k2
  obtain ⟨t2, a1, b1⟩ := k2 T' rfl X'
  exact ⟨t2, st t2 a1, b1⟩
theorem ex_s_copy (C : ex_Cx xt p R s m args meth c D ad ca n0 nL fr lo A cc ret own) {pc : Nat} {lv : ex_L} {cs : ex_C} {ix a a0 m0 m1 : Nat} {f g : Nat → Int32} {sp dp n : Int32} {r : ex_V} (hd : decode cc pc = .ok (.invokestatic ix, 3)) (hl : Cond.methodLink own ix arraycopyName ∈ ec_tb ∧ Cond.native arraycopyName ∈ ec_tb ∧ Cond.static arraycopyName ∈ ec_tb ∧ Cond.initialized "java/lang/System" ∈ ec_tb ∧ 1 ≤ fr ∧ 8 + (nativeFrameWords "java/lang/System" "arraycopy" 5 + 11) ≤ lo)
    (ho0 : cs[a0]? = some (.inl (0, m0, .inl f))) (ho : cs[a]? = some (.inl (0, m1, .inl g))) (h1 : ¬ sp < 0) (h2 : ¬ dp < 0) (h3 : ¬ n < 0) (h4 : sp.toNatClampNeg + n.toNatClampNeg ≤ m0) (h5 : dp.toNatClampNeg + n.toNatClampNeg ≤ m1) (h6 : (r.map (fun v => v.category)).sum ≤ 8)
    (kk : ex_T p l e R s m args below meth c D ad ca n0 nL A kc ks Qw (pc + 3) lv r (cs.set a (.inl (0, m1, .inl (va_cpy f g sp.toNatClampNeg dp.toNatClampNeg n.toNatClampNeg))))) : ex_T p l e R s m args below meth c D ad ca n0 nL A kc ks Qw pc lv (.int n :: .int dp :: .ref a :: .int sp :: .ref a0 :: r) cs := by
  obtain ⟨hx, hb, hml, hown, hts, hr, hlk, hD, hK, hX, hZ, hAe, hR1, hR2, hxt, hNw⟩ := C
  intro ls H locs G
  have hcat : ((r.map (ex_v ad)).map fun v => v.category).sum ≤ 8 := by
    rw [List.map_map]
    have : ((fun v : Value => v.category) ∘ ex_v ad) = (fun v => v.category) := by funext v; exact ex_v_cat ad v
    rw [this]
    exact h6
  refine va_copyi (ty := .int) (rest := r.map (ex_v ad)) hx hb (hml.trans G.2.1.1.symm) hown (hts _ hl.1) (hts _ hl.2.1) (hts _ hl.2.2.1) (hts _ hl.2.2.2.1) hK G.2.2.1 (hD.va G.1) G.2.2.2 a0 a 0 0 (ex_w_get ho0) (ex_w_get ho) rfl rfl rfl h1 h2 h3 h4 h5 (fun _ _ => rfl) (Nat.le_trans hl.2.2.2.2.1 hR1) (Nat.le_trans (Nat.add_le_add_right hcat _) (Nat.le_trans hl.2.2.2.2.2 hR2)) hd (fun H1 locs1 hP1 hD1 hS1 => ?_)
  refine kk ls H1 locs1 ⟨by rw [List.length_set]; exact G.1, G.2.1, ?_, hS1⟩
  rw [← ex_w_set]
  exact hP1
theorem ex_cat8 {ad : Nat → Nat} {r : ex_V} (h6 : (r.map (fun v => v.category)).sum ≤ 8) : ((r.map (ex_v ad)).map fun v => v.category).sum ≤ 8 := by
  rw [List.map_map]
  have : ((fun v : Value => v.category) ∘ ex_v ad) = (fun v => v.category) := by funext v; exact ex_v_cat ad v
  rw [this]
  exact h6
theorem ex_s_min (C : ex_Cx xt p R s m args meth c D ad ca n0 nL fr lo A cc ret own) {pc : Nat} {lv : ex_L} {cs : ex_C} {ix : Nat} {x y : Int32} {r : ex_V} (hd : decode cc pc = .ok (.invokestatic ix, 3)) (hrc : kc ≤ R.cells ∧ ks ≤ R.slots) (hl : Cond.methodLink own ix Lib.Math.min.name ∈ ec_tb ∧ Cond.static Lib.Math.min.name ∈ ec_tb ∧ Cond.initialized "java/lang/Math" ∈ ec_tb ∧ Cond.code Lib.Math.min.name Lib.Math.min.code 2 (some .int) ∈ ec_tb ∧ 1 ≤ fr ∧ 21 ≤ lo) (h6 : (r.map (fun v => v.category)).sum ≤ 8)
    (kk : ex_T p l e R s m args below meth c D ad ca n0 nL A kc ks Qw (pc + 3) lv (.int (if y < x then y else x) :: r) cs) : ex_T p l e R s m args below meth c D ad ca n0 nL A kc ks Qw pc lv (.int y :: .int x :: r) cs := by
  obtain ⟨hx, hb, hml, hown, hts, hr, hlk, hD, hK, hX, hZ, hAe, hR1, hR2, hxt, hNw⟩ := C
  intro ls H locs G
  exact va_mmin (x := x) (y := y) (rest := r.map (ex_v ad)) hx hb (hml.trans G.2.1.1.symm) hown (hts _ hl.1) (hts _ hl.2.1) (hts _ hl.2.2.1) (hts _ hl.2.2.2.1) (Nat.le_trans hl.2.2.2.2.1 hR1) (Nat.le_trans (Nat.add_le_add_right (ex_cat8 h6) 13) (Nat.le_trans hl.2.2.2.2.2 hR2)) hrc.1 hrc.2 hd (kk ls H locs G)
theorem ex_s_max (C : ex_Cx xt p R s m args meth c D ad ca n0 nL fr lo A cc ret own) {pc : Nat} {lv : ex_L} {cs : ex_C} {ix : Nat} {x y : Int32} {r : ex_V} (hd : decode cc pc = .ok (.invokestatic ix, 3)) (hrc : kc ≤ R.cells ∧ ks ≤ R.slots) (hl : Cond.methodLink own ix Lib.Math.max.name ∈ ec_tb ∧ Cond.static Lib.Math.max.name ∈ ec_tb ∧ Cond.initialized "java/lang/Math" ∈ ec_tb ∧ Cond.code Lib.Math.max.name Lib.Math.max.code 2 (some .int) ∈ ec_tb ∧ 1 ≤ fr ∧ 21 ≤ lo) (h6 : (r.map (fun v => v.category)).sum ≤ 8)
    (kk : ex_T p l e R s m args below meth c D ad ca n0 nL A kc ks Qw (pc + 3) lv (.int (if x < y then y else x) :: r) cs) : ex_T p l e R s m args below meth c D ad ca n0 nL A kc ks Qw pc lv (.int y :: .int x :: r) cs := by
  obtain ⟨hx, hb, hml, hown, hts, hr, hlk, hD, hK, hX, hZ, hAe, hR1, hR2, hxt, hNw⟩ := C
  intro ls H locs G
  exact va_mmax (x := x) (y := y) (rest := r.map (ex_v ad)) hx hb (hml.trans G.2.1.1.symm) hown (hts _ hl.1) (hts _ hl.2.1) (hts _ hl.2.2.1) (hts _ hl.2.2.2.1) (Nat.le_trans hl.2.2.2.2.1 hR1) (Nat.le_trans (Nat.add_le_add_right (ex_cat8 h6) 13) (Nat.le_trans hl.2.2.2.2.2 hR2)) hrc.1 hrc.2 hd (kk ls H locs G)
theorem ex_start (C : ex_Cx xt p R s m args meth c D ad ca n0 nL fr lo A cc ret own) {cs : ex_C} {H : Heap} {locs : List Loc} {av : ex_V} (hn : cs.length = n0) (hP : va_P D ec_cl (ex_w ad ca cs) H) (hS : va_S A s.heap H locs) : ∀ U : State, U.heap = H → s.WarmedH U.vm → ex_Pc D ad ca av cs n0 H.size (av.map (ex_v ad)).toArray U := by
  obtain ⟨hx, hb, hml, hown, hts, hr, hlk, hD, hK, hX, hZ, hAe, hR1, hR2, hxt, hNw⟩ := C
  intro U hU hW
  have hsub : ∀ q, ex_A ad n0 H.size q → A q := by
    intro q h
    rcases h with h | h
    · exact hAe q (Or.inl h)
    · exact hAe q (Or.inr (Nat.le_trans hS.1 h))
  refine ⟨rfl, by rw [hU], hn, by rw [hU]; exact hP, hD.self, va_K.moved hW.alike hK, fun j n f hj => ?_, fun Cn n dd j hj => ?_, fun q hq => va_Nw.warmM hW (hNw q hq)⟩
  · rw [hU]
    exact (((hX j n f (hxt j (n, f) hj)).moved hW.alike).kept hS.2.1).narrow hsub
  · rw [hU]
    exact (((hZ Cn n dd j hj).moved hW.alike).kept hS.2.1).narrow hsub
theorem ex_good {y : MethodName} {bytes : ByteArray} {maxL : Nat} {ret : Option FieldType} (h : Cond.code y bytes maxL ret ∈ ec_tb) : GoodIn ec_tb (.code y bytes maxL ret :: ec_tb) := by
  intro w hw
  rcases List.mem_cons.mp hw with rfl | hw
  · exact ⟨h, ec_good _ h⟩
  · exact ⟨hw, ec_good _ hw⟩
theorem ex_s_virtual (C : ex_Cx xt p R s m args meth c D ad ca n0 nL fr lo A cc ret own) {pc : Nat} {lv : ex_L} {cs : ex_C} {ix n ci a : Nat} {sp : ex_S} {fs : List Value} {as r : ex_V} {Qk : ex_Q} (hd : decode cc pc = .ok (.invokevirtual ix, 3)) (hrc : kc ≤ R.cells ∧ ks ≤ R.slots) (hcok : ex_cok l own fr lo ix n (some ci) sp) (ho : cs[a]? = some (.inr (ci, fs))) (hn : as.length + 1 = n) (hsum : (r.map (fun v => v.category)).sum ≤ 8)
    (hsp : sp (.ref a :: as) cs Qk) (kk : ∀ (rv : Option Value) (cs' : ex_C), Qk rv cs' → ex_T p l e R s m args below meth c D ad ca n0 nL A kc ks Qw (pc + 3) lv (rv.toList ++ r) cs') : ex_T p l e R s m args below meth c D ad ca n0 nL A kc ks Qw pc lv (as.reverse ++ .ref a :: r) cs := by
  intro ls H locs G
  have hst := ex_start (av := .ref a :: as) C G.1 G.2.2.1 G.2.2.2
  obtain ⟨hx, hb, hml, hown, hts, hr, hlk, hD, hK, hX, hZ, hAe, hR1, hR2, hxt, hNw⟩ := C
  obtain ⟨y, bytes, maxL, ret', fr', lo', hd', hmx, hM, hcode, hini, hy, hlink, ⟨T, N, hcl⟩, hinst, hsel, -, hpar⟩ := hcok
  have hM := hM D ad ca n0 H.size (.ref a :: as) cs Qk hsp
  have hroom : (ex_rm fr' lo').frames + 1 ≤ R.frames ∧ 8 + (maxL + 11) + (ex_rm fr' lo').locals ≤ R.locals := by
    exact ⟨Nat.le_trans hd' hR1, Nat.le_trans hmx hR2⟩
  have hp : PreV s H y.cls (ad a) (ex_Pc D ad ca (.ref a :: as) cs n0 H.size) (as.map (ex_v ad)) := ⟨ex_blind, va_recv hK G.2.2.1 hcl (ex_w_get ho), hst⟩
  have hstack : (as.reverse ++ Value.ref a :: r).map (ex_v ad) = (as.map (ex_v ad)).reverse ++ Value.ref (ad a) :: r.map (ex_v ad) := by simp [ex_v]
  have hlen : (as.map (ex_v ad)).length = n - 1 := by rw [List.length_map]; omega
  have hcat : ((r.map (ex_v ad)).map fun v => v.category).sum ≤ 8 := by
    rw [List.map_map]
    have : ((fun v : Value => v.category) ∘ ex_v ad) = (fun v => v.category) := by funext v; exact ex_v_cat ad v
    rw [this]
    exact hsum
  rw [hstack]
  rcases hlink with hlink | ⟨host, hlink⟩
  · refine ex_s_run (va_runV (C := y.cls) (n := n - 1) (ret := ret') ⟨hx, hb, hml, hown, hts⟩ hM ⟨callB_of (n - 1) hts (ex_good hcode) rfl rfl rfl (hts _ hini) (hts _ hlink) ⟨hy.1, hy.2, hpar⟩ hroom, hts _ hinst, hts _ hsel⟩ hp rfl hlen G.2.1.1 rfl (lv_room hcat) hd hrc) hAe G.2.1 G.2.2.2 kk
  · refine ex_s_run (va_runVN (C := y.cls) (n := n - 1) (ret := ret') ⟨hx, hb, hml, hown, hts⟩ hM ⟨va_cnB (n - 1) hts (ex_good hcode) rfl rfl rfl (hNw _ hlink) (hts _ hini) ⟨hy.1, hy.2, hpar⟩ hroom, hts _ hinst, hts _ hsel⟩ hp rfl hlen G.2.1.1 rfl (lv_room hcat) hd hrc) hAe G.2.1 G.2.2.2 kk
theorem ex_s_static (C : ex_Cx xt p R s m args meth c D ad ca n0 nL fr lo A cc ret own) {pc : Nat} {lv : ex_L} {cs : ex_C} {ix n : Nat} {sp : ex_S} {as r : ex_V} {Qk : ex_Q} (hd : decode cc pc = .ok (.invokestatic ix, 3)) (hrc : kc ≤ R.cells ∧ ks ≤ R.slots) (hcok : ex_cok l own fr lo ix n none sp) (hn : as.length = n) (hsum : (r.map (fun v => v.category)).sum ≤ 8)
    (hsp : sp as cs Qk) (kk : ∀ (rv : Option Value) (cs' : ex_C), Qk rv cs' → ex_T p l e R s m args below meth c D ad ca n0 nL A kc ks Qw (pc + 3) lv (rv.toList ++ r) cs') : ex_T p l e R s m args below meth c D ad ca n0 nL A kc ks Qw pc lv (as.reverse ++ r) cs := by
  intro ls H locs G
  have hst := ex_start (av := as) C G.1 G.2.2.1 G.2.2.2
  obtain ⟨hx, hb, hml, hown, hts, hr, hlk, hD, hK, hX, hZ, hAe, hR1, hR2, hxt, hNw⟩ := C
  obtain ⟨y, bytes, maxL, ret', fr', lo', hd', hmx, hM, hcode, hini, hy, hlink, hstat, hpar⟩ := hcok
  have hM := hM D ad ca n0 H.size as cs Qk hsp
  have hroom : (ex_rm fr' lo').frames + 1 ≤ R.frames ∧ 8 + (maxL + 11) + (ex_rm fr' lo').locals ≤ R.locals := by
    exact ⟨Nat.le_trans hd' hR1, Nat.le_trans hmx hR2⟩
  have hp : PreS s H (ex_Pc D ad ca as cs n0 H.size) (as.map (ex_v ad)) := ⟨ex_blind, hst⟩
  have hstack : (as.reverse ++ r).map (ex_v ad) = (as.map (ex_v ad)).reverse ++ r.map (ex_v ad) := by simp
  have hlen : (as.map (ex_v ad)).length = n := by rw [List.length_map]; exact hn
  have hcat : ((r.map (ex_v ad)).map fun v => v.category).sum ≤ 8 := by
    rw [List.map_map]
    have : ((fun v : Value => v.category) ∘ ex_v ad) = (fun v => v.category) := by funext v; exact ex_v_cat ad v
    rw [this]
    exact hsum
  rw [hstack]
  rcases hlink with hlink | ⟨host, hlink⟩
  · refine ex_s_run (va_runS (n := n) (ret := ret') ⟨hx, hb, hml, hown, hts⟩ hM ⟨callB_of n hts (ex_good hcode) rfl rfl rfl (hts _ hini) (hts _ hlink) ⟨hy.1, hy.2, hpar⟩ hroom, hts _ hstat⟩ hp rfl hlen G.2.1.1 rfl (lv_room hcat) hd hrc) hAe G.2.1 G.2.2.2 kk
  · refine ex_s_run (va_runSN (n := n) (ret := ret') ⟨hx, hb, hml, hown, hts⟩ hM ⟨va_cnB n hts (ex_good hcode) rfl rfl rfl (hNw _ hlink) (hts _ hini) ⟨hy.1, hy.2, hpar⟩ hroom, hts _ hstat, trivial⟩ hp rfl hlen G.2.1.1 rfl (lv_room hcat) hd hrc) hAe G.2.1 G.2.2.2 kk
end EXW
end
section
section EXM
variable {p : Program} {l : Launch} {e : Env} {R : Room} {s : State} {m : MethodId} {args : Array Value} {below : List Frame} {meth : Method} {c : Code}
variable {D : va_G} {ad ca : Nat → Nat} {n0 nL fr lo : Nat} {A : Nat → Prop} {cc : ByteArray} {ret : Option FieldType} {Q : ex_Q} {Qw : State → Prop} {kc ks : Nat} {xt : ex_xt}
theorem ex_split {st : ex_V} {n : Nat} {v : Value} (h1 : n ≤ st.length) (hn : 1 ≤ n) (h2 : st[n - 1]? = some v) : st = (st.take (n - 1)).reverse.reverse ++ v :: st.drop n ∧ (st.take n).reverse = v :: (st.take (n - 1)).reverse := by
  obtain ⟨k, rfl⟩ : ∃ k, n = k + 1 := ⟨n - 1, by omega⟩
  rw [Nat.add_sub_cancel] at h2 ⊢
  have hk : k < st.length := by omega
  have hv : st[k] = v := by
    rw [List.getElem?_eq_getElem hk] at h2
    exact Option.some.inj h2
  refine ⟨?_, ?_⟩
  · rw [List.reverse_reverse]
    conv => lhs; rw [← List.take_append_drop k st]
    rw [List.drop_eq_getElem_cons hk, hv]
  · rw [← List.take_append_getElem hk, List.reverse_append, hv]
    rfl
set_option maxHeartbeats 4000000 in
theorem ex_i_sound {cx : ex_K} (C : ex_Cx xt p R s m args meth c D ad ca n0 nL fr lo A cc ret cx.1) (hok : ex_ok l fr lo cx) (hrc : kc ≤ R.cells ∧ ks ≤ R.slots) (hI : ∀ pc lv cs v, decode cc pc = .ok (.ireturn, 1) → ex_ret ret v → Q (some (.int v)) cs → ex_T p l e R s m args below meth c D ad ca n0 nL A kc ks Qw pc lv [.int v] cs) (hV : ∀ pc lv cs, decode cc pc = .ok (.return_, 1) → ret = none → Q none cs → ex_T p l e R s m args below meth c D ad ca n0 nL A kc ks Qw pc lv [] cs) {i : Instr} {len pc : Nat} {lv : ex_L} {st : ex_V} {cs : ex_C} {K : Nat → ex_L → ex_V → ex_C → Prop} (hd : decode cc pc = .ok (i, len)) (h : ex_i xt cx ret Q i len pc lv st cs K)
    (kk : ∀ pc' lv' st' cs', K pc' lv' st' cs' → ex_T p l e R s m args below meth c D ad ca n0 nL A kc ks Qw pc' lv' st' cs') : ex_T p l e R s m args below meth c D ad ca n0 nL A kc ks Qw pc lv st cs := by
  cases i with
  | iconst n => obtain ⟨rfl, h⟩ := h; exact ex_s_iconst C hd (kk _ _ _ _ h)
  | bipush n => obtain ⟨rfl, h⟩ := h; exact ex_s_bipush C hd (kk _ _ _ _ h)
  | sipush n => obtain ⟨rfl, h⟩ := h; exact ex_s_sipush C hd (kk _ _ _ _ h)
  | ldc_w ix => obtain ⟨rfl, h⟩ := h; obtain ⟨v, hv, h⟩ := ex_o.at h; exact ex_s_ldc_w C hd (hok.2.1 _ _ hv) (kk _ _ _ _ h)
  | ldc2_w ix => obtain ⟨rfl, h⟩ := h; obtain ⟨v, hv, h⟩ := ex_o.at h; exact ex_s_ldc2_w C hd (hok.2.2.2.2.2.2.2 _ _ hv) (kk _ _ _ _ h)
  | lconst n => obtain ⟨rfl, h⟩ := h; exact ex_s_lconst C hd (kk _ _ _ _ h)
  | ldc ix => obtain ⟨rfl, h⟩ := h; obtain ⟨v, hv, h⟩ := ex_o.at h; exact ex_s_ldc C hd (hok.2.1 _ _ hv) (kk _ _ _ _ h)
  | iload_n k => obtain ⟨rfl, h⟩ := h; obtain ⟨x, hv, h⟩ := ex_gi.at h; exact ex_s_iload_n C hd hv (kk _ _ _ _ h)
  | iload k => obtain ⟨rfl, h⟩ := h; obtain ⟨x, hv, h⟩ := ex_gi.at h; exact ex_s_iload C hd hv (kk _ _ _ _ h)
  | lload_n k => obtain ⟨rfl, h⟩ := h; obtain ⟨x, hv, h⟩ := ex_gl.at h; exact ex_s_lload_n C hd hv (kk _ _ _ _ h)
  | lload k => obtain ⟨rfl, h⟩ := h; obtain ⟨x, hv, h⟩ := ex_gl.at h; exact ex_s_lload C hd hv (kk _ _ _ _ h)
  | aload_n k => obtain ⟨rfl, h⟩ := h; obtain ⟨x, hv, h⟩ := ex_gr.at h; exact ex_s_aload_n C hd hv (kk _ _ _ _ h)
  | aload k => obtain ⟨rfl, h⟩ := h; obtain ⟨x, hv, h⟩ := ex_gr.at h; exact ex_s_aload C hd hv (kk _ _ _ _ h)
  | istore_n k => obtain ⟨rfl, h⟩ := h; obtain ⟨x, r, rfl, hs, h⟩ := ex_i1.at h; exact ex_s_istore_n C hd hs (kk _ _ _ _ h)
  | istore k => obtain ⟨rfl, h⟩ := h; obtain ⟨x, r, rfl, hs, h⟩ := ex_i1.at h; exact ex_s_istore C hd hs (kk _ _ _ _ h)
  | astore_n k => obtain ⟨rfl, h⟩ := h; obtain ⟨x, r, rfl, hs, h⟩ := ex_r1.at h; exact ex_s_astore_n C hd hs (kk _ _ _ _ h)
  | astore k => obtain ⟨rfl, h⟩ := h; obtain ⟨x, r, rfl, hs, h⟩ := ex_r1.at h; exact ex_s_astore C hd hs (kk _ _ _ _ h)
  | lstore_n k => obtain ⟨rfl, h⟩ := h; obtain ⟨x, r, rfl, hs, hs2, h⟩ := ex_l1.at h; exact ex_s_lstore_n C hd hs hs2 (kk _ _ _ _ h)
  | lstore k => obtain ⟨rfl, h⟩ := h; obtain ⟨x, r, rfl, hs, hs2, h⟩ := ex_l1.at h; exact ex_s_lstore C hd hs hs2 (kk _ _ _ _ h)
  | iinc k n => obtain ⟨rfl, h⟩ := h; obtain ⟨x, hv, hs, h⟩ := ex_gi.at h; exact ex_s_iinc C hd hv hs (kk _ _ _ _ h)
  | iadd => obtain ⟨rfl, h⟩ := h; obtain ⟨x, y, r, rfl, h⟩ := ex_i2.at h; exact ex_s_iadd C hd (kk _ _ _ _ h)
  | isub => obtain ⟨rfl, h⟩ := h; obtain ⟨x, y, r, rfl, h⟩ := ex_i2.at h; exact ex_s_isub C hd (kk _ _ _ _ h)
  | imul => obtain ⟨rfl, h⟩ := h; obtain ⟨x, y, r, rfl, h⟩ := ex_i2.at h; exact ex_s_imul C hd (kk _ _ _ _ h)
  | iand => obtain ⟨rfl, h⟩ := h; obtain ⟨x, y, r, rfl, h⟩ := ex_i2.at h; exact ex_s_iand C hd (kk _ _ _ _ h)
  | ior => obtain ⟨rfl, h⟩ := h; obtain ⟨x, y, r, rfl, h⟩ := ex_i2.at h; exact ex_s_ior C hd (kk _ _ _ _ h)
  | ixor => obtain ⟨rfl, h⟩ := h; obtain ⟨x, y, r, rfl, h⟩ := ex_i2.at h; exact ex_s_ixor C hd (kk _ _ _ _ h)
  | ishl => obtain ⟨rfl, h⟩ := h; obtain ⟨x, y, r, rfl, h⟩ := ex_i2.at h; exact ex_s_ishl C hd (kk _ _ _ _ h)
  | ishr => obtain ⟨rfl, h⟩ := h; obtain ⟨x, y, r, rfl, h⟩ := ex_i2.at h; exact ex_s_ishr C hd (kk _ _ _ _ h)
  | iushr => obtain ⟨rfl, h⟩ := h; obtain ⟨x, y, r, rfl, h⟩ := ex_i2.at h; exact ex_s_iushr C hd (kk _ _ _ _ h)
  | idiv => obtain ⟨rfl, h⟩ := h; obtain ⟨x, y, r, rfl, hy, h⟩ := ex_i2.at h; exact ex_s_idiv C hy hd (kk _ _ _ _ h)
  | irem => obtain ⟨rfl, h⟩ := h; obtain ⟨x, y, r, rfl, hy, h⟩ := ex_i2.at h; exact ex_s_irem C hy hd (kk _ _ _ _ h)
  | ineg => obtain ⟨rfl, h⟩ := h; obtain ⟨x, r, rfl, h⟩ := ex_i1.at h; exact ex_s_ineg C hd (kk _ _ _ _ h)
  | i2l => obtain ⟨rfl, h⟩ := h; obtain ⟨x, r, rfl, h⟩ := ex_i1.at h; exact ex_s_i2l C hd (kk _ _ _ _ h)
  | l2i => obtain ⟨rfl, h⟩ := h; obtain ⟨x, r, rfl, h⟩ := ex_l1.at h; exact ex_s_l2i C hd (kk _ _ _ _ h)
  | ladd => obtain ⟨rfl, h⟩ := h; obtain ⟨x, y, r, rfl, h⟩ := ex_l2.at h; exact ex_s_ladd C hd (kk _ _ _ _ h)
  | lsub => obtain ⟨rfl, h⟩ := h; obtain ⟨x, y, r, rfl, h⟩ := ex_l2.at h; exact ex_s_lsub C hd (kk _ _ _ _ h)
  | lmul => obtain ⟨rfl, h⟩ := h; obtain ⟨x, y, r, rfl, h⟩ := ex_l2.at h; exact ex_s_lmul C hd (kk _ _ _ _ h)
  | ldiv => obtain ⟨rfl, h⟩ := h; obtain ⟨x, y, r, rfl, hy, h⟩ := ex_l2.at h; exact ex_s_ldiv C hy hd (kk _ _ _ _ h)
  | dup => obtain ⟨rfl, h⟩ := h; obtain ⟨v, r, rfl, h1, h⟩ := ex_v1.at h; exact ex_s_dup C h1 hd (kk _ _ _ _ h)
  | pop => obtain ⟨rfl, h⟩ := h; obtain ⟨v, r, rfl, h1, h⟩ := ex_v1.at h; exact ex_s_pop C h1 hd (kk _ _ _ _ h)
  | dup_x1 => obtain ⟨rfl, h⟩ := h; obtain ⟨v, w, r, rfl, h1, h2, h⟩ := ex_v2.at h; exact ex_s_dup_x1 C h1 h2 hd (kk _ _ _ _ h)
  | dup2 => obtain ⟨rfl, h⟩ := h; obtain ⟨v, w, r, rfl, h1, h2, h⟩ := ex_v2.at h; exact ex_s_dup2 C h1 h2 hd (kk _ _ _ _ h)
  | ifCond cnd off =>
    cases cnd with
    | eq => obtain ⟨rfl, h⟩ := h; obtain ⟨x, r, rfl, h3⟩ := ex_i1.at h; obtain ⟨t, ht, h1, h2⟩ := ex_to.at h3; exact ex_s_if_eq C hd ht (fun q => kk _ _ _ _ (h1 q)) (fun q => kk _ _ _ _ (h2 q))
    | ne => obtain ⟨rfl, h⟩ := h; obtain ⟨x, r, rfl, h3⟩ := ex_i1.at h; obtain ⟨t, ht, h1, h2⟩ := ex_to.at h3; exact ex_s_if_ne C hd ht (fun q => kk _ _ _ _ (h1 q)) (fun q => kk _ _ _ _ (h2 q))
    | lt => obtain ⟨rfl, h⟩ := h; obtain ⟨x, r, rfl, h3⟩ := ex_i1.at h; obtain ⟨t, ht, h1, h2⟩ := ex_to.at h3; exact ex_s_if_lt C hd ht (fun q => kk _ _ _ _ (h1 q)) (fun q => kk _ _ _ _ (h2 q))
    | ge => obtain ⟨rfl, h⟩ := h; obtain ⟨x, r, rfl, h3⟩ := ex_i1.at h; obtain ⟨t, ht, h1, h2⟩ := ex_to.at h3; exact ex_s_if_ge C hd ht (fun q => kk _ _ _ _ (h1 q)) (fun q => kk _ _ _ _ (h2 q))
    | gt => obtain ⟨rfl, h⟩ := h; obtain ⟨x, r, rfl, h3⟩ := ex_i1.at h; obtain ⟨t, ht, h1, h2⟩ := ex_to.at h3; exact ex_s_if_gt C hd ht (fun q => kk _ _ _ _ (h1 q)) (fun q => kk _ _ _ _ (h2 q))
    | le => obtain ⟨rfl, h⟩ := h; obtain ⟨x, r, rfl, h3⟩ := ex_i1.at h; obtain ⟨t, ht, h1, h2⟩ := ex_to.at h3; exact ex_s_if_le C hd ht (fun q => kk _ _ _ _ (h1 q)) (fun q => kk _ _ _ _ (h2 q))
  | if_icmp cnd off =>
    cases cnd with
    | eq => obtain ⟨rfl, h⟩ := h; obtain ⟨x, y, r, rfl, h3⟩ := ex_i2.at h; obtain ⟨t, ht, h1, h2⟩ := ex_to.at h3; exact ex_s_icmp_eq C hd ht (fun q => kk _ _ _ _ (h1 q)) (fun q => kk _ _ _ _ (h2 q))
    | ne => obtain ⟨rfl, h⟩ := h; obtain ⟨x, y, r, rfl, h3⟩ := ex_i2.at h; obtain ⟨t, ht, h1, h2⟩ := ex_to.at h3; exact ex_s_icmp_ne C hd ht (fun q => kk _ _ _ _ (h1 q)) (fun q => kk _ _ _ _ (h2 q))
    | lt => obtain ⟨rfl, h⟩ := h; obtain ⟨x, y, r, rfl, h3⟩ := ex_i2.at h; obtain ⟨t, ht, h1, h2⟩ := ex_to.at h3; exact ex_s_icmp_lt C hd ht (fun q => kk _ _ _ _ (h1 q)) (fun q => kk _ _ _ _ (h2 q))
    | ge => obtain ⟨rfl, h⟩ := h; obtain ⟨x, y, r, rfl, h3⟩ := ex_i2.at h; obtain ⟨t, ht, h1, h2⟩ := ex_to.at h3; exact ex_s_icmp_ge C hd ht (fun q => kk _ _ _ _ (h1 q)) (fun q => kk _ _ _ _ (h2 q))
    | gt => obtain ⟨rfl, h⟩ := h; obtain ⟨x, y, r, rfl, h3⟩ := ex_i2.at h; obtain ⟨t, ht, h1, h2⟩ := ex_to.at h3; exact ex_s_icmp_gt C hd ht (fun q => kk _ _ _ _ (h1 q)) (fun q => kk _ _ _ _ (h2 q))
    | le => obtain ⟨rfl, h⟩ := h; obtain ⟨x, y, r, rfl, h3⟩ := ex_i2.at h; obtain ⟨t, ht, h1, h2⟩ := ex_to.at h3; exact ex_s_icmp_le C hd ht (fun q => kk _ _ _ _ (h1 q)) (fun q => kk _ _ _ _ (h2 q))
  | goto off => obtain ⟨rfl, h⟩ := h; obtain ⟨t, ht, h⟩ := ex_to.at h; exact ex_s_goto C hd ht (kk _ _ _ _ h)
  | tableswitch dflt lo hi offs =>
    obtain ⟨hsz, h⟩ := h
    obtain ⟨x, r, rfl, h1, h2⟩ := ex_i1.at h
    by_cases hout : x.toInt < lo ∨ hi < x.toInt
    · obtain ⟨t, ht, h⟩ := ex_to.at (h1 hout)
      exact ex_s_tableOut C hd hout ht (kk _ _ _ _ h)
    · have ha : ¬ x.toInt < lo := fun q => hout (Or.inl q)
      have hb' : ¬ hi < x.toInt := fun q => hout (Or.inr q)
      have hlt : (x.toInt - lo).toNat < offs.size := by omega
      have ho : offs[(x.toInt - lo).toNat]? = some offs[(x.toInt - lo).toNat] := Array.getElem?_eq_getElem hlt
      have hx : x = Int32.ofInt (lo + ((x.toInt - lo).toNat : Int)) := by
        rw [show lo + ((x.toInt - lo).toNat : Int) = x.toInt by omega]
        exact (Int32.ofInt_toInt x).symm
      obtain ⟨t, ht, h⟩ := ex_to.at (ex_tb_at (j := (x.toInt - lo).toNat) h2 (by rw [Array.getElem?_toList]; exact ho) hx)
      exact ex_s_tableIn C hd ha hb' ho ht (kk _ _ _ _ h)
  | lookupswitch dflt ps =>
    obtain ⟨hp, hq, h⟩ := h
    obtain ⟨x, r, rfl, h1, h2⟩ := ex_i1.at h
    have hq' : ∀ q ∈ ps.toList, -2147483648 ≤ q.1 ∧ q.1 < 2147483648 := fun q hm => by
      have := List.all_eq_true.mp hq q hm
      simpa using this
    obtain ⟨t, ht, h⟩ := ex_to.at (ex_lk_at h1 h2 hq')
    exact ex_s_lookup C hd hp rfl ht (kk _ _ _ _ h)
  | getfield ix =>
    obtain ⟨rfl, h⟩ := h
    obtain ⟨a, r, rfl, h⟩ := ex_r1.at h
    obtain ⟨⟨ci, k, b, ty⟩, hq, h⟩ := ex_o.at h
    obtain ⟨fs, ho, h⟩ := ex_ob.at h
    obtain ⟨v, hv, h⟩ := ex_o.at h
    obtain ⟨Cn, T, N, g1, g2, g3, -, -⟩ := hok.1 _ _ _ _ _ hq
    exact ex_s_getfield C hd ho hv ⟨Cn, T, N, g1, g2, g3⟩ (kk _ _ _ _ h)
  | putfield ix =>
    obtain ⟨rfl, h⟩ := h
    obtain ⟨v, a, r, rfl, h⟩ := ex_vr.at h
    obtain ⟨⟨ci, k, b, ty⟩, hq, h⟩ := ex_o.at h
    obtain ⟨fs, ho, hl, hb2, hf, h⟩ := ex_ob.at h
    obtain ⟨Cn, T, N, g1, g2, g3, g4, g5⟩ := hok.1 _ _ _ _ _ hq
    exact ex_s_putfield C hd ho hl hf ⟨Cn, T, N, g1, g2, g3, g4, g5 hb2⟩ (kk _ _ _ _ h)
  | getstatic ix =>
    obtain ⟨rfl, h⟩ := h
    obtain ⟨j, hj, h⟩ := ex_o.at h
    exact ex_s_getstatic C hd (hok.2.2.1 _ _ hj) (kk _ _ _ _ h)
  | iaload =>
    obtain ⟨rfl, h⟩ := h
    obtain ⟨i, a, r, rfl, h3⟩ := ex_ir.at h
    unfold ex_ax at h3
    split at h3
    · rename_i ha
      generalize hq : xt[a - 1000]? = oq at h3
      cases oq with
      | none => exact False.elim h3
      | some q => exact ex_s_ialoadX C hd ha hq h3.1 (kk _ _ _ _ h3.2)
    · obtain ⟨n, f, ho, hi, h4⟩ := ex_ar.at h3
      exact ex_s_iaload C hd ho hi (kk _ _ _ _ h4)
  | baload => obtain ⟨rfl, h⟩ := h; obtain ⟨i, a, r, rfl, h⟩ := ex_ir.at h; obtain ⟨n, f, ho, hi, h⟩ := ex_ar.at h; exact ex_s_baload C hd ho hi (kk _ _ _ _ h)
  | iastore => obtain ⟨rfl, h⟩ := h; obtain ⟨x, i, a, r, rfl, h⟩ := ex_iir.at h; obtain ⟨n, f, ho, hi, h⟩ := ex_ar.at h; exact ex_s_iastore C hd ho hi (kk _ _ _ _ h)
  | bastore => obtain ⟨rfl, h⟩ := h; obtain ⟨x, i, a, r, rfl, h⟩ := ex_iir.at h; obtain ⟨n, f, ho, hi, h01, h⟩ := ex_ar.at h; exact ex_s_bastore C hd ho hi h01 (kk _ _ _ _ h)
  | arraylength =>
    obtain ⟨rfl, h⟩ := h
    obtain ⟨a, r, rfl, h3⟩ := ex_r1.at h
    split at h3
    · rename_i t n f ho
      exact ex_s_arraylength C hd ho h3.1 (kk _ _ _ _ h3.2)
    · exact h3.elim
  | invokevirtual ix =>
    obtain ⟨rfl, h⟩ := h
    obtain ⟨⟨n, rc, sp⟩, hq, hn, hsum, h⟩ := ex_o.at h
    obtain ⟨ci, rfl, h⟩ := ex_o.at h
    obtain ⟨v, hv, h⟩ := ex_o.at h
    split at h
    · rename_i a
      obtain ⟨fs, ho, h⟩ := ex_ob.at h
      have hcok := hok.2.2.2.1 _ _ _ _ hq
      have hn1 : 1 ≤ n := by
        obtain ⟨y, bytes, maxL, ret', fr', lo', -, -, -, -, -, -, -, -, -, -, h1, -⟩ := hcok
        exact h1
      obtain ⟨e1, e2⟩ := ex_split hn hn1 hv
      have h' : sp (.ref a :: (st.take (n - 1)).reverse) cs (fun r cs' => K (pc + 3) lv (r.toList ++ st.drop n) cs') := by
        rw [← e2]; exact h
      have goal := ex_s_virtual (e := e) (below := below) (Qw := Qw) (lv := lv) C hd hrc hcok ho (by rw [List.length_reverse, List.length_take]; omega) hsum h' (fun rv cs' q => kk _ _ _ _ q)
      rw [← e1] at goal
      exact goal
    · exact h.elim
  | invokestatic ix =>
    obtain ⟨rfl, h⟩ := h
    split at h
    · rename_i hcp
      obtain ⟨n, dp, a, sp, a0, r, m0, f, m1, g, rfl, g1, g2, g3, g4, g5, g6, g7, g8, h9⟩ := ex_cp.at h
      exact ex_s_copy C hd (hok.2.2.2.2.2.2.1 ix hcp) g1 g2 g3 g4 g5 g6 g7 g8 (kk _ _ _ _ h9)
    · rename_i hcp
      obtain ⟨x, y, r, rfl, g1, h9⟩ := ex_i2.at h
      exact ex_s_min C hd hrc (hok.2.2.2.2.1 ix hcp) g1 (kk _ _ _ _ h9)
    · rename_i hcp
      obtain ⟨x, y, r, rfl, g1, h9⟩ := ex_i2.at h
      exact ex_s_max C hd hrc (hok.2.2.2.2.2.1 ix hcp) g1 (kk _ _ _ _ h9)
    obtain ⟨⟨n, rc, sp⟩, hq, hn, hsum, hrc', h⟩ := ex_o.at h
    dsimp only at hrc' hn hsum h
    subst hrc'
    have hcok := hok.2.2.2.1 _ _ _ _ hq
    have goal := ex_s_static (e := e) (below := below) (Qw := Qw) (lv := lv) C hd hrc hcok (by rw [List.length_reverse, List.length_take]; omega) hsum h (fun rv cs' q => kk _ _ _ _ q)
    rw [List.reverse_reverse, List.take_append_drop] at goal
    exact goal
  | ireturn =>
    obtain ⟨rfl, h⟩ := h
    split at h
    · exact hI _ _ _ _ hd h.1 h.2
    · exact h.elim
  | return_ =>
    obtain ⟨rfl, h1, rfl, h⟩ := h
    exact hV _ _ _ hd h1 h
  | _ => exact False.elim h
theorem ex_wp_sound {cx : ex_K} {I : Nat → Option (ex_L → ex_V → ex_C → Prop)} (C : ex_Cx xt p R s m args meth c D ad ca n0 nL fr lo A cc ret cx.1) (hok : ex_ok l fr lo cx) (hrc : kc ≤ R.cells ∧ ks ≤ R.slots) (hI : ∀ pc lv cs v, decode cc pc = .ok (.ireturn, 1) → ex_ret ret v → Q (some (.int v)) cs → ex_T p l e R s m args below meth c D ad ca n0 nL A kc ks Qw pc lv [.int v] cs) (hV : ∀ pc lv cs, decode cc pc = .ok (.return_, 1) → ret = none → Q none cs → ex_T p l e R s m args below meth c D ad ca n0 nL A kc ks Qw pc lv [] cs)
    (hJ : ∀ pc J lv st cs, I pc = some J → J lv st cs → ex_T p l e R s m args below meth c D ad ca n0 nL A kc ks Qw pc lv st cs) : ∀ n pc lv st cs, ex_wp xt cx cc ret I Q n pc lv st cs → ex_T p l e R s m args below meth c D ad ca n0 nL A kc ks Qw pc lv st cs := by
  intro n
  induction n with
  | zero => intro pc lv st cs h; exact False.elim h
  | succ n ih =>
    intro pc lv st cs h
    unfold ex_wp at h
    split at h
    · rename_i i len hd
      refine ex_i_sound C hok hrc hI hV hd h (fun pc' lv' st' cs' hk => ?_)
      split at hk
      · rename_i J hJ'
        exact hJ _ _ _ _ _ hJ' hk
      · exact ih _ _ _ _ hk
    · exact False.elim h
/-- loops: a measure falls from cut to cut -/
theorem ex_loop {cx : ex_K} {I : Nat → Option (Nat → ex_L → ex_V → ex_C → Prop)} {fuel : Nat} (C : ex_Cx xt p R s m args meth c D ad ca n0 nL fr lo A cc ret cx.1) (hok : ex_ok l fr lo cx) (hrc : kc ≤ R.cells ∧ ks ≤ R.slots) (hI : ∀ pc lv cs v, decode cc pc = .ok (.ireturn, 1) → ex_ret ret v → Q (some (.int v)) cs → ex_T p l e R s m args below meth c D ad ca n0 nL A kc ks Qw pc lv [.int v] cs) (hV : ∀ pc lv cs, decode cc pc = .ok (.return_, 1) → ret = none → Q none cs → ex_T p l e R s m args below meth c D ad ca n0 nL A kc ks Qw pc lv [] cs)
    (hcut : ∀ pc J n lv st cs, I pc = some J → J n lv st cs → ex_wp xt cx cc ret (fun pc' => (I pc').map (fun J' lv st cs => ∃ n', n' < n ∧ J' n' lv st cs)) Q fuel pc lv st cs) :
    ∀ n pc J lv st cs, I pc = some J → J n lv st cs → ex_T p l e R s m args below meth c D ad ca n0 nL A kc ks Qw pc lv st cs := by
  intro n
  induction n using Nat.strongRecOn with
  | ind n ih =>
    intro pc J lv st cs hJ h
    refine ex_wp_sound C hok hrc hI hV (fun pc' J' lv' st' cs' hJ' h' => ?_) _ _ _ _ _ (hcut pc J n lv st cs hJ h)
    cases hIp : I pc' with
    | none => rw [hIp] at hJ'; cases hJ'
    | some J0 =>
      rw [hIp] at hJ'
      cases hJ'
      obtain ⟨n', hlt, h2⟩ := h'
      exact ih n' hlt pc' J0 lv' st' cs' hIp h2
end EXM
/-- the locals at the entry -/
def ex_l0 (av : ex_V) (maxL : Nat) : ex_L := av.map some ++ List.replicate (maxL - av.length) none
theorem ex_args_mem : ∀ (av : List Value) (k i : Nat) (v : Value), (∀ w ∈ av, w.category = 1) → av[i]? = some v → (k + i, v) ∈ lv_args k av
  | [], _, _, _, _, h => by simp at h
  | w :: r, k, 0, v, _, h => by
    simp at h
    subst h
    exact List.mem_cons_self
  | w :: r, k, i + 1, v, hc, h => by
    unfold lv_args
    rw [if_neg (by rw [hc w List.mem_cons_self]; decide)]
    refine List.mem_cons_of_mem _ ?_
    have := ex_args_mem r (k + 1) i v (fun q hq => hc q (List.mem_cons_of_mem _ hq)) (by simpa using h)
    rw [show k + (i + 1) = k + 1 + i by omega]
    exact this
theorem ex_sl_len : ∀ (av : List Value), (∀ w ∈ av, w.category = 1) → (lg_sl av).length = av.length
  | [], _ => rfl
  | w :: r, hc => by
    have h1 := hc w List.mem_cons_self
    have ih := ex_sl_len r (fun q hq => hc q (List.mem_cons_of_mem _ hq))
    show ((if w.category = 2 then [Slot.val w, Slot.second] else [Slot.val w]) ++ lg_sl r).length = r.length + 1
    rw [if_neg (by rw [h1]; decide), List.length_append, ih]
    show 1 + r.length = r.length + 1
    omega
/-- a method's contract out of its walk -/
theorem ex_met {l : Launch} {y : MethodName} {cc : ByteArray} {maxL : Nat} {ret : Option FieldType} {fr lo : Nat} {sp : ex_S} (hy : plainName y.cls = true)
    (h : ∀ av cs Q, sp av cs Q → (∀ w ∈ av, w.category = 1) ∧ av.length ≤ maxL ∧ ∀ (p : Program) (e : Env) (R : Room) (s : State) (m : MethodId) (args : Array Value) (below : List Frame) (meth : Method) (c : Code) (D : va_G) (ad ca : Nat → Nat) (n0 : Nat) (A : Nat → Prop),
      ex_Cx ec_xt p R s m args meth c D ad ca n0 maxL fr lo A cc ret y.cls → ex_T p l e R s m args below meth c D ad ca n0 maxL A 0 0 (MQ below (ex_Qc D ad ca Q n0 A) args s 0 0 A) 0 (ex_l0 av maxL) [] cs) : ex_Met l y cc maxL ret fr lo sp := by
  intro D ad ca n sz av cs Q hsp
  obtain ⟨hcat, hlen, hT⟩ := h av cs Q hsp
  refine Met.ofW (cc := cc) (maxL := maxL) (ret := ret) hy rfl ?_
  intro p e s m args below meth c s₁ B hml hv
  obtain ⟨rfl, hsz, hn, hP, hD, hK, hX, hZ, hNw0⟩ := hv
  subst hsz
  have hts0 := atoms_spec (ws := .code y cc maxL ret :: ec_tb) B.pre
  have hcx : ex_Cx ec_xt p (headSpec (.code y cc maxL ret :: ec_tb) (ex_rm fr lo)).room s m ((av.map (ex_v ad)).toArray) meth c D ad ca n maxL fr lo (ex_A ad n s.heap.size) cc ret y.cls :=
    ⟨B.exec, B.bytes, hml, findClass_of_methodNamed B.named, fun w hw => hts0 w (List.mem_cons_of_mem _ hw), B.returns, B.notSynchronized, hD, hK, hX, hZ, fun _ h => h, Nat.le_refl _, Nat.le_refl _, fun _ _ h => h, hNw0⟩
  have hcat' : ∀ w ∈ av.map (ex_v ad), w.category = 1 := by
    intro w hw
    obtain ⟨v, hv, rfl⟩ := List.mem_map.mp hw
    rw [ex_v_cat]
    exact hcat v hv
  have hsl := ex_sl_len _ hcat'
  rw [List.length_map] at hsl
  have hl := lv_entry (av.map (ex_v ad)) (n := maxL) (by rw [hsl]; exact hlen)
  rw [lg_entry_eq]
  refine hT p e _ s m _ below meth c D ad ca n _ hcx _ s.heap [] ⟨hn, ⟨hl.1, hl.2.1, ?_, ?_⟩, hP, va_S.rf⟩
  · unfold ex_l0
    rw [List.length_append, List.length_map, List.length_replicate]
    omega
  · intro i v hi
    unfold ex_l0 at hi
    by_cases hia : i < av.length
    · rw [List.getElem?_append_left (by rw [List.length_map]; exact hia), List.getElem?_map] at hi
      cases hav : av[i]? with
      | none => rw [hav] at hi; cases hi
      | some w =>
        rw [hav] at hi
        have hw : w = v := Option.some.inj (Option.some.inj hi)
        subst hw
        have := ex_args_mem (av.map (ex_v ad)) 0 i (ex_v ad w) hcat' (by rw [List.getElem?_map, hav]; rfl)
        rw [Nat.zero_add] at this
        exact hl.2.2 (i, ex_v ad w) this
    · rw [List.getElem?_append_right (by rw [List.length_map]; omega), List.getElem?_replicate] at hi
      split at hi <;> cases hi
end
section
/-! CONSTRUCTORS: walks that make cells. A new cell's place is the next one. -/
def ex_cv (n : Nat) (v : Value) : Bool := match v with
  | .ref k => decide (k < n)
  | _ => true
def ex_co (n : Nat) (o : Option Value) : Bool := match o with
  | some v => ex_cv n v
  | none => true
def ex_ce (n : Nat) (e : va_E) : Bool := match e with
  | .inl _ => true
  | .inr o => o.2.all (ex_cv n)
/-- no value points beyond the cells -/
def ex_clo (n : Nat) (lv : ex_L) (st : ex_V) (cs : ex_C) : Bool := lv.all (ex_co n) && st.all (ex_cv n) && cs.all (ex_ce n) && decide (n < 1000)
def ex_ext (ad : Nat → Nat) (n q : Nat) : Nat → Nat := fun k => if k = n then q else ad k
theorem ex_v_ext {ad : Nat → Nat} {n q : Nat} {v : Value} (h : ex_cv n v = true) : ex_v (ex_ext ad n q) v = ex_v ad v := by
  cases v with
  | ref k =>
    have hk : k < n := by simpa [ex_cv] using h
    show Value.ref (ex_ext ad n q k) = Value.ref (ad k)
    unfold ex_ext
    rw [if_neg (Nat.ne_of_lt hk)]
  | _ => rfl
theorem ex_e_ext {ad ca : Nat → Nat} {n q : Nat} {e : va_E} (h : ex_ce n e = true) : ex_e (ex_ext ad n q) ca e = ex_e ad ca e := by
  cases e with
  | inl a => rfl
  | inr o =>
    have h2 : o.2.map (ex_v (ex_ext ad n q)) = o.2.map (ex_v ad) := List.map_congr_left (fun v hv => ex_v_ext (List.all_eq_true.mp h v hv))
    show Sum.inr (o.1, o.2.map (ex_v (ex_ext ad n q))) = Sum.inr (o.1, o.2.map (ex_v ad))
    rw [h2]
theorem ex_w_ext {ad ca : Nat → Nat} {q : Nat} {cs : ex_C} {e : va_E} (h : cs.all (ex_ce cs.length) = true) (he : ex_ce cs.length e = true) : ex_w (ex_ext ad cs.length q) ca (cs ++ [e]) = ex_w ad ca cs ++ [(q, ex_e ad ca e)] := by
  apply List.ext_getElem?
  intro i
  by_cases hi : i < cs.length
  · obtain ⟨x, hx⟩ : ∃ x, cs[i]? = some x := ⟨_, List.getElem?_eq_getElem hi⟩
    rw [List.getElem?_append_left (by rw [ex_w_len]; exact hi), ex_w_get hx, ex_w_get (e := x) (by rw [List.getElem?_append_left hi]; exact hx)]
    have hx2 : ex_ce cs.length x = true := List.all_eq_true.mp h x (List.mem_of_getElem? hx)
    rw [ex_e_ext hx2]
    unfold ex_ext
    rw [if_neg (by omega)]
  · by_cases hi2 : i = cs.length
    · subst hi2
      rw [ex_w_get (e := e) (by simp), List.getElem?_append_right (by rw [ex_w_len]; exact Nat.le_refl _), ex_w_len, Nat.sub_self, ex_e_ext he]
      unfold ex_ext
      rw [if_pos rfl]
      rfl
    · rw [List.getElem?_eq_none (by rw [ex_w_len, List.length_append]; simp; omega), List.getElem?_eq_none (by rw [List.length_append, ex_w_len]; simp; omega)]
theorem ex_st_ext {ad : Nat → Nat} {n q : Nat} {st : ex_V} (h : st.all (ex_cv n) = true) : st.map (ex_v (ex_ext ad n q)) = st.map (ex_v ad) := List.map_congr_left (fun v hv => ex_v_ext (List.all_eq_true.mp h v hv))
theorem ex_ls_ext {ad : Nat → Nat} {n q nL : Nat} {lv : ex_L} {ls : Array Slot} (h : lv.all (ex_co n) = true) (hl : ex_ls ad lv nL ls) : ex_ls (ex_ext ad n q) lv nL ls := by
  refine ⟨hl.1, hl.2.1, hl.2.2.1, fun i v hi => ?_⟩
  have h2 : ex_cv n v = true := List.all_eq_true.mp h (some v) (List.mem_of_getElem? hi)
  rw [ex_v_ext h2]
  exact hl.2.2.2 i v hi
section EXN
variable {p : Program} {l : Launch} {e : Env} {R : Room} {s : State} {m : MethodId} {args : Array Value} {below : List Frame} {meth : Method} {c : Code}
variable {D : va_G} {ad ca : Nat → Nat} {n0 nL fr lo : Nat} {A : Nat → Prop} {cc : ByteArray} {ret : Option FieldType} {own : String} {Q : ex_Q} {Qw : State → Prop} {kc ks : Nat} {xt : ex_xt}
theorem ex_Cx.ext {q : Nat} (C : ex_Cx xt p R s m args meth c D ad ca n0 nL fr lo A cc ret own) (hn : n0 < 1000) (hD : ex_D (ex_ext ad n0 q) (n0 + 1) A) (hA : ∀ x, s.heap.size ≤ x → A x) : ex_Cx xt p R s m args meth c D (ex_ext ad n0 q) ca (n0 + 1) nL fr lo A cc ret own := by
  obtain ⟨hx, hb, hml, hown, hts, hr, hlk, hD0, hK, hX, hZ, hAe, hR1, hR2, hxt, hNw⟩ := C
  have he : ∀ j, ex_ext ad n0 q (1000 + j) = ad (1000 + j) := fun j => by unfold ex_ext; rw [if_neg (by omega)]
  refine ⟨hx, hb, hml, hown, hts, hr, hlk, hD, hK, fun j n f hj => ?_, fun Cn n dd j hj => ?_, fun x h => ?_, hR1, hR2, hxt, hNw⟩
  · rw [he]; exact hX j n f hj
  · rw [he]; exact hZ Cn n dd j hj
  · rcases h with ⟨k, hk, rfl⟩ | h
    · exact hD.2 k hk
    · exact hA x h
theorem ex_D_ext {cs : ex_C} {q : Nat} {ws : va_W} (hlen : cs.length = n0 + 1) (hw : ws = ex_w (ex_ext ad n0 q) ca cs) (hD : va_D A ws) : ex_D (ex_ext ad n0 q) (n0 + 1) A := by
  subst hw
  have gt : ∀ k, k < n0 + 1 → ∃ x, (ex_w (ex_ext ad n0 q) ca cs)[k]? = some (ex_ext ad n0 q k, x) := fun k hk => by
    obtain ⟨x, hx⟩ : ∃ x, cs[k]? = some x := ⟨_, List.getElem?_eq_getElem (by omega)⟩
    exact ⟨_, ex_w_get hx⟩
  refine ⟨fun i j hi hj h => ?_, fun k hk => ?_⟩
  · obtain ⟨x, hx⟩ := gt i hi
    obtain ⟨y, hy⟩ := gt j hj
    exact hD.1 i j _ _ hx hy h
  · obtain ⟨x, hx⟩ := gt k hk
    exact hD.2 k _ hx
theorem ex_s_new (C : ex_Cx xt p R s m args meth c D ad ca n0 nL fr lo A cc ret own) {pc : Nat} {lv : ex_L} {cs : ex_C} {ix ci N : Nat} {fs : List Value} {st : ex_V} {Cn : String} {T : u_T} {ty : Nat → FieldType} (hd : decode cc pc = .ok (.new ix, 3)) (hA : ∀ x, s.heap.size ≤ x → A x) (hcl : ex_clo n0 lv st cs = true) (hlen : cs.length = n0)
    (h1 : ec_cl[ci]? = some (Cn, T, N)) (h2 : Cond.classLink own ix Cn ∈ ec_tb) (h3 : Cond.instantiable Cn N ∈ ec_tb) (h4 : Cond.initialized Cn ∈ ec_tb) (hty : ∀ k, k < N → parseFieldDescriptor (T k).2.2.1 = some (ty k)) (hfs : ∀ j, j < N → defaultValue (ty j) = vp_V fs j) (hfc : fs.all (ex_cv 0) = true)
    (hrc : kc + 1 ≤ R.cells ∧ ks + N ≤ R.slots)
    (kk : ∀ q, ex_Cx xt p R s m args meth c D (ex_ext ad n0 q) ca (n0 + 1) nL fr lo A cc ret own → ex_T p l e R s m args below meth c D (ex_ext ad n0 q) ca (n0 + 1) nL A (kc + 1) (ks + N) Qw (pc + 3) lv (.ref n0 :: st) (cs ++ [.inr (ci, fs)])) : ex_T p l e R s m args below meth c D ad ca n0 nL A kc ks Qw pc lv st cs := by
  have C' := C
  obtain ⟨hx, hb, hml, hown, hts, hr, hlk, hD, hK, hX, hZ, hAe, hR1, hR2, hxt, hNw⟩ := C
  simp only [ex_clo, Bool.and_eq_true, decide_eq_true_eq] at hcl
  obtain ⟨⟨⟨c1, c2⟩, c3⟩, c4⟩ := hcl
  subst hlen
  intro ls H locs G
  have hfm : fs.map (ex_v ad) = fs := by
    have : ∀ v ∈ fs, ex_v ad v = v := fun v hv => by
      have := List.all_eq_true.mp hfc v hv
      cases v with
      | ref k => simp [ex_cv] at this
      | _ => rfl
    exact (List.map_congr_left this).trans (List.map_id fs)
  have hce : ex_ce cs.length (.inr (ci, fs)) = true := by
    refine List.all_eq_true.mpr (fun v hv => ?_)
    have := List.all_eq_true.mp hfc v hv
    cases v with
    | ref k => simp [ex_cv] at this
    | _ => rfl
  refine va_new (D := D) (ci := ci) (fs := fs) (C := Cn) (T := T) (N := N) (rest := st.map (ex_v ad)) hx hb hts (ec_clok h1).1 ty hty hown (hts _ h2) (hts _ h3) (hts _ h4) hK G.2.2.1 (hD.va G.1) G.2.2.2 hA h1 hfs hrc.1 hrc.2 hd (fun q H1 hP1 hD1 hS1 => ?_)
  have hw : ex_w (ex_ext ad cs.length q) ca (cs ++ [.inr (ci, fs)]) = ex_w ad ca cs ++ [(q, .inr (ci, fs))] := by
    rw [ex_w_ext c3 hce]
    show _ ++ [(q, Sum.inr (ci, fs.map (ex_v ad)))] = _
    rw [hfm]
  have hlen2 : (cs ++ [Sum.inr (ci, fs)] : ex_C).length = cs.length + 1 := by simp
  have hD2 : ex_D (ex_ext ad cs.length q) (cs.length + 1) A := ex_D_ext hlen2 hw.symm hD1
  have k2 := kk q (C'.ext c4 hD2 hA) ls H1 locs ⟨hlen2, ex_ls_ext c1 G.2.1, by rw [hw]; exact hP1, hS1⟩
  have hst : (Value.ref cs.length :: st).map (ex_v (ex_ext ad cs.length q)) = Value.ref q :: st.map (ex_v ad) := by
    rw [List.map_cons, ex_st_ext c2]
    show Value.ref (ex_ext ad cs.length q cs.length) :: _ = _
    unfold ex_ext
    rw [if_pos rfl]
  rw [hst] at k2
  exact k2
/-- the array type of a tag -/
def ex_at (t : ArrayType) : Option Nat := match t with
  | .int => some 0
  | .boolean => some 1
  | _ => none
theorem ex_s_newarray (C : ex_Cx xt p R s m args meth c D ad ca n0 nL fr lo A cc ret own) {pc : Nat} {lv : ex_L} {cs : ex_C} {t : ArrayType} {tag N : Nat} {x : Int32} {st : ex_V} (hd : decode cc pc = .ok (.newarray t, 2)) (hA : ∀ x, s.heap.size ≤ x → A x) (hcl : ex_clo n0 lv st cs = true) (hlen : cs.length = n0) (ht : ex_at t = some tag) (hx0 : ¬ x < 0) (hN : x.toNatClampNeg = N) (hNb : N ≤ 1000)
    (hac : Cond.arrayClass .int ∈ ec_tb ∧ Cond.arrayClass .boolean ∈ ec_tb) (hrc : kc + 1 ≤ R.cells ∧ ks + N ≤ R.slots)
    (kk : ∀ q, ex_Cx xt p R s m args meth c D (ex_ext ad n0 q) ca (n0 + 1) nL fr lo A cc ret own → ex_T p l e R s m args below meth c D (ex_ext ad n0 q) ca (n0 + 1) nL A (kc + 1) (ks + N) Qw (pc + 2) lv (.ref n0 :: st) (cs ++ [.inl (tag, N, .inl (fun _ => 0))])) : ex_T p l e R s m args below meth c D ad ca n0 nL A kc ks Qw pc lv (.int x :: st) cs := by
  have C' := C
  obtain ⟨hx, hb, hml, hown, hts, hr, hlk, hD, hK, hX, hZ, hAe, hR1, hR2, hxt, hNw⟩ := C
  simp only [ex_clo, Bool.and_eq_true, decide_eq_true_eq] at hcl
  obtain ⟨⟨⟨c1, c2⟩, c3⟩, c4⟩ := hcl
  subst hlen
  intro ls H locs G
  have fin : ∀ (q : Nat) (H1 : Heap), va_P D ec_cl (ex_w ad ca cs ++ [(q, .inl (ca tag, N, .inl (fun _ => 0)))]) H1 → va_D A (ex_w ad ca cs ++ [(q, .inl (ca tag, N, .inl (fun _ => 0)))]) → va_S A s.heap H1 locs → W p l e R s m args below meth c H1 locs (kc + 1) (ks + N) Qw (F0 m (pc + 2) ls (.ref q :: st.map (ex_v ad))) := by
    intro q H1 hP1 hD1 hS1
    have hw : ex_w (ex_ext ad cs.length q) ca (cs ++ [.inl (tag, N, .inl (fun _ => 0))]) = ex_w ad ca cs ++ [(q, .inl (ca tag, N, .inl (fun _ => 0)))] := ex_w_ext c3 rfl
    have hlen2 : (cs ++ [Sum.inl (tag, N, .inl (fun _ => 0))] : ex_C).length = cs.length + 1 := by simp
    have hD2 : ex_D (ex_ext ad cs.length q) (cs.length + 1) A := ex_D_ext hlen2 hw.symm hD1
    have k2 := kk q (C'.ext c4 hD2 hA) ls H1 locs ⟨hlen2, ex_ls_ext c1 G.2.1, by rw [hw]; exact hP1, hS1⟩
    have hst : (Value.ref cs.length :: st).map (ex_v (ex_ext ad cs.length q)) = Value.ref q :: st.map (ex_v ad) := by
      rw [List.map_cons, ex_st_ext (by
        exact c2)]
      show Value.ref (ex_ext ad cs.length q cs.length) :: _ = _
      unfold ex_ext
      rw [if_pos rfl]
    rw [hst] at k2
    exact k2
  cases t with
  | int =>
    cases ht
    refine va_newa (D := D) (atype := .int) (ty := .int) (a0 := (N, .inl (fun _ => 0))) (rest := st.map (ex_v ad)) hx hb (hts _ hac.1) rfl hK G.2.2.1 (hD.va G.1) G.2.2.2 hA (fun cA => rfl) hx0 hN (by show N * 4 ≤ _; omega) hrc.1 hrc.2 hd (fun q cA H1 hK1 hP1 hD1 hS1 => ?_)
    have e1 := (hK.2 0 _ rfl).2
    have e2 := (hK1.2 2 (cA, .int) rfl).2
    have e3 : cA = ca 0 := Option.some.inj (e2.symm.trans e1)
    subst e3
    exact fin q H1 hP1 hD1 hS1
  | boolean =>
    cases ht
    refine va_newa (D := D) (atype := .boolean) (ty := .boolean) (a0 := (N, .inl (fun _ => 0))) (rest := st.map (ex_v ad)) hx hb (hts _ hac.2) rfl hK G.2.2.1 (hD.va G.1) G.2.2.2 hA (fun cA => rfl) hx0 hN (by show N * 1 ≤ _; omega) hrc.1 hrc.2 hd (fun q cA H1 hK1 hP1 hD1 hS1 => ?_)
    have e1 := (hK.2 1 _ rfl).2
    have e2 := (hK1.2 2 (cA, .boolean) rfl).2
    have e3 : cA = ca 1 := Option.some.inj (e2.symm.trans e1)
    subst e3
    exact fin q H1 hP1 hD1 hS1
  | _ => cases ht
theorem ex_s_putfinal (C : ex_Cx xt p R s m args meth c D ad ca n0 nL fr lo A cc ret own) (hin2 : meth.name = "<init>") {pc : Nat} {lv : ex_L} {cs : ex_C} {ix ci k a : Nat} {fs : List Value} {v : Value} {r : ex_V} {ty : FieldType} (hd : decode cc pc = .ok (.putfield ix, 3)) (ho : cs[a]? = some (.inr (ci, fs))) (hkl : k < fs.length) (hf : ex_fit ty v)
    (hl : ∃ Cn T N, ec_cl[ci]? = some (Cn, T, N) ∧ k < N ∧ Cond.fieldLink own ix (T k).1 (T k).2.1 (T k).2.2.1 ∈ ec_tb ∧ parseFieldDescriptor (T k).2.2.1 = some ty ∧ (T k).2.2.2 = true ∧ (T k).1 = own)
    (kk : ex_T p l e R s m args below meth c D ad ca n0 nL A kc ks Qw (pc + 3) lv r (cs.set a (.inr (ci, fs.set k v)))) : ex_T p l e R s m args below meth c D ad ca n0 nL A kc ks Qw pc lv (v :: .ref a :: r) cs := by
  obtain ⟨hx, hb, hml, hown, hts, hr, hlk, hD, hK, hX, hZ, hAe, hR1, hR2, hxt, hNw⟩ := C
  obtain ⟨Cn, T, N, h1, h2, h3, h4, h5, h6⟩ := hl
  obtain ⟨hin, ty0, hty, hnm⟩ := ec_clok h1
  intro ls H locs G
  refine va_putF (D := D) (ci := ci) (v := ex_v ad v) (ty := ty) (C := Cn) (T := T) (N := N) (rest := r.map (ex_v ad)) hx hb hts hin ty0 hty hnm hown hK G.2.2.1 (hD.va G.1) G.2.2.2 a (ex_w_get ho) h1 k h2 (hts _ h3) (fun _ h9 => h9) h5 hin2 h6 h4 hf.ok.1 hf.ok.2 (by rw [List.length_map]; exact hkl) hd (fun H1 locs1 hP1 hD1 hS1 => ?_)
  refine kk ls H1 locs1 ⟨by rw [List.length_set]; exact G.1, G.2.1, ?_, hS1⟩
  rw [← ex_w_set]
  show va_P D ec_cl ((ex_w ad ca cs).set a (ad a, .inr (ci, (fs.set k v).map (ex_v ad)))) H1
  rw [List.map_set]
  exact hP1
theorem ex_s_objInit (C : ex_Cx xt p R s m args meth c D ad ca n0 nL fr lo A cc ret own) {pc : Nat} {lv : ex_L} {cs : ex_C} {ix a : Nat} {r : ex_V} (hd : decode cc pc = .ok (.invokespecial ix, 3)) (h1 : Cond.methodLink own ix Lib.objectInit ∈ ec_tb) (h2 : Cond.instanceMethod Lib.objectInit ∈ ec_tb) (h3 : Cond.code Lib.objectInit ⟨#[0xb1]⟩ 1 none ∈ ec_tb) (hfr : 1 ≤ fr) (hlo : 8 + 12 ≤ lo) (hsum : (r.map (fun v => v.category)).sum ≤ 8)
    (kk : ex_T p l e R s m args below meth c D ad ca n0 nL A kc ks Qw (pc + 3) lv r cs) : ex_T p l e R s m args below meth c D ad ca n0 nL A kc ks Qw pc lv (.ref a :: r) cs := by
  obtain ⟨hx, hb, hml, hown, hts, hr, hlk, hD, hK, hX, hZ, hAe, hR1, hR2, hxt, hNw⟩ := C
  intro ls H locs G
  have hcat : ((r.map (ex_v ad)).map fun v => v.category).sum ≤ 8 := by
    rw [List.map_map]
    have : ((fun v : Value => v.category) ∘ ex_v ad) = (fun v => v.category) := by funext v; exact ex_v_cat ad v
    rw [this]
    exact hsum
  refine W.objInit (rest := r.map (ex_v ad)) hx hb hown (hts _ h1) (hts _ h2) (hts _ h3) rfl (by rw [hml]; exact G.2.1.1) rfl hd (Nat.le_trans hfr hR1) ?_ (kk ls H locs G)
  have h9 := lv_room (m := m) (pc := pc) (ls := ls) (rest := (Value.ref a :: r).map (ex_v ad)) hcat
  exact Nat.le_trans (Nat.add_le_add_right h9 12) (Nat.le_trans hlo hR2)
end EXN
end
section
/-! CONSTRUCTORS' CONTRACTS -/
abbrev ex_SN : Type := ex_V → ex_C → (ex_C → Prop) → Prop
theorem ex_v_agree {ad ad' : Nat → Nat} {n : Nat} {v : Value} (h : ex_cv n v = true) (ha : ∀ k, k < n ∨ 1000 ≤ k → ad' k = ad k) : ex_v ad' v = ex_v ad v := by
  cases v with
  | ref k =>
    have hk : k < n := by simpa [ex_cv] using h
    show Value.ref (ad' k) = Value.ref (ad k)
    rw [ha k (Or.inl hk)]
  | _ => rfl
def ex_QN (D : va_G) (ad ca : Nat → Nat) (Q : ex_C → Prop) (n : Nat) (A : Nat → Prop) : Array Value → State → Outcome → State → Prop := fun _ st oc t => (∃ (cs' : ex_C) (ad' : Nat → Nat), oc = .returned none ∧ Q cs' ∧ (∀ k, k < n ∨ 1000 ≤ k → ad' k = ad k) ∧ va_P D ec_cl (ex_w ad' ca cs') t.heap ∧ ex_D ad' cs'.length A) ∧ va_F A st t
def ex_MetN (l : Launch) (y : MethodName) (bytes : ByteArray) (maxL fr lo mc ms : Nat) (sp : ex_SN) : Prop :=
  ∀ (D : va_G) (ad ca : Nat → Nat) (sz : Nat) (av : ex_V) (cs : ex_C) (Q : ex_C → Prop), sp av cs Q →
    Met l y (.code y bytes maxL none :: ec_tb) { frames := fr, cells := mc, slots := ms, locals := lo } (ex_Pc D ad ca av cs cs.length sz) (ex_QN D ad ca Q cs.length (ex_A ad cs.length sz)) mc ms (ex_A ad cs.length sz)
/-- a constructor's own callee: none is Object's -/
abbrev ex_J : Type := (Nat → Option (Nat × List Value × Nat)) × (Nat → Option (Option (Nat × Nat × Nat × ex_SN)))
def ex_wn (cx : ex_K) (al : ex_J) (cc : ByteArray) (mc ms : Nat) (Q : ex_C → Nat → Nat → Prop) : Nat → Nat → ex_L → ex_V → ex_C → Nat → Nat → Prop
  | 0, _, _, _, _, _, _ => False
  | n + 1, pc, lv, st, cs, kc, ks => match decode cc pc with
    | .ok (.new ix, len) => len = 3 ∧ ex_o (al.1 ix) (fun q => ex_clo cs.length lv st cs = true ∧ kc + 1 ≤ mc ∧ ks + q.2.2 ≤ ms ∧ ex_wn cx al cc mc ms Q n (pc + 3) lv (.ref cs.length :: st) (cs ++ [.inr (q.1, q.2.1)]) (kc + 1) (ks + q.2.2))
    | .ok (.newarray t, len) => len = 2 ∧ ex_o (ex_at t) (fun tag => ex_i1 st (fun x r => ¬ x < 0 ∧ x.toNatClampNeg ≤ 1000 ∧ ex_clo cs.length lv r cs = true ∧ kc + 1 ≤ mc ∧ ks + x.toNatClampNeg ≤ ms ∧ ex_wn cx al cc mc ms Q n (pc + 2) lv (.ref cs.length :: r) (cs ++ [.inl (tag, x.toNatClampNeg, .inl (fun _ => 0))]) (kc + 1) (ks + x.toNatClampNeg)))
    | .ok (.invokespecial ix, len) => len = 3 ∧ ex_o (al.2 ix) (fun o => match o with
      | none => ex_r1 st (fun _ r => (r.map (fun v => v.category)).sum ≤ 8 ∧ ex_wn cx al cc mc ms Q n (pc + 3) lv r cs kc ks)
      | some q => q.1 ≤ st.length ∧ ((st.drop q.1).map (fun v => v.category)).sum ≤ 8 ∧ ex_clo cs.length lv st cs = true ∧ kc + q.2.1 ≤ mc ∧ ks + q.2.2.1 ≤ ms ∧ ex_o (st[q.1 - 1]?) (fun v => match v with
        | .ref _ => q.2.2.2 (st.take q.1).reverse cs (fun cs' => cs.length ≤ cs'.length ∧ ex_wn cx al cc mc ms Q n (pc + 3) lv (st.drop q.1) cs' (kc + q.2.1) (ks + q.2.2.1))
        | _ => False))
    | .ok (.putfield ix, len) => len = 3 ∧ ex_vr st (fun v a r => ex_o (cx.2.1 ix) (fun q => ex_ob cs a q.1 (fun fs => q.2.1 < fs.length ∧ ex_fit q.2.2.2 v ∧ ex_wn cx al cc mc ms Q n (pc + 3) lv r (cs.set a (.inr (q.1, fs.set q.2.1 v))) kc ks)))
    | .ok (.return_, len) => len = 1 ∧ st = [] ∧ Q cs kc ks
    | .ok (i, len) => ex_i ec_xt cx none (fun _ _ => False) i len pc lv st cs (fun pc' lv' st' cs' => ex_wn cx al cc mc ms Q n pc' lv' st' cs' kc ks)
    | .error _ => False
/-- what the tables say of a constructor's links; mc, ms: the most that it makes -/
def ex_nok (l : Launch) (fr lo mc ms : Nat) (cx : ex_K) (al : ex_J) : Prop :=
  (∀ (ix ci : Nat) (fs : List Value) (N : Nat), al.1 ix = some (ci, fs, N) → ∃ Cn T, ∃ ty : Nat → FieldType, ec_cl[ci]? = some (Cn, T, N) ∧ Cond.classLink cx.1 ix Cn ∈ ec_tb ∧ Cond.instantiable Cn N ∈ ec_tb ∧ Cond.initialized Cn ∈ ec_tb ∧ (∀ k, k < N → parseFieldDescriptor (T k).2.2.1 = some (ty k)) ∧ (∀ j, j < N → defaultValue (ty j) = vp_V fs j) ∧ fs.all (ex_cv 0) = true) ∧
  (∀ ix, al.2 ix = some none → Cond.methodLink cx.1 ix Lib.objectInit ∈ ec_tb ∧ Cond.instanceMethod Lib.objectInit ∈ ec_tb ∧ Cond.code Lib.objectInit ⟨#[0xb1]⟩ 1 none ∈ ec_tb ∧ 1 ≤ fr ∧ 8 + 12 ≤ lo) ∧
  (∀ ix n mc' ms' sp, al.2 ix = some (some (n, mc', ms', sp)) → ∃ (y : MethodName) (bytes : ByteArray) (maxL fr' lo' : Nat), fr' + 1 ≤ fr ∧ 8 + (maxL + 11) + lo' ≤ lo ∧ ex_MetN l y bytes maxL fr' lo' mc' ms' sp ∧ Cond.code y bytes maxL none ∈ ec_tb ∧ Cond.initialized y.cls ∈ ec_tb ∧ (y.cls ≠ "java/lang/invoke/MethodHandle" ∧ y.cls ≠ "java/lang/invoke/VarHandle") ∧
    (Cond.methodLink cx.1 ix y ∈ ec_tb ∨ ∃ host, (cx.1, ix, y, host) ∈ ec_ns) ∧ y.name = "<init>" ∧ Cond.instanceMethod y ∈ ec_tb ∧ 1 ≤ n ∧ (parseMethodDescriptor y.desc).map (fun d => d.parameters.length) = some (n - 1)) ∧
  (∀ (ix ci k : Nat) (b : Bool) (ty : FieldType), cx.2.1 ix = some (ci, k, b, ty) → ∃ C T N, ec_cl[ci]? = some (C, T, N) ∧ k < N ∧ Cond.fieldLink cx.1 ix (T k).1 (T k).2.1 (T k).2.2.1 ∈ ec_tb ∧ parseFieldDescriptor (T k).2.2.1 = some ty ∧ ((T k).2.2.2 = false ∨ (T k).2.2.2 = true ∧ (T k).1 = cx.1)) ∧
  (Cond.arrayClass .int ∈ ec_tb ∧ Cond.arrayClass .boolean ∈ ec_tb)
section EXO
variable {p : Program} {l : Launch} {e : Env} {R : Room} {s : State} {m : MethodId} {args : Array Value} {below : List Frame} {meth : Method} {c : Code}
variable {D : va_G} {ca : Nat → Nat} {nL fr lo : Nat} {A : Nat → Prop} {cc : ByteArray} {Qw : State → Prop} {ret : Option FieldType} {own : String}
theorem ex_s_special {ad : Nat → Nat} {n0 kc ks : Nat} (C : ex_Cx ec_xt p R s m args meth c D ad ca n0 nL fr lo A cc ret own) {pc : Nat} {lv : ex_L} {cs : ex_C} {ix n a mc ms : Nat} {sp : ex_SN} {as r : ex_V} {Qk : ex_C → Prop} (hd : decode cc pc = .ok (.invokespecial ix, 3)) (hlen : cs.length = n0) (hclo : ex_clo n0 lv r cs = true) (hrc : kc + mc ≤ R.cells ∧ ks + ms ≤ R.slots)
    (hcok : ∃ (y : MethodName) (bytes : ByteArray) (maxL fr' lo' : Nat), fr' + 1 ≤ fr ∧ 8 + (maxL + 11) + lo' ≤ lo ∧ ex_MetN l y bytes maxL fr' lo' mc ms sp ∧ Cond.code y bytes maxL none ∈ ec_tb ∧ Cond.initialized y.cls ∈ ec_tb ∧ (y.cls ≠ "java/lang/invoke/MethodHandle" ∧ y.cls ≠ "java/lang/invoke/VarHandle") ∧
      (Cond.methodLink own ix y ∈ ec_tb ∨ ∃ host, (own, ix, y, host) ∈ ec_ns) ∧ y.name = "<init>" ∧ Cond.instanceMethod y ∈ ec_tb ∧ 1 ≤ n ∧ (parseMethodDescriptor y.desc).map (fun d => d.parameters.length) = some (n - 1)) (hn : as.length + 1 = n) (hsum : (r.map (fun v => v.category)).sum ≤ 8)
    (hsp : sp (.ref a :: as) cs Qk) (kk : ∀ (cs' : ex_C) (ad' : Nat → Nat), Qk cs' → (∀ k, k < n0 ∨ 1000 ≤ k → ad' k = ad k) → ex_Cx ec_xt p R s m args meth c D ad' ca cs'.length nL fr lo A cc ret own → ex_T p l e R s m args below meth c D ad' ca cs'.length nL A (kc + mc) (ks + ms) Qw (pc + 3) lv r cs') : ex_T p l e R s m args below meth c D ad ca n0 nL A kc ks Qw pc lv (as.reverse ++ .ref a :: r) cs := by
  intro ls H locs G
  have hst := ex_start (av := .ref a :: as) C G.1 G.2.2.1 G.2.2.2
  have C' := C
  obtain ⟨hx, hb, hml, hown, hts, hr, hlk, hD, hK, hX, hZ, hAe, hR1, hR2, hxt, hNw⟩ := C
  obtain ⟨y, bytes, maxL, fr', lo', hd', hmx, hM, hcode, hini, hy, hlink, hyn, hinst, -, hpar⟩ := hcok
  subst hlen
  have hM := hM D ad ca H.size (.ref a :: as) cs Qk hsp
  have hroom : fr' + 1 ≤ R.frames ∧ 8 + (maxL + 11) + lo' ≤ R.locals := ⟨Nat.le_trans hd' hR1, Nat.le_trans hmx hR2⟩
  have hp : PreS s H (ex_Pc D ad ca (.ref a :: as) cs cs.length H.size) (.ref (ad a) :: as.map (ex_v ad)) := ⟨ex_blind, hst⟩
  have hstack : (as.reverse ++ Value.ref a :: r).map (ex_v ad) = (as.map (ex_v ad)).reverse ++ Value.ref (ad a) :: r.map (ex_v ad) := by simp [ex_v]
  have hlen2 : (as.map (ex_v ad)).length = n - 1 := by rw [List.length_map]; omega
  have hcat : ((r.map (ex_v ad)).map fun v => v.category).sum ≤ 8 := by
    rw [List.map_map]
    have : ((fun v : Value => v.category) ∘ ex_v ad) = (fun v => v.category) := by funext v; exact ex_v_cat ad v
    rw [this]
    exact hsum
  simp only [ex_clo, Bool.and_eq_true, decide_eq_true_eq] at hclo
  obtain ⟨⟨⟨c1, c2⟩, c3⟩, c4⟩ := hclo
  rw [hstack]
  have hsub : ∀ q, ex_A ad cs.length H.size q → A q := by
    intro q h
    rcases h with h | h
    · exact hAe q (Or.inl h)
    · exact hAe q (Or.inr (Nat.le_trans G.2.2.2.1 h))
  have fin : va_Run p l e R s m args below meth c H locs kc ks mc ms (F0 m pc ls ((as.map (ex_v ad)).reverse ++ Value.ref (ad a) :: r.map (ex_v ad))) (r.map (ex_v ad)) (ex_QN D ad ca Qk cs.length (ex_A ad cs.length H.size) (Value.ref (ad a) :: as.map (ex_v ad)).toArray) (ex_A ad cs.length H.size) → W p l e R s m args below meth c H locs kc ks Qw (F0 m pc ls ((as.map (ex_v ad)).reverse ++ Value.ref (ad a) :: r.map (ex_v ad))) := by
    intro hr T hT X
    obtain ⟨v, st₀, t, T', L, h0, X', hL, e1, e2, ⟨⟨cs', ad', hv, hq, hag, hP', hD'⟩, hz, hk⟩, st⟩ := hr T hT X
    cases hv
    rw [h0] at hz hk
    have C2 : ex_Cx ec_xt p R s m args meth c D ad' ca cs'.length nL fr lo A cc ret own := by
      refine ⟨hx, hb, hml, hown, hts, by assumption, hlk, ⟨hD'.1, fun k hk => hsub _ (hD'.2 k hk)⟩, hK, fun j n f hj => ?_, fun Cn n dd j hj => ?_, fun x h => ?_, hR1, hR2, hxt, hNw⟩
      · rw [hag _ (Or.inr (Nat.le_add_right 1000 j))]; exact hX j n f hj
      · rw [hag _ (Or.inr (Nat.le_add_right 1000 j))]; exact hZ Cn n dd j hj
      · rcases h with ⟨k, hk, rfl⟩ | h
        · exact hsub _ (hD'.2 k hk)
        · exact hAe x (Or.inr h)
    have hl2 : ex_ls ad' lv nL ls := by
      refine ⟨G.2.1.1, G.2.1.2.1, G.2.1.2.2.1, fun i v hi => ?_⟩
      have h2 : ex_cv cs.length v = true := List.all_eq_true.mp c1 (some v) (List.mem_of_getElem? hi)
      rw [ex_v_agree h2 hag]
      exact G.2.1.2.2.2 i v hi
    have hst2 : r.map (ex_v ad') = r.map (ex_v ad) := List.map_congr_left (fun v hv => ex_v_agree (List.all_eq_true.mp c2 v hv) hag)
    have k2 := kk cs' ad' hq hag C2 ls T'.heap (locs ++ L) ⟨rfl, hl2, by rw [e1]; exact hP', Nat.le_trans G.2.2.2.1 (by rw [e1]; exact hz), fun q h1 h2 => by rw [e1, hk q (Nat.lt_of_lt_of_le h1 G.2.2.2.1) (fun z => h2 (hsub q z))]; exact G.2.2.2.2.1 q h1 h2, fun q hq => by
      rcases List.mem_append.mp hq with h | h
      · exact G.2.2.2.2.2 q h
      · exact hsub _ (hL q h)⟩
    rw [hst2] at k2
    obtain ⟨t2, a1, b1⟩ := k2 T' rfl X'
    exact ⟨t2, st t2 a1, b1⟩
  rcases hlink with hlink | ⟨host, hlink⟩
  · exact fin (va_runI (n := n - 1) ⟨hx, hb, hml, hown, hts⟩ hM ⟨callB_of (n - 1) hts (ex_good hcode) rfl rfl rfl (hts _ hini) (hts _ hlink) ⟨hy.1, hy.2, hpar⟩ hroom, hyn, hts _ hinst⟩ hp rfl hlen2 G.2.1.1 rfl (lv_room hcat) hd hrc)
  · exact fin (va_runIN (n := n - 1) ⟨hx, hb, hml, hown, hts⟩ hM ⟨va_cnB (n - 1) hts (ex_good hcode) rfl rfl rfl (hNw _ hlink) (hts _ hini) ⟨hy.1, hy.2, hpar⟩ hroom, hyn, hts _ hinst⟩ hp rfl hlen2 G.2.1.1 rfl (lv_room hcat) hd hrc)
end EXO
section EXP
variable {p : Program} {l : Launch} {e : Env} {R : Room} {s : State} {m : MethodId} {args : Array Value} {below : List Frame} {meth : Method} {c : Code}
variable {D : va_G} {ca : Nat → Nat} {nL fr lo mc ms : Nat} {A : Nat → Prop} {cc : ByteArray} {Qw : State → Prop}
theorem ex_T_len {ad : Nat → Nat} {n0 kc ks pc : Nat} {lv : ex_L} {st : ex_V} {cs : ex_C} (h : cs.length = n0 → ex_T p l e R s m args below meth c D ad ca n0 nL A kc ks Qw pc lv st cs) : ex_T p l e R s m args below meth c D ad ca n0 nL A kc ks Qw pc lv st cs := fun ls H locs G => h G.1 ls H locs G
theorem ex_drop_all {n k : Nat} {st : ex_V} (h : st.all (ex_cv n) = true) : (st.drop k).all (ex_cv n) = true := List.all_eq_true.mpr (fun v hv => List.all_eq_true.mp h v (List.mem_of_mem_drop hv))
set_option maxHeartbeats 4000000 in
theorem ex_wn_sound {cx : ex_K} {al : ex_J} {Q : ex_C → Nat → Nat → Prop} {ad0 : Nat → Nat} {n00 : Nat} (hin2 : meth.name = "<init>") (hok : ex_ok l fr lo cx) (hnok : ex_nok l fr lo mc ms cx al) (hA : ∀ x, s.heap.size ≤ x → A x) (hR : mc ≤ R.cells ∧ ms ≤ R.slots)
    (hV : ∀ ad n0 pc lv cs kc ks, decode cc pc = .ok (.return_, 1) → Q cs kc ks → kc ≤ mc ∧ ks ≤ ms → (∀ k, k < n00 ∨ 1000 ≤ k → ad k = ad0 k) → ex_Cx ec_xt p R s m args meth c D ad ca n0 nL fr lo A cc none cx.1 → ex_T p l e R s m args below meth c D ad ca n0 nL A kc ks Qw pc lv [] cs) :
    ∀ n pc lv st cs kc ks, ex_wn cx al cc mc ms Q n pc lv st cs kc ks → kc ≤ mc ∧ ks ≤ ms → ∀ ad n0, n00 ≤ n0 → (∀ k, k < n00 ∨ 1000 ≤ k → ad k = ad0 k) → ex_Cx ec_xt p R s m args meth c D ad ca n0 nL fr lo A cc none cx.1 → ex_T p l e R s m args below meth c D ad ca n0 nL A kc ks Qw pc lv st cs := by
  intro n
  induction n with
  | zero => intro pc lv st cs kc ks h; exact False.elim h
  | succ n ih =>
    intro pc lv st cs kc ks h hk ad n0 hn0 hag C
    refine ex_T_len (fun hlen => ?_)
    unfold ex_wn at h
    split at h
    · rename_i ix len hd
      obtain ⟨rfl, h⟩ := h
      obtain ⟨⟨ci, fs, N⟩, hq, hcl, hk1, hk2, h⟩ := ex_o.at h
      obtain ⟨Cn, T, ty, g1, g2, g3, g4, g5, g6, g7⟩ := hnok.1 _ _ _ _ hq
      have c4 : n0 < 1000 := by
        simp only [ex_clo, Bool.and_eq_true, decide_eq_true_eq] at hcl
        rw [← hlen]; exact hcl.2
      refine ex_s_new C hd hA (by rw [← hlen]; exact hcl) hlen g1 g2 g3 g4 g5 g6 g7 ⟨Nat.le_trans hk1 hR.1, Nat.le_trans hk2 hR.2⟩ (fun q C2 => ?_)
      rw [hlen] at h
      refine ih _ _ _ _ _ _ h ⟨hk1, hk2⟩ _ _ (Nat.le_succ_of_le hn0) (fun k hk => ?_) C2
      unfold ex_ext
      rw [if_neg (by omega)]
      exact hag k hk
    · rename_i t len hd
      obtain ⟨rfl, h⟩ := h
      obtain ⟨tag, ht, h⟩ := ex_o.at h
      obtain ⟨x, r, rfl, hx0, hx1, hcl, hk1, hk2, h3⟩ := ex_i1.at h
      have c4 : n0 < 1000 := by
        simp only [ex_clo, Bool.and_eq_true, decide_eq_true_eq] at hcl
        rw [← hlen]; exact hcl.2
      refine ex_s_newarray C hd hA (by rw [← hlen]; exact hcl) hlen ht hx0 rfl hx1 hnok.2.2.2.2 ⟨Nat.le_trans hk1 hR.1, Nat.le_trans hk2 hR.2⟩ (fun q C2 => ?_)
      rw [hlen] at h3
      refine ih _ _ _ _ _ _ h3 ⟨hk1, hk2⟩ _ _ (Nat.le_succ_of_le hn0) (fun k hk => ?_) C2
      unfold ex_ext
      rw [if_neg (by omega)]
      exact hag k hk
    · rename_i ix len hd
      obtain ⟨rfl, h⟩ := h
      obtain ⟨o, hq, h⟩ := ex_o.at h
      cases o with
      | none =>
        obtain ⟨a, r, rfl, hsum, h3⟩ := ex_r1.at h
        obtain ⟨g1, g2, g3, g4, g5⟩ := hnok.2.1 _ hq
        exact ex_s_objInit C hd g1 g2 g3 g4 g5 hsum (ih _ _ _ _ _ _ h3 hk _ _ hn0 hag C)
      | some q =>
        obtain ⟨nn, mc', ms', sp⟩ := q
        obtain ⟨hn, hsum, hcl, hk1, hk2, h⟩ := h
        obtain ⟨v, hv, h⟩ := ex_o.at h
        split at h
        · rename_i a
          have hcok := hnok.2.2.1 _ _ _ _ _ hq
          have hn1 : 1 ≤ nn := by
            obtain ⟨y, bytes, maxL, fr', lo', -, -, -, -, -, -, -, -, -, h1, -⟩ := hcok
            exact h1
          obtain ⟨e1, e2⟩ := ex_split hn hn1 hv
          dsimp only at h hk1 hk2 hsum
          rw [e2] at h
          have hcl2 : ex_clo n0 lv (st.drop nn) cs = true := by
            simp only [ex_clo, Bool.and_eq_true, decide_eq_true_eq] at hcl ⊢
            rw [← hlen]
            exact ⟨⟨⟨hcl.1.1.1, ex_drop_all hcl.1.1.2⟩, hcl.1.2⟩, hcl.2⟩
          have goal := ex_s_special (e := e) (below := below) (Qw := Qw) (l := l) C hd hlen hcl2 ⟨Nat.le_trans hk1 hR.1, Nat.le_trans hk2 hR.2⟩ hcok (by rw [List.length_reverse, List.length_take]; omega) hsum h (fun cs' ad' hq' hag' C2 => by
            refine ih _ _ _ _ _ _ hq'.2 ⟨hk1, hk2⟩ _ _ ?_ (fun k hk => ?_) C2
            · exact Nat.le_trans hn0 (by rw [← hlen]; exact hq'.1)
            · rw [hag' k (hk.imp (fun h => Nat.lt_of_lt_of_le h hn0) id)]
              exact hag k hk)
          rw [← e1] at goal
          exact goal
        · exact h.elim
    · rename_i ix len hd
      obtain ⟨rfl, h⟩ := h
      obtain ⟨v, a, r, rfl, h3⟩ := ex_vr.at h
      obtain ⟨⟨ci, k, b, ty⟩, hq, h3⟩ := ex_o.at h3
      obtain ⟨fs, ho, hl, hf, h3⟩ := ex_ob.at h3
      obtain ⟨Cn, T, N, g1, g2, g3, g4, g5⟩ := hnok.2.2.2.1 _ _ _ _ _ hq
      have k2 := ih _ _ _ _ _ _ h3 hk ad n0 hn0 hag C
      rcases g5 with g5 | ⟨g5, g6⟩
      · exact ex_s_putfield C hd ho hl hf ⟨Cn, T, N, g1, g2, g3, g4, g5⟩ k2
      · exact ex_s_putfinal C hin2 hd ho hl hf ⟨Cn, T, N, g1, g2, g3, g4, g5, g6⟩ k2
    · rename_i len hd
      obtain ⟨rfl, rfl, h⟩ := h
      exact hV ad n0 pc lv cs kc ks hd h hk hag C
    · rename_i i len hne1 hne2 hne3 hne4 hne5 hd
      exact ex_i_sound C hok ⟨Nat.le_trans hk.1 hR.1, Nat.le_trans hk.2 hR.2⟩ (fun _ _ _ _ _ _ h => False.elim h) (fun _ _ _ _ _ h => False.elim h) hd h (fun pc' lv' st' cs' h' => ih _ _ _ _ _ _ h' hk _ _ hn0 hag C)
    · exact False.elim h
end EXP
/-- a constructor's contract out of its walk -/
theorem ex_metN {l : Launch} {y : MethodName} {cc : ByteArray} {maxL fr lo mc ms fuel : Nat} {cx : ex_K} {al : ex_J} {sp : ex_SN} (hy : plainName y.cls = true) (hyn : y.name = "<init>") (hown : cx.1 = y.cls) (hok : ex_ok l fr lo cx) (hnok : ex_nok l fr lo mc ms cx al)
    (h : ∀ av cs Q, sp av cs Q → (∀ w ∈ av, w.category = 1) ∧ av.length ≤ maxL ∧ ex_wn cx al cc mc ms (fun cs' _ _ => Q cs') fuel 0 (ex_l0 av maxL) [] cs 0 0) : ex_MetN l y cc maxL fr lo mc ms sp := by
  intro D ad ca sz av cs Q hsp
  obtain ⟨hcat, hlen, hT⟩ := h av cs Q hsp
  refine Met.ofW (cc := cc) (maxL := maxL) (ret := none) hy rfl ?_
  intro p e s m args below meth c s₁ B hml hv
  obtain ⟨rfl, hsz, hn, hP, hD, hK, hX, hZ, hNw0⟩ := hv
  subst hsz
  have hts0 := atoms_spec (ws := .code y cc maxL none :: ec_tb) B.pre
  have hin2 : meth.name = "<init>" := ((name_of_methodNamed B.named B.method).1).trans hyn
  have hcx : ex_Cx ec_xt p (headSpec (.code y cc maxL none :: ec_tb) { frames := fr, cells := mc, slots := ms, locals := lo }).room s m ((av.map (ex_v ad)).toArray) meth c D ad ca cs.length maxL fr lo (ex_A ad cs.length s.heap.size) cc none cx.1 :=
    ⟨B.exec, B.bytes, hml, by rw [hown]; exact findClass_of_methodNamed B.named, fun w hw => hts0 w (List.mem_cons_of_mem _ hw), B.returns, B.notSynchronized, hD, hK, hX, hZ, fun _ h => h, Nat.le_refl _, Nat.le_refl _, fun _ _ h => h, hNw0⟩
  have hcat' : ∀ w ∈ av.map (ex_v ad), w.category = 1 := by
    intro w hw
    obtain ⟨v, hv, rfl⟩ := List.mem_map.mp hw
    rw [ex_v_cat]
    exact hcat v hv
  have hsl := ex_sl_len _ hcat'
  rw [List.length_map] at hsl
  have hl := lv_entry (av.map (ex_v ad)) (n := maxL) (by rw [hsl]; exact hlen)
  rw [lg_entry_eq]
  have hT2 := ex_wn_sound (e := e) (below := below) (Qw := MQ below (ex_QN D ad ca Q cs.length (ex_A ad cs.length s.heap.size)) ((av.map (ex_v ad)).toArray) s mc ms (ex_A ad cs.length s.heap.size)) (ad0 := ad) (n00 := cs.length) hin2 hok hnok (fun x h => Or.inr h) ⟨Nat.le_refl _, Nat.le_refl _⟩ (fun ad' n0 pc lv cs' kc ks hd hq hk hag C2 => by
    intro ls H locs G
    obtain ⟨hx, hb, hml, hown, hts, hr, hlk, hD2, hK2, hX2, hZ2, hAe, hR1, hR2, hxt, hNw⟩ := C2
    refine W.widen (k := mc) (n := ms) hk.1 hk.2 ?_
    exact W.vret hx hb hr (fun t ht hW => ⟨⟨cs', ad', rfl, hq, hag, by rw [ht]; exact G.2.2.1, by rw [G.1]; exact hD2⟩, G.2.2.2.F ht⟩) G.2.2.2.2.2 hd hlk) fuel 0 (ex_l0 av maxL) [] cs 0 0 hT ⟨Nat.zero_le _, Nat.zero_le _⟩ ad cs.length (Nat.le_refl _) (fun _ _ => rfl) hcx
  refine hT2 _ s.heap [] ⟨rfl, ⟨hl.1, hl.2.1, ?_, ?_⟩, hP, va_S.rf⟩
  · unfold ex_l0
    rw [List.length_append, List.length_map, List.length_replicate]
    omega
  · intro i v hi
    unfold ex_l0 at hi
    by_cases hia : i < av.length
    · rw [List.getElem?_append_left (by rw [List.length_map]; exact hia), List.getElem?_map] at hi
      cases hav : av[i]? with
      | none => rw [hav] at hi; cases hi
      | some w =>
        rw [hav] at hi
        have hw : w = v := Option.some.inj (Option.some.inj hi)
        subst hw
        have := ex_args_mem (av.map (ex_v ad)) 0 i (ex_v ad w) hcat' (by rw [List.getElem?_map, hav]; rfl)
        rw [Nat.zero_add] at this
        exact hl.2.2 (i, ex_v ad w) this
    · rw [List.getElem?_append_right (by rw [List.length_map]; omega), List.getElem?_replicate] at hi
      split at hi <;> cases hi
end
section
/-- a method with loops: there are invariants with which its walk goes through -/
def ex_sl (cx : ex_K) (cc : ByteArray) (maxL : Nat) (ret : Option FieldType) : ex_S := fun av cs Q => av.all (fun w => w.category == 1) = true ∧ av.length ≤ maxL ∧ ∃ (fuel : Nat) (I : Nat → Option (Nat → ex_L → ex_V → ex_C → Prop)), ex_wp ec_xt cx cc ret (fun pc => (I pc).map (fun J lv st cs => ∃ n, J n lv st cs)) Q fuel 0 (ex_l0 av maxL) [] cs ∧ ∀ pc J n lv st cs, I pc = some J → J n lv st cs → ex_wp ec_xt cx cc ret (fun pc' => (I pc').map (fun J' lv st cs => ∃ n', n' < n ∧ J' n' lv st cs)) Q fuel pc lv st cs
theorem ex_lmet {l : Launch} {y : MethodName} {cc : ByteArray} {maxL : Nat} {ret : Option FieldType} {fr lo : Nat} {cx : ex_K} (hy : plainName y.cls = true) (hown : cx.1 = y.cls) (hok : ex_ok l fr lo cx) : ex_Met l y cc maxL ret fr lo (ex_sl cx cc maxL ret) := by
  refine ex_met hy (fun av cs Q h => ?_)
  obtain ⟨h1, h2, fuel, I, h3, h4⟩ := h
  refine ⟨fun w hw => by simpa using List.all_eq_true.mp h1 w hw, h2, fun p e R s m args below meth c D ad ca n0 A C => ?_⟩
  rw [← hown] at C
  refine ex_wp_sound C hok ⟨Nat.zero_le _, Nat.zero_le _⟩ (fun _ _ _ _ hd hr hq => ex_s_ireturn C hd hr hq) (fun _ _ _ hd hr hq => ex_s_return C hd hr hq) (fun pc J lv st cs hJ h => ?_) _ _ _ _ _ h3
  cases hI : I pc with
  | none => rw [hI] at hJ; cases hJ
  | some J0 =>
    rw [hI] at hJ
    cases hJ
    obtain ⟨n, hn⟩ := h
    exact ex_loop C hok ⟨Nat.zero_le _, Nat.zero_le _⟩ (fun _ _ _ _ hd hr hq => ex_s_ireturn C hd hr hq) (fun _ _ _ hd hr hq => ex_s_return C hd hr hq) h4 n pc J0 lv st cs hI hn
theorem sl_in {cx : ex_K} {cc : ByteArray} {maxL : Nat} {ret : Option FieldType} {av : ex_V} {lv : ex_L} {cs : ex_C} {Q : ex_Q} (fuel : Nat) (I : Nat → Option (Nat → ex_L → ex_V → ex_C → Prop)) (h1 : av.all (fun w => w.category == 1) = true) (h2 : av.length ≤ maxL) (hl : ex_l0 av maxL = lv) (h : ex_wp ec_xt cx cc ret (fun pc => (I pc).map (fun J lv st cs => ∃ n, J n lv st cs)) Q fuel 0 lv [] cs) (h4 : ∀ pc J n lv st cs, I pc = some J → J n lv st cs → ex_wp ec_xt cx cc ret (fun pc' => (I pc').map (fun J' lv st cs => ∃ n', n' < n ∧ J' n' lv st cs)) Q fuel pc lv st cs) : ex_sl cx cc maxL ret av cs Q := by
  subst hl
  exact ⟨h1, h2, fuel, I, h, h4⟩
end
section
/-! BOUNDS: a walk over the bounds of values, run by the kernel. A ref is its place. A key names a number of the state: (0, i, _) the variable i; (1, k, j) slot j of place k; (2, k, i) the element of place k at the variable i; (3, i, c) the variable i rem c; (4, 1000 k + j, i) slot j of place k less the variable i; (5, 1000 k + j, i): and the variable i. -/
abbrev ab_Y : Type := Nat × Nat × Nat
abbrev ab_I : Type := Int × Int × Option ab_Y × Option (Nat × Int)
abbrev ab_V : Type := Nat ⊕ (ab_I ⊕ (Int × Int))
abbrev ab_L : Type := List (Option ab_V)
abbrev ab_F : Type := List (ab_Y × Int × Int)
abbrev ab_W : Type := List (Nat × Option Nat)
abbrev ab_T : Type := Nat ⊕ (Int × Int)
abbrev ab_H : Type := (Nat × List ab_T) ⊕ (Nat × Nat × List (Nat × Int × Int))
abbrev ab_Cs : Type := Option (Int × Int) × ab_F × ab_F
abbrev ab_C : Type := List ab_T × ab_F × ab_W × List ab_Cs
abbrev ab_Q : Type := Nat × ab_L × Int × List Int
/-! what they mean -/
def ab_li (lv : ex_L) (i : Nat) : Option Int := match lv[i]? with
  | some (some (.int x)) => some x.toInt
  | _ => none
def ab_rd (cs : ex_C) (k j : Nat) : Option Value := match cs[k]? with
  | some (.inr (_, fs)) => fs[j]?
  | some (.inl (_, _, .inl f)) => some (.int (f j))
  | _ => none
def ab_ri (cs : ex_C) (k j : Nat) : Option Int := match ab_rd cs k j with
  | some (.int x) => some x.toInt
  | _ => none
def ab_kv (lv : ex_L) (cs : ex_C) (y : ab_Y) : Option Int := match y.1 with
  | 0 => ab_li lv y.2.1
  | 1 => ab_ri cs y.2.1 y.2.2
  | 2 => (ab_li lv y.2.2).bind (fun x => if 0 ≤ x then ab_ri cs y.2.1 x.toNat else none)
  | 3 => (ab_li lv y.2.1).map (fun x => x.tmod (y.2.2 : Int))
  | 4 => (ab_ri cs (y.2.1 / 1000) (y.2.1 % 1000)).bind (fun x => (ab_li lv y.2.2).map (fun z => x - z))
  | 5 => (ab_ri cs (y.2.1 / 1000) (y.2.1 % 1000)).bind (fun x => (ab_li lv y.2.2).map (fun z => x + z))
  | _ => none
def ab_ci (o : Nat → Int) (lv : ex_L) (cs : ex_C) (a : ab_I) (x : Int32) : Prop := (a.1 ≤ x.toInt ∧ x.toInt ≤ a.2.1) ∧ (∀ y, a.2.2.1 = some y → ab_kv lv cs y = some x.toInt) ∧ (∀ q, a.2.2.2 = some q → x.toInt = o q.1 + q.2)
def ab_cv (o : Nat → Int) (lv : ex_L) (cs : ex_C) (a : ab_V) (v : Value) : Prop := match a with
  | .inl k => v = .ref k
  | .inr (.inl i) => ∃ x, v = .int x ∧ ab_ci o lv cs i x
  | .inr (.inr l) => ∃ x, v = .long x ∧ l.1 ≤ x.toInt ∧ x.toInt ≤ l.2
def ab_c1 (o : Nat → Int) (a : Option ab_V) (v : Option Value) : Prop := match a with
  | none => ∀ w, v = some w → w.category = 1
  | some (.inl k) => v = some (.ref k)
  | some (.inr (.inl i)) => ∃ x, v = some (.int x) ∧ (i.1 ≤ x.toInt ∧ x.toInt ≤ i.2.1) ∧ (∀ q, i.2.2.2 = some q → x.toInt = o q.1 + q.2)
  | some (.inr (.inr l)) => ∃ x, v = some (.long x) ∧ l.1 ≤ x.toInt ∧ x.toInt ≤ l.2
def ab_cl (o : Nat → Int) (al : ab_L) (lv : ex_L) : Prop := al.length = lv.length ∧ ∀ (i : Nat) a, al[i]? = some a → ∃ v, lv[i]? = some v ∧ ab_c1 o a v
def ab_cst (o : Nat → Int) (lv : ex_L) (cs : ex_C) : List ab_V → ex_V → Prop
  | [], st => st = []
  | a :: r, st => ∃ v t, st = v :: t ∧ ab_cv o lv cs a v ∧ ab_cst o lv cs r t
def ab_cf (lv : ex_L) (cs : ex_C) (fc : ab_F) : Prop := ∀ q ∈ fc, ∃ x, ab_kv lv cs q.1 = some x ∧ q.2.1 ≤ x ∧ x ≤ q.2.2
def ab_sg : List (Nat × Int × Int) → Nat → Int × Int
  | [], _ => (-2147483648, 2147483647)
  | q :: r, j => if j < q.1 then q.2 else ab_sg r (j - q.1)
def ab_ct (t : ab_T) (v : Value) : Prop := match t with
  | .inl k => v = .ref k
  | .inr q => ∃ x : Int32, v = .int x ∧ q.1 ≤ x.toInt ∧ x.toInt ≤ q.2
def ab_ch (h : ab_H) (c : Option va_E) : Prop := match h with
  | .inl q => ∃ fs : List Value, c = some (.inr (q.1, fs)) ∧ fs.length = q.2.length ∧ ∀ (j : Nat) t, q.2[j]? = some t → ∃ v, fs[j]? = some v ∧ ab_ct t v
  | .inr q => ∃ f, c = some (.inl (q.1, q.2.1, .inl f)) ∧ ∀ j, j < q.2.1 → (ab_sg q.2.2 j).1 ≤ (f j).toInt ∧ (f j).toInt ≤ (ab_sg q.2.2 j).2
def ab_hk (hd : List ab_H) (cs : ex_C) : Prop := cs.length = hd.length ∧ ∀ (k : Nat) h, hd[k]? = some h → ab_ch h cs[k]?
def ab_cov (W : ab_W) (k j : Nat) : Bool := W.any (fun w => w.1 == k && (w.2 == none || w.2 == some j))
def ab_fr (W : ab_W) (cs cs' : ex_C) : Prop := ∀ k j, ab_cov W k j = false → ab_rd cs' k j = ab_rd cs k j
def ab_G (hd : List ab_H) (W : ab_W) (o : Nat → Int) (cs0 : ex_C) (al : ab_L) (as : List ab_V) (fc : ab_F) (lv : ex_L) (st : ex_V) (cs : ex_C) : Prop := ab_cl o al lv ∧ ab_cst o lv cs as st ∧ ab_cf lv cs fc ∧ ab_hk hd cs ∧ ab_fr W cs0 cs
def ab_pre (c : ab_C) (av : ex_V) (cs : ex_C) : Prop := av.length = c.1.length ∧ (∀ (i : Nat) t, c.1[i]? = some t → ∃ v, av[i]? = some v ∧ ab_ct t v) ∧ ab_cf (av.map some) cs c.2.1
def ab_rt (k : Option (Int × Int)) (r : Option Value) : Prop := match k with
  | none => r = none
  | some q => ∃ x : Int32, r = some (.int x) ∧ q.1 ≤ x.toInt ∧ x.toInt ≤ q.2
def ab_post (hd : List ab_H) (c : ab_C) (av : ex_V) (cs : ex_C) (r : Option Value) (cs' : ex_C) : Prop := ab_hk hd cs' ∧ ab_fr c.2.2.1 cs cs' ∧ ∃ k ∈ c.2.2.2, ab_rt k.1 r ∧ ab_cf (av.map some) [] k.2.1 ∧ ab_cf [] cs' k.2.2
/-- the contract: any of these ways of calling it -/
def ab_sp (hd : List ab_H) (l : List ab_C) : ex_S := fun av cs Q => ∃ c ∈ l, ab_pre c av cs ∧ ab_hk hd cs ∧ ∀ r cs', ab_post hd c av cs r cs' → Q r cs'
/-! the walk -/
def ab_kp (p : ab_Y → Bool) (a : ab_V) : ab_V := match a with
  | .inr (.inl (lo, hi, some y, dl)) => if p y then .inr (.inl (lo, hi, some y, dl)) else .inr (.inl (lo, hi, none, dl))
  | b => b
def ab_nl (k : Nat) (y : ab_Y) : Bool := match y.1 with
  | 0 => y.2.1 != k
  | 1 => true
  | 2 => y.2.2 != k
  | 3 => y.2.1 != k
  | 4 => y.2.2 != k
  | 5 => y.2.2 != k
  | _ => true
def ab_nw (W : ab_W) (y : ab_Y) : Bool := match y.1 with
  | 1 => !ab_cov W y.2.1 y.2.2
  | 2 => W.all (fun w => w.1 != y.2.1)
  | 4 => !ab_cov W (y.2.1 / 1000) (y.2.1 % 1000)
  | 5 => !ab_cov W (y.2.1 / 1000) (y.2.1 % 1000)
  | _ => true
def ab_lk (y : ab_Y) : ab_F → Int → Int → Int × Int
  | [], lo, hi => (lo, hi)
  | q :: r, lo, hi => if q.1 == y then ab_lk y r (max lo q.2.1) (min hi q.2.2) else ab_lk y r lo hi
def ab_top : ab_I := (-2147483648, 2147483647, none, none)
def ab_cn (z : Int) : ab_I := (z, z, none, none)
def ab_rg (lo hi : Int) (dl : Option (Nat × Int)) : ab_I := if -2147483648 ≤ lo ∧ hi ≤ 2147483647 then (lo, hi, none, dl) else ab_top
def ab_dp (dl : Option (Nat × Int)) (c : ab_I) (s : Int) : Option (Nat × Int) := match dl with
  | some q => if c.1 = c.2.1 then some (q.1, q.2 + s * c.1) else none
  | none => none
def ab_add (x y : ab_I) : ab_I := ab_rg (x.1 + y.1) (x.2.1 + y.2.1) (match ab_dp x.2.2.2 y 1 with
  | some q => some q
  | none => ab_dp y.2.2.2 x 1)
def ab_adf (fc : ab_F) (x y : ab_I) : ab_I := match x.2.2.1, y.2.2.1 with
  | some (1, k, j), some (0, i, _) => if -2147483648 ≤ x.1 + y.1 ∧ x.2.1 + y.2.1 ≤ 2147483647 ∧ j < 1000 then ((ab_lk (5, 1000 * k + j, i) fc (x.1 + y.1) (x.2.1 + y.2.1)).1, (ab_lk (5, 1000 * k + j, i) fc (x.1 + y.1) (x.2.1 + y.2.1)).2, some (5, 1000 * k + j, i), none) else ab_top
  | _, _ => ab_add x y
def ab_sub (fc : ab_F) (x y : ab_I) : ab_I := match x.2.2.1, y.2.2.1 with
  | some (1, k, j), some (0, i, _) => if -2147483648 ≤ x.1 - y.2.1 ∧ x.2.1 - y.1 ≤ 2147483647 ∧ j < 1000 then ((ab_lk (4, 1000 * k + j, i) fc (x.1 - y.2.1) (x.2.1 - y.1)).1, (ab_lk (4, 1000 * k + j, i) fc (x.1 - y.2.1) (x.2.1 - y.1)).2, some (4, 1000 * k + j, i), none) else ab_top
  | _, _ => ab_rg (x.1 - y.2.1) (x.2.1 - y.1) (ab_dp x.2.2.2 y (-1))
def ab_mul (x y : ab_I) : ab_I := if y.1 = y.2.1 ∧ 0 ≤ y.1 then ab_rg (x.1 * y.1) (x.2.1 * y.1) none else if x.1 = x.2.1 ∧ 0 ≤ x.1 then ab_rg (y.1 * x.1) (y.2.1 * x.1) none else ab_top
def ab_nz (lo hi : Int) : Bool := decide (0 < lo ∨ hi < 0)
def ab_div (x y : ab_I) : ab_I := if y.1 = y.2.1 ∧ 0 < y.1 ∧ 0 ≤ x.1 then ab_rg (x.1 / y.1) (x.2.1 / y.1) none else ab_top
def ab_rem (fc : ab_F) (x y : ab_I) : ab_I := if y.1 = y.2.1 ∧ 0 < y.1 then
    match x.2.2.1 with
    | some (0, i, _) => ((ab_lk (3, i, y.1.toNat) fc (if 0 ≤ x.1 then 0 else 1 - y.1) (y.1 - 1)).1, (ab_lk (3, i, y.1.toNat) fc (if 0 ≤ x.1 then 0 else 1 - y.1) (y.1 - 1)).2, some (3, i, y.1.toNat), none)
    | _ => (if 0 ≤ x.1 then 0 else 1 - y.1, y.1 - 1, none, none)
  else ab_top
def ab_and (x y : ab_I) : ab_I := if 0 ≤ y.1 then (0, y.2.1, none, none) else if 0 ≤ x.1 then (0, x.2.1, none, none) else ab_top
def ab_or (x y : ab_I) : ab_I := if 0 ≤ x.1 ∧ x.2.1 ≤ 1 ∧ 0 ≤ y.1 ∧ y.2.1 ≤ 1 then (0, 1, none, none) else ab_top
def ab_min (x y : ab_I) : ab_I := (min x.1 y.1, min x.2.1 y.2.1, none, none)
def ab_max (x y : ab_I) : ab_I := (max x.1 y.1, max x.2.1 y.2.1, none, none)
/-- more is known of a key -/
def ab_rf (al : ab_L) (fc : ab_F) (og : Option ab_Y) (lo hi : Int) (k : ab_L → ab_F → Bool) : Bool := if hi < lo then true else match og with
  | none => k al fc
  | some (0, i, _) => (match al[i]? with
    | some (some (.inr (.inl (l, h, g, d)))) => if min h hi < max l lo then true else k (al.set i (some (.inr (.inl (max l lo, min h hi, g, d))))) fc
    | _ => k al fc)
  | some y => k al ((y, lo, hi) :: fc)
def ab_cmp (c : Nat) (a b e f : Int) : (Int × Int) × (Int × Int) := match c with
  | 0 => ((max a e, min b f), (max a e, min b f))
  | 1 => ((if e = f ∧ a = e then a + 1 else a, if e = f ∧ b = e then b - 1 else b), (if a = b ∧ e = a then e + 1 else e, if a = b ∧ f = a then f - 1 else f))
  | 2 => ((a, min b (f - 1)), (max e (a + 1), f))
  | 3 => ((max a e, b), (e, min f b))
  | 4 => ((max a (e + 1), b), (e, min f (b - 1)))
  | _ => ((a, min b f), (max e a, f))
def ab_br (c : Nat) (x y : ab_I) (al : ab_L) (fc : ab_F) (k : ab_L → ab_F → Bool) : Bool := ab_rf al fc x.2.2.1 (ab_cmp c x.1 x.2.1 y.1 y.2.1).1.1 (ab_cmp c x.1 x.2.1 y.1 y.2.1).1.2 (fun al' fc' => ab_rf al' fc' y.2.2.1 (ab_cmp c x.1 x.2.1 y.1 y.2.1).2.1 (ab_cmp c x.1 x.2.1 y.1 y.2.1).2.2 k)
def ab_i1 (as : List ab_V) (k : ab_I → List ab_V → Bool) : Bool := match as with
  | .inr (.inl x) :: r => k x r
  | _ => false
def ab_i2 (as : List ab_V) (k : ab_I → ab_I → List ab_V → Bool) : Bool := match as with
  | .inr (.inl y) :: .inr (.inl x) :: r => k x y r
  | _ => false
def ab_l1 (as : List ab_V) (k : Int × Int → List ab_V → Bool) : Bool := match as with
  | .inr (.inr x) :: r => k x r
  | _ => false
def ab_l2 (as : List ab_V) (k : Int × Int → Int × Int → List ab_V → Bool) : Bool := match as with
  | .inr (.inr y) :: .inr (.inr x) :: r => k x y r
  | _ => false
def ab_r1 (as : List ab_V) (k : Nat → List ab_V → Bool) : Bool := match as with
  | .inl a :: r => k a r
  | _ => false
def ab_ir (as : List ab_V) (k : ab_I → Nat → List ab_V → Bool) : Bool := match as with
  | .inr (.inl i) :: .inl a :: r => k i a r
  | _ => false
def ab_iir (as : List ab_V) (k : ab_I → ab_I → Nat → List ab_V → Bool) : Bool := match as with
  | .inr (.inl x) :: .inr (.inl i) :: .inl a :: r => k x i a r
  | _ => false
def ab_vr (as : List ab_V) (k : ab_V → Nat → List ab_V → Bool) : Bool := match as with
  | v :: .inl a :: r => k v a r
  | _ => false
def ab_c5 (as : List ab_V) (k : ab_I → ab_I → Nat → ab_I → Nat → List ab_V → Bool) : Bool := match as with
  | .inr (.inl n) :: .inr (.inl d) :: .inl a :: .inr (.inl s) :: .inl b :: r => k n d a s b r
  | _ => false
def ab_x1 (as : List ab_V) (k : ab_I → Bool) : Bool := match as with
  | [.inr (.inl x)] => k x
  | _ => false
def ab_rok (ret : Option FieldType) (x : ab_I) : Bool := match ret with
  | some .int => true
  | some .boolean => decide (0 ≤ x.1 ∧ x.2.1 ≤ 1)
  | _ => false
def ab_c (a : ab_V) : Nat := match a with
  | .inr (.inr _) => 2
  | _ => 1
def ab_v1 (as : List ab_V) (k : ab_V → List ab_V → Bool) : Bool := match as with
  | a :: r => decide (ab_c a = 1) && k a r
  | _ => false
def ab_v2 (as : List ab_V) (k : ab_V → ab_V → List ab_V → Bool) : Bool := match as with
  | a :: b :: r => decide (ab_c a = 1) && (decide (ab_c b = 1) && k a b r)
  | _ => false
def ab_to (pc : Nat) (off : Int) (k : Nat → Bool) : Bool := decide (0 ≤ (pc : Int) + off) && k ((pc : Int) + off).toNat
def ab_so (al : ab_L) (i : Nat) : Bool := decide (i < al.length) && match i with
  | 0 => true
  | j + 1 => match al[j]? with
    | some (some (.inr (.inr _))) => false
    | _ => true
def ab_obj (hd : List ab_H) (a ci : Nat) (k : List ab_T → Bool) : Bool := match hd[a]? with
  | some (.inl (c, ts)) => decide (c = ci) && k ts
  | _ => false
/-- the bounds of the element at an index -/
def ab_bd (n : Nat) (sg : List (Nat × Int × Int)) (i : ab_I) : Option (Int × Int) := match sg with
  | [q] => if n ≤ q.1 then some q.2 else none
  | l => if i.1 = i.2.1 then some (ab_sg l i.1.toNat) else none
def ab_arr (hd : List ab_H) (a t : Nat) (i : ab_I) (k : Nat → Int → Int → Bool) : Bool := match hd[a]? with
  | some (.inr (t2, n, sg)) => decide (t2 = t) && (match ab_bd n sg i with
    | some b => k n b.1 b.2
    | none => false)
  | _ => false
/-- an array whose elements have one pair of bounds -/
def ab_ar1 (hd : List ab_H) (a t : Nat) (k : Nat → Int → Int → Bool) : Bool := match hd[a]? with
  | some (.inr (t2, n, [(m, lo, hi)])) => decide (t2 = t) && (decide (n ≤ m) && k n lo hi)
  | _ => false
def ab_idx (i : ab_I) (n : Nat) : Bool := decide (0 ≤ i.1 ∧ i.2.1 < (n : Int))
/-- the key of an element -/
def ab_ek (a : Nat) (i : ab_I) : Option ab_Y := if i.1 = i.2.1 then some (1, a, i.1.toNat) else match i.2.2.1 with
  | some (0, l, _) => some (2, a, l)
  | _ => none
def ab_ld (fc : ab_F) (og : Option ab_Y) (lo hi : Int) : ab_I := match og with
  | none => (lo, hi, none, none)
  | some y => ((ab_lk y fc lo hi).1, (ab_lk y fc lo hi).2, some y, none)
def ab_sub1 (w : Nat × Option Nat) (W : ab_W) : Bool := W.any (fun w' => w'.1 == w.1 && (w'.2 == none || w'.2 == w.2))
def ab_le (a : ab_V) (t : ab_T) : Bool := match a, t with
  | .inl k, .inl k' => decide (k = k')
  | .inr (.inl x), .inr q => decide (q.1 ≤ x.1) && decide (x.2.1 ≤ q.2)
  | _, _ => false
def ab_les : List ab_V → List ab_T → Bool
  | [], [] => true
  | a :: r, t :: s => ab_le a t && ab_les r s
  | _, _ => false
def ab_prf (fc : ab_F) (args : List ab_V) (q : ab_Y × Int × Int) : Bool := match q.1 with
  | (3, i, c) => (match args[i]? with
    | some (.inr (.inl (_, _, some (0, l, _), _))) => fc.any (fun f => f.1 == (3, l, c) && (decide (q.2.1 ≤ f.2.1) && decide (f.2.2 ≤ q.2.2)))
    | _ => false)
  | (1, k, j) => fc.any (fun f => f.1 == (1, k, j) && (decide (q.2.1 ≤ f.2.1) && decide (f.2.2 ≤ q.2.2)))
  | _ => false
def ab_app (args : List ab_V) (k : ab_L → ab_F → Bool) : ab_F → ab_L → ab_F → Bool
  | [], al, fc => k al fc
  | q :: r, al, fc => match q.1 with
    | (0, i, _) => (match args[i]? with
      | some (.inr (.inl x)) => ab_rf al fc x.2.2.1 q.2.1 q.2.2 (fun al' fc' => ab_app args k r al' fc')
      | _ => ab_app args k r al fc)
    | (3, i, c) => (match args[i]? with
      | some (.inr (.inl (_, _, some (0, l, _), _))) => ab_app args k r al (((3, l, c), q.2.1, q.2.2) :: fc)
      | _ => ab_app args k r al fc)
    | _ => ab_app args k r al fc
def ab_rv (r : Option (Int × Int)) : List ab_V := match r with
  | none => []
  | some q => [.inr (.inl (q.1, q.2, none, none))]
/-- a call: the first way that fits -/
def ab_call (W : ab_W) (cs : List ab_C) (args rest : List ab_V) (al : ab_L) (fc : ab_F) (k : ab_L → List ab_V → ab_F → Bool) : Bool := match cs.find? (fun c => ab_les args c.1 && c.2.1.all (ab_prf fc args)) with
  | some c => c.2.2.1.all (fun w => ab_sub1 w W) && c.2.2.2.all (fun s => ab_app (args.map (ab_kp (ab_nw c.2.2.1))) (fun al' fc' => k al' (ab_rv s.1 ++ rest.map (ab_kp (ab_nw c.2.2.1))) (s.2.2.filter (fun q => q.1.1 == 1) ++ fc')) s.2.1 al (fc.filter (fun q => ab_nw c.2.2.1 q.1)))
  | none => false
def ab_sum (as : List ab_V) : Bool := decide ((as.map ab_c).sum ≤ 8)
def ab_fit (ty : FieldType) (v : ab_V) : Bool := match ty, v with
  | .int, .inr (.inl _) => true
  | .long, .inr (.inr _) => true
  | .boolean, .inr (.inl x) => decide (0 ≤ x.1) && decide (x.2.1 ≤ 1)
  | .object _, .inl _ => true
  | .array _, .inl _ => true
  | _, _ => false
def ab_set (al : ab_L) (k : Nat) (x : ab_I) : ab_L := al.set k (some (.inr (.inl (x.1, x.2.1, none, x.2.2.2))))
def ab_tb (x : ab_I) (k : Int → Int → Bool) : Int → List Int → Bool
  | _, [] => true
  | lo, o :: r => (if x.1 ≤ (Int32.ofInt lo).toInt ∧ (Int32.ofInt lo).toInt ≤ x.2.1 then k (Int32.ofInt lo).toInt o else true) && ab_tb x k (lo + 1) r
def ab_lks (x : ab_I) (k : Int → Int → Bool) : List (Int × Int) → Bool
  | [] => true
  | q :: r => (if x.1 ≤ (Int32.ofInt q.1).toInt ∧ (Int32.ofInt q.1).toInt ≤ x.2.1 then k (Int32.ofInt q.1).toInt q.2 else true) && ab_lks x k r
def ab_gi (al : ab_L) (k : Nat) (f : ab_I → Bool) : Bool := match al[k]? with
  | some (some (.inr (.inl x))) => f x
  | _ => false
def ab_gl (al : ab_L) (k : Nat) (f : Int × Int → Bool) : Bool := match al[k]? with
  | some (some (.inr (.inr x))) => f x
  | _ => false
def ab_gr (al : ab_L) (k : Nat) (f : Nat → Bool) : Bool := match al[k]? with
  | some (some (.inl x)) => f x
  | _ => false
def ab_o {α : Type} (x : Option α) (f : α → Bool) : Bool := match x with
  | some a => f a
  | none => false
abbrev ab_n (x : ab_I) : ab_V := .inr (.inl x)
abbrev ab_lt : ab_V := .inr (.inr (-9223372036854775808, 9223372036854775807))
def ab_st (al : ab_L) (as : List ab_V) (fc : ab_F) (k : Nat) (K : ab_L → List ab_V → ab_F → Bool) : Bool := ab_i1 as (fun x r => ab_so al k && K (ab_set al k x) (r.map (ab_kp (ab_nl k))) (fc.filter (fun q => ab_nl k q.1)))
def ab_sr (al : ab_L) (as : List ab_V) (fc : ab_F) (k : Nat) (K : ab_L → List ab_V → ab_F → Bool) : Bool := ab_r1 as (fun x r => ab_so al k && K (al.set k (some (.inl x))) (r.map (ab_kp (ab_nl k))) (fc.filter (fun q => ab_nl k q.1)))
def ab_sl (al : ab_L) (as : List ab_V) (fc : ab_F) (k : Nat) (K : ab_L → List ab_V → ab_F → Bool) : Bool := ab_l1 as (fun x r => ab_so al k && (decide (k + 1 < al.length) && K ((al.set k (some (.inr (.inr x)))).set (k + 1) none) (r.map (ab_kp (fun y => ab_nl k y && ab_nl (k + 1) y))) (fc.filter (fun q => ab_nl k q.1 && ab_nl (k + 1) q.1))))
/-- a write: the place, the slot if it is one -/
def ab_wr (W : ab_W) (w : Nat × Option Nat) (r : List ab_V) (fc : ab_F) (K : List ab_V → ab_F → Bool) : Bool := ab_sub1 w W && K (r.map (ab_kp (ab_nw [w]))) (fc.filter (fun q => ab_nw [w] q.1))
def ab_wk (i : ab_I) : Option Nat := if i.1 = i.2.1 then some i.1.toNat else none
def ab_cj (c c' : Nat) (pc : Nat) (off : Int) (x y : ab_I) (al : ab_L) (fc : ab_F) (K : Nat → ab_L → ab_F → Bool) : Bool := ab_to pc off (fun t => ab_br c x y al fc (K t) && ab_br c' x y al fc (K (pc + 3)))
/-- one instruction -/
def ab_i (hd : List ab_H) (xs : List (Nat × Int × Int)) (cx : ex_K) (cm : Nat → Option (Nat × Option Nat × List ab_C)) (ret : Option FieldType) (W : ab_W) (E : Option ab_I → ab_L → ab_F → Bool) (i : Instr) (len pc : Nat) (al : ab_L) (as : List ab_V) (fc : ab_F) (K : Nat → ab_L → List ab_V → ab_F → Bool) : Bool := match i with
  | .iconst n => decide (len = 1) && K (pc + 1) al (ab_n (ab_cn (Int32.ofInt n).toInt) :: as) fc
  | .bipush n => decide (len = 2) && K (pc + 2) al (ab_n (ab_cn (Int8.ofInt n).toInt32.toInt) :: as) fc
  | .sipush n => decide (len = 3) && K (pc + 3) al (ab_n (ab_cn (Int16.ofInt n).toInt32.toInt) :: as) fc
  | .ldc ix => decide (len = 2) && ab_o (cx.2.2.1 ix) (fun v => K (pc + 2) al (ab_n (ab_cn v.toInt) :: as) fc)
  | .ldc_w ix => decide (len = 3) && ab_o (cx.2.2.1 ix) (fun v => K (pc + 3) al (ab_n (ab_cn v.toInt) :: as) fc)
  | .ldc2_w ix => decide (len = 3) && ab_o (cx.2.2.2.2.2.2 ix) (fun v => K (pc + 3) al (.inr (.inr (v.toInt, v.toInt)) :: as) fc)
  | .lconst n => decide (len = 1) && K (pc + 1) al (.inr (.inr ((Int64.ofNat n).toInt, (Int64.ofNat n).toInt)) :: as) fc
  | .iload_n k => decide (len = 1) && ab_gi al k (fun x => K (pc + 1) al (ab_n (x.1, x.2.1, some (0, k, 0), x.2.2.2) :: as) fc)
  | .iload k => decide (len = 2) && ab_gi al k (fun x => K (pc + 2) al (ab_n (x.1, x.2.1, some (0, k, 0), x.2.2.2) :: as) fc)
  | .lload_n k => decide (len = 1) && ab_gl al k (fun x => K (pc + 1) al (.inr (.inr x) :: as) fc)
  | .lload k => decide (len = 2) && ab_gl al k (fun x => K (pc + 2) al (.inr (.inr x) :: as) fc)
  | .aload_n k => decide (len = 1) && ab_gr al k (fun x => K (pc + 1) al (.inl x :: as) fc)
  | .aload k => decide (len = 2) && ab_gr al k (fun x => K (pc + 2) al (.inl x :: as) fc)
  | .istore_n k => decide (len = 1) && ab_st al as fc k (K (pc + 1))
  | .istore k => decide (len = 2) && ab_st al as fc k (K (pc + 2))
  | .astore_n k => decide (len = 1) && ab_sr al as fc k (K (pc + 1))
  | .astore k => decide (len = 2) && ab_sr al as fc k (K (pc + 2))
  | .lstore_n k => decide (len = 1) && ab_sl al as fc k (K (pc + 1))
  | .lstore k => decide (len = 2) && ab_sl al as fc k (K (pc + 2))
  | .iinc k n => decide (len = 3) && ab_gi al k (fun x => ab_so al k && K (pc + 3) (ab_set al k (ab_add x (ab_cn (Int32.ofInt n).toInt))) (as.map (ab_kp (ab_nl k))) (fc.filter (fun q => ab_nl k q.1)))
  | .iadd => decide (len = 1) && ab_i2 as (fun x y r => K (pc + 1) al (ab_n (ab_adf fc x y) :: r) fc)
  | .isub => decide (len = 1) && ab_i2 as (fun x y r => K (pc + 1) al (ab_n (ab_sub fc x y) :: r) fc)
  | .imul => decide (len = 1) && ab_i2 as (fun x y r => K (pc + 1) al (ab_n (ab_mul x y) :: r) fc)
  | .iand => decide (len = 1) && ab_i2 as (fun x y r => K (pc + 1) al (ab_n (ab_and x y) :: r) fc)
  | .ior => decide (len = 1) && ab_i2 as (fun x y r => K (pc + 1) al (ab_n (ab_or x y) :: r) fc)
  | .ixor => decide (len = 1) && ab_i2 as (fun _ _ r => K (pc + 1) al (ab_n ab_top :: r) fc)
  | .ishl => decide (len = 1) && ab_i2 as (fun _ _ r => K (pc + 1) al (ab_n ab_top :: r) fc)
  | .ishr => decide (len = 1) && ab_i2 as (fun _ _ r => K (pc + 1) al (ab_n ab_top :: r) fc)
  | .iushr => decide (len = 1) && ab_i2 as (fun _ _ r => K (pc + 1) al (ab_n ab_top :: r) fc)
  | .idiv => decide (len = 1) && ab_i2 as (fun x y r => ab_nz y.1 y.2.1 && K (pc + 1) al (ab_n (ab_div x y) :: r) fc)
  | .irem => decide (len = 1) && ab_i2 as (fun x y r => ab_nz y.1 y.2.1 && K (pc + 1) al (ab_n (ab_rem fc x y) :: r) fc)
  | .ineg => decide (len = 1) && ab_i1 as (fun _ r => K (pc + 1) al (ab_n ab_top :: r) fc)
  | .i2l => decide (len = 1) && ab_i1 as (fun x r => K (pc + 1) al (.inr (.inr (x.1, x.2.1)) :: r) fc)
  | .l2i => decide (len = 1) && ab_l1 as (fun _ r => K (pc + 1) al (ab_n ab_top :: r) fc)
  | .ladd => decide (len = 1) && ab_l2 as (fun _ _ r => K (pc + 1) al (ab_lt :: r) fc)
  | .lsub => decide (len = 1) && ab_l2 as (fun _ _ r => K (pc + 1) al (ab_lt :: r) fc)
  | .lmul => decide (len = 1) && ab_l2 as (fun _ _ r => K (pc + 1) al (ab_lt :: r) fc)
  | .ldiv => decide (len = 1) && ab_l2 as (fun _ y r => ab_nz y.1 y.2 && K (pc + 1) al (ab_lt :: r) fc)
  | .dup => decide (len = 1) && ab_v1 as (fun v r => K (pc + 1) al (v :: v :: r) fc)
  | .pop => decide (len = 1) && ab_v1 as (fun _ r => K (pc + 1) al r fc)
  | .dup_x1 => decide (len = 1) && ab_v2 as (fun v w r => K (pc + 1) al (v :: w :: v :: r) fc)
  | .dup2 => decide (len = 1) && ab_v2 as (fun v w r => K (pc + 1) al (v :: w :: v :: w :: r) fc)
  | .ifCond .eq off => decide (len = 3) && ab_i1 as (fun x r => ab_cj 0 1 pc off x (ab_cn 0) al fc (fun t al' fc' => K t al' r fc'))
  | .ifCond .ne off => decide (len = 3) && ab_i1 as (fun x r => ab_cj 1 0 pc off x (ab_cn 0) al fc (fun t al' fc' => K t al' r fc'))
  | .ifCond .lt off => decide (len = 3) && ab_i1 as (fun x r => ab_cj 2 3 pc off x (ab_cn 0) al fc (fun t al' fc' => K t al' r fc'))
  | .ifCond .ge off => decide (len = 3) && ab_i1 as (fun x r => ab_cj 3 2 pc off x (ab_cn 0) al fc (fun t al' fc' => K t al' r fc'))
  | .ifCond .gt off => decide (len = 3) && ab_i1 as (fun x r => ab_cj 4 5 pc off x (ab_cn 0) al fc (fun t al' fc' => K t al' r fc'))
  | .ifCond .le off => decide (len = 3) && ab_i1 as (fun x r => ab_cj 5 4 pc off x (ab_cn 0) al fc (fun t al' fc' => K t al' r fc'))
  | .if_icmp .eq off => decide (len = 3) && ab_i2 as (fun x y r => ab_cj 0 1 pc off x y al fc (fun t al' fc' => K t al' r fc'))
  | .if_icmp .ne off => decide (len = 3) && ab_i2 as (fun x y r => ab_cj 1 0 pc off x y al fc (fun t al' fc' => K t al' r fc'))
  | .if_icmp .lt off => decide (len = 3) && ab_i2 as (fun x y r => ab_cj 2 3 pc off x y al fc (fun t al' fc' => K t al' r fc'))
  | .if_icmp .ge off => decide (len = 3) && ab_i2 as (fun x y r => ab_cj 3 2 pc off x y al fc (fun t al' fc' => K t al' r fc'))
  | .if_icmp .gt off => decide (len = 3) && ab_i2 as (fun x y r => ab_cj 4 5 pc off x y al fc (fun t al' fc' => K t al' r fc'))
  | .if_icmp .le off => decide (len = 3) && ab_i2 as (fun x y r => ab_cj 5 4 pc off x y al fc (fun t al' fc' => K t al' r fc'))
  | .goto off => decide (len = 3) && ab_to pc off (fun t => K t al as fc)
  | .tableswitch dflt lo hi offs => decide (hi = lo + offs.size - 1) && ab_i1 as (fun x r => (if lo ≤ x.1 ∧ x.2.1 ≤ hi then true else ab_to pc dflt (fun t => K t al r fc)) && ab_tb x (fun z o => ab_to pc o (fun t => ab_rf al fc x.2.2.1 z z (fun al' fc' => K t al' r fc'))) lo offs.toList)
  | .lookupswitch dflt ps => (ps.toList.zip (ps.toList.drop 1)).all (fun (a, next) => a.1 < next.1) && (ps.toList.all (fun q => decide (-2147483648 ≤ q.1 ∧ q.1 < 2147483648)) && ab_i1 as (fun x r => ab_to pc dflt (fun t => K t al r fc) && ab_lks x (fun z o => ab_to pc o (fun t => ab_rf al fc x.2.2.1 z z (fun al' fc' => K t al' r fc'))) ps.toList))
  | .getfield ix => decide (len = 3) && ab_r1 as (fun a r => ab_o (cx.2.1 ix) (fun q => ab_obj hd a q.1 (fun ts => ab_o ts[q.2.1]? (fun t => match t with
    | .inl k => K (pc + 3) al (.inl k :: r) fc
    | .inr b => K (pc + 3) al (ab_n (ab_ld fc (some (1, a, q.2.1)) b.1 b.2) :: r) fc))))
  | .putfield ix => decide (len = 3) && ab_vr as (fun v a r => ab_o (cx.2.1 ix) (fun q => ab_obj hd a q.1 (fun ts => ab_o ts[q.2.1]? (fun t => ab_le v t && (q.2.2.1 && (ab_fit q.2.2.2 v && ab_wr W (a, some q.2.1) r fc (fun r' fc' => match v with
      | .inr (.inl x) => K (pc + 3) al r' (((1, a, q.2.1), x.1, x.2.1) :: fc')
      | _ => K (pc + 3) al r' fc')))))))
  | .getstatic ix => decide (len = 3) && ab_o (cx.2.2.2.1 ix) (fun j => K (pc + 3) al (.inl (1000 + j) :: as) fc)
  | .iaload => decide (len = 1) && ab_ir as (fun i a r => if 1000 ≤ a then ab_o xs[a - 1000]? (fun q => ab_idx i q.1 && K (pc + 1) al (ab_n (q.2.1, q.2.2, none, none) :: r) fc) else ab_arr hd a 0 i (fun n lo hi => ab_idx i n && K (pc + 1) al (ab_n (ab_ld fc (ab_ek a i) lo hi) :: r) fc))
  | .baload => decide (len = 1) && ab_ir as (fun i a r => ab_arr hd a 1 i (fun n lo hi => ab_idx i n && K (pc + 1) al (ab_n (ab_ld fc (ab_ek a i) lo hi) :: r) fc))
  | .iastore => decide (len = 1) && ab_iir as (fun x i a r => ab_arr hd a 0 i (fun n lo hi => ab_idx i n && (decide (lo ≤ x.1 ∧ x.2.1 ≤ hi) && ab_wr W (a, ab_wk i) r fc (K (pc + 1) al))))
  | .bastore => decide (len = 1) && ab_iir as (fun x i a r => ab_arr hd a 1 i (fun n lo hi => ab_idx i n && (decide (lo ≤ x.1 ∧ x.2.1 ≤ hi) && (decide (0 ≤ x.1 ∧ x.2.1 ≤ 1) && ab_wr W (a, ab_wk i) r fc (K (pc + 1) al)))))
  | .arraylength => decide (len = 1) && ab_r1 as (fun a r => match hd[a]? with
    | some (.inr (t, n, _)) => decide (t = 0 ∨ t = 1) && (decide (n < 2147483648) && K (pc + 1) al (ab_n (ab_cn n) :: r) fc)
    | _ => false)
  | .invokevirtual ix => decide (len = 3) && ab_o (cm ix) (fun q => decide (1 ≤ q.1 ∧ q.1 ≤ as.length) && (ab_sum (as.drop q.1) && ab_o q.2.1 (fun ci => match as[q.1 - 1]? with
    | some (.inl a) => ab_obj hd a ci (fun _ => ab_call W q.2.2 (as.take q.1).reverse (as.drop q.1) al fc (K (pc + 3)))
    | _ => false)))
  | .invokestatic ix => decide (len = 3) && (match cx.2.2.2.2.2.1 ix with
    | 1 => ab_c5 as (fun n dp a sp a0 r => ab_ar1 hd a0 0 (fun n0 lo0 hi0 => ab_ar1 hd a 0 (fun n1 lo hi => decide (sp.1 = 0 ∧ sp.2.1 = 0 ∧ dp.1 = 0 ∧ dp.2.1 = 0 ∧ 0 ≤ n.1 ∧ n.2.1 ≤ n0 ∧ n.2.1 ≤ n1 ∧ lo ≤ lo0 ∧ hi0 ≤ hi) && (ab_sum r && ab_wr W (a, none) r fc (K (pc + 3) al)))))
    | 2 => ab_i2 as (fun x y r => ab_sum r && K (pc + 3) al (ab_n (ab_min x y) :: r) fc)
    | 3 => ab_i2 as (fun x y r => ab_sum r && K (pc + 3) al (ab_n (ab_max x y) :: r) fc)
    | _ => ab_o (cm ix) (fun q => decide (q.1 ≤ as.length) && (ab_sum (as.drop q.1) && (decide (q.2.1 = none) && ab_call W q.2.2 (as.take q.1).reverse (as.drop q.1) al fc (K (pc + 3))))))
  | .ireturn => decide (len = 1) && ab_x1 as (fun x => ab_rok ret x && E (some x) al fc)
  | .return_ => decide (len = 1) && (decide (ret = none) && (as.isEmpty && E none al fc))
  | _ => false
def ab_wp (hd : List ab_H) (xs : List (Nat × Int × Int)) (cx : ex_K) (cm : Nat → Option (Nat × Option Nat × List ab_C)) (code : List (Nat × Instr × Nat)) (ret : Option FieldType) (W : ab_W) (E : Option ab_I → ab_L → ab_F → Bool) (J : Nat → Option (ab_L → List ab_V → ab_F → Bool)) : Nat → Nat → ab_L → List ab_V → ab_F → Bool
  | 0, _, _, _, _ => false
  | n + 1, pc, al, as, fc => match code.find? (fun q => q.1 == pc) with
    | some q => ab_i hd xs cx cm ret W E q.2.1 q.2.2 pc al as fc (fun pc' al' as' fc' => match J pc' with
      | some ch => ch al' as' fc'
      | none => ab_wp hd xs cx cm code ret W E J n pc' al' as' fc')
    | none => false
end
section
/-! the walk over bounds is right -/
section ABS
variable {hd : List ab_H} {xs : List (Nat × Int × Int)} {xt : ex_xt} {W : ab_W} {o : Nat → Int} {cs0 cs cs' : ex_C} {lv lv' : ex_L}
theorem ab_bm {z : Int} (h1 : -2147483648 ≤ z) (h2 : z ≤ 2147483647) : z.bmod (2 ^ 32) = z := by
  rw [Int.bmod_def]
  have : ((2 ^ 32 : Nat) : Int) = 4294967296 := by decide
  rw [this]
  omega
theorem ab_ge (x : Int32) : -2147483648 ≤ x.toInt := by
  have := Int32.le_toInt x
  simpa using this
theorem ab_lt' (x : Int32) : x.toInt ≤ 2147483647 := by
  have := Int32.toInt_lt x
  have h2 : (2 : Int) ^ 31 = 2147483648 := by decide
  omega
theorem ab_lge (x : Int64) : -9223372036854775808 ≤ x.toInt := by
  have := Int64.le_toInt x
  simpa using this
theorem ab_llt (x : Int64) : x.toInt ≤ 9223372036854775807 := by
  have := Int64.toInt_lt x
  have h2 : (2 : Int) ^ 63 = 9223372036854775808 := by decide
  omega
theorem ab_mk {lo hi : Int} {dl : Option (Nat × Int)} {x : Int32} (h1 : lo ≤ x.toInt) (h2 : x.toInt ≤ hi) (h3 : ∀ q, dl = some q → x.toInt = o q.1 + q.2) : ab_ci o lv cs (lo, hi, none, dl) x := ⟨⟨h1, h2⟩, fun _ h => (by cases h), h3⟩
theorem ab_topk (x : Int32) : ab_ci o lv cs ab_top x := ab_mk (ab_ge x) (ab_lt' x) (fun _ h => (by cases h))
theorem ab_cnk (x : Int32) : ab_ci o lv cs (ab_cn x.toInt) x := ab_mk (Int.le_refl _) (Int.le_refl _) (fun _ h => (by cases h))
theorem ab_rgk {lo hi z : Int} {dl : Option (Nat × Int)} {x : Int32} (hx : x.toInt = z.bmod (2 ^ 32)) (h1 : lo ≤ z) (h2 : z ≤ hi) (h3 : ∀ q, dl = some q → z = o q.1 + q.2) : ab_ci o lv cs (ab_rg lo hi dl) x := by
  unfold ab_rg
  split
  · rename_i hr
    have e : x.toInt = z := by rw [hx, ab_bm (by omega) (by omega)]
    exact ab_mk (by rw [e]; exact h1) (by rw [e]; exact h2) (by rw [e]; exact h3)
  · exact ab_topk x
theorem ab_dpk {a c : ab_I} {x y : Int32} {s : Int} (ha : ab_ci o lv cs a x) (hc : ab_ci o lv cs c y) : ∀ q, ab_dp a.2.2.2 c s = some q → x.toInt + s * y.toInt = o q.1 + q.2 := by
  intro q hq
  unfold ab_dp at hq
  split at hq
  · rename_i q0 e0
    split at hq
    · rename_i e
      cases hq
      have h1 := ha.2.2 _ e0
      have hy : y.toInt = c.1 := by have := hc.1.1; have := hc.1.2; omega
      dsimp only
      rw [h1, hy]
      omega
    · cases hq
  · cases hq
theorem ab_addk {a b : ab_I} {x y : Int32} (ha : ab_ci o lv cs a x) (hb : ab_ci o lv cs b y) : ab_ci o lv cs (ab_add a b) (x + y) := by
  refine ab_rgk (Int32.toInt_add x y) (Int.add_le_add ha.1.1 hb.1.1) (Int.add_le_add ha.1.2 hb.1.2) (fun q hq => ?_)
  split at hq
  · rename_i q0 e0
    cases hq
    have := ab_dpk ha hb _ e0
    omega
  · have := ab_dpk hb ha _ hq
    omega
theorem ab_mulk {a b : ab_I} {x y : Int32} (ha : ab_ci o lv cs a x) (hb : ab_ci o lv cs b y) : ab_ci o lv cs (ab_mul a b) (x * y) := by
  have h1 := ha.1
  have h2 := hb.1
  unfold ab_mul
  split
  · rename_i e
    have hy : y.toInt = b.1 := by omega
    refine ab_rgk (Int32.toInt_mul x y) ?_ ?_ (fun _ h => (by cases h))
    · rw [hy]; exact Int.mul_le_mul_of_nonneg_right h1.1 e.2
    · rw [hy]; exact Int.mul_le_mul_of_nonneg_right h1.2 e.2
  · split
    · rename_i e
      have hy : x.toInt = a.1 := by omega
      refine ab_rgk (Int32.toInt_mul x y) ?_ ?_ (fun _ h => (by cases h))
      · rw [hy, Int.mul_comm a.1]; exact Int.mul_le_mul_of_nonneg_right h2.1 e.2
      · rw [hy, Int.mul_comm a.1]; exact Int.mul_le_mul_of_nonneg_right h2.2 e.2
    · exact ab_topk _
theorem ab_nzk {lo hi : Int} {y : Int32} (h : ab_nz lo hi = true) (h1 : lo ≤ y.toInt) (h2 : y.toInt ≤ hi) : ¬ y = 0 := by
  intro e
  subst e
  have h3 : (0 : Int32).toInt = 0 := by decide
  unfold ab_nz at h
  have := of_decide_eq_true h
  omega
theorem ab_lnzk {lo hi : Int} {y : Int64} (h : ab_nz lo hi = true) (h1 : lo ≤ y.toInt) (h2 : y.toInt ≤ hi) : ¬ y = 0 := by
  intro e
  subst e
  have h3 : (0 : Int64).toInt = 0 := by decide
  unfold ab_nz at h
  have := of_decide_eq_true h
  omega
theorem ab_divk {a b : ab_I} {x y : Int32} (ha : ab_ci o lv cs a x) (hb : ab_ci o lv cs b y) : ab_ci o lv cs (ab_div a b) (x / y) := by
  have h1 := ha.1
  have h2 := hb.1
  unfold ab_div
  split
  · rename_i e
    have hy : y.toInt = b.1 := by omega
    have h0 : 0 ≤ x.toInt := by omega
    refine ab_rgk (Int32.toInt_div x y) ?_ ?_ (fun _ h => (by cases h))
    · rw [hy, Int.tdiv_eq_ediv_of_nonneg h0]; exact Int.ediv_le_ediv e.2.1 h1.1
    · rw [hy, Int.tdiv_eq_ediv_of_nonneg h0]; exact Int.ediv_le_ediv e.2.1 h1.2
  · exact ab_topk _
theorem ab_tm {x c : Int} (hc : 0 < c) : x.tmod c ≤ c - 1 ∧ 1 - c ≤ x.tmod c ∧ (0 ≤ x → 0 ≤ x.tmod c) := by
  have h1 := Int.tmod_lt_of_pos x hc
  have h2 := Int.lt_tmod_of_pos x hc
  exact ⟨by omega, by omega, fun h => Int.tmod_nonneg c h⟩
theorem ab_remq {x y : Int32} (hc : 0 < y.toInt) : (x - x / y * y).toInt = x.toInt.tmod y.toInt := by
  have hm := @ab_tm x.toInt y.toInt hc
  have hx1 := ab_ge x
  have hx2 := ab_lt' x
  have hy2 := ab_lt' y
  have e1 : x.toInt.tmod y.toInt = x.toInt - y.toInt * x.toInt.tdiv y.toInt := Int.tmod_def _ _
  have q1 : -2147483648 ≤ x.toInt.tdiv y.toInt ∧ x.toInt.tdiv y.toInt ≤ 2147483647 ∧ (0 ≤ x.toInt → 0 ≤ y.toInt * x.toInt.tdiv y.toInt) ∧ (x.toInt < 0 → y.toInt * x.toInt.tdiv y.toInt ≤ 0 ∧ x.toInt ≤ y.toInt * x.toInt.tdiv y.toInt) := by
    rcases Int.lt_or_le x.toInt 0 with hn | hn
    · have hq : x.toInt.tdiv y.toInt = - ((- x.toInt) / y.toInt) := by
        rw [← Int.tdiv_eq_ediv_of_nonneg (by omega : 0 ≤ - x.toInt), Int.neg_tdiv, Int.neg_neg]
      have a1 : (- x.toInt) / y.toInt ≤ - x.toInt := Int.ediv_le_self _ (by omega)
      have a2 : 0 ≤ (- x.toInt) / y.toInt := Int.ediv_nonneg (by omega) (by omega)
      refine ⟨by omega, by omega, fun h => by omega, fun _ => ?_⟩
      rw [hq, Int.mul_neg]
      have := Int.mul_nonneg (Int.le_of_lt hc) a2
      have h9 : y.toInt * ((- x.toInt) / y.toInt) ≤ - x.toInt := Int.mul_ediv_self_le (by omega)
      omega
    · have hq : x.toInt.tdiv y.toInt = x.toInt / y.toInt := Int.tdiv_eq_ediv_of_nonneg hn
      have a1 : x.toInt / y.toInt ≤ x.toInt := Int.ediv_le_self _ hn
      have a2 : 0 ≤ x.toInt / y.toInt := Int.ediv_nonneg hn (by omega)
      refine ⟨by omega, by omega, fun _ => ?_, fun h => by omega⟩
      rw [hq]
      exact Int.mul_nonneg (Int.le_of_lt hc) a2
  have e2 : (x / y).toInt = x.toInt.tdiv y.toInt := by
    rw [Int32.toInt_div, ab_bm q1.1 q1.2.1]
  have e3 : (x / y * y).toInt = y.toInt * x.toInt.tdiv y.toInt := by
    rw [Int32.toInt_mul, e2, Int.mul_comm, ab_bm]
    · rcases Int.lt_or_le x.toInt 0 with hn | hn
      · have := q1.2.2.2 hn; omega
      · have := q1.2.2.1 hn; omega
    · rcases Int.lt_or_le x.toInt 0 with hn | hn
      · have := q1.2.2.2 hn; omega
      · have := hm.2.2 hn; omega
  rw [Int32.toInt_sub, e3, ab_bm (by omega) (by omega)]
  omega
theorem ab_lkk {y : ab_Y} {z : Int} (hy : ab_kv lv cs y = some z) : ∀ {fc : ab_F} {lo hi : Int}, ab_cf lv cs fc → lo ≤ z → z ≤ hi → (ab_lk y fc lo hi).1 ≤ z ∧ z ≤ (ab_lk y fc lo hi).2
  | [], lo, hi, _, h1, h2 => ⟨h1, h2⟩
  | q :: r, lo, hi, hf, h1, h2 => by
    have hr : ab_cf lv cs r := fun p hp => hf p (List.mem_cons_of_mem _ hp)
    unfold ab_lk
    split
    · rename_i e
      have e : q.1 = y := by simpa using e
      obtain ⟨x, hx, g1, g2⟩ := hf q List.mem_cons_self
      rw [e, hy] at hx
      cases hx
      exact ab_lkk hy hr (by omega) (by omega)
    · exact ab_lkk hy hr h1 h2
theorem ab_subk {fc : ab_F} {a b : ab_I} {x y : Int32} (hf : ab_cf lv cs fc) (ha : ab_ci o lv cs a x) (hb : ab_ci o lv cs b y) : ab_ci o lv cs (ab_sub fc a b) (x - y) := by
  have h1 := ha.1
  have h2 := hb.1
  unfold ab_sub
  split
  · rename_i k j i j' e1 e2
    split
    · rename_i hr
      have hk : ab_ri cs k j = some x.toInt := ha.2.1 _ e1
      have hi : ab_li lv i = some y.toInt := hb.2.1 _ e2
      have hv : ab_kv lv cs (4, 1000 * k + j, i) = some (x.toInt - y.toInt) := by
        show (ab_ri cs ((1000 * k + j) / 1000) ((1000 * k + j) % 1000)).bind (fun x => (ab_li lv i).map (fun z => x - z)) = _
        rw [show (1000 * k + j) / 1000 = k by omega, show (1000 * k + j) % 1000 = j by omega, hk, hi]
        rfl
      have es : (x - y).toInt = x.toInt - y.toInt := by
        rw [Int32.toInt_sub, ab_bm (by omega) (by omega)]
      obtain ⟨g1, g2⟩ := ab_lkk hv hf (lo := a.1 - b.2.1) (hi := a.2.1 - b.1) (by omega) (by omega)
      refine ⟨⟨by rw [es]; exact g1, by rw [es]; exact g2⟩, fun y' hy' => ?_, fun _ h => (by cases h)⟩
      cases hy'
      rw [es]
      exact hv
    · exact ab_topk _
  · refine ab_rgk (Int32.toInt_sub x y) (by omega) (by omega) (fun q hq => ?_)
    have := ab_dpk ha hb _ hq
    omega
theorem ab_adfk {fc : ab_F} {a b : ab_I} {x y : Int32} (hf : ab_cf lv cs fc) (ha : ab_ci o lv cs a x) (hb : ab_ci o lv cs b y) : ab_ci o lv cs (ab_adf fc a b) (x + y) := by
  have h1 := ha.1
  have h2 := hb.1
  unfold ab_adf
  split
  · rename_i k j i j' e1 e2
    split
    · rename_i hr
      have hk : ab_ri cs k j = some x.toInt := ha.2.1 _ e1
      have hi : ab_li lv i = some y.toInt := hb.2.1 _ e2
      have hv : ab_kv lv cs (5, 1000 * k + j, i) = some (x.toInt + y.toInt) := by
        show (ab_ri cs ((1000 * k + j) / 1000) ((1000 * k + j) % 1000)).bind (fun x => (ab_li lv i).map (fun z => x + z)) = _
        rw [show (1000 * k + j) / 1000 = k by omega, show (1000 * k + j) % 1000 = j by omega, hk, hi]
        rfl
      have es : (x + y).toInt = x.toInt + y.toInt := by
        rw [Int32.toInt_add, ab_bm (by omega) (by omega)]
      obtain ⟨g1, g2⟩ := ab_lkk hv hf (lo := a.1 + b.1) (hi := a.2.1 + b.2.1) (by omega) (by omega)
      refine ⟨⟨by rw [es]; exact g1, by rw [es]; exact g2⟩, fun y' hy' => ?_, fun _ h => (by cases h)⟩
      cases hy'
      rw [es]
      exact hv
    · exact ab_topk _
  · exact ab_addk ha hb
theorem ab_remk {fc : ab_F} {a b : ab_I} {x y : Int32} (hf : ab_cf lv cs fc) (ha : ab_ci o lv cs a x) (hb : ab_ci o lv cs b y) : ab_ci o lv cs (ab_rem fc a b) (x - x / y * y) := by
  have h1 := ha.1
  have h2 := hb.1
  unfold ab_rem
  split
  · rename_i e
    have hy : y.toInt = b.1 := by omega
    have hm := @ab_tm x.toInt y.toInt (by omega)
    have hq := @ab_remq x y (by omega)
    have l1 : (if 0 ≤ a.1 then 0 else 1 - b.1) ≤ x.toInt.tmod y.toInt := by
      split
      · exact hm.2.2 (by omega)
      · omega
    have l2 : x.toInt.tmod y.toInt ≤ b.1 - 1 := by omega
    split
    · rename_i i j e1
      have hk := ha.2.1 _ e1
      have hk' : ab_li lv i = some x.toInt := hk
      have hv : ab_kv lv cs (3, i, b.1.toNat) = some (x.toInt.tmod y.toInt) := by
        show (ab_li lv i).map (fun x => x.tmod ((b.1.toNat : Nat) : Int)) = _
        rw [hk', Int.toNat_of_nonneg (by omega), hy]
        rfl
      obtain ⟨g1, g2⟩ := ab_lkk hv hf l1 l2
      refine ⟨⟨by rw [hq]; exact g1, by rw [hq]; exact g2⟩, fun y' hy' => ?_, fun _ h => (by cases h)⟩
      cases hy'
      rw [hq]
      exact hv
    · exact ab_mk (by rw [hq]; exact l1) (by rw [hq]; exact l2) (fun _ h => (by cases h))
  · exact ab_topk _
theorem ab_nn (x : Int32) (h : 0 ≤ x.toInt) : x.toInt = (x.toBitVec.toNat : Int) := by
  have e : x.toInt = x.toBitVec.toInt := rfl
  rw [e] at h ⊢
  rw [BitVec.toInt_eq_toNat_cond] at h ⊢
  split
  · rfl
  · rename_i hc
    rw [if_neg hc] at h
    have := x.toBitVec.isLt
    omega
theorem ab_pos (x : Int32) {n : Nat} (h : x.toBitVec.toNat ≤ n) (hn : n < 2147483648) : 0 ≤ x.toInt ∧ x.toInt ≤ (n : Int) := by
  have e : x.toInt = x.toBitVec.toInt := rfl
  rw [e, BitVec.toInt_eq_toNat_cond, if_pos (by omega)]
  omega
theorem ab_andn (x y : Int32) : (x &&& y).toBitVec.toNat = x.toBitVec.toNat &&& y.toBitVec.toNat := by
  rw [Int32.toBitVec_and, BitVec.toNat_and]
theorem ab_andk {a b : ab_I} {x y : Int32} (ha : ab_ci o lv cs a x) (hb : ab_ci o lv cs b y) : ab_ci o lv cs (ab_and a b) (x &&& y) := by
  have h1 := ha.1
  have h2 := hb.1
  have hlx := ab_lt' x
  have hly := ab_lt' y
  unfold ab_and
  split
  · have hy := ab_nn y (by omega)
    have := ab_pos (x &&& y) (n := y.toBitVec.toNat) (by rw [ab_andn]; exact Nat.and_le_right) (by omega)
    exact ab_mk this.1 (by omega) (fun _ h => (by cases h))
  · split
    · have hy := ab_nn x (by omega)
      have := ab_pos (x &&& y) (n := x.toBitVec.toNat) (by rw [ab_andn]; exact Nat.and_le_left) (by omega)
      exact ab_mk this.1 (by omega) (fun _ h => (by cases h))
    · exact ab_topk _
theorem ab_01 {x : Int32} (h1 : 0 ≤ x.toInt) (h2 : x.toInt ≤ 1) : x = 0 ∨ x = 1 := by
  rcases (by omega : x.toInt = 0 ∨ x.toInt = 1) with h | h
  · exact Or.inl (Int32.toInt_inj.mp (by rw [h]; decide))
  · exact Or.inr (Int32.toInt_inj.mp (by rw [h]; decide))
theorem ab_ork {a b : ab_I} {x y : Int32} (ha : ab_ci o lv cs a x) (hb : ab_ci o lv cs b y) : ab_ci o lv cs (ab_or a b) (x ||| y) := by
  have h1 := ha.1
  have h2 := hb.1
  unfold ab_or
  split
  · rename_i e
    have hh : 0 ≤ (x ||| y).toInt ∧ (x ||| y).toInt ≤ 1 := by
      rcases ab_01 (x := x) (by omega) (by omega) with rfl | rfl <;> rcases ab_01 (x := y) (by omega) (by omega) with rfl | rfl <;> decide
    exact ab_mk hh.1 hh.2 (fun _ h => (by cases h))
  · exact ab_topk _
theorem ab_mink {a b : ab_I} {x y : Int32} (ha : ab_ci o lv cs a x) (hb : ab_ci o lv cs b y) : ab_ci o lv cs (ab_min a b) (if y < x then y else x) := by
  have h1 := ha.1
  have h2 := hb.1
  unfold ab_min
  split
  · rename_i h
    rw [Int32.lt_iff_toInt_lt] at h
    exact ab_mk (by omega) (by omega) (fun _ h => (by cases h))
  · rename_i h
    rw [Int32.lt_iff_toInt_lt] at h
    exact ab_mk (by omega) (by omega) (fun _ h => (by cases h))
theorem ab_maxk {a b : ab_I} {x y : Int32} (ha : ab_ci o lv cs a x) (hb : ab_ci o lv cs b y) : ab_ci o lv cs (ab_max a b) (if x < y then y else x) := by
  have h1 := ha.1
  have h2 := hb.1
  unfold ab_max
  split
  · rename_i h
    rw [Int32.lt_iff_toInt_lt] at h
    exact ab_mk (by omega) (by omega) (fun _ h => (by cases h))
  · rename_i h
    rw [Int32.lt_iff_toInt_lt] at h
    exact ab_mk (by omega) (by omega) (fun _ h => (by cases h))
/-! shapes of the stack -/
theorem ab_i1.at {as : List ab_V} {k : ab_I → List ab_V → Bool} {st : ex_V} (h : ab_i1 as k = true) (g : ab_cst o lv cs as st) : ∃ a x r t, st = .int x :: t ∧ ab_ci o lv cs a x ∧ ab_cst o lv cs r t ∧ k a r = true := by
  unfold ab_i1 at h
  split at h
  · obtain ⟨v, t, rfl, ⟨x, rfl, hx⟩, ht⟩ := g
    exact ⟨_, x, _, t, rfl, hx, ht, h⟩
  · cases h
theorem ab_i2.at {as : List ab_V} {k : ab_I → ab_I → List ab_V → Bool} {st : ex_V} (h : ab_i2 as k = true) (g : ab_cst o lv cs as st) : ∃ a b x y r t, st = .int y :: .int x :: t ∧ ab_ci o lv cs a x ∧ ab_ci o lv cs b y ∧ ab_cst o lv cs r t ∧ k a b r = true := by
  unfold ab_i2 at h
  split at h
  · obtain ⟨v, t, rfl, ⟨y, rfl, hy⟩, v2, t2, rfl, ⟨x, rfl, hx⟩, ht⟩ := g
    exact ⟨_, _, x, y, _, t2, rfl, hx, hy, ht, h⟩
  · cases h
theorem ab_l1.at {as : List ab_V} {k : Int × Int → List ab_V → Bool} {st : ex_V} (h : ab_l1 as k = true) (g : ab_cst o lv cs as st) : ∃ a x r t, st = .long x :: t ∧ (a.1 ≤ x.toInt ∧ x.toInt ≤ a.2) ∧ ab_cst o lv cs r t ∧ k a r = true := by
  unfold ab_l1 at h
  split at h
  · obtain ⟨v, t, rfl, ⟨x, rfl, hx⟩, ht⟩ := g
    exact ⟨_, x, _, t, rfl, hx, ht, h⟩
  · cases h
theorem ab_l2.at {as : List ab_V} {k : Int × Int → Int × Int → List ab_V → Bool} {st : ex_V} (h : ab_l2 as k = true) (g : ab_cst o lv cs as st) : ∃ a b x y r t, st = .long y :: .long x :: t ∧ (a.1 ≤ x.toInt ∧ x.toInt ≤ a.2) ∧ (b.1 ≤ y.toInt ∧ y.toInt ≤ b.2) ∧ ab_cst o lv cs r t ∧ k a b r = true := by
  unfold ab_l2 at h
  split at h
  · obtain ⟨v, t, rfl, ⟨y, rfl, hy⟩, v2, t2, rfl, ⟨x, rfl, hx⟩, ht⟩ := g
    exact ⟨_, _, x, y, _, t2, rfl, hx, hy, ht, h⟩
  · cases h
theorem ab_r1.at {as : List ab_V} {k : Nat → List ab_V → Bool} {st : ex_V} (h : ab_r1 as k = true) (g : ab_cst o lv cs as st) : ∃ a r t, st = .ref a :: t ∧ ab_cst o lv cs r t ∧ k a r = true := by
  unfold ab_r1 at h
  split at h
  · obtain ⟨v, t, rfl, rfl, ht⟩ := g
    exact ⟨_, _, t, rfl, ht, h⟩
  · cases h
theorem ab_ir.at {as : List ab_V} {k : ab_I → Nat → List ab_V → Bool} {st : ex_V} (h : ab_ir as k = true) (g : ab_cst o lv cs as st) : ∃ b y a r t, st = .int y :: .ref a :: t ∧ ab_ci o lv cs b y ∧ ab_cst o lv cs r t ∧ k b a r = true := by
  unfold ab_ir at h
  split at h
  · obtain ⟨v, t, rfl, ⟨y, rfl, hy⟩, v2, t2, rfl, rfl, ht⟩ := g
    exact ⟨_, y, _, _, t2, rfl, hy, ht, h⟩
  · cases h
theorem ab_iir.at {as : List ab_V} {k : ab_I → ab_I → Nat → List ab_V → Bool} {st : ex_V} (h : ab_iir as k = true) (g : ab_cst o lv cs as st) : ∃ c z b y a r t, st = .int z :: .int y :: .ref a :: t ∧ ab_ci o lv cs c z ∧ ab_ci o lv cs b y ∧ ab_cst o lv cs r t ∧ k c b a r = true := by
  unfold ab_iir at h
  split at h
  · obtain ⟨v, t, rfl, ⟨z, rfl, hz⟩, v1, t1, rfl, ⟨y, rfl, hy⟩, v2, t2, rfl, rfl, ht⟩ := g
    exact ⟨_, z, _, y, _, _, t2, rfl, hz, hy, ht, h⟩
  · cases h
theorem ab_vr.at {as : List ab_V} {k : ab_V → Nat → List ab_V → Bool} {st : ex_V} (h : ab_vr as k = true) (g : ab_cst o lv cs as st) : ∃ v w a r t, st = w :: .ref a :: t ∧ ab_cv o lv cs v w ∧ ab_cst o lv cs r t ∧ k v a r = true := by
  unfold ab_vr at h
  split at h
  · obtain ⟨w, t1, rfl, hw, w2, t, rfl, rfl, ht⟩ := g
    exact ⟨_, w, _, _, t, rfl, hw, ht, h⟩
  · cases h
theorem ab_c5.at {as : List ab_V} {k : ab_I → ab_I → Nat → ab_I → Nat → List ab_V → Bool} {st : ex_V} (h : ab_c5 as k = true) (g : ab_cst o lv cs as st) : ∃ n n' d d' a s s' b r t, st = .int n' :: .int d' :: .ref a :: .int s' :: .ref b :: t ∧ ab_ci o lv cs n n' ∧ ab_ci o lv cs d d' ∧ ab_ci o lv cs s s' ∧ ab_cst o lv cs r t ∧ k n d a s b r = true := by
  unfold ab_c5 at h
  split at h
  · obtain ⟨v1, t1, rfl, ⟨n', rfl, hn'⟩, v2, t2, rfl, ⟨d', rfl, hd'⟩, v3, t3, rfl, rfl, v4, t4, rfl, ⟨s', rfl, hs'⟩, v5, t, rfl, rfl, ht⟩ := g
    exact ⟨_, n', _, d', _, _, s', _, _, t, rfl, hn', hd', hs', ht, h⟩
  · cases h
theorem ab_x1.at {as : List ab_V} {k : ab_I → Bool} {st : ex_V} (h : ab_x1 as k = true) (g : ab_cst o lv cs as st) : ∃ a x, st = [.int x] ∧ ab_ci o lv cs a x ∧ k a = true := by
  unfold ab_x1 at h
  split at h
  · obtain ⟨v, t, rfl, ⟨x, rfl, hx⟩, rfl⟩ := g
    exact ⟨_, x, rfl, hx, h⟩
  · cases h
theorem ab_rokk {ret : Option FieldType} {a : ab_I} {x : Int32} (h : ab_rok ret a = true) (hx : ab_ci o lv cs a x) : ex_ret ret x := by
  have hy1 := hx.1
  unfold ab_rok at h
  unfold ex_ret
  split at h
  · trivial
  · have := of_decide_eq_true h
    exact ab_01 (by omega) (by omega)
  · cases h
theorem ab_cat {a : ab_V} {v : Value} (h : ab_cv o lv cs a v) : v.category = ab_c a := by
  unfold ab_cv at h
  split at h
  · subst h; rfl
  · obtain ⟨x, rfl, -⟩ := h; rfl
  · obtain ⟨x, rfl, -⟩ := h; rfl
theorem ab_v1.at {as : List ab_V} {k : ab_V → List ab_V → Bool} {st : ex_V} (h : ab_v1 as k = true) (g : ab_cst o lv cs as st) : ∃ a v r t, st = v :: t ∧ v.category = 1 ∧ ab_cv o lv cs a v ∧ ab_cst o lv cs r t ∧ k a r = true := by
  unfold ab_v1 at h
  split at h
  · obtain ⟨v, t, rfl, hv, ht⟩ := g
    simp only [Bool.and_eq_true, decide_eq_true_eq] at h
    exact ⟨_, v, _, t, rfl, by rw [ab_cat hv]; exact h.1, hv, ht, h.2⟩
  · cases h
theorem ab_v2.at {as : List ab_V} {k : ab_V → ab_V → List ab_V → Bool} {st : ex_V} (h : ab_v2 as k = true) (g : ab_cst o lv cs as st) : ∃ a b v w r t, st = v :: w :: t ∧ v.category = 1 ∧ w.category = 1 ∧ ab_cv o lv cs a v ∧ ab_cv o lv cs b w ∧ ab_cst o lv cs r t ∧ k a b r = true := by
  unfold ab_v2 at h
  split at h
  · obtain ⟨v, t, rfl, hv, w, t2, rfl, hw, ht⟩ := g
    simp only [Bool.and_eq_true, decide_eq_true_eq] at h
    exact ⟨_, _, v, w, _, t2, rfl, by rw [ab_cat hv]; exact h.1, by rw [ab_cat hw]; exact h.2.1, hv, hw, ht, h.2.2⟩
  · cases h
theorem ab_o.at {α : Type} {x : Option α} {f : α → Bool} (h : ab_o x f = true) : ∃ a, x = some a ∧ f a = true := by
  cases x with
  | none => cases h
  | some a => exact ⟨a, rfl, h⟩
theorem ab_gi.at {al : ab_L} {k : Nat} {f : ab_I → Bool} (h : ab_gi al k f = true) (g : ab_cl o al lv) : ∃ a x, al[k]? = some (some (.inr (.inl a))) ∧ lv[k]? = some (some (.int x)) ∧ (a.1 ≤ x.toInt ∧ x.toInt ≤ a.2.1) ∧ (∀ q, a.2.2.2 = some q → x.toInt = o q.1 + q.2) ∧ f a = true := by
  unfold ab_gi at h
  split at h
  · rename_i a e
    obtain ⟨v, hv, x, rfl, h1, h2⟩ := g.2 _ _ e
    exact ⟨a, x, e, hv, h1, h2, h⟩
  · cases h
theorem ab_gl.at {al : ab_L} {k : Nat} {f : Int × Int → Bool} (h : ab_gl al k f = true) (g : ab_cl o al lv) : ∃ a x, lv[k]? = some (some (.long x)) ∧ (a.1 ≤ x.toInt ∧ x.toInt ≤ a.2) ∧ f a = true := by
  unfold ab_gl at h
  split at h
  · rename_i a e
    obtain ⟨v, hv, x, rfl, h1⟩ := g.2 _ _ e
    exact ⟨a, x, hv, h1, h⟩
  · cases h
theorem ab_gr.at {al : ab_L} {k : Nat} {f : Nat → Bool} (h : ab_gr al k f = true) (g : ab_cl o al lv) : ∃ a, lv[k]? = some (some (.ref a)) ∧ f a = true := by
  unfold ab_gr at h
  split at h
  · rename_i a e
    obtain ⟨v, hv, rfl⟩ := g.2 _ _ e
    exact ⟨a, hv, h⟩
  · cases h
theorem ab_to.at {pc : Nat} {off : Int} {k : Nat → Bool} (h : ab_to pc off k = true) : 0 ≤ (pc : Int) + off ∧ k ((pc : Int) + off).toNat = true := by
  unfold ab_to at h
  simp only [Bool.and_eq_true, decide_eq_true_eq] at h
  exact h
/-! what stays when something is written -/
theorem ab_kpk {p : ab_Y → Bool} (hp : ∀ y z, p y = true → ab_kv lv cs y = some z → ab_kv lv' cs' y = some z) {a : ab_V} {v : Value} (h : ab_cv o lv cs a v) : ab_cv o lv' cs' (ab_kp p a) v := by
  unfold ab_kp
  split
  · obtain ⟨x, rfl, h1, h2, h3⟩ := h
    split
    · rename_i hy
      exact ⟨x, rfl, h1, fun y' hy' => by cases hy'; exact hp _ _ hy (h2 _ rfl), h3⟩
    · exact ⟨x, rfl, h1, fun _ h => (by cases h), h3⟩
  · rename_i b hb
    unfold ab_cv at h ⊢
    split at h
    · exact h
    · rename_i i
      obtain ⟨x, rfl, h1, h2, h3⟩ := h
      refine ⟨x, rfl, h1, fun y hy => ?_, h3⟩
      obtain ⟨lo, hi, og, dl⟩ := i
      cases hy
      exact absurd rfl (hb lo hi y dl)
    · exact h
theorem ab_kst {p : ab_Y → Bool} (hp : ∀ y z, p y = true → ab_kv lv cs y = some z → ab_kv lv' cs' y = some z) : ∀ {as : List ab_V} {st : ex_V}, ab_cst o lv cs as st → ab_cst o lv' cs' (as.map (ab_kp p)) st
  | [], _, h => h
  | a :: r, _, ⟨v, t, e, h1, h2⟩ => ⟨v, t, e, ab_kpk hp h1, ab_kst hp h2⟩
theorem ab_kcf {p : ab_Y → Bool} (hp : ∀ y z, p y = true → ab_kv lv cs y = some z → ab_kv lv' cs' y = some z) {fc : ab_F} (h : ab_cf lv cs fc) : ab_cf lv' cs' (fc.filter (fun q => p q.1)) := by
  intro q hq
  obtain ⟨h1, h2⟩ := List.mem_filter.mp hq
  obtain ⟨x, hx, h3⟩ := h q h1
  exact ⟨x, hp _ _ h2 hx, h3⟩
theorem ab_lis {k i : Nat} {v : Option Value} (h : i ≠ k) : ab_li (lv.set k v) i = ab_li lv i := by
  unfold ab_li
  rw [List.getElem?_set_ne (Ne.symm h)]
theorem ab_nlk {k : Nat} {v : Option Value} : ∀ y z, ab_nl k y = true → ab_kv lv cs y = some z → ab_kv (lv.set k v) cs y = some z := by
  intro y z h hz
  obtain ⟨a, b, c⟩ := y
  match a with
  | 0 =>
    have hb : b ≠ k := by simpa [ab_nl] using h
    show ab_li (lv.set k v) b = some z
    rw [ab_lis hb]; exact hz
  | 1 => exact hz
  | 2 =>
    have hb : c ≠ k := by simpa [ab_nl] using h
    show (ab_li (lv.set k v) c).bind _ = some z
    rw [ab_lis hb]; exact hz
  | 3 =>
    have hb : b ≠ k := by simpa [ab_nl] using h
    show (ab_li (lv.set k v) b).map _ = some z
    rw [ab_lis hb]; exact hz
  | 4 =>
    have hb : c ≠ k := by simpa [ab_nl] using h
    show (ab_ri cs (b / 1000) (b % 1000)).bind (fun x => (ab_li (lv.set k v) c).map (fun z => x - z)) = some z
    rw [ab_lis hb]; exact hz
  | 5 =>
    have hb : c ≠ k := by simpa [ab_nl] using h
    show (ab_ri cs (b / 1000) (b % 1000)).bind (fun x => (ab_li (lv.set k v) c).map (fun z => x + z)) = some z
    rw [ab_lis hb]; exact hz
  | n + 6 => cases hz
theorem ab_nwk {V : ab_W} (hf : ab_fr V cs cs') : ∀ y z, ab_nw V y = true → ab_kv lv cs y = some z → ab_kv lv cs' y = some z := by
  intro y z h hz
  obtain ⟨a, b, c⟩ := y
  match a with
  | 0 => exact hz
  | 1 =>
    have hb : ab_cov V b c = false := by simpa [ab_nw] using h
    show ab_ri cs' b c = some z
    unfold ab_ri
    rw [hf b c hb]
    exact hz
  | 2 =>
    have hb : ∀ j, ab_cov V b j = false := by
      intro j
      have h' : V.all (fun w => w.1 != b) = true := h
      unfold ab_cov
      rw [List.any_eq_false]
      intro w hw
      have := List.all_eq_true.mp h' w hw
      simp at this
      simp [this]
    show (ab_li lv c).bind (fun x => if 0 ≤ x then ab_ri cs' b x.toNat else none) = some z
    have e : (fun (x : Int) => if 0 ≤ x then ab_ri cs' b x.toNat else none) = (fun (x : Int) => if 0 ≤ x then ab_ri cs b x.toNat else none) := by
      funext x
      unfold ab_ri
      rw [hf b _ (hb _)]
    rw [e]
    exact hz
  | 3 => exact hz
  | 4 =>
    have hb : ab_cov V (b / 1000) (b % 1000) = false := by simpa [ab_nw] using h
    show (ab_ri cs' (b / 1000) (b % 1000)).bind (fun x => (ab_li lv c).map (fun z => x - z)) = some z
    unfold ab_ri
    rw [hf _ _ hb]
    exact hz
  | 5 =>
    have hb : ab_cov V (b / 1000) (b % 1000) = false := by simpa [ab_nw] using h
    show (ab_ri cs' (b / 1000) (b % 1000)).bind (fun x => (ab_li lv c).map (fun z => x + z)) = some z
    unfold ab_ri
    rw [hf _ _ hb]
    exact hz
  | n + 6 => cases hz
theorem ab_fr.tr {V : ab_W} {a b c : ex_C} (h1 : ab_fr V a b) (h2 : ab_fr V b c) : ab_fr V a c := fun k j h => (h2 k j h).trans (h1 k j h)
theorem ab_sub1k {w : Nat × Option Nat} {V : ab_W} (h : ab_sub1 w V = true) {k j : Nat} (hc : ab_cov [w] k j = true) : ab_cov V k j = true := by
  unfold ab_sub1 at h
  unfold ab_cov at hc ⊢
  obtain ⟨w', hw, h2⟩ := List.any_eq_true.mp h
  refine List.any_eq_true.mpr ⟨w', hw, ?_⟩
  simp only [List.any_cons, List.any_nil, Bool.or_false, Bool.and_eq_true, Bool.or_eq_true, beq_iff_eq] at hc h2 ⊢
  refine ⟨h2.1.trans hc.1, ?_⟩
  rcases h2.2 with e | e
  · exact Or.inl e
  · rw [e]; exact hc.2
theorem ab_fr.sub {V V' : ab_W} {a b : ex_C} (h : ab_fr V a b) (hs : V.all (fun w => ab_sub1 w V') = true) : ab_fr V' a b := by
  intro k j hc
  refine h k j ?_
  cases hv : ab_cov V k j with
  | false => rfl
  | true =>
    obtain ⟨w, hw, h2⟩ := List.any_eq_true.mp hv
    have := ab_sub1k (List.all_eq_true.mp hs w hw) (k := k) (j := j) (by unfold ab_cov; simpa using h2)
    rw [this] at hc
    cases hc
theorem ab_fr.one {w : Nat × Option Nat} {a b : ex_C} (h : ab_fr [w] a b) (hs : ab_sub1 w W = true) : ab_fr W a b := h.sub (by simp [hs])
/-! variables -/
theorem ab_sok {al : ab_L} {k : Nat} (h : ab_so al k = true) (g : ab_cl o al lv) : ex_so lv k := by
  unfold ab_so at h
  simp only [Bool.and_eq_true, decide_eq_true_eq] at h
  refine ⟨by rw [← g.1]; exact h.1, ?_⟩
  match k, h with
  | 0, _ => trivial
  | j + 1, h =>
    have h2 := h.2
    dsimp only at h2 ⊢
    have hlt : j < al.length := by omega
    obtain ⟨a, ha⟩ : ∃ a, al[j]? = some a := ⟨al[j], List.getElem?_eq_getElem hlt⟩
    obtain ⟨v, hv, hc⟩ := g.2 j a ha
    rw [hv]
    rw [ha] at h2
    cases v with
    | none => trivial
    | some w =>
      show w.category = 1
      unfold ab_c1 at hc
      split at hc
      · exact hc w rfl
      · cases hc; rfl
      · obtain ⟨x, e, -⟩ := hc; cases e; rfl
      · cases h2
theorem ab_clset {al : ab_L} {k : Nat} {a : Option ab_V} {v : Option Value} (g : ab_cl o al lv) (h : ab_c1 o a v) : ab_cl o (al.set k a) (lv.set k v) := by
  refine ⟨by rw [List.length_set, List.length_set]; exact g.1, fun i b hb => ?_⟩
  by_cases hik : k = i
  · subst hik
    by_cases hl : k < al.length
    · rw [List.getElem?_set_self hl] at hb
      cases hb
      exact ⟨v, List.getElem?_set_self (by rw [← g.1]; exact hl), h⟩
    · rw [List.getElem?_eq_none (by rw [List.length_set]; omega)] at hb
      cases hb
  · rw [List.getElem?_set_ne hik] at hb ⊢
    exact g.2 i b hb
theorem ab_clset1 {al : ab_L} {k : Nat} {a : Option ab_V} {v : Option Value} (g : ab_cl o al lv) (hv : lv[k]? = some v) (h : ab_c1 o a v) : ab_cl o (al.set k a) lv := by
  have := ab_clset (k := k) g h
  have e : lv.set k v = lv := by
    apply List.ext_getElem?
    intro i
    rw [List.getElem?_set]
    split
    · rename_i hi
      subst hi
      split
      · exact hv.symm
      · rename_i hn
        rw [List.getElem?_eq_none (by omega)]
    · rfl
  rw [e] at this
  exact this
theorem ab_rfk {al : ab_L} {fc : ab_F} {og : Option ab_Y} {lo hi z : Int} {k : ab_L → ab_F → Bool} (h : ab_rf al fc og lo hi k = true) (h1 : lo ≤ z) (h2 : z ≤ hi) (hy : ∀ y, og = some y → ab_kv lv cs y = some z) (g : ab_cl o al lv) (hf : ab_cf lv cs fc) : ∃ al' fc', k al' fc' = true ∧ ab_cl o al' lv ∧ ab_cf lv cs fc' := by
  unfold ab_rf at h
  rw [if_neg (by omega)] at h
  split at h
  · exact ⟨al, fc, h, g, hf⟩
  · rename_i i j
    have hi' : ab_li lv i = some z := hy _ rfl
    split at h
    · rename_i l hh gg d e
      obtain ⟨v, hv, x, rfl, h3, h4⟩ := g.2 _ _ e
      have hz : x.toInt = z := by
        unfold ab_li at hi'
        rw [hv] at hi'
        exact Option.some.inj hi'
      have h3' : l ≤ x.toInt ∧ x.toInt ≤ hh := h3
      rw [if_neg (by omega)] at h
      exact ⟨_, fc, h, ab_clset1 g hv ⟨x, rfl, ⟨by show max l lo ≤ _; omega, by show _ ≤ min hh hi; omega⟩, h4⟩, hf⟩
    · exact ⟨al, fc, h, g, hf⟩
  · rename_i y hne
    refine ⟨al, _, h, g, fun q hq => ?_⟩
    rcases List.mem_cons.mp hq with rfl | hq
    · exact ⟨z, hy _ rfl, h1, h2⟩
    · exact hf q hq
def ab_rl (c : Nat) (x y : Int) : Prop := match c with
  | 0 => x = y
  | 1 => x ≠ y
  | 2 => x < y
  | 3 => y ≤ x
  | 4 => y < x
  | _ => x ≤ y
theorem ab_cmpk {c : Nat} {a b e f x y : Int} (h : ab_rl c x y) (h1 : a ≤ x) (h2 : x ≤ b) (h3 : e ≤ y) (h4 : y ≤ f) : ((ab_cmp c a b e f).1.1 ≤ x ∧ x ≤ (ab_cmp c a b e f).1.2) ∧ ((ab_cmp c a b e f).2.1 ≤ y ∧ y ≤ (ab_cmp c a b e f).2.2) := by
  match c, h with
  | 0, h => simp only [ab_rl] at h; simp only [ab_cmp]; omega
  | 1, h =>
    simp only [ab_rl] at h
    simp only [ab_cmp]
    refine ⟨⟨?_, ?_⟩, ⟨?_, ?_⟩⟩ <;> split <;> omega
  | 2, h => simp only [ab_rl] at h; simp only [ab_cmp]; omega
  | 3, h => simp only [ab_rl] at h; simp only [ab_cmp]; omega
  | 4, h => simp only [ab_rl] at h; simp only [ab_cmp]; omega
  | n + 5, h => simp only [ab_rl] at h; simp only [ab_cmp]; omega
theorem ab_brk {c : Nat} {a b : ab_I} {x y : Int32} {al : ab_L} {fc : ab_F} {k : ab_L → ab_F → Bool} (h : ab_br c a b al fc k = true) (hc : ab_rl c x.toInt y.toInt) (ha : ab_ci o lv cs a x) (hb : ab_ci o lv cs b y) (g : ab_cl o al lv) (hf : ab_cf lv cs fc) : ∃ al' fc', k al' fc' = true ∧ ab_cl o al' lv ∧ ab_cf lv cs fc' := by
  have hh := ab_cmpk hc ha.1.1 ha.1.2 hb.1.1 hb.1.2
  unfold ab_br at h
  obtain ⟨al1, fc1, h1, g1, f1⟩ := ab_rfk h hh.1.1 hh.1.2 ha.2.1 g hf
  exact ab_rfk h1 hh.2.1 hh.2.2 hb.2.1 g1 f1
end ABS
end
section
section ABT
variable {hd : List ab_H} {xs : List (Nat × Int × Int)} {xt : ex_xt} {W : ab_W} {o : Nat → Int} {cs0 cs cs' : ex_C} {lv lv' : ex_L}
/-! the cells -/
theorem ab_hk.obj (h : ab_hk hd cs) {a ci : Nat} {ts : List ab_T} (e : hd[a]? = some (.inl (ci, ts))) : ∃ fs : List Value, cs[a]? = some (.inr (ci, fs)) ∧ fs.length = ts.length ∧ ∀ (j : Nat) t, ts[j]? = some t → ∃ v, fs[j]? = some v ∧ ab_ct t v := h.2 _ _ e
theorem ab_hk.arr (h : ab_hk hd cs) {a t n m : Nat} {lo hi : Int} (e : hd[a]? = some (.inr (t, n, [(m, lo, hi)]))) (hn : n ≤ m) : ∃ f, cs[a]? = some (.inl (t, n, .inl f)) ∧ ∀ j, j < n → lo ≤ (f j).toInt ∧ (f j).toInt ≤ hi := by
  obtain ⟨f, h1, h2⟩ := h.2 _ _ e
  refine ⟨f, h1, fun j hj => ?_⟩
  have := h2 j hj
  have es : ab_sg [(m, lo, hi)] j = (lo, hi) := by
    show (if j < m then (lo, hi) else _) = _
    rw [if_pos (by have : j < n := hj; omega)]
  dsimp only at this
  rw [es] at this
  exact this
theorem ab_hk.set (h : ab_hk hd cs) {a : Nat} {hh : ab_H} {c : va_E} (e : hd[a]? = some hh) (hc : ab_ch hh (some c)) : ab_hk hd (cs.set a c) := by
  refine ⟨by rw [List.length_set]; exact h.1, fun k h' hk => ?_⟩
  by_cases hka : a = k
  · subst hka
    rw [e] at hk
    cases hk
    rw [List.getElem?_set_self (by rw [h.1]; exact (List.getElem?_eq_some_iff.mp e).1)]
    exact hc
  · rw [List.getElem?_set_ne hka]
    exact h.2 k h' hk
theorem ab_rdn {a k j : Nat} {c : va_E} (h : a ≠ k) : ab_rd (cs.set a c) k j = ab_rd cs k j := by
  unfold ab_rd
  rw [List.getElem?_set_ne h]
theorem ab_rds {a j : Nat} {c e : va_E} (h : cs[a]? = some e) : ab_rd (cs.set a c) a j = (match c with
  | .inr (_, fs) => fs[j]?
  | .inl (_, _, .inl f) => some (.int (f j))
  | _ => none) := by
  unfold ab_rd
  rw [List.getElem?_set_self (List.getElem?_eq_some_iff.mp h).1]
  cases c with
  | inr q => rfl
  | inl q =>
    obtain ⟨t, n, f⟩ := q
    cases f <;> rfl
theorem ab_fro {a ci j : Nat} {fs : List Value} {v : Value} (h : cs[a]? = some (.inr (ci, fs))) : ab_fr [(a, some j)] cs (cs.set a (.inr (ci, fs.set j v))) := by
  intro k i hc
  by_cases hk : a = k
  · subst hk
    have hij : j ≠ i := by
      intro e
      subst e
      simp [ab_cov] at hc
    rw [ab_rds h]
    unfold ab_rd
    rw [h]
    exact List.getElem?_set_ne hij
  · exact ab_rdn hk
theorem ab_fra {a t n : Nat} {f g : Nat → Int32} {w : Option Nat} (h : cs[a]? = some (.inl (t, n, .inl f))) (hg : ∀ j, w ≠ none → w ≠ some j → g j = f j) : ab_fr [(a, w)] cs (cs.set a (.inl (t, n, .inl g))) := by
  intro k i hc
  by_cases hk : a = k
  · subst hk
    rw [ab_rds h]
    unfold ab_rd
    rw [h]
    show some (Value.int (g i)) = some (Value.int (f i))
    rw [hg i (fun e => by subst e; simp [ab_cov] at hc) (fun e => by subst e; simp [ab_cov] at hc)]
  · exact ab_rdn hk
theorem ab_idxk {a : ab_I} {i : Int32} {n : Nat} (h : ab_idx a n = true) (hi : ab_ci o lv cs a i) : vp_in i n ∧ 0 ≤ i.toInt ∧ i.toInt.toNat < n := by
  have h' := of_decide_eq_true h
  have h1 := hi.1
  have e : i.toNatClampNeg = i.toInt.toNat := rfl
  refine ⟨?_, by omega, by omega⟩
  intro hb
  rcases hb with hb | hb
  · rw [Int32.lt_iff_toInt_lt] at hb
    have h0 : (0 : Int32).toInt = 0 := by decide
    omega
  · omega
theorem ab_ldk {fc : ab_F} {og : Option ab_Y} {lo hi : Int} {x : Int32} (hy : ∀ y, og = some y → ab_kv lv cs y = some x.toInt) (hf : ab_cf lv cs fc) (h1 : lo ≤ x.toInt) (h2 : x.toInt ≤ hi) : ab_ci o lv cs (ab_ld fc og lo hi) x := by
  unfold ab_ld
  split
  · exact ab_mk h1 h2 (fun _ h => (by cases h))
  · rename_i y
    have := ab_lkk (hy y rfl) hf h1 h2
    exact ⟨this, fun y' hy' => by cases hy'; exact hy y rfl, fun _ h => (by cases h)⟩
theorem ab_ekk {a t n : Nat} {f : Nat → Int32} {b : ab_I} {i : Int32} (h : cs[a]? = some (.inl (t, n, .inl f))) (hi : ab_ci o lv cs b i) (h0 : 0 ≤ i.toInt) : ∀ y, ab_ek a b = some y → ab_kv lv cs y = some (f i.toInt.toNat).toInt := by
  intro y hy
  have hr : ab_ri cs a i.toInt.toNat = some (f i.toInt.toNat).toInt := by
    unfold ab_ri ab_rd
    rw [h]
  unfold ab_ek at hy
  split at hy
  · rename_i e
    cases hy
    have h1 := hi.1
    have : b.1 = i.toInt := by omega
    show ab_ri cs a b.1.toNat = _
    rw [this]
    exact hr
  · split at hy
    · rename_i l j e
      cases hy
      have hk : ab_li lv l = some i.toInt := hi.2.1 _ e
      show (ab_li lv l).bind (fun x => if 0 ≤ x then ab_ri cs a x.toNat else none) = _
      rw [hk]
      show (if 0 ≤ i.toInt then ab_ri cs a i.toInt.toNat else none) = _
      rw [if_pos h0]
      exact hr
    · cases hy
/-! the stack, taken apart -/
theorem ab_capp : ∀ {as bs : List ab_V} {s t : ex_V}, ab_cst o lv cs as s → ab_cst o lv cs bs t → ab_cst o lv cs (as ++ bs) (s ++ t)
  | [], _, _, _, rfl, h2 => h2
  | a :: r, _, _, _, ⟨v, q, e, h1, h2⟩, h3 => by
    subst e
    exact ⟨v, q ++ _, rfl, h1, ab_capp h2 h3⟩
theorem ab_crev : ∀ {as : List ab_V} {s : ex_V}, ab_cst o lv cs as s → ab_cst o lv cs as.reverse s.reverse
  | [], _, rfl => rfl
  | a :: r, _, ⟨v, q, e, h1, h2⟩ => by
    subst e
    rw [List.reverse_cons, List.reverse_cons]
    exact ab_capp (ab_crev h2) ⟨v, [], rfl, h1, rfl⟩
theorem ab_ctake : ∀ {n : Nat} {as : List ab_V} {s : ex_V}, ab_cst o lv cs as s → ab_cst o lv cs (as.take n) (s.take n)
  | 0, _, _, _ => by simp [ab_cst]
  | n + 1, [], _, h => by cases h; simp [ab_cst]
  | n + 1, a :: r, _, ⟨v, q, e, h1, h2⟩ => by
    subst e
    exact ⟨v, q.take n, rfl, h1, ab_ctake h2⟩
theorem ab_cdrop : ∀ {n : Nat} {as : List ab_V} {s : ex_V}, ab_cst o lv cs as s → ab_cst o lv cs (as.drop n) (s.drop n)
  | 0, _, _, h => by simpa using h
  | n + 1, [], _, h => by cases h; simp [ab_cst]
  | n + 1, a :: r, _, ⟨v, q, e, h1, h2⟩ => by
    subst e
    rw [List.drop_succ_cons, List.drop_succ_cons]
    exact ab_cdrop (n := n) h2
theorem ab_clen : ∀ {as : List ab_V} {s : ex_V}, ab_cst o lv cs as s → as.length = s.length
  | [], _, h => by cases h; rfl
  | a :: r, _, ⟨v, q, e, h1, h2⟩ => by
    subst e
    simp [ab_clen h2]
theorem ab_cget : ∀ {as : List ab_V} {s : ex_V} {i : Nat} {a : ab_V}, ab_cst o lv cs as s → as[i]? = some a → ∃ v, s[i]? = some v ∧ ab_cv o lv cs a v
  | [], _, _, _, _, h => by simp at h
  | b :: r, _, 0, a, ⟨v, q, e, h1, h2⟩, h => by
    subst e
    simp at h
    subst h
    exact ⟨v, rfl, h1⟩
  | b :: r, _, i + 1, a, ⟨v, q, e, h1, h2⟩, h => by
    subst e
    simp at h
    obtain ⟨w, hw, hc⟩ := ab_cget h2 h
    exact ⟨w, by simpa using hw, hc⟩
theorem ab_csum : ∀ {as : List ab_V} {s : ex_V}, ab_cst o lv cs as s → (s.map (fun v => v.category)).sum = (as.map ab_c).sum
  | [], _, h => by cases h; rfl
  | a :: r, _, ⟨v, q, e, h1, h2⟩ => by
    subst e
    simp only [List.map_cons, List.sum_cons]
    rw [ab_cat h1, ab_csum h2]
theorem ab_sumk {as : List ab_V} {s : ex_V} (h : ab_sum as = true) (g : ab_cst o lv cs as s) : (s.map (fun v => v.category)).sum ≤ 8 := by
  rw [ab_csum g]
  exact of_decide_eq_true h
theorem ab_a {p : Prop} [Decidable p] {b : Bool} (h : (decide p && b) = true) : p ∧ b = true := by
  simp only [Bool.and_eq_true, decide_eq_true_eq] at h
  exact h
theorem ab_b {a b : Bool} (h : (a && b) = true) : a = true ∧ b = true := by
  simp only [Bool.and_eq_true] at h
  exact h
/-! calls -/
theorem ab_lek {a : ab_V} {t : ab_T} {v : Value} (h : ab_le a t = true) (g : ab_cv o lv cs a v) : ab_ct t v := by
  unfold ab_le at h
  split at h
  · have := of_decide_eq_true h
    subst this
    exact g
  · obtain ⟨h1, h2⟩ := ab_a h
    have h3 := of_decide_eq_true h2
    obtain ⟨x, rfl, hx, -⟩ := g
    exact ⟨x, rfl, by omega, by omega⟩
  · cases h
theorem ab_lesk : ∀ {as : List ab_V} {ts : List ab_T} {av : ex_V}, ab_les as ts = true → ab_cst o lv cs as av → av.length = ts.length ∧ ∀ (i : Nat) t, ts[i]? = some t → ∃ v, av[i]? = some v ∧ ab_ct t v
  | [], [], _, _, g => by
    cases g
    exact ⟨rfl, fun i t h => by simp at h⟩
  | a :: r, t :: s, _, h, ⟨v, q, e, h1, h2⟩ => by
    subst e
    obtain ⟨h3, h4⟩ := ab_b h
    obtain ⟨g1, g2⟩ := ab_lesk h4 h2
    refine ⟨by simp [g1], fun i t' ht => ?_⟩
    cases i with
    | zero =>
      simp at ht
      subst ht
      exact ⟨v, rfl, ab_lek h3 h1⟩
    | succ i =>
      simp at ht
      obtain ⟨w, hw, hc⟩ := g2 i t' ht
      exact ⟨w, by simpa using hw, hc⟩
  | [], _ :: _, _, h, _ => by cases h
  | _ :: _, [], _, h, _ => by cases h
theorem ab_avli {av : ex_V} {i : Nat} {x : Int32} (h : av[i]? = some (.int x)) : ab_li (av.map some) i = some x.toInt := by
  unfold ab_li
  rw [List.getElem?_map, h]
  rfl
theorem ab_prfk {fc : ab_F} {args : List ab_V} {av : ex_V} {q : ab_Y × Int × Int} (h : ab_prf fc args q = true) (g : ab_cst o lv cs args av) (hf : ab_cf lv cs fc) : ∃ x, ab_kv (av.map some) cs q.1 = some x ∧ q.2.1 ≤ x ∧ x ≤ q.2.2 := by
  unfold ab_prf at h
  split at h
  · rename_i i c e
    split at h
    · rename_i a1 a2 l a3 a4 ea
      obtain ⟨v, hv, x, rfl, hx⟩ := ab_cget g ea
      obtain ⟨f, hm, h2⟩ := List.any_eq_true.mp h
      obtain ⟨h3, h4⟩ := ab_b h2
      obtain ⟨h5, h6⟩ := ab_a h4
      have h7 := of_decide_eq_true h6
      have e3 : f.1 = (3, l, c) := by simpa using h3
      obtain ⟨z, hz, z1, z2⟩ := hf f hm
      rw [e3] at hz
      have hk : ab_li lv l = some x.toInt := hx.2.1 _ rfl
      have hz' : (ab_li lv l).map (fun x => x.tmod (c : Int)) = some z := hz
      rw [hk] at hz'
      refine ⟨z, ?_, by omega, by omega⟩
      rw [e]
      show (ab_li (av.map some) i).map (fun x => x.tmod (c : Int)) = some z
      rw [ab_avli hv]
      exact hz'
    · cases h
  · rename_i k j e
    obtain ⟨f, hm, h2⟩ := List.any_eq_true.mp h
    obtain ⟨h3, h4⟩ := ab_b h2
    obtain ⟨h5, h6⟩ := ab_a h4
    have h7 := of_decide_eq_true h6
    have e3 : f.1 = (1, k, j) := by simpa using h3
    obtain ⟨z, hz, z1, z2⟩ := hf f hm
    rw [e3] at hz
    refine ⟨z, ?_, by omega, by omega⟩
    rw [e]
    exact hz
  · cases h
theorem ab_fin {ks : ab_F} {cs : ex_C} {lv : ex_L} (h : ab_cf [] cs ks) {fc : ab_F} (hf : ab_cf lv cs fc) : ab_cf lv cs (ks.filter (fun q => q.1.1 == 1) ++ fc) := by
  intro q hq
  rcases List.mem_append.mp hq with hq | hq
  · obtain ⟨h1, h2⟩ := List.mem_filter.mp hq
    obtain ⟨z, hz, hb⟩ := h q h1
    obtain ⟨⟨a, b, c⟩, lo, hi⟩ := q
    have ha : a = 1 := by simpa using h2
    subst ha
    exact ⟨z, hz, hb⟩
  · exact hf q hq
theorem ab_appk {args : List ab_V} {av : ex_V} {k : ab_L → ab_F → Bool} (ha : ab_cst o lv cs args av) : ∀ {ks : ab_F} {al : ab_L} {fc : ab_F}, ab_app args k ks al fc = true → ab_cf (av.map some) [] ks → ab_cl o al lv → ab_cf lv cs fc → ∃ al' fc', k al' fc' = true ∧ ab_cl o al' lv ∧ ab_cf lv cs fc'
  | [], al, fc, h, _, g, hf => ⟨al, fc, h, g, hf⟩
  | q :: r, al, fc, h, hk, g, hf => by
    have hr : ab_cf (av.map some) [] r := fun p hp => hk p (List.mem_cons_of_mem _ hp)
    obtain ⟨z, hz, z1, z2⟩ := hk q List.mem_cons_self
    unfold ab_app at h
    split at h
    · rename_i i j e
      split at h
      · rename_i x ea
        obtain ⟨v, hv, y, rfl, hy⟩ := ab_cget ha ea
        rw [e] at hz
        have hz' : ab_li (av.map some) i = some z := hz
        rw [ab_avli hv] at hz'
        cases hz'
        obtain ⟨al1, fc1, h1, g1, f1⟩ := ab_rfk h z1 z2 hy.2.1 g hf
        exact ab_appk ha h1 hr g1 f1
      · exact ab_appk ha h hr g hf
    · rename_i i c e
      split at h
      · rename_i a1 a2 l a3 a4 ea
        obtain ⟨v, hv, x, rfl, hx⟩ := ab_cget ha ea
        rw [e] at hz
        have hz' : (ab_li (av.map some) i).map (fun x => x.tmod (c : Int)) = some z := hz
        rw [ab_avli hv] at hz'
        have hkl : ab_li lv l = some x.toInt := hx.2.1 _ rfl
        refine ab_appk ha h hr g (fun p hp => ?_)
        rcases List.mem_cons.mp hp with rfl | hp
        · refine ⟨z, ?_, z1, z2⟩
          show (ab_li lv l).map (fun x => x.tmod (c : Int)) = some z
          rw [hkl]
          exact hz'
        · exact hf p hp
      · exact ab_appk ha h hr g hf
    · exact ab_appk ha h hr g hf
theorem ab_callk {l : List ab_C} {args rest : List ab_V} {al : ab_L} {fc : ab_F} {k : ab_L → List ab_V → ab_F → Bool} {av t : ex_V} {P : ex_V → ex_C → Prop} (h : ab_call W l args rest al fc k = true) (ga : ab_cst o lv cs args av) (gr : ab_cst o lv cs rest t) (gl : ab_cl o al lv) (gf : ab_cf lv cs fc) (gh : ab_hk hd cs) (gw : ab_fr W cs0 cs) (kk : ∀ al' as' fc' st' cs', k al' as' fc' = true → ab_G hd W o cs0 al' as' fc' lv st' cs' → P st' cs') : ab_sp hd l av cs (fun r cs' => P (r.toList ++ t) cs') := by
  unfold ab_call at h
  split at h
  · rename_i c ec
    obtain ⟨h1, h2⟩ := ab_b h
    have hm := List.find?_some ec
    obtain ⟨h3, h4⟩ := ab_b hm
    obtain ⟨p1, p2⟩ := ab_lesk h3 ga
    refine ⟨c, List.mem_of_find?_eq_some ec, ⟨p1, p2, fun q hq => ab_prfk (List.all_eq_true.mp h4 q hq) ga gf⟩, gh, fun r cs1 hp => ?_⟩
    obtain ⟨q1, q2, s, hs, q3, q4, q5⟩ := hp
    have hn := ab_nwk (lv := lv) q2
    have h5 := List.all_eq_true.mp h2 s hs
    obtain ⟨al', fc', h6, g6, f6⟩ := ab_appk (ab_kst hn ga) h5 q4 gl (ab_kcf hn gf)
    refine kk _ _ _ _ _ h6 ⟨g6, ?_, ab_fin q5 f6, q1, gw.tr (q2.sub h1)⟩
    refine ab_capp ?_ (ab_kst hn gr)
    unfold ab_rt at q3
    split at q3
    · rename_i e
      rw [q3, e]
      rfl
    · rename_i q e
      obtain ⟨x, rfl, x1, x2⟩ := q3
      rw [e]
      exact ⟨.int x, [], rfl, ⟨x, rfl, ab_mk x1 x2 (fun _ h => (by cases h))⟩, rfl⟩
  · cases h
theorem ab_tbk {a : ab_I} {x : Int32} {k : Int → Int → Bool} {P : Int → Prop} (h1 : a.1 ≤ x.toInt) (h2 : x.toInt ≤ a.2.1) (kk : ∀ f, k x.toInt f = true → P f) : ∀ {l : List Int} {lo : Int}, ab_tb a k lo l = true → ex_tb x P lo l
  | [], _, _ => trivial
  | f :: r, lo, h => by
    obtain ⟨h3, h4⟩ := ab_b h
    refine ⟨fun e => ?_, ab_tbk h1 h2 kk h4⟩
    rw [e] at h1 h2 kk
    rw [if_pos ⟨h1, h2⟩] at h3
    exact kk f h3
theorem ab_lksk {a : ab_I} {x : Int32} {k : Int → Int → Bool} {P : Int → Prop} (h1 : a.1 ≤ x.toInt) (h2 : x.toInt ≤ a.2.1) (kk : ∀ f, k x.toInt f = true → P f) : ∀ {l : List (Int × Int)}, ab_lks a k l = true → ex_lk x P l
  | [], _ => trivial
  | f :: r, h => by
    obtain ⟨h3, h4⟩ := ab_b h
    refine ⟨fun e => ?_, ab_lksk h1 h2 kk h4⟩
    rw [e] at h1 h2 kk
    rw [if_pos ⟨h1, h2⟩] at h3
    exact kk f.2 h3
theorem ab_cjk {c c' pc : Nat} {off : Int} {a b : ab_I} {x y : Int32} {al : ab_L} {fc : ab_F} {K : Nat → ab_L → ab_F → Bool} {P : Nat → Prop} (h : ab_cj c c' pc off a b al fc K = true) (ha : ab_ci o lv cs a x) (hb : ab_ci o lv cs b y) (g : ab_cl o al lv) (hf : ab_cf lv cs fc) (kk : ∀ t al' fc', K t al' fc' = true → ab_cl o al' lv → ab_cf lv cs fc' → P t) : 0 ≤ (pc : Int) + off ∧ (ab_rl c x.toInt y.toInt → P ((pc : Int) + off).toNat) ∧ (ab_rl c' x.toInt y.toInt → P (pc + 3)) := by
  obtain ⟨h1, h2⟩ := ab_to.at h
  obtain ⟨h3, h4⟩ := ab_b h2
  refine ⟨h1, fun hr => ?_, fun hr => ?_⟩
  · obtain ⟨al', fc', h5, g5, f5⟩ := ab_brk h3 hr ha hb g hf
    exact kk _ _ _ h5 g5 f5
  · obtain ⟨al', fc', h5, g5, f5⟩ := ab_brk h4 hr ha hb g hf
    exact kk _ _ _ h5 g5 f5
theorem ab_c0 : ab_ci o lv cs (ab_cn 0) (0 : Int32) := by
  have h0 : (0 : Int32).toInt = 0 := by decide
  have := ab_cnk (o := o) (lv := lv) (cs := cs) (0 : Int32)
  rw [h0] at this
  exact this
theorem ab_stk {al : ab_L} {as : List ab_V} {fc : ab_F} {k : Nat} {K : ab_L → List ab_V → ab_F → Bool} {st : ex_V} {P : ex_L → ex_V → Prop} (h : ab_st al as fc k K = true) (g : ab_G hd W o cs0 al as fc lv st cs) (kk : ∀ al' as' fc' lv' st', K al' as' fc' = true → ab_G hd W o cs0 al' as' fc' lv' st' cs → P lv' st') : ex_i1 st (fun x r => ex_so lv k ∧ P (lv.set k (some (.int x))) r) := by
  obtain ⟨a, x, r, t, rfl, ha, ht, h1⟩ := ab_i1.at h g.2.1
  obtain ⟨h2, h3⟩ := ab_b h1
  exact And.intro (ab_sok h2 g.1) (kk _ _ _ _ _ h3 ⟨ab_clset g.1 ⟨x, rfl, ha.1, ha.2.2⟩, ab_kst ab_nlk ht, ab_kcf ab_nlk g.2.2.1, g.2.2.2⟩)
theorem ab_srk {al : ab_L} {as : List ab_V} {fc : ab_F} {k : Nat} {K : ab_L → List ab_V → ab_F → Bool} {st : ex_V} {P : ex_L → ex_V → Prop} (h : ab_sr al as fc k K = true) (g : ab_G hd W o cs0 al as fc lv st cs) (kk : ∀ al' as' fc' lv' st', K al' as' fc' = true → ab_G hd W o cs0 al' as' fc' lv' st' cs → P lv' st') : ex_r1 st (fun x r => ex_so lv k ∧ P (lv.set k (some (.ref x))) r) := by
  obtain ⟨a, r, t, rfl, ht, h1⟩ := ab_r1.at h g.2.1
  obtain ⟨h2, h3⟩ := ab_b h1
  exact And.intro (ab_sok h2 g.1) (kk _ _ _ _ _ h3 ⟨ab_clset g.1 rfl, ab_kst ab_nlk ht, ab_kcf ab_nlk g.2.2.1, g.2.2.2⟩)
theorem ab_slk {al : ab_L} {as : List ab_V} {fc : ab_F} {k : Nat} {K : ab_L → List ab_V → ab_F → Bool} {st : ex_V} {P : ex_L → ex_V → Prop} (h : ab_sl al as fc k K = true) (g : ab_G hd W o cs0 al as fc lv st cs) (kk : ∀ al' as' fc' lv' st', K al' as' fc' = true → ab_G hd W o cs0 al' as' fc' lv' st' cs → P lv' st') : ex_l1 st (fun x r => ex_so lv k ∧ k + 1 < lv.length ∧ P ((lv.set k (some (.long x))).set (k + 1) none) r) := by
  obtain ⟨a, x, r, t, rfl, ha, ht, h1⟩ := ab_l1.at h g.2.1
  obtain ⟨h2, h3⟩ := ab_b h1
  obtain ⟨h4, h5⟩ := ab_a h3
  have hn : ∀ y z, (ab_nl k y && ab_nl (k + 1) y) = true → ab_kv lv cs y = some z → ab_kv ((lv.set k (some (.long x))).set (k + 1) none) cs y = some z := fun y z hy hz => ab_nlk y z (ab_b hy).2 (ab_nlk y z (ab_b hy).1 hz)
  exact And.intro (ab_sok h2 g.1) (And.intro (by rw [← g.1.1]; exact h4) (kk _ _ _ _ _ h5 ⟨ab_clset (ab_clset g.1 ⟨x, rfl, ha⟩) (fun w hw => by cases hw), ab_kst hn ht, ab_kcf hn g.2.2.1, g.2.2.2⟩))
theorem ab_wrk {w : Nat × Option Nat} {r : List ab_V} {fc : ab_F} {K : List ab_V → ab_F → Bool} {t : ex_V} {al : ab_L} (h : ab_wr W w r fc K = true) (hfr : ab_fr [w] cs cs') (hh : ab_hk hd cs') (gl : ab_cl o al lv) (gr : ab_cst o lv cs r t) (gf : ab_cf lv cs fc) (gw : ab_fr W cs0 cs) : ∃ r' fc', K r' fc' = true ∧ ab_G hd W o cs0 al r' fc' lv t cs' := by
  obtain ⟨h1, h2⟩ := ab_b h
  exact ⟨_, _, h2, gl, ab_kst (ab_nwk hfr) gr, ab_kcf (ab_nwk hfr) gf, hh, gw.tr (hfr.one h1)⟩
theorem ab_objk {a ci : Nat} {k : List ab_T → Bool} (h : ab_obj hd a ci k = true) : ∃ ts, hd[a]? = some (.inl (ci, ts)) ∧ k ts = true := by
  unfold ab_obj at h
  split at h
  · rename_i c ts e
    obtain ⟨h1, h2⟩ := ab_a h
    subst h1
    exact ⟨ts, e, h2⟩
  · cases h
theorem ab_ar1k {a t : Nat} {k : Nat → Int → Int → Bool} (h : ab_ar1 hd a t k = true) : ∃ n m lo hi, hd[a]? = some (.inr (t, n, [(m, lo, hi)])) ∧ n ≤ m ∧ k n lo hi = true := by
  unfold ab_ar1 at h
  split at h
  · rename_i t2 n m lo hi e
    obtain ⟨h1, h2⟩ := ab_a h
    obtain ⟨h3, h4⟩ := ab_a h2
    subst h1
    exact ⟨n, m, lo, hi, e, h3, h4⟩
  · cases h
theorem ab_arrk {a t : Nat} {i : ab_I} {k : Nat → Int → Int → Bool} (h : ab_arr hd a t i k = true) : ∃ n sg b, hd[a]? = some (.inr (t, n, sg)) ∧ ab_bd n sg i = some b ∧ k n b.1 b.2 = true := by
  unfold ab_arr at h
  split at h
  · rename_i t2 n sg e
    obtain ⟨h1, h2⟩ := ab_a h
    subst h1
    split at h2
    · rename_i b eb
      exact ⟨n, sg, b, e, eb, h2⟩
    · cases h2
  · cases h
theorem ab_bdk {n : Nat} {sg : List (Nat × Int × Int)} {a : ab_I} {b : Int × Int} {i : Int32} (h : ab_bd n sg a = some b) (hi : ab_ci o lv cs a i) (hn : i.toInt.toNat < n) : ab_sg sg i.toInt.toNat = b := by
  unfold ab_bd at h
  split at h
  · rename_i q
    split at h
    · cases h
      show (if i.toInt.toNat < q.1 then q.2 else _) = _
      rw [if_pos (by omega)]
    · cases h
  · split at h
    · rename_i e
      cases h
      have h1 := hi.1
      rw [show a.1 = i.toInt by omega]
    · cases h
theorem ab_arrset {a t n m : Nat} {lo hi : Int} {g : Nat → Int32} (h : ab_hk hd cs) (e : hd[a]? = some (.inr (t, n, [(m, lo, hi)]))) (hn : n ≤ m) (hg : ∀ j, j < n → lo ≤ (g j).toInt ∧ (g j).toInt ≤ hi) : ab_hk hd (cs.set a (.inl (t, n, .inl g))) := by
  refine h.set e ⟨g, rfl, fun j hj => ?_⟩
  have es : ab_sg [(m, lo, hi)] j = (lo, hi) := by
    show (if j < m then (lo, hi) else _) = _
    rw [if_pos (by have : j < n := hj; omega)]
  dsimp only
  rw [es]
  exact hg j hj
theorem ab_fitk {ty : FieldType} {v : ab_V} {w : Value} (h : ab_fit ty v = true) (g : ab_cv o lv cs v w) : ex_fit ty w := by
  unfold ab_fit at h
  split at h
  · obtain ⟨x, rfl, -⟩ := g; trivial
  · obtain ⟨x, rfl, -⟩ := g; trivial
  · obtain ⟨x, rfl, hx, -⟩ := g
    obtain ⟨h1, h2⟩ := ab_a h
    have h3 := of_decide_eq_true h2
    exact ab_01 (by omega) (by omega)
  · cases g; trivial
  · cases g; trivial
  · cases h
/-- the bounds of the static arrays -/
def ab_xo (xs : List (Nat × Int × Int)) (xt : ex_xt) : Prop := ∀ (j : Nat) q, xs[j]? = some q → ∃ f, xt[j]? = some (q.1, f) ∧ ∀ i, i < q.1 → q.2.1 ≤ (f i).toInt ∧ (f i).toInt ≤ q.2.2
theorem ab_upd {f : Nat → Int32} {i : Nat} {x : Int32} {n : Nat} {lo hi : Int} (h : ∀ j, j < n → lo ≤ (f j).toInt ∧ (f j).toInt ≤ hi) (h1 : lo ≤ x.toInt) (h2 : x.toInt ≤ hi) : ∀ j, j < n → lo ≤ (upd f i x j).toInt ∧ (upd f i x j).toInt ≤ hi := by
  intro j hj
  unfold upd
  split
  · exact ⟨h1, h2⟩
  · exact h j hj
theorem ab_wkk {b : ab_I} {i : Int32} {f : Nat → Int32} {x : Int32} (hb : ab_ci o lv cs b i) : ∀ j, ab_wk b ≠ none → ab_wk b ≠ some j → upd f i.toNatClampNeg x j = f j := by
  intro j h1 h2
  unfold ab_wk at h1 h2
  split at h2
  · rename_i e
    have hh := hb.1
    have e2 : i.toNatClampNeg = i.toInt.toNat := rfl
    have e3 : b.1.toNat ≠ j := fun q => h2 (by rw [q])
    unfold upd
    rw [if_neg (by omega)]
  · rename_i e
    rw [if_neg e] at h1
    exact absurd rfl h1
end ABT
end
section
section ABU
variable {hd : List ab_H} {xs : List (Nat × Int × Int)} {xt : ex_xt} {W : ab_W} {o : Nat → Int} {cs0 : ex_C} {cx : ex_K} {cm : Nat → Option (Nat × Option Nat × List ab_C)} {ret : Option FieldType} {E : Option ab_I → ab_L → ab_F → Bool} {Q : ex_Q}
theorem ab_G.pu {al : ab_L} {fc : ab_F} {lv : ex_L} {cs : ex_C} {as' r : List ab_V} {st' t : ex_V} (g : ab_G hd W o cs0 al as' fc lv st' cs) (h : ab_cst o lv cs r t) : ab_G hd W o cs0 al r fc lv t cs := ⟨g.1, h, g.2.2⟩
theorem ab_pi {lv : ex_L} {cs : ex_C} {r : List ab_V} {t : ex_V} {a : ab_I} {x : Int32} (h : ab_ci o lv cs a x) (ht : ab_cst o lv cs r t) : ab_cst o lv cs (ab_n a :: r) (.int x :: t) := ⟨_, _, rfl, ⟨x, rfl, h⟩, ht⟩
theorem ab_pl {lv : ex_L} {cs : ex_C} {r : List ab_V} {t : ex_V} {a : Int × Int} {x : Int64} (h : a.1 ≤ x.toInt ∧ x.toInt ≤ a.2) (ht : ab_cst o lv cs r t) : ab_cst o lv cs (.inr (.inr a) :: r) (.long x :: t) := ⟨_, _, rfl, ⟨x, rfl, h⟩, ht⟩
theorem ab_pt {lv : ex_L} {cs : ex_C} {r : List ab_V} {t : ex_V} (x : Int64) (ht : ab_cst o lv cs r t) : ab_cst o lv cs (ab_lt :: r) (.long x :: t) := ab_pl ⟨ab_lge x, ab_llt x⟩ ht
theorem ab_pr {lv : ex_L} {cs : ex_C} {r : List ab_V} {t : ex_V} {k : Nat} (ht : ab_cst o lv cs r t) : ab_cst o lv cs (.inl k :: r) (.ref k :: t) := ⟨_, _, rfl, rfl, ht⟩
theorem ab_il {lv : ex_L} {cs : ex_C} {k : Nat} {a : ab_I} {x : Int32} (hv : lv[k]? = some (some (.int x))) (h1 : a.1 ≤ x.toInt ∧ x.toInt ≤ a.2.1) (h2 : ∀ q, a.2.2.2 = some q → x.toInt = o q.1 + q.2) : ab_ci o lv cs (a.1, a.2.1, some (0, k, 0), a.2.2.2) x := by
  refine ⟨h1, fun y hy => ?_, h2⟩
  cases hy
  show ab_li lv k = some x.toInt
  unfold ab_li
  rw [hv]
theorem ab_ogi {lv : ex_L} {i : Nat} {k : Int32 → Prop} {x : Int32} (h : lv[i]? = some (some (.int x))) (hk : k x) : ex_gi lv i k := by
  unfold ex_gi
  rw [h]
  exact hk
theorem ab_ogl {lv : ex_L} {i : Nat} {k : Int64 → Prop} {x : Int64} (h : lv[i]? = some (some (.long x))) (hk : k x) : ex_gl lv i k := by
  unfold ex_gl
  rw [h]
  exact hk
theorem ab_ogr {lv : ex_L} {i : Nat} {k : Nat → Prop} {x : Nat} (h : lv[i]? = some (some (.ref x))) (hk : k x) : ex_gr lv i k := by
  unfold ex_gr
  rw [h]
  exact hk
theorem ab_oo {α : Type} {x : Option α} {a : α} {k : α → Prop} (h : x = some a) (hk : k a) : ex_o x k := by
  subst h
  exact hk
theorem ab_oob {cs : ex_C} {a ci : Nat} {k : List Value → Prop} {fs : List Value} (h : cs[a]? = some (.inr (ci, fs))) (hk : k fs) : ex_ob cs a ci k := by
  unfold ex_ob
  rw [h]
  exact ⟨rfl, hk⟩
theorem ab_oar {cs : ex_C} {a t n : Nat} {k : Nat → (Nat → Int32) → Prop} {f : Nat → Int32} (h : cs[a]? = some (.inl (t, n, .inl f))) (hk : k n f) : ex_ar cs a t k := by
  unfold ex_ar
  rw [h]
  exact ⟨rfl, hk⟩
theorem ab_i32 {x : Int32} : (x = 0 → ab_rl 0 x.toInt (0 : Int32).toInt) ∧ (¬ x = 0 → ab_rl 1 x.toInt (0 : Int32).toInt) := ⟨fun h => by subst h; rfl, fun h e => h (Int32.toInt_inj.mp e)⟩
theorem ab_ieq {x y : Int32} : (x = y → ab_rl 0 x.toInt y.toInt) ∧ (¬ x = y → ab_rl 1 x.toInt y.toInt) := ⟨fun h => by subst h; rfl, fun h e => h (Int32.toInt_inj.mp e)⟩
theorem ab_ilt {x y : Int32} : (x < y → ab_rl 2 x.toInt y.toInt) ∧ (¬ x < y → ab_rl 3 x.toInt y.toInt) := ⟨fun h => Int32.lt_iff_toInt_lt.mp h, fun h => Int.not_lt.mp (fun q => h (Int32.lt_iff_toInt_lt.mpr q))⟩
theorem ab_ige {x y : Int32} : (y ≤ x → ab_rl 3 x.toInt y.toInt) ∧ (¬ y ≤ x → ab_rl 2 x.toInt y.toInt) := ⟨fun h => Int32.le_iff_toInt_le.mp h, fun h => Int.not_le.mp (fun q => h (Int32.le_iff_toInt_le.mpr q))⟩
theorem ab_igt {x y : Int32} : (y < x → ab_rl 4 x.toInt y.toInt) ∧ (¬ y < x → ab_rl 5 x.toInt y.toInt) := ⟨fun h => Int32.lt_iff_toInt_lt.mp h, fun h => Int.not_lt.mp (fun q => h (Int32.lt_iff_toInt_lt.mpr q))⟩
theorem ab_ile {x y : Int32} : (x ≤ y → ab_rl 5 x.toInt y.toInt) ∧ (¬ x ≤ y → ab_rl 4 x.toInt y.toInt) := ⟨fun h => Int32.le_iff_toInt_le.mp h, fun h => Int.not_le.mp (fun q => h (Int32.le_iff_toInt_le.mpr q))⟩
theorem ab_bj {A : Prop} {pc : Nat} {off : Int} {P : Nat → Prop} {c c' : Nat} {x y : Int32} (h : 0 ≤ (pc : Int) + off ∧ (ab_rl c x.toInt y.toInt → P ((pc : Int) + off).toNat) ∧ (ab_rl c' x.toInt y.toInt → P (pc + 3))) (hA : (A → ab_rl c x.toInt y.toInt) ∧ (¬ A → ab_rl c' x.toInt y.toInt)) : ex_to pc off (fun t => ex_b A (P t) (P (pc + 3))) := And.intro h.1 (And.intro (fun a => h.2.1 (hA.1 a)) (fun a => h.2.2 (hA.2 a)))
theorem ab_bj' {A : Prop} {pc : Nat} {off : Int} {P : Nat → Prop} {c c' : Nat} {x y : Int32} (h : 0 ≤ (pc : Int) + off ∧ (ab_rl c x.toInt y.toInt → P ((pc : Int) + off).toNat) ∧ (ab_rl c' x.toInt y.toInt → P (pc + 3))) (hA : (A → ab_rl c' x.toInt y.toInt) ∧ (¬ A → ab_rl c x.toInt y.toInt)) : ex_to pc off (fun t => ex_b A (P (pc + 3)) (P t)) := And.intro h.1 (And.intro (fun a => h.2.2 (hA.1 a)) (fun a => h.2.1 (hA.2 a)))
theorem ab_upds {f : Nat → Int32} {i z : Int32} {n : Nat} {sg : List (Nat × Int × Int)} {b : Int × Int} {c : ab_I} {lv : ex_L} {cs : ex_C} (h : ∀ j, j < n → (ab_sg sg j).1 ≤ (f j).toInt ∧ (f j).toInt ≤ (ab_sg sg j).2) (e : ab_sg sg i.toInt.toNat = b) (hb : b.1 ≤ c.1 ∧ c.2.1 ≤ b.2) (hc : ab_ci o lv cs c z) : ∀ j, j < n → (ab_sg sg j).1 ≤ (upd f i.toNatClampNeg z j).toInt ∧ (upd f i.toNatClampNeg z j).toInt ≤ (ab_sg sg j).2 := by
  intro j hj
  unfold upd
  split
  · rename_i ej
    have e2 : i.toNatClampNeg = i.toInt.toNat := rfl
    rw [ej, e2, e]
    have h1 := hc.1
    omega
  · exact h j hj
set_option maxHeartbeats 8000000 in
theorem ab_i_sound (hcm : ∀ ix q, cm ix = some q → cx.2.2.2.2.1 ix = some (q.1, q.2.1, ab_sp hd q.2.2)) (hxs : ab_xo xs xt) (hE : ∀ r al fc lv cs v, E r al fc = true → ab_cl o al lv → ab_cf lv cs fc → ab_hk hd cs → ab_fr W cs0 cs → (match r with
      | none => v = none
      | some a => ∃ x : Int32, v = some (.int x) ∧ a.1 ≤ x.toInt ∧ x.toInt ≤ a.2.1) → Q v cs)
    {i : Instr} {len pc : Nat} {al : ab_L} {as : List ab_V} {fc : ab_F} {lv : ex_L} {st : ex_V} {cs : ex_C} {K : Nat → ab_L → List ab_V → ab_F → Bool} {K' : Nat → ex_L → ex_V → ex_C → Prop}
    (h : ab_i hd xs cx cm ret W E i len pc al as fc K = true) (g : ab_G hd W o cs0 al as fc lv st cs)
    (kk : ∀ pc al as fc lv st cs, K pc al as fc = true → ab_G hd W o cs0 al as fc lv st cs → K' pc lv st cs) : ex_i xt cx ret Q i len pc lv st cs K' := by
  have gl := g.1
  have gs := g.2.1
  have gf := g.2.2.1
  have gh := g.2.2.2.1
  have gw := g.2.2.2.2
  cases i with
  | iconst n => obtain ⟨hl, h⟩ := ab_a h; exact And.intro hl (kk _ _ _ _ _ _ _ h (g.pu (ab_pi (ab_cnk _) gs)))
  | bipush n => obtain ⟨hl, h⟩ := ab_a h; exact And.intro hl (kk _ _ _ _ _ _ _ h (g.pu (ab_pi (ab_cnk _) gs)))
  | sipush n => obtain ⟨hl, h⟩ := ab_a h; exact And.intro hl (kk _ _ _ _ _ _ _ h (g.pu (ab_pi (ab_cnk _) gs)))
  | ldc ix => obtain ⟨hl, h⟩ := ab_a h; obtain ⟨v, hv, h⟩ := ab_o.at h; exact And.intro hl (ab_oo hv (kk _ _ _ _ _ _ _ h (g.pu (ab_pi (ab_cnk _) gs))))
  | ldc_w ix => obtain ⟨hl, h⟩ := ab_a h; obtain ⟨v, hv, h⟩ := ab_o.at h; exact And.intro hl (ab_oo hv (kk _ _ _ _ _ _ _ h (g.pu (ab_pi (ab_cnk _) gs))))
  | ldc2_w ix => obtain ⟨hl, h⟩ := ab_a h; obtain ⟨v, hv, h⟩ := ab_o.at h; exact And.intro hl (ab_oo hv (kk _ _ _ _ _ _ _ h (g.pu (ab_pl ⟨Int.le_refl _, Int.le_refl _⟩ gs))))
  | lconst n => obtain ⟨hl, h⟩ := ab_a h; exact And.intro hl (kk _ _ _ _ _ _ _ h (g.pu (ab_pl ⟨Int.le_refl _, Int.le_refl _⟩ gs)))
  | iload_n k => obtain ⟨hl, h⟩ := ab_a h; obtain ⟨a, x, e, hv, h1, h2, h⟩ := ab_gi.at h gl; exact And.intro hl (ab_ogi hv (kk _ _ _ _ _ _ _ h (g.pu (ab_pi (ab_il hv h1 h2) gs))))
  | iload k => obtain ⟨hl, h⟩ := ab_a h; obtain ⟨a, x, e, hv, h1, h2, h⟩ := ab_gi.at h gl; exact And.intro hl (ab_ogi hv (kk _ _ _ _ _ _ _ h (g.pu (ab_pi (ab_il hv h1 h2) gs))))
  | lload_n k => obtain ⟨hl, h⟩ := ab_a h; obtain ⟨a, x, hv, h1, h⟩ := ab_gl.at h gl; exact And.intro hl (ab_ogl hv (kk _ _ _ _ _ _ _ h (g.pu (ab_pl h1 gs))))
  | lload k => obtain ⟨hl, h⟩ := ab_a h; obtain ⟨a, x, hv, h1, h⟩ := ab_gl.at h gl; exact And.intro hl (ab_ogl hv (kk _ _ _ _ _ _ _ h (g.pu (ab_pl h1 gs))))
  | aload_n k => obtain ⟨hl, h⟩ := ab_a h; obtain ⟨a, hv, h⟩ := ab_gr.at h gl; exact And.intro hl (ab_ogr hv (kk _ _ _ _ _ _ _ h (g.pu (ab_pr gs))))
  | aload k => obtain ⟨hl, h⟩ := ab_a h; obtain ⟨a, hv, h⟩ := ab_gr.at h gl; exact And.intro hl (ab_ogr hv (kk _ _ _ _ _ _ _ h (g.pu (ab_pr gs))))
  | istore_n k => obtain ⟨hl, h⟩ := ab_a h; exact And.intro hl (ab_stk h g (fun _ _ _ _ _ h' g' => kk _ _ _ _ _ _ _ h' g'))
  | istore k => obtain ⟨hl, h⟩ := ab_a h; exact And.intro hl (ab_stk h g (fun _ _ _ _ _ h' g' => kk _ _ _ _ _ _ _ h' g'))
  | astore_n k => obtain ⟨hl, h⟩ := ab_a h; exact And.intro hl (ab_srk h g (fun _ _ _ _ _ h' g' => kk _ _ _ _ _ _ _ h' g'))
  | astore k => obtain ⟨hl, h⟩ := ab_a h; exact And.intro hl (ab_srk h g (fun _ _ _ _ _ h' g' => kk _ _ _ _ _ _ _ h' g'))
  | lstore_n k => obtain ⟨hl, h⟩ := ab_a h; exact And.intro hl (ab_slk h g (fun _ _ _ _ _ h' g' => kk _ _ _ _ _ _ _ h' g'))
  | lstore k => obtain ⟨hl, h⟩ := ab_a h; exact And.intro hl (ab_slk h g (fun _ _ _ _ _ h' g' => kk _ _ _ _ _ _ _ h' g'))
  | iinc k n =>
    obtain ⟨hl, h⟩ := ab_a h
    obtain ⟨a, x, e, hv, h1, h2, h⟩ := ab_gi.at h gl
    obtain ⟨h3, h4⟩ := ab_b h
    have hx : ab_ci o lv cs (ab_add a (ab_cn (Int32.ofInt n).toInt)) (x + Int32.ofInt n) := by
      obtain ⟨b1, b2, b3, b4⟩ := a
      have ha : ab_ci o lv cs (b1, b2, none, b4) x := ab_mk h1.1 h1.2 h2
      show ab_ci o lv cs (ab_add (b1, b2, none, b4) (ab_cn (Int32.ofInt n).toInt)) (x + Int32.ofInt n)
      exact ab_addk ha (ab_cnk _)
    exact And.intro hl (ab_ogi hv (And.intro (ab_sok h3 gl) (kk _ _ _ _ _ _ _ h4 ⟨ab_clset gl ⟨_, rfl, hx.1, hx.2.2⟩, ab_kst ab_nlk gs, ab_kcf ab_nlk gf, gh, gw⟩)))
  | iadd => obtain ⟨hl, h⟩ := ab_a h; obtain ⟨a, b, x, y, r, t, rfl, ha, hb, ht, h⟩ := ab_i2.at h gs; exact And.intro hl (kk _ _ _ _ _ _ _ h (g.pu (ab_pi (ab_adfk gf ha hb) ht)))
  | isub => obtain ⟨hl, h⟩ := ab_a h; obtain ⟨a, b, x, y, r, t, rfl, ha, hb, ht, h⟩ := ab_i2.at h gs; exact And.intro hl (kk _ _ _ _ _ _ _ h (g.pu (ab_pi (ab_subk gf ha hb) ht)))
  | imul => obtain ⟨hl, h⟩ := ab_a h; obtain ⟨a, b, x, y, r, t, rfl, ha, hb, ht, h⟩ := ab_i2.at h gs; exact And.intro hl (kk _ _ _ _ _ _ _ h (g.pu (ab_pi (ab_mulk ha hb) ht)))
  | iand => obtain ⟨hl, h⟩ := ab_a h; obtain ⟨a, b, x, y, r, t, rfl, ha, hb, ht, h⟩ := ab_i2.at h gs; exact And.intro hl (kk _ _ _ _ _ _ _ h (g.pu (ab_pi (ab_andk ha hb) ht)))
  | ior => obtain ⟨hl, h⟩ := ab_a h; obtain ⟨a, b, x, y, r, t, rfl, ha, hb, ht, h⟩ := ab_i2.at h gs; exact And.intro hl (kk _ _ _ _ _ _ _ h (g.pu (ab_pi (ab_ork ha hb) ht)))
  | ixor => obtain ⟨hl, h⟩ := ab_a h; obtain ⟨a, b, x, y, r, t, rfl, ha, hb, ht, h⟩ := ab_i2.at h gs; exact And.intro hl (kk _ _ _ _ _ _ _ h (g.pu (ab_pi (ab_topk _) ht)))
  | ishl => obtain ⟨hl, h⟩ := ab_a h; obtain ⟨a, b, x, y, r, t, rfl, ha, hb, ht, h⟩ := ab_i2.at h gs; exact And.intro hl (kk _ _ _ _ _ _ _ h (g.pu (ab_pi (ab_topk _) ht)))
  | ishr => obtain ⟨hl, h⟩ := ab_a h; obtain ⟨a, b, x, y, r, t, rfl, ha, hb, ht, h⟩ := ab_i2.at h gs; exact And.intro hl (kk _ _ _ _ _ _ _ h (g.pu (ab_pi (ab_topk _) ht)))
  | iushr => obtain ⟨hl, h⟩ := ab_a h; obtain ⟨a, b, x, y, r, t, rfl, ha, hb, ht, h⟩ := ab_i2.at h gs; exact And.intro hl (kk _ _ _ _ _ _ _ h (g.pu (ab_pi (ab_topk _) ht)))
  | idiv => obtain ⟨hl, h⟩ := ab_a h; obtain ⟨a, b, x, y, r, t, rfl, ha, hb, ht, h⟩ := ab_i2.at h gs; obtain ⟨h1, h⟩ := ab_b h; exact And.intro hl (And.intro (ab_nzk h1 hb.1.1 hb.1.2) (kk _ _ _ _ _ _ _ h (g.pu (ab_pi (ab_divk ha hb) ht))))
  | irem => obtain ⟨hl, h⟩ := ab_a h; obtain ⟨a, b, x, y, r, t, rfl, ha, hb, ht, h⟩ := ab_i2.at h gs; obtain ⟨h1, h⟩ := ab_b h; exact And.intro hl (And.intro (ab_nzk h1 hb.1.1 hb.1.2) (kk _ _ _ _ _ _ _ h (g.pu (ab_pi (ab_remk gf ha hb) ht))))
  | ineg => obtain ⟨hl, h⟩ := ab_a h; obtain ⟨a, x, r, t, rfl, ha, ht, h⟩ := ab_i1.at h gs; exact And.intro hl (kk _ _ _ _ _ _ _ h (g.pu (ab_pi (ab_topk _) ht)))
  | i2l =>
    obtain ⟨hl, h⟩ := ab_a h
    obtain ⟨a, x, r, t, rfl, ha, ht, h⟩ := ab_i1.at h gs
    exact And.intro hl (kk _ _ _ _ _ _ _ h (g.pu (ab_pl (by rw [Int32.toInt_toInt64]; exact ha.1) ht)))
  | l2i => obtain ⟨hl, h⟩ := ab_a h; obtain ⟨a, x, r, t, rfl, ha, ht, h⟩ := ab_l1.at h gs; exact And.intro hl (kk _ _ _ _ _ _ _ h (g.pu (ab_pi (ab_topk _) ht)))
  | ladd => obtain ⟨hl, h⟩ := ab_a h; obtain ⟨a, b, x, y, r, t, rfl, ha, hb, ht, h⟩ := ab_l2.at h gs; exact And.intro hl (kk _ _ _ _ _ _ _ h (g.pu (ab_pt _ ht)))
  | lsub => obtain ⟨hl, h⟩ := ab_a h; obtain ⟨a, b, x, y, r, t, rfl, ha, hb, ht, h⟩ := ab_l2.at h gs; exact And.intro hl (kk _ _ _ _ _ _ _ h (g.pu (ab_pt _ ht)))
  | lmul => obtain ⟨hl, h⟩ := ab_a h; obtain ⟨a, b, x, y, r, t, rfl, ha, hb, ht, h⟩ := ab_l2.at h gs; exact And.intro hl (kk _ _ _ _ _ _ _ h (g.pu (ab_pt _ ht)))
  | ldiv => obtain ⟨hl, h⟩ := ab_a h; obtain ⟨a, b, x, y, r, t, rfl, ha, hb, ht, h⟩ := ab_l2.at h gs; obtain ⟨h1, h⟩ := ab_b h; exact And.intro hl (And.intro (ab_lnzk h1 hb.1 hb.2) (kk _ _ _ _ _ _ _ h (g.pu (ab_pt _ ht))))
  | dup => obtain ⟨hl, h⟩ := ab_a h; obtain ⟨a, v, r, t, rfl, h1, ha, ht, h⟩ := ab_v1.at h gs; exact And.intro hl (And.intro h1 (kk _ _ _ _ _ _ _ h (g.pu ⟨_, _, rfl, ha, _, _, rfl, ha, ht⟩)))
  | pop => obtain ⟨hl, h⟩ := ab_a h; obtain ⟨a, v, r, t, rfl, h1, ha, ht, h⟩ := ab_v1.at h gs; exact And.intro hl (And.intro h1 (kk _ _ _ _ _ _ _ h (g.pu ht)))
  | dup_x1 => obtain ⟨hl, h⟩ := ab_a h; obtain ⟨a, b, v, w, r, t, rfl, h1, h2, ha, hb, ht, h⟩ := ab_v2.at h gs; exact And.intro hl (And.intro h1 (And.intro h2 (kk _ _ _ _ _ _ _ h (g.pu ⟨_, _, rfl, ha, _, _, rfl, hb, _, _, rfl, ha, ht⟩))))
  | dup2 => obtain ⟨hl, h⟩ := ab_a h; obtain ⟨a, b, v, w, r, t, rfl, h1, h2, ha, hb, ht, h⟩ := ab_v2.at h gs; exact And.intro hl (And.intro h1 (And.intro h2 (kk _ _ _ _ _ _ _ h (g.pu ⟨_, _, rfl, ha, _, _, rfl, hb, _, _, rfl, ha, _, _, rfl, hb, ht⟩))))
  | ifCond cnd off =>
    cases cnd with
    | eq => obtain ⟨hl, h⟩ := ab_a h; obtain ⟨a, x, r, t, rfl, ha, ht, h⟩ := ab_i1.at h gs; exact And.intro hl (ab_bj (P := fun t' => K' t' lv t cs) (ab_cjk h ha ab_c0 gl gf (fun _ _ _ h' g' f' => kk _ _ _ _ _ _ _ h' ⟨g', ht, f', gh, gw⟩)) ab_ieq)
    | ne => obtain ⟨hl, h⟩ := ab_a h; obtain ⟨a, x, r, t, rfl, ha, ht, h⟩ := ab_i1.at h gs; exact And.intro hl (ab_bj' (P := fun t' => K' t' lv t cs) (ab_cjk h ha ab_c0 gl gf (fun _ _ _ h' g' f' => kk _ _ _ _ _ _ _ h' ⟨g', ht, f', gh, gw⟩)) ab_ieq)
    | lt => obtain ⟨hl, h⟩ := ab_a h; obtain ⟨a, x, r, t, rfl, ha, ht, h⟩ := ab_i1.at h gs; exact And.intro hl (ab_bj (P := fun t' => K' t' lv t cs) (ab_cjk h ha ab_c0 gl gf (fun _ _ _ h' g' f' => kk _ _ _ _ _ _ _ h' ⟨g', ht, f', gh, gw⟩)) ab_ilt)
    | ge => obtain ⟨hl, h⟩ := ab_a h; obtain ⟨a, x, r, t, rfl, ha, ht, h⟩ := ab_i1.at h gs; exact And.intro hl (ab_bj (P := fun t' => K' t' lv t cs) (ab_cjk h ha ab_c0 gl gf (fun _ _ _ h' g' f' => kk _ _ _ _ _ _ _ h' ⟨g', ht, f', gh, gw⟩)) ab_ige)
    | gt => obtain ⟨hl, h⟩ := ab_a h; obtain ⟨a, x, r, t, rfl, ha, ht, h⟩ := ab_i1.at h gs; exact And.intro hl (ab_bj (P := fun t' => K' t' lv t cs) (ab_cjk h ha ab_c0 gl gf (fun _ _ _ h' g' f' => kk _ _ _ _ _ _ _ h' ⟨g', ht, f', gh, gw⟩)) ab_igt)
    | le => obtain ⟨hl, h⟩ := ab_a h; obtain ⟨a, x, r, t, rfl, ha, ht, h⟩ := ab_i1.at h gs; exact And.intro hl (ab_bj (P := fun t' => K' t' lv t cs) (ab_cjk h ha ab_c0 gl gf (fun _ _ _ h' g' f' => kk _ _ _ _ _ _ _ h' ⟨g', ht, f', gh, gw⟩)) ab_ile)
  | if_icmp cnd off =>
    cases cnd with
    | eq => obtain ⟨hl, h⟩ := ab_a h; obtain ⟨a, b, x, y, r, t, rfl, ha, hb, ht, h⟩ := ab_i2.at h gs; exact And.intro hl (ab_bj (P := fun t' => K' t' lv t cs) (ab_cjk h ha hb gl gf (fun _ _ _ h' g' f' => kk _ _ _ _ _ _ _ h' ⟨g', ht, f', gh, gw⟩)) ab_ieq)
    | ne => obtain ⟨hl, h⟩ := ab_a h; obtain ⟨a, b, x, y, r, t, rfl, ha, hb, ht, h⟩ := ab_i2.at h gs; exact And.intro hl (ab_bj' (P := fun t' => K' t' lv t cs) (ab_cjk h ha hb gl gf (fun _ _ _ h' g' f' => kk _ _ _ _ _ _ _ h' ⟨g', ht, f', gh, gw⟩)) ab_ieq)
    | lt => obtain ⟨hl, h⟩ := ab_a h; obtain ⟨a, b, x, y, r, t, rfl, ha, hb, ht, h⟩ := ab_i2.at h gs; exact And.intro hl (ab_bj (P := fun t' => K' t' lv t cs) (ab_cjk h ha hb gl gf (fun _ _ _ h' g' f' => kk _ _ _ _ _ _ _ h' ⟨g', ht, f', gh, gw⟩)) ab_ilt)
    | ge => obtain ⟨hl, h⟩ := ab_a h; obtain ⟨a, b, x, y, r, t, rfl, ha, hb, ht, h⟩ := ab_i2.at h gs; exact And.intro hl (ab_bj (P := fun t' => K' t' lv t cs) (ab_cjk h ha hb gl gf (fun _ _ _ h' g' f' => kk _ _ _ _ _ _ _ h' ⟨g', ht, f', gh, gw⟩)) ab_ige)
    | gt => obtain ⟨hl, h⟩ := ab_a h; obtain ⟨a, b, x, y, r, t, rfl, ha, hb, ht, h⟩ := ab_i2.at h gs; exact And.intro hl (ab_bj (P := fun t' => K' t' lv t cs) (ab_cjk h ha hb gl gf (fun _ _ _ h' g' f' => kk _ _ _ _ _ _ _ h' ⟨g', ht, f', gh, gw⟩)) ab_igt)
    | le => obtain ⟨hl, h⟩ := ab_a h; obtain ⟨a, b, x, y, r, t, rfl, ha, hb, ht, h⟩ := ab_i2.at h gs; exact And.intro hl (ab_bj (P := fun t' => K' t' lv t cs) (ab_cjk h ha hb gl gf (fun _ _ _ h' g' f' => kk _ _ _ _ _ _ _ h' ⟨g', ht, f', gh, gw⟩)) ab_ile)
  | goto off => obtain ⟨hl, h⟩ := ab_a h; obtain ⟨h1, h⟩ := ab_to.at h; exact And.intro hl (And.intro h1 (kk _ _ _ _ _ _ _ h g))
  | tableswitch dflt lo hi offs =>
    obtain ⟨hl, h⟩ := ab_a h
    obtain ⟨a, x, r, t, rfl, ha, ht, h⟩ := ab_i1.at h gs
    obtain ⟨h1, h2⟩ := ab_b h
    refine And.intro hl (And.intro (fun hout => ?_) (ab_tbk ha.1.1 ha.1.2 (fun f hk => ?_) h2))
    · have ha1 := ha.1
      rw [if_neg (by omega)] at h1
      obtain ⟨h3, h4⟩ := ab_to.at h1
      exact And.intro h3 (kk _ _ _ _ _ _ _ h4 (g.pu ht))
    · obtain ⟨h3, h4⟩ := ab_to.at hk
      obtain ⟨al', fc', h5, g5, f5⟩ := ab_rfk h4 (Int.le_refl _) (Int.le_refl _) ha.2.1 gl gf
      exact And.intro h3 (kk _ _ _ _ _ _ _ h5 ⟨g5, ht, f5, gh, gw⟩)
  | lookupswitch dflt ps =>
    obtain ⟨hp, h⟩ := ab_b h
    obtain ⟨hq, h⟩ := ab_b h
    obtain ⟨a, x, r, t, rfl, ha, ht, h⟩ := ab_i1.at h gs
    obtain ⟨h1, h2⟩ := ab_b h
    refine And.intro hp (And.intro hq (And.intro (fun _ => ?_) (ab_lksk ha.1.1 ha.1.2 (fun f hk => ?_) h2)))
    · obtain ⟨h3, h4⟩ := ab_to.at h1
      exact And.intro h3 (kk _ _ _ _ _ _ _ h4 (g.pu ht))
    · obtain ⟨h3, h4⟩ := ab_to.at hk
      obtain ⟨al', fc', h5, g5, f5⟩ := ab_rfk h4 (Int.le_refl _) (Int.le_refl _) ha.2.1 gl gf
      exact And.intro h3 (kk _ _ _ _ _ _ _ h5 ⟨g5, ht, f5, gh, gw⟩)
  | getfield ix =>
    obtain ⟨hl, h⟩ := ab_a h
    obtain ⟨a, r, t, rfl, ht, h⟩ := ab_r1.at h gs
    obtain ⟨q, hq, h⟩ := ab_o.at h
    obtain ⟨ts, hts, h⟩ := ab_objk h
    obtain ⟨ty, hty, h⟩ := ab_o.at h
    obtain ⟨fs, hfs, -, hj⟩ := gh.obj hts
    obtain ⟨v, hv, hc⟩ := hj _ _ hty
    refine And.intro hl (ab_oo hq (ab_oob hfs (ab_oo hv ?_)))
    cases ty with
    | inl k => cases hc; exact kk _ _ _ _ _ _ _ h (g.pu (ab_pr ht))
    | inr b =>
      obtain ⟨x, rfl, x1, x2⟩ := hc
      refine kk _ _ _ _ _ _ _ h (g.pu (ab_pi (ab_ldk (fun y hy => ?_) gf x1 x2) ht))
      cases hy
      show ab_ri cs a q.2.1 = some x.toInt
      unfold ab_ri ab_rd
      rw [hfs]
      dsimp only
      rw [hv]
  | putfield ix =>
    obtain ⟨hl, h⟩ := ab_a h
    obtain ⟨v, w, a, r, t, rfl, hw, ht, h⟩ := ab_vr.at h gs
    · obtain ⟨q, hq, h⟩ := ab_o.at h
      obtain ⟨ts, hts, h⟩ := ab_objk h
      obtain ⟨ty, hty, h⟩ := ab_o.at h
      obtain ⟨h1, h⟩ := ab_b h
      obtain ⟨h2, h⟩ := ab_b h
      obtain ⟨h3, h⟩ := ab_b h
      obtain ⟨fs, hfs, hlen, hj⟩ := gh.obj hts
      have hlt : q.2.1 < fs.length := by rw [hlen]; exact (List.getElem?_eq_some_iff.mp hty).1
      have hh : ab_hk hd (cs.set a (.inr (q.1, fs.set q.2.1 w))) := by
        refine gh.set hts ⟨_, rfl, by rw [List.length_set]; exact hlen, fun j t' ht' => ?_⟩
        by_cases hjq : q.2.1 = j
        · subst hjq
          rw [hty] at ht'
          cases ht'
          exact ⟨w, List.getElem?_set_self hlt, ab_lek h1 hw⟩
        · rw [List.getElem?_set_ne hjq]
          exact hj j t' ht'
      obtain ⟨r', fc', h4, g4⟩ := ab_wrk h (ab_fro hfs) hh gl ht gf gw
      refine And.intro hl (ab_oo hq (ab_oob hfs (And.intro hlt (And.intro h2 (And.intro (ab_fitk h3 hw) ?_)))))
      split at h4
      · rename_i x
        obtain ⟨y, rfl, hy⟩ := hw
        refine kk _ _ _ _ _ _ _ h4 ⟨g4.1, g4.2.1, fun p hp => ?_, g4.2.2.2⟩
        rcases List.mem_cons.mp hp with rfl | hp
        · refine ⟨y.toInt, ?_, hy.1⟩
          show ab_ri (cs.set a (.inr (q.1, fs.set q.2.1 (.int y)))) a q.2.1 = some y.toInt
          unfold ab_ri
          rw [ab_rds hfs]
          dsimp only
          rw [List.getElem?_set_self hlt]
        · exact g4.2.2.1 p hp
      · exact kk _ _ _ _ _ _ _ h4 g4
  | getstatic ix =>
    obtain ⟨hl, h⟩ := ab_a h
    obtain ⟨j, hj, h⟩ := ab_o.at h
    exact And.intro hl (ab_oo hj (kk _ _ _ _ _ _ _ h (g.pu (ab_pr gs))))
  | iaload =>
    obtain ⟨hl, h⟩ := ab_a h
    obtain ⟨b, i, a, r, t, rfl, hb, ht, h⟩ := ab_ir.at h gs
    refine And.intro hl ?_
    show ex_ax xt cs a (fun n f => vp_in i n ∧ K' (pc + 1) lv (.int (f i.toNatClampNeg) :: t) cs)
    unfold ex_ax
    split at h
    · rename_i ha
      rw [if_pos ha]
      obtain ⟨q, hq, h⟩ := ab_o.at h
      obtain ⟨h1, h⟩ := ab_b h
      obtain ⟨f, hf1, hf2⟩ := hxs _ _ hq
      obtain ⟨i1, i2, i3⟩ := ab_idxk h1 hb
      have := hf2 _ i3
      exact ab_oo hf1 (And.intro i1 (kk _ _ _ _ _ _ _ h (g.pu (ab_pi (ab_mk this.1 this.2 (fun _ h => (by cases h))) ht))))
    · rename_i ha
      rw [if_neg ha]
      obtain ⟨n, sg, bb, e, hn, h⟩ := ab_arrk h
      obtain ⟨h1, h⟩ := ab_b h
      obtain ⟨f, hf1, hf2⟩ := gh.2 _ _ e
      obtain ⟨i1, i2, i3⟩ := ab_idxk h1 hb
      have := hf2 _ i3
      rw [ab_bdk hn hb i3] at this
      exact ab_oar hf1 (And.intro i1 (kk _ _ _ _ _ _ _ h (g.pu (ab_pi (ab_ldk (ab_ekk hf1 hb i2) gf this.1 this.2) ht))))
  | baload =>
    obtain ⟨hl, h⟩ := ab_a h
    obtain ⟨b, i, a, r, t, rfl, hb, ht, h⟩ := ab_ir.at h gs
    obtain ⟨n, sg, bb, e, hn, h⟩ := ab_arrk h
    obtain ⟨h1, h⟩ := ab_b h
    obtain ⟨f, hf1, hf2⟩ := gh.2 _ _ e
    obtain ⟨i1, i2, i3⟩ := ab_idxk h1 hb
    have := hf2 _ i3
    rw [ab_bdk hn hb i3] at this
    exact And.intro hl (ab_oar hf1 (And.intro i1 (kk _ _ _ _ _ _ _ h (g.pu (ab_pi (ab_ldk (ab_ekk hf1 hb i2) gf this.1 this.2) ht)))))
  | iastore =>
    obtain ⟨hl, h⟩ := ab_a h
    obtain ⟨c, z, b, i, a, r, t, rfl, hc, hb, ht, h⟩ := ab_iir.at h gs
    obtain ⟨n, sg, bb, e, hn, h⟩ := ab_arrk h
    obtain ⟨h1, h⟩ := ab_b h
    obtain ⟨h2, h⟩ := ab_a h
    obtain ⟨f, hf1, hf2⟩ := gh.2 _ _ e
    obtain ⟨i1, i2, i3⟩ := ab_idxk h1 hb
    have hc1 := hc.1
    obtain ⟨r', fc', h4, g4⟩ := ab_wrk h (ab_fra hf1 (ab_wkk (f := f) (x := z) hb)) (gh.set e ⟨_, rfl, ab_upds hf2 (ab_bdk hn hb i3) h2 hc⟩) gl ht gf gw
    exact And.intro hl (ab_oar hf1 (And.intro i1 (kk _ _ _ _ _ _ _ h4 g4)))
  | bastore =>
    obtain ⟨hl, h⟩ := ab_a h
    obtain ⟨c, z, b, i, a, r, t, rfl, hc, hb, ht, h⟩ := ab_iir.at h gs
    obtain ⟨n, sg, bb, e, hn, h⟩ := ab_arrk h
    obtain ⟨h1, h⟩ := ab_b h
    obtain ⟨h2, h⟩ := ab_a h
    obtain ⟨h3, h⟩ := ab_a h
    obtain ⟨f, hf1, hf2⟩ := gh.2 _ _ e
    obtain ⟨i1, i2, i3⟩ := ab_idxk h1 hb
    have hc1 := hc.1
    obtain ⟨r', fc', h4, g4⟩ := ab_wrk h (ab_fra hf1 (ab_wkk (f := f) (x := z) hb)) (gh.set e ⟨_, rfl, ab_upds hf2 (ab_bdk hn hb i3) h2 hc⟩) gl ht gf gw
    exact And.intro hl (ab_oar hf1 (And.intro i1 (And.intro (ab_01 (by omega) (by omega)) (kk _ _ _ _ _ _ _ h4 g4))))
  | arraylength =>
    obtain ⟨hl, h⟩ := ab_a h
    obtain ⟨a, r, t, rfl, ht, h⟩ := ab_r1.at h gs
    refine And.intro hl ?_
    split at h
    · rename_i tt n sg e
      obtain ⟨h1, h⟩ := ab_a h
      obtain ⟨h2, h⟩ := ab_a h
      obtain ⟨f, hf, -⟩ := gh.2 _ _ e
      show match cs[a]? with
        | some (.inl (t2, n2, .inl _)) => (t2 = 0 ∨ t2 = 1) ∧ K' (pc + 1) lv (.int (Int32.ofNat n2) :: t) cs
        | _ => False
      rw [hf]
      refine ⟨h1, kk _ _ _ _ _ _ _ h (g.pu (ab_pi ?_ ht))⟩
      have en : (Int32.ofNat n).toInt = (n : Int) := Int32.toInt_ofNat_of_lt (by omega)
      have := ab_cnk (o := o) (lv := lv) (cs := cs) (Int32.ofNat n)
      rw [en] at this
      exact this
    · cases h
  | invokevirtual ix =>
    obtain ⟨hl, h⟩ := ab_a h
    obtain ⟨q, hq, h⟩ := ab_o.at h
    obtain ⟨h1, h⟩ := ab_a h
    obtain ⟨h2, h⟩ := ab_b h
    obtain ⟨ci, hci, h⟩ := ab_o.at h
    split at h
    · rename_i a ea
      obtain ⟨ts, hts, h⟩ := ab_objk h
      obtain ⟨fs, hfs, -⟩ := gh.obj hts
      obtain ⟨v, hv, hcv⟩ := ab_cget gs ea
      cases hcv
      refine And.intro hl (ab_oo (hcm _ _ hq) (And.intro (by rw [← ab_clen gs]; exact h1.2) (And.intro (ab_sumk h2 (ab_cdrop gs)) (ab_oo hci (ab_oo hv (ab_oob hfs ?_))))))
      exact ab_callk (P := fun st' cs' => K' (pc + 3) lv st' cs') h (ab_crev (ab_ctake gs)) (ab_cdrop gs) gl gf gh gw (fun _ _ _ _ _ h' g' => kk _ _ _ _ _ _ _ h' g')
    · cases h
  | invokestatic ix =>
    obtain ⟨hl, h⟩ := ab_a h
    refine And.intro hl ?_
    split at h
    · rename_i e
      rw [e]
      obtain ⟨n, n', dp, d', a, sp, s', a0, r, t, rfl, hn', hd', hs', ht, h⟩ := ab_c5.at h gs
      · skip
        obtain ⟨n0, m0, lo0, hi0, e0, hm0, h⟩ := ab_ar1k h
        obtain ⟨n1, m1, lo, hi, e1, hm1, h⟩ := ab_ar1k h
        obtain ⟨hc, h⟩ := ab_a h
        obtain ⟨h2, h⟩ := ab_b h
        obtain ⟨f, hf1, hf2⟩ := gh.arr e0 hm0
        obtain ⟨f1, hg1, hg2⟩ := gh.arr e1 hm1
        have hn1 := hn'.1
        have hd1 := hd'.1
        have hs1 := hs'.1
        have z0 : (0 : Int32).toInt = 0 := by decide
        have eS : s'.toNatClampNeg = s'.toInt.toNat := rfl
        have eD : d'.toNatClampNeg = d'.toInt.toNat := rfl
        have eN : n'.toNatClampNeg = n'.toInt.toNat := rfl
        have hcpy : ∀ j, j < n1 → lo ≤ (va_cpy f f1 s'.toNatClampNeg d'.toNatClampNeg n'.toNatClampNeg j).toInt ∧ (va_cpy f f1 s'.toNatClampNeg d'.toNatClampNeg n'.toNatClampNeg j).toInt ≤ hi := by
          intro j hj
          unfold va_cpy
          split
          · have := hf2 (s'.toNatClampNeg + (j - d'.toNatClampNeg)) (by omega)
            omega
          · exact hg2 j hj
        obtain ⟨r', fc', h4, g4⟩ := ab_wrk h (ab_fra (w := none) hg1 (fun _ hx => absurd rfl hx)) (ab_arrset gh e1 hm1 hcpy) gl ht gf gw
        show ex_cp cs _ _
        unfold ex_cp
        refine ab_oar hf1 (ab_oar hg1 ⟨?_, ?_, ?_, by omega, by omega, ab_sumk h2 ht, kk _ _ _ _ _ _ _ h4 g4⟩)
        · rw [Int32.lt_iff_toInt_lt]; omega
        · rw [Int32.lt_iff_toInt_lt]; omega
        · rw [Int32.lt_iff_toInt_lt]; omega
    · rename_i e
      rw [e]
      obtain ⟨a, b, x, y, r, t, rfl, ha, hb, ht, h⟩ := ab_i2.at h gs
      obtain ⟨h1, h⟩ := ab_b h
      exact And.intro (ab_sumk h1 ht) (kk _ _ _ _ _ _ _ h (g.pu (ab_pi (ab_mink ha hb) ht)))
    · rename_i e
      rw [e]
      obtain ⟨a, b, x, y, r, t, rfl, ha, hb, ht, h⟩ := ab_i2.at h gs
      obtain ⟨h1, h⟩ := ab_b h
      exact And.intro (ab_sumk h1 ht) (kk _ _ _ _ _ _ _ h (g.pu (ab_pi (ab_maxk ha hb) ht)))
    · rename_i e1 e2 e3
      split
      · rename_i e; exact absurd e e1
      · rename_i e; exact absurd e e2
      · rename_i e; exact absurd e e3
      · obtain ⟨q, hq, h⟩ := ab_o.at h
        obtain ⟨h1, h⟩ := ab_a h
        obtain ⟨h2, h⟩ := ab_b h
        obtain ⟨h3, h⟩ := ab_a h
        refine ab_oo (hcm _ _ hq) (And.intro (by rw [← ab_clen gs]; exact h1) (And.intro (ab_sumk h2 (ab_cdrop gs)) (And.intro h3 ?_)))
        exact ab_callk (P := fun st' cs' => K' (pc + 3) lv st' cs') h (ab_crev (ab_ctake gs)) (ab_cdrop gs) gl gf gh gw (fun _ _ _ _ _ h' g' => kk _ _ _ _ _ _ _ h' g')
  | ireturn =>
    obtain ⟨hl, h⟩ := ab_a h
    obtain ⟨x, y, rfl, hy, h⟩ := ab_x1.at h gs
    obtain ⟨h1, h2⟩ := ab_b h
    exact And.intro hl (And.intro (ab_rokk h1 hy) (hE (some x) al fc lv cs _ h2 gl gf gh gw ⟨y, rfl, hy.1⟩))
  | return_ =>
    obtain ⟨hl, h⟩ := ab_a h
    obtain ⟨h1, h⟩ := ab_a h
    obtain ⟨h2, h⟩ := ab_b h
    have hn : as = [] := by simpa using h2
    subst hn
    exact And.intro hl (And.intro h1 (And.intro gs (hE none al fc lv cs none h gl gf gh gw rfl)))
  | _ => cases h
theorem ab_wp_sound {code : List (Nat × Instr × Nat)} {cc : ByteArray} {J : Nat → Option (ab_L → List ab_V → ab_F → Bool)} {I : Nat → Option (ex_L → ex_V → ex_C → Prop)} (hcode : ∀ q ∈ code, decode cc q.1 = .ok q.2) (hcm : ∀ ix q, cm ix = some q → cx.2.2.2.2.1 ix = some (q.1, q.2.1, ab_sp hd q.2.2)) (hxs : ab_xo xs xt) (hE : ∀ r al fc lv cs v, E r al fc = true → ab_cl o al lv → ab_cf lv cs fc → ab_hk hd cs → ab_fr W cs0 cs → (match r with
      | none => v = none
      | some a => ∃ x : Int32, v = some (.int x) ∧ a.1 ≤ x.toInt ∧ x.toInt ≤ a.2.1) → Q v cs)
    (hI : ∀ pc, (J pc = none → I pc = none) ∧ ∀ ch, J pc = some ch → ∃ P, I pc = some P ∧ ∀ al as fc lv st cs, ch al as fc = true → ab_G hd W o cs0 al as fc lv st cs → P lv st cs) :
    ∀ n pc al as fc lv st cs, ab_wp hd xs cx cm code ret W E J n pc al as fc = true → ab_G hd W o cs0 al as fc lv st cs → ex_wp xt cx cc ret I Q n pc lv st cs := by
  intro n
  induction n with
  | zero => intro pc al as fc lv st cs h; cases h
  | succ n ih =>
    intro pc al as fc lv st cs h g
    unfold ab_wp at h
    split at h
    · rename_i q hq
      have hm := List.mem_of_find?_eq_some hq
      have he : q.1 = pc := by simpa using List.find?_some hq
      have hd := hcode q hm
      rw [he] at hd
      unfold ex_wp
      rw [hd]
      obtain ⟨q1, i, len⟩ := q
      refine ab_i_sound hcm hxs hE h g (fun pc' al' as' fc' lv' st' cs' h' g' => ?_)
      cases hj : J pc' with
      | none =>
        rw [hj] at h'
        rw [(hI pc').1 hj]
        exact ih _ _ _ _ _ _ _ h' g'
      | some ch =>
        rw [hj] at h'
        obtain ⟨P, hP, hh⟩ := (hI pc').2 ch hj
        rw [hP]
        exact hh _ _ _ _ _ _ h' g'
    · cases h
end ABU
end
section
/-! methods with loops: a place in the code where the walk is cut, the bounds of the variables there, and a number that falls from cut to cut -/
def ab_ev : List Int → (Nat → Int) → Nat → Int
  | [], _, _ => 0
  | c :: r, o, k => c * o k + ab_ev r o (k + 1)
def ab_va : List Int → List Int → List Int
  | [], v => v
  | a :: u, [] => a :: u
  | a :: u, b :: v => (a + b) :: ab_va u v
def ab_un (i : Nat) (c : Int) : List Int := List.replicate i 0 ++ [c]
theorem ab_eva : ∀ (u v : List Int) (o : Nat → Int) (k : Nat), ab_ev (ab_va u v) o k = ab_ev u o k + ab_ev v o k
  | [], v, o, k => by simp [ab_va, ab_ev]
  | a :: u, [], o, k => by simp [ab_va, ab_ev]
  | a :: u, b :: v, o, k => by
    simp only [ab_va, ab_ev, ab_eva u v o (k + 1), Int.add_mul]
    omega
theorem ab_evn : ∀ (u : List Int) (o : Nat → Int) (k : Nat), ab_ev (u.map (fun c => -c)) o k = - ab_ev u o k
  | [], o, k => by simp [ab_ev]
  | a :: u, o, k => by
    simp only [List.map_cons, ab_ev, ab_evn u o (k + 1), Int.neg_mul]
    omega
theorem ab_evu : ∀ (i : Nat) (c : Int) (o : Nat → Int) (k : Nat), ab_ev (ab_un i c) o k = c * o (k + i)
  | 0, c, o, k => by simp [ab_un, ab_ev]
  | i + 1, c, o, k => by
    have := ab_evu i c o (k + 1)
    unfold ab_un at this ⊢
    rw [List.replicate_succ, List.cons_append, ab_ev, this, show k + 1 + i = k + (i + 1) by omega]
    omega
def ab_nb (al : ab_L) : List Int → Nat → Option (Int × List Int)
  | [], _ => some (0, [])
  | c :: r, k => match ab_nb al r (k + 1) with
    | none => none
    | some q => if c = 0 then some q else match al[k]? with
      | some (some (.inr (.inl (lo, hi, _, dl)))) => (match dl with
        | some d => some (q.1 + c * d.2, ab_va (ab_un d.1 c) q.2)
        | none => some (q.1 + (if 0 ≤ c then c * hi else c * lo), q.2))
      | _ => none
abbrev ab_lo (lv : ex_L) : Nat → Int := fun i => (ab_li lv i).getD 0
theorem ab_lii {o : Nat → Int} {al : ab_L} {lv : ex_L} {k : Nat} {a : ab_I} (g : ab_cl o al lv) (e : al[k]? = some (some (.inr (.inl a)))) : (a.1 ≤ ab_lo lv k ∧ ab_lo lv k ≤ a.2.1) ∧ ∀ q, a.2.2.2 = some q → ab_lo lv k = o q.1 + q.2 := by
  obtain ⟨v, hv, x, rfl, h1, h2⟩ := g.2 _ _ e
  have : ab_lo lv k = x.toInt := by
    show (ab_li lv k).getD 0 = x.toInt
    unfold ab_li
    rw [hv]
    rfl
  rw [this]
  exact ⟨h1, h2⟩
theorem ab_nbk {o : Nat → Int} {al : ab_L} {lv : ex_L} (g : ab_cl o al lv) : ∀ {l : List Int} {k : Nat} {q : Int × List Int}, ab_nb al l k = some q → ab_ev l (ab_lo lv) k ≤ q.1 + ab_ev q.2 o 0
  | [], k, q, h => by
    cases h
    simp [ab_ev]
  | c :: r, k, q, h => by
    unfold ab_nb at h
    split at h
    · cases h
    · rename_i q0 e0
      have ih := ab_nbk g e0
      show c * ab_lo lv k + ab_ev r (ab_lo lv) (k + 1) ≤ _
      split at h
      · rename_i hc
        cases h
        subst hc
        omega
      · split at h
        · rename_i lo hi og dl ea
          have hh := ab_lii g ea
          dsimp only at hh
          split at h
          · rename_i d
            cases h
            have := hh.2 _ rfl
            rw [this]
            show _ ≤ q0.1 + c * d.2 + ab_ev (ab_va (ab_un d.1 c) q0.2) o 0
            rw [ab_eva, ab_evu, Nat.zero_add, Int.mul_add]
            omega
          · cases h
            show _ ≤ q0.1 + (if 0 ≤ c then c * hi else c * lo) + ab_ev q0.2 o 0
            split
            · rename_i h0
              have := Int.mul_le_mul_of_nonneg_left hh.1.2 h0
              omega
            · rename_i h0
              have := Int.mul_le_mul_of_nonpos_left (a := c) (by omega) hh.1.1
              omega
        · cases h
def ab_lb (ql : ab_L) : List Int → Nat → Option Int
  | [], _ => some 0
  | c :: r, k => match ab_lb ql r (k + 1) with
    | none => none
    | some s => if c = 0 then some s else match ql[k]? with
      | some (some (.inr (.inl (lo, hi, _, _)))) => some (s + (if 0 ≤ c then c * lo else c * hi))
      | _ => none
theorem ab_lbk {o : Nat → Int} {ql : ab_L} (g : ∀ (i : Nat) a, ql[i]? = some (some (.inr (.inl a))) → a.1 ≤ o i ∧ o i ≤ a.2.1) : ∀ {l : List Int} {k : Nat} {s : Int}, ab_lb ql l k = some s → s ≤ ab_ev l o k
  | [], k, s, h => by
    cases h
    simp [ab_ev]
  | c :: r, k, s, h => by
    unfold ab_lb at h
    split at h
    · cases h
    · rename_i s0 e0
      have ih := ab_lbk g e0
      show _ ≤ c * o k + ab_ev r o (k + 1)
      split at h
      · rename_i hc
        cases h
        subst hc
        omega
      · split at h
        · rename_i lo hi og dl ea
          have hh := g _ _ ea
          dsimp only at hh
          cases h
          split
          · rename_i h0
            have := Int.mul_le_mul_of_nonneg_left hh.1 h0
            omega
          · rename_i h0
            have := Int.mul_le_mul_of_nonpos_left (a := c) (by omega) hh.2
            omega
        · cases h
def ab_rk (p : Option ab_Q) (q : ab_Q) (al : ab_L) : Bool := match p with
  | none => true
  | some p => match ab_nb al q.2.2.2 0 with
    | none => false
    | some n => match ab_lb p.2.1 (ab_va p.2.2.2 (n.2.map (fun c => -c))) 0 with
      | none => false
      | some b => decide (q.2.2.1 + n.1 + 1 ≤ p.2.2.1 + b)
def ab_ll (a : Option ab_V) (t : Option ab_V) : Bool := match t, a with
  | none, some (.inr (.inr _)) => false
  | none, _ => true
  | some (.inl k), some (.inl k') => decide (k' = k)
  | some (.inr (.inl x)), some (.inr (.inl y)) => decide (x.1 ≤ y.1) && decide (y.2.1 ≤ x.2.1)
  | some (.inr (.inr x)), some (.inr (.inr y)) => decide (x.1 ≤ y.1) && decide (y.2 ≤ x.2)
  | _, _ => false
def ab_lle : ab_L → ab_L → Bool
  | [], [] => true
  | a :: r, t :: s => ab_ll a t && ab_lle r s
  | _, _ => false
def ab_nd1 (f : Nat → Option (Nat × Int)) (i : Nat) (a : Option ab_V) : Option ab_V := match a with
  | some (.inr (.inl x)) => some (.inr (.inl (x.1, x.2.1, none, f i)))
  | b => b
def ab_nd (f : Nat → Option (Nat × Int)) (ql : ab_L) : ab_L := ql.mapIdx (ab_nd1 f)
abbrev ab_fn : Nat → Option (Nat × Int) := fun _ => none
abbrev ab_fi : Nat → Option (Nat × Int) := fun i => some (i, 0)
theorem ab_llek : ∀ {al ql : ab_L}, ab_lle al ql = true → al.length = ql.length ∧ ∀ (i : Nat) t, ql[i]? = some t → ∃ a, al[i]? = some a ∧ ab_ll a t = true
  | [], [], _ => ⟨rfl, fun i t h => by simp at h⟩
  | a :: r, t :: s, h => by
    obtain ⟨h1, h2⟩ := ab_b h
    obtain ⟨g1, g2⟩ := ab_llek h2
    refine ⟨by simp [g1], fun i t' ht => ?_⟩
    cases i with
    | zero =>
      simp at ht
      subst ht
      exact ⟨a, rfl, h1⟩
    | succ i =>
      simp at ht
      obtain ⟨b, hb, hc⟩ := g2 i t' ht
      exact ⟨b, by simpa using hb, hc⟩
  | [], _ :: _, h => by cases h
  | _ :: _, [], h => by cases h
theorem ab_llk {o o' : Nat → Int} {a t : Option ab_V} {v : Option Value} {i : Nat} (h : ab_ll a t = true) (g : ab_c1 o a v) : ab_c1 o' (ab_nd1 ab_fn i t) v := by
  unfold ab_ll at h
  split at h
  · cases h
  · rename_i hne
    show ∀ w, v = some w → w.category = 1
    intro w hw
    unfold ab_c1 at g
    split at g
    · exact g w hw
    · rw [g] at hw; cases hw; rfl
    · obtain ⟨x, e, -⟩ := g; rw [e] at hw; cases hw; rfl
    · rename_i l; exact absurd rfl (hne l)
  · have := of_decide_eq_true h
    subst this
    exact g
  · obtain ⟨h1, h2⟩ := ab_a h
    have h3 := of_decide_eq_true h2
    obtain ⟨x, e, h4, -⟩ := g
    exact ⟨x, e, ⟨(by dsimp only; omega), (by dsimp only; omega)⟩, fun _ h => (by cases h)⟩
  · obtain ⟨h1, h2⟩ := ab_a h
    have h3 := of_decide_eq_true h2
    obtain ⟨x, e, h4, h5⟩ := g
    exact ⟨x, e, by omega, by omega⟩
  · cases h
theorem ab_cutk {o o' : Nat → Int} {al ql : ab_L} {lv : ex_L} (h : ab_lle al ql = true) (g : ab_cl o al lv) : ab_cl o' (ab_nd ab_fn ql) lv := by
  obtain ⟨h1, h2⟩ := ab_llek h
  refine ⟨by unfold ab_nd; rw [List.length_mapIdx, ← h1]; exact g.1, fun i a ha => ?_⟩
  unfold ab_nd at ha
  rw [List.getElem?_mapIdx] at ha
  cases hq : ql[i]? with
  | none => rw [hq] at ha; cases ha
  | some t =>
    rw [hq] at ha
    cases ha
    obtain ⟨b, hb, hc⟩ := h2 i t hq
    obtain ⟨v, hv, g2⟩ := g.2 i b hb
    exact ⟨v, hv, ab_llk hc g2⟩
theorem ab_ndi {o : Nat → Int} {ql : ab_L} {lv : ex_L} (g : ab_cl o (ab_nd ab_fn ql) lv) {i : Nat} {t : Option ab_V} (e : ql[i]? = some t) : ∃ v, lv[i]? = some v ∧ ab_c1 o (ab_nd1 ab_fn i t) v := by
  refine g.2 i _ ?_
  unfold ab_nd
  rw [List.getElem?_mapIdx, e]
  rfl
theorem ab_inik {o : Nat → Int} {ql : ab_L} {lv : ex_L} (g : ab_cl o (ab_nd ab_fn ql) lv) : ab_cl (ab_lo lv) (ab_nd ab_fi ql) lv := by
  refine ⟨?_, fun i a ha => ?_⟩
  · have := g.1
    unfold ab_nd at this ⊢
    rw [List.length_mapIdx] at this ⊢
    exact this
  · unfold ab_nd at ha
    rw [List.getElem?_mapIdx] at ha
    cases hq : ql[i]? with
    | none => rw [hq] at ha; cases ha
    | some t =>
      rw [hq] at ha
      cases ha
      obtain ⟨v, hv, g2⟩ := ab_ndi g hq
      refine ⟨v, hv, ?_⟩
      match t, g2 with
      | none, g2 => exact g2
      | some (.inl k), g2 => exact g2
      | some (.inr (.inl x)), g2 =>
        obtain ⟨y, e, h1, -⟩ := g2
        subst e
        refine ⟨y, rfl, h1, fun q hq => ?_⟩
        cases hq
        show y.toInt = (ab_li lv i).getD 0 + 0
        unfold ab_li
        rw [hv]
        simp
      | some (.inr (.inr l)), g2 => exact g2
theorem ab_cutb {o : Nat → Int} {ql : ab_L} {lv : ex_L} (g : ab_cl o (ab_nd ab_fn ql) lv) : ∀ (i : Nat) a, ql[i]? = some (some (.inr (.inl a))) → a.1 ≤ ab_lo lv i ∧ ab_lo lv i ≤ a.2.1 := by
  intro i a e
  obtain ⟨v, hv, x, rfl, h1, -⟩ := ab_ndi g e
  have : ab_lo lv i = x.toInt := by
    show (ab_li lv i).getD 0 = x.toInt
    unfold ab_li
    rw [hv]
    rfl
  rw [this]
  exact h1
def ab_rank (q : ab_Q) (lv : ex_L) : Int := q.2.2.1 + ab_ev q.2.2.2 (ab_lo lv) 0
theorem ab_rkk {o : Nat → Int} {p q : ab_Q} {al : ab_L} {lv0 lv : ex_L} (h : ab_rk (some p) q al = true) (g : ab_cl (ab_lo lv0) al lv) (g0 : ab_cl o (ab_nd ab_fn p.2.1) lv0) : ab_rank q lv < ab_rank p lv0 := by
  unfold ab_rk at h
  dsimp only at h
  split at h
  · cases h
  · rename_i n e1
    split at h
    · cases h
    · rename_i b e2
      have h1 := ab_nbk g e1
      have h2 := ab_lbk (ab_cutb g0) e2
      rw [ab_eva, ab_evn] at h2
      have h3 := of_decide_eq_true h
      unfold ab_rank
      omega
def ab_J (p : Option ab_Q) (qs : List ab_Q) (pc : Nat) : Option (ab_L → List ab_V → ab_F → Bool) := (qs.find? (fun q => q.1 == pc)).map (fun q al as _ => as.isEmpty && (ab_lle al q.2.1 && ab_rk p q al))
def ab_pf (ts : List ab_T) (al : ab_L) (fc : ab_F) (q : ab_Y × Int × Int) : Bool := match q.1 with
  | (0, i, _) => (match ts[i]?, al[i]? with
    | some (.inr _), some (some (.inr (.inl (lo, hi, _, some d)))) => decide (d.1 = i) && (decide (d.2 = 0) && (decide (q.2.1 ≤ lo) && decide (hi ≤ q.2.2)))
    | _, _ => false)
  | (3, i, c) => (match ts[i]?, al[i]? with
    | some (.inr _), some (some (.inr (.inl (_, _, _, some d)))) => decide (d.1 = i) && (decide (d.2 = 0) && fc.any (fun f => f.1 == (3, i, c) && (decide (q.2.1 ≤ f.2.1) && decide (f.2.2 ≤ q.2.2))))
    | _, _ => false)
  | _ => false
def ab_er (s : Option (Int × Int)) (r : Option ab_I) : Bool := match s, r with
  | none, none => true
  | some q, some x => decide (q.1 ≤ x.1) && decide (x.2.1 ≤ q.2)
  | _, _ => false
def ab_pc (fc : ab_F) (q : ab_Y × Int × Int) : Bool := q.1.1 == 1 && fc.any (fun f => f.1 == q.1 && (decide (q.2.1 ≤ f.2.1) && decide (f.2.2 ≤ q.2.2)))
theorem ab_pck {fc : ab_F} {q : ab_Y × Int × Int} {lv : ex_L} {cs : ex_C} (h : ab_pc fc q = true) (hf : ab_cf lv cs fc) : ∃ x, ab_kv [] cs q.1 = some x ∧ q.2.1 ≤ x ∧ x ≤ q.2.2 := by
  obtain ⟨h1, h2⟩ := ab_b h
  obtain ⟨f, hm, h3⟩ := List.any_eq_true.mp h2
  obtain ⟨h4, h5⟩ := ab_b h3
  obtain ⟨h6, h7⟩ := ab_a h5
  have h8 := of_decide_eq_true h7
  have e : f.1 = q.1 := by simpa using h4
  obtain ⟨z, hz, z1, z2⟩ := hf f hm
  rw [e] at hz
  obtain ⟨⟨a, b, c⟩, lo, hi⟩ := q
  have ha : a = 1 := by simpa using h1
  subst ha
  exact ⟨z, hz, by omega, by omega⟩
def ab_E (en : Bool) (c : ab_C) (r : Option ab_I) (al : ab_L) (fc : ab_F) : Bool := c.2.2.2.any (fun s => ab_er s.1 r && (s.2.1.all (fun q => en && ab_pf c.1 al fc q) && s.2.2.all (ab_pc fc)))
def ab_a1 (i : Nat) (t : ab_T) : Option ab_V := match t with
  | .inl k => some (.inl k)
  | .inr q => some (.inr (.inl (q.1, q.2, none, some (i, 0))))
def ab_al0 (ts : List ab_T) (maxL : Nat) : ab_L := ts.mapIdx ab_a1 ++ List.replicate (maxL - ts.length) none
def ab_ck (hd : List ab_H) (xs : List (Nat × Int × Int)) (cx : ex_K) (cm : Nat → Option (Nat × Option Nat × List ab_C)) (code : List (Nat × Instr × Nat)) (ret : Option FieldType) (maxL fuel : Nat) (c : ab_C × List ab_Q) : Bool :=
  decide (c.1.1.length ≤ maxL) && (ab_wp hd xs cx cm code ret c.1.2.2.1 (ab_E true c.1) (ab_J none c.2) fuel 0 (ab_al0 c.1.1 maxL) [] c.1.2.1 && c.2.all (fun p => (match ab_lb p.2.1 p.2.2.2 0 with
    | some b => decide (0 ≤ p.2.2.1 + b)
    | none => false) && ab_wp hd xs cx cm code ret c.1.2.2.1 (ab_E false c.1) (ab_J (some p) c.2) fuel p.1 (ab_nd ab_fi p.2.1) [] []))
theorem ab_l0li {av : ex_V} {maxL i : Nat} {z : Int} (h : ab_li (av.map some) i = some z) : ab_li (ex_l0 av maxL) i = some z := by
  unfold ab_li ex_l0 at *
  by_cases hi : i < (av.map some).length
  · rw [List.getElem?_append_left hi]
    exact h
  · rw [List.getElem?_eq_none (by omega)] at h
    cases h
theorem ab_l0kv {av : ex_V} {maxL : Nat} {cs : ex_C} {y : ab_Y} {z : Int} (h : ab_kv (av.map some) cs y = some z) : ab_kv (ex_l0 av maxL) cs y = some z := by
  obtain ⟨a, b, c⟩ := y
  match a with
  | 0 => exact ab_l0li h
  | 1 => exact h
  | 2 =>
    have h' : (ab_li (av.map some) c).bind (fun x => if 0 ≤ x then ab_ri cs b x.toNat else none) = some z := h
    show (ab_li (ex_l0 av maxL) c).bind (fun x => if 0 ≤ x then ab_ri cs b x.toNat else none) = some z
    cases hl : ab_li (av.map some) c with
    | none => rw [hl] at h'; cases h'
    | some x => rw [hl] at h'; rw [ab_l0li hl]; exact h'
  | 3 =>
    have h' : (ab_li (av.map some) b).map (fun x => x.tmod (c : Int)) = some z := h
    show (ab_li (ex_l0 av maxL) b).map (fun x => x.tmod (c : Int)) = some z
    cases hl : ab_li (av.map some) b with
    | none => rw [hl] at h'; cases h'
    | some x => rw [hl] at h'; rw [ab_l0li hl]; exact h'
  | 4 =>
    have h' : (ab_ri cs (b / 1000) (b % 1000)).bind (fun x => (ab_li (av.map some) c).map (fun z => x - z)) = some z := h
    show (ab_ri cs (b / 1000) (b % 1000)).bind (fun x => (ab_li (ex_l0 av maxL) c).map (fun z => x - z)) = some z
    cases hl : ab_li (av.map some) c with
    | none => rw [hl] at h'; cases hr : ab_ri cs (b / 1000) (b % 1000) <;> rw [hr] at h' <;> cases h'
    | some x => rw [hl] at h'; rw [ab_l0li hl]; exact h'
  | 5 =>
    have h' : (ab_ri cs (b / 1000) (b % 1000)).bind (fun x => (ab_li (av.map some) c).map (fun z => x + z)) = some z := h
    show (ab_ri cs (b / 1000) (b % 1000)).bind (fun x => (ab_li (ex_l0 av maxL) c).map (fun z => x + z)) = some z
    cases hl : ab_li (av.map some) c with
    | none => rw [hl] at h'; cases hr : ab_ri cs (b / 1000) (b % 1000) <;> rw [hr] at h' <;> cases h'
    | some x => rw [hl] at h'; rw [ab_l0li hl]; exact h'
  | n + 6 => cases h
theorem ab_al0k {ts : List ab_T} {av : ex_V} {maxL : Nat} (h1 : av.length = ts.length) (h2 : ∀ (i : Nat) t, ts[i]? = some t → ∃ v, av[i]? = some v ∧ ab_ct t v) : ab_cl (ab_lo (ex_l0 av maxL)) (ab_al0 ts maxL) (ex_l0 av maxL) := by
  refine ⟨by unfold ab_al0 ex_l0; simp [h1], fun i a ha => ?_⟩
  unfold ab_al0 at ha
  by_cases hi : i < ts.length
  · rw [List.getElem?_append_left (by rw [List.length_mapIdx]; exact hi), List.getElem?_mapIdx, List.getElem?_eq_getElem hi] at ha
    cases ha
    obtain ⟨v, hv, hc⟩ := h2 i ts[i] (List.getElem?_eq_getElem hi)
    have hm : (ex_l0 av maxL)[i]? = some (some v) := by
      unfold ex_l0
      rw [List.getElem?_append_left (by rw [List.length_map]; omega), List.getElem?_map, hv]
      rfl
    refine ⟨some v, hm, ?_⟩
    unfold ab_a1
    unfold ab_ct at hc
    split
    · rename_i k e
      rw [e] at hc
      rw [hc]
      rfl
    · rename_i q e
      rw [e] at hc
      obtain ⟨x, rfl, x1, x2⟩ := hc
      refine ⟨x, rfl, ⟨x1, x2⟩, fun d hd => ?_⟩
      cases hd
      show x.toInt = (ab_li (ex_l0 av maxL) i).getD 0 + 0
      unfold ab_li
      rw [hm]
      simp
  · rw [List.getElem?_append_right (by rw [List.length_mapIdx]; omega), List.length_mapIdx, List.getElem?_replicate] at ha
    split at ha
    · rename_i hlt
      cases ha
      refine ⟨none, ?_, fun w hw => by cases hw⟩
      unfold ex_l0
      rw [List.getElem?_append_right (by rw [List.length_map]; omega), List.length_map, List.getElem?_replicate, if_pos (by omega)]
    · cases ha
theorem ab_pfk {ts : List ab_T} {av : ex_V} {maxL : Nat} {al : ab_L} {fc : ab_F} {lv : ex_L} {cs : ex_C} {q : ab_Y × Int × Int} (h2 : ∀ (i : Nat) t, ts[i]? = some t → ∃ v, av[i]? = some v ∧ ab_ct t v) (h : ab_pf ts al fc q = true) (g : ab_cl (ab_lo (ex_l0 av maxL)) al lv) (hf : ab_cf lv cs fc) : ∃ x, ab_kv (av.map some) [] q.1 = some x ∧ q.2.1 ≤ x ∧ x ≤ q.2.2 := by
  have key : ∀ (i : Nat) b a, ts[i]? = some (.inr b) → al[i]? = some (some (.inr (.inl a))) → a.2.2.2 = some (i, 0) → ∃ z, ab_li (av.map some) i = some z ∧ ab_li lv i = some z ∧ a.1 ≤ z ∧ z ≤ a.2.1 := by
    intro i b a e1 e2 e3
    obtain ⟨v, hv, x, rfl, -⟩ := h2 _ _ e1
    obtain ⟨w, hw, y, rfl, y1, y2⟩ := g.2 _ _ e2
    have e4 := y2 _ e3
    have e5 := ab_avli hv
    have e6 : ab_lo (ex_l0 av maxL) i = x.toInt := by
      show (ab_li (ex_l0 av maxL) i).getD 0 = _
      rw [ab_l0li e5]
      rfl
    dsimp only at e4
    rw [e6] at e4
    refine ⟨x.toInt, e5, ?_, by omega, by omega⟩
    unfold ab_li
    rw [hw]
    show some y.toInt = some x.toInt
    rw [e4]
    simp
  unfold ab_pf at h
  split at h
  · rename_i i j e
    split at h
    · rename_i b lo hi og d e1 e2
      obtain ⟨h3, h⟩ := ab_a h
      obtain ⟨h4, h⟩ := ab_a h
      obtain ⟨h5, h6⟩ := ab_a h
      have h7 := of_decide_eq_true h6
      obtain ⟨d1, d2⟩ := d
      dsimp only at h3 h4
      subst h3 h4
      obtain ⟨z, z1, -, z2, z3⟩ := key _ _ _ e1 e2 rfl
      dsimp only at z2 z3
      refine ⟨z, ?_, by omega, by omega⟩
      rw [e]
      exact z1
    · cases h
  · rename_i i c e
    split at h
    · rename_i b lo hi og d e1 e2
      obtain ⟨h3, h⟩ := ab_a h
      obtain ⟨h4, h⟩ := ab_a h
      obtain ⟨f, hm, h5⟩ := List.any_eq_true.mp h
      obtain ⟨h6, h7⟩ := ab_b h5
      obtain ⟨h8, h9⟩ := ab_a h7
      have h10 := of_decide_eq_true h9
      have ef : f.1 = (3, i, c) := by simpa using h6
      obtain ⟨d1, d2⟩ := d
      dsimp only at h3 h4
      subst h3 h4
      obtain ⟨z, z1, z2, -, -⟩ := key _ _ _ e1 e2 rfl
      obtain ⟨x, hx, x1, x2⟩ := hf f hm
      rw [ef] at hx
      have hx' : (ab_li lv d1).map (fun x => x.tmod (c : Int)) = some x := hx
      rw [z2] at hx'
      refine ⟨x, ?_, by omega, by omega⟩
      rw [e]
      show (ab_li (av.map some) d1).map (fun x => x.tmod (c : Int)) = some x
      rw [z1]
      exact hx'
    · cases h
  · cases h
theorem ab_erk {s : Option (Int × Int)} {r : Option ab_I} {v : Option Value} (hv : match r with
    | none => v = none
    | some a => ∃ x : Int32, v = some (.int x) ∧ a.1 ≤ x.toInt ∧ x.toInt ≤ a.2.1) (h : ab_er s r = true) : ab_rt s v := by
  unfold ab_er at h
  split at h
  · exact hv
  · obtain ⟨h1, h2⟩ := ab_a h
    have h3 := of_decide_eq_true h2
    obtain ⟨x, rfl, x1, x2⟩ := hv
    exact ⟨x, rfl, by omega, by omega⟩
  · cases h
/-- what holds at a cut -/
def ab_P (hd : List ab_H) (W : ab_W) (cs0 : ex_C) (q : ab_Q) : Nat → ex_L → ex_V → ex_C → Prop := fun n lv st cs => st = [] ∧ ab_cl (fun _ => 0) (ab_nd ab_fn q.2.1) lv ∧ ab_hk hd cs ∧ ab_fr W cs0 cs ∧ ab_rank q lv = (n : Int)
def ab_In (hd : List ab_H) (W : ab_W) (cs0 : ex_C) (qs : List ab_Q) (pc : Nat) : Option (Nat → ex_L → ex_V → ex_C → Prop) := (qs.find? (fun q => q.1 == pc)).map (ab_P hd W cs0)
theorem ab_rf0 {W : ab_W} {cs : ex_C} : ab_fr W cs cs := fun _ _ _ => rfl
set_option maxHeartbeats 4000000 in
theorem ab_slw {hd : List ab_H} {xs : List (Nat × Int × Int)} {cx : ex_K} {cm : Nat → Option (Nat × Option Nat × List ab_C)} {code : List (Nat × Instr × Nat)} {cc : ByteArray} {ret : Option FieldType} {maxL fuel : Nat} {l : List (ab_C × List ab_Q)} (hcode : ∀ q ∈ code, decode cc q.1 = .ok q.2) (hcm : ∀ ix q, cm ix = some q → cx.2.2.2.2.1 ix = some (q.1, q.2.1, ab_sp hd q.2.2)) (hxs : ab_xo xs ec_xt) (hck : l.all (ab_ck hd xs cx cm code ret maxL fuel) = true) {av : ex_V} {cs : ex_C} {Q : ex_Q} (h : ab_sp hd (l.map (fun c => c.1)) av cs Q) : ex_sl cx cc maxL ret av cs Q := by
  obtain ⟨c0, hc0, ⟨hp1, hp2, hp3⟩, hh, hQ⟩ := h
  obtain ⟨c, hc, rfl⟩ := List.mem_map.mp hc0
  obtain ⟨k1, k2⟩ := ab_a (List.all_eq_true.mp hck c hc)
  obtain ⟨k3, k4⟩ := ab_b k2
  have nn : ∀ {p : ab_Q} {lv : ex_L}, p ∈ c.2 → ab_cl (fun _ => 0) (ab_nd ab_fn p.2.1) lv → 0 ≤ ab_rank p lv := by
    intro p lv hp hl
    have h1 := (ab_b (List.all_eq_true.mp k4 p hp)).1
    split at h1
    · rename_i b e
      have h2 := ab_lbk (ab_cutb hl) e
      have h3 := of_decide_eq_true h1
      unfold ab_rank
      omega
    · cases h1
  have hEn : ∀ (en : Bool) (o : Nat → Int), (en = true → o = ab_lo (ex_l0 av maxL)) → ∀ r al fc lv cs' v, ab_E en c.1 r al fc = true → ab_cl o al lv → ab_cf lv cs' fc → ab_hk hd cs' → ab_fr c.1.2.2.1 cs cs' → (match r with
      | none => v = none
      | some a => ∃ x : Int32, v = some (.int x) ∧ a.1 ≤ x.toInt ∧ x.toInt ≤ a.2.1) → Q v cs' := by
    intro en o ho r al fc lv cs' v hE hl hf hk hfr hv
    obtain ⟨s, hs, h1⟩ := List.any_eq_true.mp hE
    obtain ⟨h2, h3⟩ := ab_b h1
    obtain ⟨h3, h6⟩ := ab_b h3
    refine hQ _ _ ⟨hk, hfr, s, hs, ab_erk hv h2, fun q hq => ?_, fun q hq => ab_pck (List.all_eq_true.mp h6 q hq) hf⟩
    obtain ⟨h4, h5⟩ := ab_b (List.all_eq_true.mp h3 q hq)
    have e := ho h4
    subst e
    exact ab_pfk hp2 h5 hl hf
  refine ⟨?_, by rw [hp1]; exact k1, fuel, ab_In hd c.1.2.2.1 cs c.2, ?_, ?_⟩
  · rw [List.all_eq_true]
    intro w hw
    obtain ⟨i, hi, e⟩ := List.getElem_of_mem hw
    obtain ⟨v, hv, hc⟩ := hp2 i (c.1.1[i]'(by omega)) (List.getElem?_eq_getElem _)
    rw [List.getElem?_eq_getElem hi, e] at hv
    cases hv
    unfold ab_ct at hc
    split at hc
    · subst hc; rfl
    · obtain ⟨x, rfl, -⟩ := hc; rfl
  · refine ab_wp_sound (o := ab_lo (ex_l0 av maxL)) (cs0 := cs) hcode hcm hxs (hEn true _ (fun _ => rfl)) (fun pc => ?_) _ _ _ _ _ _ _ _ k3 ⟨ab_al0k hp1 hp2, rfl, fun q hq => ?_, hh, ab_rf0⟩
    · unfold ab_J ab_In
      cases hf : c.2.find? (fun q => q.1 == pc) with
      | none => exact ⟨fun _ => rfl, fun ch h => (by cases h)⟩
      | some q =>
        refine ⟨fun h => (by cases h), fun ch h => ?_⟩
        cases h
        refine ⟨_, rfl, fun al as fc lv st cs' h g => ?_⟩
        obtain ⟨h1, h2⟩ := ab_b h
        obtain ⟨h3, h4⟩ := ab_b h2
        have hn : as = [] := by simpa using h1
        subst hn
        have hl := ab_cutk (o' := fun _ => 0) h3 g.1
        exact ⟨(ab_rank q lv).toNat, g.2.1, hl, g.2.2.2.1, g.2.2.2.2, (Int.toNat_of_nonneg (nn (List.mem_of_find?_eq_some hf) hl)).symm⟩
    · obtain ⟨x, hx, hb⟩ := hp3 q hq
      exact ⟨x, ab_l0kv hx, hb⟩
  · intro pc J n lv st cs1 hJ hP
    unfold ab_In at hJ
    cases hf : c.2.find? (fun q => q.1 == pc) with
    | none => rw [hf] at hJ; cases hJ
    | some p =>
      rw [hf] at hJ
      cases hJ
      have hpm := List.mem_of_find?_eq_some hf
      have hpp : p.1 = pc := by simpa using List.find?_some hf
      obtain ⟨rfl, hl, hk1, hfr1, hr⟩ := hP
      have k5 := (ab_b (List.all_eq_true.mp k4 p hpm)).2
      rw [hpp] at k5
      refine ab_wp_sound (o := ab_lo lv) (cs0 := cs) hcode hcm hxs (hEn false _ (fun h => by cases h)) (fun pc' => ?_) _ _ _ _ _ _ _ _ k5 ⟨ab_inik hl, rfl, fun q hq => (by cases hq), hk1, hfr1⟩
      unfold ab_J ab_In
      cases hf' : c.2.find? (fun q => q.1 == pc') with
      | none => exact ⟨fun _ => rfl, fun ch h => (by cases h)⟩
      | some q =>
        refine ⟨fun h => (by cases h), fun ch h => ?_⟩
        cases h
        refine ⟨_, rfl, fun al as fc lv' st' cs' h g => ?_⟩
        obtain ⟨h1, h2⟩ := ab_b h
        obtain ⟨h3, h4⟩ := ab_b h2
        have hn : as = [] := by simpa using h1
        subst hn
        have hl' := ab_cutk (o' := fun _ => 0) h3 g.1
        have hlt := ab_rkk h4 g.1 hl
        have h0 := nn (List.mem_of_find?_eq_some hf') hl'
        refine ⟨(ab_rank q lv').toNat, by omega, g.2.1, hl', g.2.2.2.1, g.2.2.2.2, (Int.toNat_of_nonneg h0).symm⟩
/-- the contract out of the walk over bounds -/
theorem ab_met {l : Launch} {y : MethodName} {hd : List ab_H} {xs : List (Nat × Int × Int)} {cx : ex_K} {cm : Nat → Option (Nat × Option Nat × List ab_C)} {code : List (Nat × Instr × Nat)} {cc : ByteArray} {ret : Option FieldType} {maxL fuel fr lo : Nat} {cl : List (ab_C × List ab_Q)} (hy : plainName y.cls = true) (hown : cx.1 = y.cls) (hok : ex_ok l fr lo cx) (hcode : ∀ q ∈ code, decode cc q.1 = .ok q.2) (hcm : ∀ ix q, cm ix = some q → cx.2.2.2.2.1 ix = some (q.1, q.2.1, ab_sp hd q.2.2)) (hxs : ab_xo xs ec_xt) (hck : cl.all (ab_ck hd xs cx cm code ret maxL fuel) = true) : ex_Met l y cc maxL ret fr lo (ab_sp hd (cl.map (fun c => c.1))) := fun D ad ca n sz av cs Q h => ex_lmet hy hown hok D ad ca n sz av cs Q (ab_slw hcode hcm hxs hck h)
end
