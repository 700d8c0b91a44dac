section
-- ===== PART A: goes FIRST, ahead of the names: the tables' words, and 'selects' of the private methods out of them =====
/-- a private method of a class that the tables say can be made, by its rows of tables_1 -/
def lw_okq (q : MethodName × Nat) : Prop := (q.1.cls ≠ "java/lang/invoke/MethodHandle" ∧ q.1.cls ≠ "java/lang/invoke/VarHandle") ∧ Cond.instantiable q.1.cls q.2 ∈ tables_1 ∧ Cond.privateMethod q.1 ∈ tables_1 ∧ Cond.instanceMethod q.1 ∈ tables_1
theorem lw_p0 : lw_okq (⟨"TinStation", "counted", "(I)I"⟩, 10) := ⟨⟨by decide +kernel, by decide +kernel⟩, List.mem_of_getElem? (i := 16) (by decide +kernel), List.mem_of_getElem? (i := 368) (by decide +kernel), List.mem_of_getElem? (i := 369) (by decide +kernel)⟩
theorem lw_p1 : lw_okq (⟨"TinStation$Plant", "leastHarm", "(I)I"⟩, 15) := ⟨⟨by decide +kernel, by decide +kernel⟩, List.mem_of_getElem? (i := 128) (by decide +kernel), List.mem_of_getElem? (i := 583) (by decide +kernel), List.mem_of_getElem? (i := 584) (by decide +kernel)⟩
theorem lw_p2 : lw_okq (⟨"TinStation$Plant", "readySet", "()I"⟩, 15) := ⟨⟨by decide +kernel, by decide +kernel⟩, List.mem_of_getElem? (i := 128) (by decide +kernel), List.mem_of_getElem? (i := 587) (by decide +kernel), List.mem_of_getElem? (i := 588) (by decide +kernel)⟩
theorem lw_p3 : lw_okq (⟨"TinStation$Plant", "isReady", "(I)Z"⟩, 15) := ⟨⟨by decide +kernel, by decide +kernel⟩, List.mem_of_getElem? (i := 128) (by decide +kernel), List.mem_of_getElem? (i := 591) (by decide +kernel), List.mem_of_getElem? (i := 592) (by decide +kernel)⟩
theorem lw_p4 : lw_okq (⟨"TinStation$Plant", "sumOver", "(I[I)I"⟩, 15) := ⟨⟨by decide +kernel, by decide +kernel⟩, List.mem_of_getElem? (i := 128) (by decide +kernel), List.mem_of_getElem? (i := 595) (by decide +kernel), List.mem_of_getElem? (i := 596) (by decide +kernel)⟩
theorem lw_p5 : lw_okq (⟨"TinStation$World", "doText", "()V"⟩, 7) := ⟨⟨by decide +kernel, by decide +kernel⟩, List.mem_of_getElem? (i := 52) (by decide +kernel), List.mem_of_getElem? (i := 646) (by decide +kernel), List.mem_of_getElem? (i := 647) (by decide +kernel)⟩
theorem lw_p6 : lw_okq (⟨"TinStation$World", "lineAfter", "(I)I"⟩, 7) := ⟨⟨by decide +kernel, by decide +kernel⟩, List.mem_of_getElem? (i := 52) (by decide +kernel), List.mem_of_getElem? (i := 658) (by decide +kernel), List.mem_of_getElem? (i := 659) (by decide +kernel)⟩
theorem lw_p7 : lw_okq (⟨"TinStation$World", "lineAfterCheck", "(I)I"⟩, 7) := ⟨⟨by decide +kernel, by decide +kernel⟩, List.mem_of_getElem? (i := 52) (by decide +kernel), List.mem_of_getElem? (i := 662) (by decide +kernel), List.mem_of_getElem? (i := 663) (by decide +kernel)⟩
theorem lw_p8 : lw_okq (⟨"TinStation$World", "isCheck", "(III)Z"⟩, 7) := ⟨⟨by decide +kernel, by decide +kernel⟩, List.mem_of_getElem? (i := 52) (by decide +kernel), List.mem_of_getElem? (i := 666) (by decide +kernel), List.mem_of_getElem? (i := 667) (by decide +kernel)⟩
theorem lw_p9 : lw_okq (⟨"TinStation$World", "holds", "(III)Z"⟩, 7) := ⟨⟨by decide +kernel, by decide +kernel⟩, List.mem_of_getElem? (i := 52) (by decide +kernel), List.mem_of_getElem? (i := 671) (by decide +kernel), List.mem_of_getElem? (i := 672) (by decide +kernel)⟩
theorem lw_p10 : lw_okq (⟨"TinStation$World", "actByText", "(I)I"⟩, 7) := ⟨⟨by decide +kernel, by decide +kernel⟩, List.mem_of_getElem? (i := 52) (by decide +kernel), List.mem_of_getElem? (i := 679) (by decide +kernel), List.mem_of_getElem? (i := 680) (by decide +kernel)⟩
theorem lw_p11 : lw_okq (⟨"TinStation$Plant", "work", "(ILTinStation$Air;)V"⟩, 15) := ⟨⟨by decide +kernel, by decide +kernel⟩, List.mem_of_getElem? (i := 128) (by decide +kernel), List.mem_of_getElem? (i := 713) (by decide +kernel), List.mem_of_getElem? (i := 714) (by decide +kernel)⟩
theorem lw_p12 : lw_okq (⟨"TinStation$Plant", "split", "(ILTinStation$Air;)V"⟩, 15) := ⟨⟨by decide +kernel, by decide +kernel⟩, List.mem_of_getElem? (i := 128) (by decide +kernel), List.mem_of_getElem? (i := 726) (by decide +kernel), List.mem_of_getElem? (i := 727) (by decide +kernel)⟩
theorem lw_p13 : lw_okq (⟨"TinStation$Plant", "distil", "(ILTinStation$Air;)V"⟩, 15) := ⟨⟨by decide +kernel, by decide +kernel⟩, List.mem_of_getElem? (i := 128) (by decide +kernel), List.mem_of_getElem? (i := 738) (by decide +kernel), List.mem_of_getElem? (i := 739) (by decide +kernel)⟩
theorem lw_p14 : lw_okq (⟨"TinStation$Crew", "breathe", "(ILTinStation$Air;)V"⟩, 7) := ⟨⟨by decide +kernel, by decide +kernel⟩, List.mem_of_getElem? (i := 98) (by decide +kernel), List.mem_of_getElem? (i := 746) (by decide +kernel), List.mem_of_getElem? (i := 747) (by decide +kernel)⟩
theorem lw_p15 : lw_okq (⟨"TinStation$Crew", "drink", "(ILTinStation$Air;)V"⟩, 7) := ⟨⟨by decide +kernel, by decide +kernel⟩, List.mem_of_getElem? (i := 98) (by decide +kernel), List.mem_of_getElem? (i := 755) (by decide +kernel), List.mem_of_getElem? (i := 756) (by decide +kernel)⟩
def lw_privs_1 : List (MethodName × Nat) := [(⟨"TinStation", "counted", "(I)I"⟩, 10), (⟨"TinStation$Plant", "leastHarm", "(I)I"⟩, 15), (⟨"TinStation$Plant", "readySet", "()I"⟩, 15), (⟨"TinStation$Plant", "isReady", "(I)Z"⟩, 15), (⟨"TinStation$Plant", "sumOver", "(I[I)I"⟩, 15), (⟨"TinStation$World", "doText", "()V"⟩, 7), (⟨"TinStation$World", "lineAfter", "(I)I"⟩, 7), (⟨"TinStation$World", "lineAfterCheck", "(I)I"⟩, 7), (⟨"TinStation$World", "isCheck", "(III)Z"⟩, 7), (⟨"TinStation$World", "holds", "(III)Z"⟩, 7), (⟨"TinStation$World", "actByText", "(I)I"⟩, 7), (⟨"TinStation$Plant", "work", "(ILTinStation$Air;)V"⟩, 15), (⟨"TinStation$Plant", "split", "(ILTinStation$Air;)V"⟩, 15), (⟨"TinStation$Plant", "distil", "(ILTinStation$Air;)V"⟩, 15), (⟨"TinStation$Crew", "breathe", "(ILTinStation$Air;)V"⟩, 7), (⟨"TinStation$Crew", "drink", "(ILTinStation$Air;)V"⟩, 7)]
theorem lw_r1 : ∀ q ∈ lw_privs_1, lw_okq q := List.forall_mem_cons.mpr ⟨lw_p0, List.forall_mem_cons.mpr ⟨lw_p1, List.forall_mem_cons.mpr ⟨lw_p2, List.forall_mem_cons.mpr ⟨lw_p3, List.forall_mem_cons.mpr ⟨lw_p4, List.forall_mem_cons.mpr ⟨lw_p5, List.forall_mem_cons.mpr ⟨lw_p6, List.forall_mem_cons.mpr ⟨lw_p7, List.forall_mem_cons.mpr ⟨lw_p8, List.forall_mem_cons.mpr ⟨lw_p9, List.forall_mem_cons.mpr ⟨lw_p10, List.forall_mem_cons.mpr ⟨lw_p11, List.forall_mem_cons.mpr ⟨lw_p12, List.forall_mem_cons.mpr ⟨lw_p13, List.forall_mem_cons.mpr ⟨lw_p14, List.forall_mem_cons.mpr ⟨lw_p15, fun _ h => absurd h List.not_mem_nil⟩⟩⟩⟩⟩⟩⟩⟩⟩⟩⟩⟩⟩⟩⟩⟩
theorem lw_p16 : lw_okq (⟨"TinStation$Air", "mix", "(II)V"⟩, 8) := ⟨⟨by decide +kernel, by decide +kernel⟩, List.mem_of_getElem? (i := 58) (by decide +kernel), List.mem_of_getElem? (i := 774) (by decide +kernel), List.mem_of_getElem? (i := 775) (by decide +kernel)⟩
theorem lw_p17 : lw_okq (⟨"TinStation$Bounds", "breaksIn", "(ILTinStation$Air;)Z"⟩, 6) := ⟨⟨by decide +kernel, by decide +kernel⟩, List.mem_of_getElem? (i := 186) (by decide +kernel), List.mem_of_getElem? (i := 786) (by decide +kernel), List.mem_of_getElem? (i := 787) (by decide +kernel)⟩
theorem lw_p18 : lw_okq (⟨"TinStation$Bounds", "keepFirst", "(II)V"⟩, 6) := ⟨⟨by decide +kernel, by decide +kernel⟩, List.mem_of_getElem? (i := 186) (by decide +kernel), List.mem_of_getElem? (i := 791) (by decide +kernel), List.mem_of_getElem? (i := 792) (by decide +kernel)⟩
theorem lw_p19 : lw_okq (⟨"TinStation$Hunt", "findParts", "(LTinStation$Air;I)V"⟩, 2) := ⟨⟨by decide +kernel, by decide +kernel⟩, List.mem_of_getElem? (i := 274) (by decide +kernel), List.mem_of_getElem? (i := 911) (by decide +kernel), List.mem_of_getElem? (i := 912) (by decide +kernel)⟩
theorem lw_p20 : lw_okq (⟨"TinStation$Hunt", "join", "(LTinStation$Air;I)V"⟩, 2) := ⟨⟨by decide +kernel, by decide +kernel⟩, List.mem_of_getElem? (i := 274) (by decide +kernel), List.mem_of_getElem? (i := 915) (by decide +kernel), List.mem_of_getElem? (i := 916) (by decide +kernel)⟩
theorem lw_p21 : lw_okq (⟨"TinStation$Hunt", "leftAtWorst", "(LTinStation$Air;I)I"⟩, 2) := ⟨⟨by decide +kernel, by decide +kernel⟩, List.mem_of_getElem? (i := 274) (by decide +kernel), List.mem_of_getElem? (i := 928) (by decide +kernel), List.mem_of_getElem? (i := 929) (by decide +kernel)⟩
theorem lw_p22 : lw_okq (⟨"TinStation$Journal", "tooMuch", "(II)I"⟩, 10) := ⟨⟨by decide +kernel, by decide +kernel⟩, List.mem_of_getElem? (i := 288) (by decide +kernel), List.mem_of_getElem? (i := 969) (by decide +kernel), List.mem_of_getElem? (i := 970) (by decide +kernel)⟩
theorem lw_p23 : lw_okq (⟨"TinStation$Journal", "between", "(III)I"⟩, 10) := ⟨⟨by decide +kernel, by decide +kernel⟩, List.mem_of_getElem? (i := 288) (by decide +kernel), List.mem_of_getElem? (i := 973) (by decide +kernel), List.mem_of_getElem? (i := 974) (by decide +kernel)⟩
theorem lw_p24 : lw_okq (⟨"TinStation", "setMass", "(I)I"⟩, 10) := ⟨⟨by decide +kernel, by decide +kernel⟩, List.mem_of_getElem? (i := 16) (by decide +kernel), List.mem_of_getElem? (i := 998) (by decide +kernel), List.mem_of_getElem? (i := 999) (by decide +kernel)⟩
theorem lw_p25 : lw_okq (⟨"TinStation", "setSpeed", "(I)I"⟩, 10) := ⟨⟨by decide +kernel, by decide +kernel⟩, List.mem_of_getElem? (i := 16) (by decide +kernel), List.mem_of_getElem? (i := 1006) (by decide +kernel), List.mem_of_getElem? (i := 1007) (by decide +kernel)⟩
theorem lw_p26 : lw_okq (⟨"TinStationModel", "finding", "(I)I"⟩, 57) := ⟨⟨by decide +kernel, by decide +kernel⟩, List.mem_of_getElem? (i := 1043) (by decide +kernel), List.mem_of_getElem? (i := 1226) (by decide +kernel), List.mem_of_getElem? (i := 1227) (by decide +kernel)⟩
theorem lw_p27 : lw_okq (⟨"TinStationModel", "isModule", "(I)Z"⟩, 57) := ⟨⟨by decide +kernel, by decide +kernel⟩, List.mem_of_getElem? (i := 1043) (by decide +kernel), List.mem_of_getElem? (i := 1235) (by decide +kernel), List.mem_of_getElem? (i := 1236) (by decide +kernel)⟩
theorem lw_p28 : lw_okq (⟨"TinStationModel", "isHatch", "(I)Z"⟩, 57) := ⟨⟨by decide +kernel, by decide +kernel⟩, List.mem_of_getElem? (i := 1043) (by decide +kernel), List.mem_of_getElem? (i := 1243) (by decide +kernel), List.mem_of_getElem? (i := 1244) (by decide +kernel)⟩
theorem lw_p29 : lw_okq (⟨"TinStationModel", "isPerson", "(I)Z"⟩, 57) := ⟨⟨by decide +kernel, by decide +kernel⟩, List.mem_of_getElem? (i := 1043) (by decide +kernel), List.mem_of_getElem? (i := 1276) (by decide +kernel), List.mem_of_getElem? (i := 1277) (by decide +kernel)⟩
theorem lw_p30 : lw_okq (⟨"TinStationModel", "canGo", "(II)Z"⟩, 57) := ⟨⟨by decide +kernel, by decide +kernel⟩, List.mem_of_getElem? (i := 1043) (by decide +kernel), List.mem_of_getElem? (i := 1280) (by decide +kernel), List.mem_of_getElem? (i := 1281) (by decide +kernel)⟩
theorem lw_p31 : lw_okq (⟨"TinStationModel", "isMachine", "(I)Z"⟩, 57) := ⟨⟨by decide +kernel, by decide +kernel⟩, List.mem_of_getElem? (i := 1043) (by decide +kernel), List.mem_of_getElem? (i := 1300) (by decide +kernel), List.mem_of_getElem? (i := 1301) (by decide +kernel)⟩
def lw_privs_2 : List (MethodName × Nat) := [(⟨"TinStation$Air", "mix", "(II)V"⟩, 8), (⟨"TinStation$Bounds", "breaksIn", "(ILTinStation$Air;)Z"⟩, 6), (⟨"TinStation$Bounds", "keepFirst", "(II)V"⟩, 6), (⟨"TinStation$Hunt", "findParts", "(LTinStation$Air;I)V"⟩, 2), (⟨"TinStation$Hunt", "join", "(LTinStation$Air;I)V"⟩, 2), (⟨"TinStation$Hunt", "leftAtWorst", "(LTinStation$Air;I)I"⟩, 2), (⟨"TinStation$Journal", "tooMuch", "(II)I"⟩, 10), (⟨"TinStation$Journal", "between", "(III)I"⟩, 10), (⟨"TinStation", "setMass", "(I)I"⟩, 10), (⟨"TinStation", "setSpeed", "(I)I"⟩, 10), (⟨"TinStationModel", "finding", "(I)I"⟩, 57), (⟨"TinStationModel", "isModule", "(I)Z"⟩, 57), (⟨"TinStationModel", "isHatch", "(I)Z"⟩, 57), (⟨"TinStationModel", "isPerson", "(I)Z"⟩, 57), (⟨"TinStationModel", "canGo", "(II)Z"⟩, 57), (⟨"TinStationModel", "isMachine", "(I)Z"⟩, 57)]
theorem lw_r2 : ∀ q ∈ lw_privs_2, lw_okq q := List.forall_mem_cons.mpr ⟨lw_p16, List.forall_mem_cons.mpr ⟨lw_p17, List.forall_mem_cons.mpr ⟨lw_p18, List.forall_mem_cons.mpr ⟨lw_p19, List.forall_mem_cons.mpr ⟨lw_p20, List.forall_mem_cons.mpr ⟨lw_p21, List.forall_mem_cons.mpr ⟨lw_p22, List.forall_mem_cons.mpr ⟨lw_p23, List.forall_mem_cons.mpr ⟨lw_p24, List.forall_mem_cons.mpr ⟨lw_p25, List.forall_mem_cons.mpr ⟨lw_p26, List.forall_mem_cons.mpr ⟨lw_p27, List.forall_mem_cons.mpr ⟨lw_p28, List.forall_mem_cons.mpr ⟨lw_p29, List.forall_mem_cons.mpr ⟨lw_p30, List.forall_mem_cons.mpr ⟨lw_p31, fun _ h => absurd h List.not_mem_nil⟩⟩⟩⟩⟩⟩⟩⟩⟩⟩⟩⟩⟩⟩⟩⟩
theorem lw_p32 : lw_okq (⟨"TinStationModel", "refusesMend", "(III)I"⟩, 57) := ⟨⟨by decide +kernel, by decide +kernel⟩, List.mem_of_getElem? (i := 1043) (by decide +kernel), List.mem_of_getElem? (i := 1320) (by decide +kernel), List.mem_of_getElem? (i := 1321) (by decide +kernel)⟩
theorem lw_p33 : lw_okq (⟨"TinStationModel", "isMended", "(I)Z"⟩, 57) := ⟨⟨by decide +kernel, by decide +kernel⟩, List.mem_of_getElem? (i := 1043) (by decide +kernel), List.mem_of_getElem? (i := 1324) (by decide +kernel), List.mem_of_getElem? (i := 1325) (by decide +kernel)⟩
theorem lw_p34 : lw_okq (⟨"TinStationModel", "beginMend", "(III)V"⟩, 57) := ⟨⟨by decide +kernel, by decide +kernel⟩, List.mem_of_getElem? (i := 1043) (by decide +kernel), List.mem_of_getElem? (i := 1328) (by decide +kernel), List.mem_of_getElem? (i := 1329) (by decide +kernel)⟩
theorem lw_p35 : lw_okq (⟨"TinStationModel", "canShed", "(I)Z"⟩, 57) := ⟨⟨by decide +kernel, by decide +kernel⟩, List.mem_of_getElem? (i := 1043) (by decide +kernel), List.mem_of_getElem? (i := 1336) (by decide +kernel), List.mem_of_getElem? (i := 1337) (by decide +kernel)⟩
theorem lw_p36 : lw_okq (⟨"TinStationModel", "together", "(IZI)I"⟩, 57) := ⟨⟨by decide +kernel, by decide +kernel⟩, List.mem_of_getElem? (i := 1043) (by decide +kernel), List.mem_of_getElem? (i := 1340) (by decide +kernel), List.mem_of_getElem? (i := 1341) (by decide +kernel)⟩
theorem lw_p37 : lw_okq (⟨"TinStationModel", "abortText", "()V"⟩, 57) := ⟨⟨by decide +kernel, by decide +kernel⟩, List.mem_of_getElem? (i := 1043) (by decide +kernel), List.mem_of_getElem? (i := 1364) (by decide +kernel), List.mem_of_getElem? (i := 1365) (by decide +kernel)⟩
theorem lw_p38 : lw_okq (⟨"TinStationModel", "endText", "(I)V"⟩, 57) := ⟨⟨by decide +kernel, by decide +kernel⟩, List.mem_of_getElem? (i := 1043) (by decide +kernel), List.mem_of_getElem? (i := 1368) (by decide +kernel), List.mem_of_getElem? (i := 1369) (by decide +kernel)⟩
theorem lw_p39 : lw_okq (⟨"TinStationModel", "tick", "()Z"⟩, 57) := ⟨⟨by decide +kernel, by decide +kernel⟩, List.mem_of_getElem? (i := 1043) (by decide +kernel), List.mem_of_getElem? (i := 1395) (by decide +kernel), List.mem_of_getElem? (i := 1396) (by decide +kernel)⟩
theorem lw_p40 : lw_okq (⟨"TinStationModel", "runText", "()V"⟩, 57) := ⟨⟨by decide +kernel, by decide +kernel⟩, List.mem_of_getElem? (i := 1043) (by decide +kernel), List.mem_of_getElem? (i := 1399) (by decide +kernel), List.mem_of_getElem? (i := 1400) (by decide +kernel)⟩
theorem lw_p41 : lw_okq (⟨"TinStationModel", "isLine", "(I)Z"⟩, 57) := ⟨⟨by decide +kernel, by decide +kernel⟩, List.mem_of_getElem? (i := 1043) (by decide +kernel), List.mem_of_getElem? (i := 1403) (by decide +kernel), List.mem_of_getElem? (i := 1404) (by decide +kernel)⟩
theorem lw_p42 : lw_okq (⟨"TinStationModel", "doLine", "(IIII)Z"⟩, 57) := ⟨⟨by decide +kernel, by decide +kernel⟩, List.mem_of_getElem? (i := 1043) (by decide +kernel), List.mem_of_getElem? (i := 1407) (by decide +kernel), List.mem_of_getElem? (i := 1408) (by decide +kernel)⟩
theorem lw_p43 : lw_okq (⟨"TinStationModel", "canCheck", "(III)Z"⟩, 57) := ⟨⟨by decide +kernel, by decide +kernel⟩, List.mem_of_getElem? (i := 1043) (by decide +kernel), List.mem_of_getElem? (i := 1411) (by decide +kernel), List.mem_of_getElem? (i := 1412) (by decide +kernel)⟩
theorem lw_p44 : lw_okq (⟨"TinStationModel", "isSo", "(II)Z"⟩, 57) := ⟨⟨by decide +kernel, by decide +kernel⟩, List.mem_of_getElem? (i := 1043) (by decide +kernel), List.mem_of_getElem? (i := 1415) (by decide +kernel), List.mem_of_getElem? (i := 1416) (by decide +kernel)⟩
theorem lw_p45 : lw_okq (⟨"TinStationModel", "mendAll", "()V"⟩, 57) := ⟨⟨by decide +kernel, by decide +kernel⟩, List.mem_of_getElem? (i := 1043) (by decide +kernel), List.mem_of_getElem? (i := 1419) (by decide +kernel), List.mem_of_getElem? (i := 1420) (by decide +kernel)⟩
theorem lw_p46 : lw_okq (⟨"TinStationModel", "feedAll", "()V"⟩, 57) := ⟨⟨by decide +kernel, by decide +kernel⟩, List.mem_of_getElem? (i := 1043) (by decide +kernel), List.mem_of_getElem? (i := 1423) (by decide +kernel), List.mem_of_getElem? (i := 1424) (by decide +kernel)⟩
theorem lw_p47 : lw_okq (⟨"TinStationModel", "workOf", "(I)V"⟩, 57) := ⟨⟨by decide +kernel, by decide +kernel⟩, List.mem_of_getElem? (i := 1043) (by decide +kernel), List.mem_of_getElem? (i := 1427) (by decide +kernel), List.mem_of_getElem? (i := 1428) (by decide +kernel)⟩
def lw_privs_3 : List (MethodName × Nat) := [(⟨"TinStationModel", "refusesMend", "(III)I"⟩, 57), (⟨"TinStationModel", "isMended", "(I)Z"⟩, 57), (⟨"TinStationModel", "beginMend", "(III)V"⟩, 57), (⟨"TinStationModel", "canShed", "(I)Z"⟩, 57), (⟨"TinStationModel", "together", "(IZI)I"⟩, 57), (⟨"TinStationModel", "abortText", "()V"⟩, 57), (⟨"TinStationModel", "endText", "(I)V"⟩, 57), (⟨"TinStationModel", "tick", "()Z"⟩, 57), (⟨"TinStationModel", "runText", "()V"⟩, 57), (⟨"TinStationModel", "isLine", "(I)Z"⟩, 57), (⟨"TinStationModel", "doLine", "(IIII)Z"⟩, 57), (⟨"TinStationModel", "canCheck", "(III)Z"⟩, 57), (⟨"TinStationModel", "isSo", "(II)Z"⟩, 57), (⟨"TinStationModel", "mendAll", "()V"⟩, 57), (⟨"TinStationModel", "feedAll", "()V"⟩, 57), (⟨"TinStationModel", "workOf", "(I)V"⟩, 57)]
theorem lw_r3 : ∀ q ∈ lw_privs_3, lw_okq q := List.forall_mem_cons.mpr ⟨lw_p32, List.forall_mem_cons.mpr ⟨lw_p33, List.forall_mem_cons.mpr ⟨lw_p34, List.forall_mem_cons.mpr ⟨lw_p35, List.forall_mem_cons.mpr ⟨lw_p36, List.forall_mem_cons.mpr ⟨lw_p37, List.forall_mem_cons.mpr ⟨lw_p38, List.forall_mem_cons.mpr ⟨lw_p39, List.forall_mem_cons.mpr ⟨lw_p40, List.forall_mem_cons.mpr ⟨lw_p41, List.forall_mem_cons.mpr ⟨lw_p42, List.forall_mem_cons.mpr ⟨lw_p43, List.forall_mem_cons.mpr ⟨lw_p44, List.forall_mem_cons.mpr ⟨lw_p45, List.forall_mem_cons.mpr ⟨lw_p46, List.forall_mem_cons.mpr ⟨lw_p47, fun _ h => absurd h List.not_mem_nil⟩⟩⟩⟩⟩⟩⟩⟩⟩⟩⟩⟩⟩⟩⟩⟩
theorem lw_p48 : lw_okq (⟨"TinStationModel", "breathe", "(I)V"⟩, 57) := ⟨⟨by decide +kernel, by decide +kernel⟩, List.mem_of_getElem? (i := 1043) (by decide +kernel), List.mem_of_getElem? (i := 1431) (by decide +kernel), List.mem_of_getElem? (i := 1432) (by decide +kernel)⟩
theorem lw_p49 : lw_okq (⟨"TinStationModel", "leakAll", "()V"⟩, 57) := ⟨⟨by decide +kernel, by decide +kernel⟩, List.mem_of_getElem? (i := 1043) (by decide +kernel), List.mem_of_getElem? (i := 1435) (by decide +kernel), List.mem_of_getElem? (i := 1436) (by decide +kernel)⟩
theorem lw_p50 : lw_okq (⟨"TinStationModel", "mixAll", "()V"⟩, 57) := ⟨⟨by decide +kernel, by decide +kernel⟩, List.mem_of_getElem? (i := 1043) (by decide +kernel), List.mem_of_getElem? (i := 1440) (by decide +kernel), List.mem_of_getElem? (i := 1441) (by decide +kernel)⟩
theorem lw_p51 : lw_okq (⟨"TinStationModel", "brokenAt", "()I"⟩, 57) := ⟨⟨by decide +kernel, by decide +kernel⟩, List.mem_of_getElem? (i := 1043) (by decide +kernel), List.mem_of_getElem? (i := 1444) (by decide +kernel), List.mem_of_getElem? (i := 1445) (by decide +kernel)⟩
theorem lw_p52 : lw_okq (⟨"TinStationModel", "layAside", "(Z)V"⟩, 57) := ⟨⟨by decide +kernel, by decide +kernel⟩, List.mem_of_getElem? (i := 1043) (by decide +kernel), List.mem_of_getElem? (i := 1456) (by decide +kernel), List.mem_of_getElem? (i := 1457) (by decide +kernel)⟩
theorem lw_p53 : lw_okq (⟨"TinStationModel", "lays", "([IZ)V"⟩, 57) := ⟨⟨by decide +kernel, by decide +kernel⟩, List.mem_of_getElem? (i := 1043) (by decide +kernel), List.mem_of_getElem? (i := 1460) (by decide +kernel), List.mem_of_getElem? (i := 1461) (by decide +kernel)⟩
theorem lw_p54 : lw_okq (⟨"TinStationModel", "partOf", "(II)I"⟩, 57) := ⟨⟨by decide +kernel, by decide +kernel⟩, List.mem_of_getElem? (i := 1043) (by decide +kernel), List.mem_of_getElem? (i := 1472) (by decide +kernel), List.mem_of_getElem? (i := 1473) (by decide +kernel)⟩
theorem lw_p55 : lw_okq (⟨"TinStationModel", "worst", "(I)I"⟩, 57) := ⟨⟨by decide +kernel, by decide +kernel⟩, List.mem_of_getElem? (i := 1043) (by decide +kernel), List.mem_of_getElem? (i := 1480) (by decide +kernel), List.mem_of_getElem? (i := 1481) (by decide +kernel)⟩
theorem lw_p56 : lw_okq (⟨"TinStationModel", "tooMuch", "(II)I"⟩, 57) := ⟨⟨by decide +kernel, by decide +kernel⟩, List.mem_of_getElem? (i := 1043) (by decide +kernel), List.mem_of_getElem? (i := 1503) (by decide +kernel), List.mem_of_getElem? (i := 1504) (by decide +kernel)⟩
def lw_privs_4 : List (MethodName × Nat) := [(⟨"TinStationModel", "breathe", "(I)V"⟩, 57), (⟨"TinStationModel", "leakAll", "()V"⟩, 57), (⟨"TinStationModel", "mixAll", "()V"⟩, 57), (⟨"TinStationModel", "brokenAt", "()I"⟩, 57), (⟨"TinStationModel", "layAside", "(Z)V"⟩, 57), (⟨"TinStationModel", "lays", "([IZ)V"⟩, 57), (⟨"TinStationModel", "partOf", "(II)I"⟩, 57), (⟨"TinStationModel", "worst", "(I)I"⟩, 57), (⟨"TinStationModel", "tooMuch", "(II)I"⟩, 57)]
theorem lw_r4 : ∀ q ∈ lw_privs_4, lw_okq q := List.forall_mem_cons.mpr ⟨lw_p48, List.forall_mem_cons.mpr ⟨lw_p49, List.forall_mem_cons.mpr ⟨lw_p50, List.forall_mem_cons.mpr ⟨lw_p51, List.forall_mem_cons.mpr ⟨lw_p52, List.forall_mem_cons.mpr ⟨lw_p53, List.forall_mem_cons.mpr ⟨lw_p54, List.forall_mem_cons.mpr ⟨lw_p55, List.forall_mem_cons.mpr ⟨lw_p56, fun _ h => absurd h List.not_mem_nil⟩⟩⟩⟩⟩⟩⟩⟩⟩
def lw_privs : List (MethodName × Nat) := lw_privs_1 ++ (lw_privs_2 ++ (lw_privs_3 ++ (lw_privs_4)))
def lw_tbl : List Cond := k2_sels lw_privs ++ tables_1
theorem lw_privs_ok : ∀ q ∈ lw_privs, lw_okq q := by
  show ∀ q ∈ lw_privs_1 ++ (lw_privs_2 ++ (lw_privs_3 ++ (lw_privs_4))), lw_okq q
  exact List.forall_mem_append.mpr ⟨lw_r1, List.forall_mem_append.mpr ⟨lw_r2, List.forall_mem_append.mpr ⟨lw_r3, lw_r4⟩⟩⟩
end
section
def RX0 : String := "TinStation$Air"
def TX0 : u_T := fun k => match k with
  | 0 => ("TinStation$Air", "held", "[I", true)
  | 1 => ("TinStation$Air", "leaks", "[I", true)
  | 2 => ("TinStation$Air", "oneEnd", "[I", true)
  | 3 => ("TinStation$Air", "otherEnd", "[I", true)
  | 4 => ("TinStation$Air", "open", "[Z", true)
  | 5 => ("TinStation$Air", "stored", "[I", true)
  | 6 => ("TinStation$Air", "modules", "I", false)
  | _ => ("TinStation$Air", "hatches", "I", false)
def tyX0 : Nat → FieldType := fun k => match k with
  | 0 => .array .int
  | 1 => .array .int
  | 2 => .array .int
  | 3 => .array .int
  | 4 => .array .boolean
  | 5 => .array .int
  | 6 => .int
  | _ => .int
theorem nmX0 : ∀ a, a < 8 → ∀ b, b < 8 → a ≠ b → (TX0 a).2.1 ≠ (TX0 b).2.1 := by decide +kernel
theorem tyX0_ok : ∀ k, k < 8 → parseFieldDescriptor (TX0 k).2.2.1 = some (tyX0 k) := by decide +kernel
abbrev cX0_init : ByteArray := prog_2_method_1_code
def yX0_init : MethodName := ⟨RX0, "<init>", "()V"⟩
abbrev cX0_becomeLike : ByteArray := prog_2_method_2_code
def yX0_becomeLike : MethodName := ⟨RX0, "becomeLike", "(LTinStation$Air;)V"⟩
abbrev cX0_isSort : ByteArray := prog_2_method_3_code
def yX0_isSort : MethodName := ⟨RX0, "isSort", "(I)Z"⟩
abbrev cX0_hasModule : ByteArray := prog_2_method_4_code
def yX0_hasModule : MethodName := ⟨RX0, "hasModule", "(I)Z"⟩
abbrev cX0_hasHatch : ByteArray := prog_2_method_5_code
def yX0_hasHatch : MethodName := ⟨RX0, "hasHatch", "(I)Z"⟩
abbrev cX0_addModule : ByteArray := prog_2_method_6_code
def yX0_addModule : MethodName := ⟨RX0, "addModule", "()I"⟩
abbrev cX0_addHatch : ByteArray := prog_2_method_7_code
def yX0_addHatch : MethodName := ⟨RX0, "addHatch", "(II)I"⟩
abbrev cX0_setOpen : ByteArray := prog_2_method_8_code
def yX0_setOpen : MethodName := ⟨RX0, "setOpen", "(II)I"⟩
abbrev cX0_setHeld : ByteArray := prog_2_method_9_code
def yX0_setHeld : MethodName := ⟨RX0, "setHeld", "(III)I"⟩
abbrev cX0_setLeak : ByteArray := prog_2_method_10_code
def yX0_setLeak : MethodName := ⟨RX0, "setLeak", "(II)I"⟩
abbrev cX0_setStored : ByteArray := prog_2_method_11_code
def yX0_setStored : MethodName := ⟨RX0, "setStored", "(II)I"⟩
abbrev cX0_allGrams : ByteArray := prog_2_method_12_code
def yX0_allGrams : MethodName := ⟨RX0, "allGrams", "()I"⟩
abbrev cX0_amount : ByteArray := prog_2_method_13_code
def yX0_amount : MethodName := ⟨RX0, "amount", "(II)I"⟩
abbrev cX0_give : ByteArray := prog_2_method_14_code
def yX0_give : MethodName := ⟨RX0, "give", "(III)V"⟩
abbrev cX0_take : ByteArray := prog_2_method_15_code
def yX0_take : MethodName := ⟨RX0, "take", "(III)I"⟩
abbrev cX0_fill : ByteArray := prog_2_method_16_code
def yX0_fill : MethodName := ⟨RX0, "fill", "(II)V"⟩
abbrev cX0_draw : ByteArray := prog_2_method_17_code
def yX0_draw : MethodName := ⟨RX0, "draw", "(II)I"⟩
abbrev cX0_openBetween : ByteArray := prog_2_method_18_code
def yX0_openBetween : MethodName := ⟨RX0, "openBetween", "(II)Z"⟩
abbrev cX0_leakOut : ByteArray := prog_2_method_19_code
def yX0_leakOut : MethodName := ⟨RX0, "leakOut", "()V"⟩
abbrev cX0_mixThroughHatches : ByteArray := prog_2_method_20_code
def yX0_mixThroughHatches : MethodName := ⟨RX0, "mixThroughHatches", "()V"⟩
abbrev cX0_mix : ByteArray := prog_2_method_21_code
def yX0_mix : MethodName := ⟨RX0, "mix", "(II)V"⟩
def RX1 : String := "TinStation$Bounds"
def TX1 : u_T := fun k => match k with
  | 0 => ("TinStation$Bounds", "leastOxygen", "I", false)
  | 1 => ("TinStation$Bounds", "mostCarbon", "I", false)
  | 2 => ("TinStation$Bounds", "mostHeat", "I", false)
  | 3 => ("TinStation$Bounds", "broken", "Z", false)
  | 4 => ("TinStation$Bounds", "firstTick", "I", false)
  | _ => ("TinStation$Bounds", "firstModule", "I", false)
def tyX1 : Nat → FieldType := fun k => match k with
  | 0 => .int
  | 1 => .int
  | 2 => .int
  | 3 => .boolean
  | 4 => .int
  | _ => .int
theorem nmX1 : ∀ a, a < 6 → ∀ b, b < 6 → a ≠ b → (TX1 a).2.1 ≠ (TX1 b).2.1 := by decide +kernel
theorem tyX1_ok : ∀ k, k < 6 → parseFieldDescriptor (TX1 k).2.2.1 = some (tyX1 k) := by decide +kernel
abbrev cX1_init : ByteArray := prog_3_method_1_code
def yX1_init : MethodName := ⟨RX1, "<init>", "()V"⟩
abbrev cX1_becomeLike : ByteArray := prog_3_method_2_code
def yX1_becomeLike : MethodName := ⟨RX1, "becomeLike", "(LTinStation$Bounds;)V"⟩
abbrev cX1_setAll : ByteArray := prog_3_method_3_code
def yX1_setAll : MethodName := ⟨RX1, "setAll", "(III)I"⟩
abbrev cX1_isBound : ByteArray := prog_3_method_4_code
def yX1_isBound : MethodName := ⟨RX1, "isBound", "(I)Z"⟩
abbrev cX1_tellFirstBreak : ByteArray := prog_3_method_5_code
def yX1_tellFirstBreak : MethodName := ⟨RX1, "tellFirstBreak", "(I)I"⟩
abbrev cX1_look : ByteArray := prog_3_method_6_code
def yX1_look : MethodName := ⟨RX1, "look", "(LTinStation$Air;LTinStation$Crew;I)Z"⟩
abbrev cX1_breaksIn : ByteArray := prog_3_method_7_code
def yX1_breaksIn : MethodName := ⟨RX1, "breaksIn", "(ILTinStation$Air;)Z"⟩
abbrev cX1_keepFirst : ByteArray := prog_3_method_8_code
def yX1_keepFirst : MethodName := ⟨RX1, "keepFirst", "(II)V"⟩
def RX2 : String := "TinStation$Course"
def TX2 : u_T := fun k => match k with
  | 0 => ("TinStation$Course", "runs", "Z", false)
  | 1 => ("TinStation$Course", "halted", "Z", false)
  | 2 => ("TinStation$Course", "aborting", "Z", false)
  | 3 => ("TinStation$Course", "next", "I", false)
  | 4 => ("TinStation$Course", "safe", "I", false)
  | 5 => ("TinStation$Course", "waitLeft", "I", false)
  | _ => ("TinStation$Course", "ended", "I", false)
def tyX2 : Nat → FieldType := fun k => match k with
  | 0 => .boolean
  | 1 => .boolean
  | 2 => .boolean
  | 3 => .int
  | 4 => .int
  | 5 => .int
  | _ => .int
theorem nmX2 : ∀ a, a < 7 → ∀ b, b < 7 → a ≠ b → (TX2 a).2.1 ≠ (TX2 b).2.1 := by decide +kernel
theorem tyX2_ok : ∀ k, k < 7 → parseFieldDescriptor (TX2 k).2.2.1 = some (tyX2 k) := by decide +kernel
abbrev cX2_init : ByteArray := prog_4_method_1_code
def yX2_init : MethodName := ⟨RX2, "<init>", "()V"⟩
abbrev cX2_becomeLike : ByteArray := prog_4_method_2_code
def yX2_becomeLike : MethodName := ⟨RX2, "becomeLike", "(LTinStation$Course;)V"⟩
abbrev cX2_start : ByteArray := prog_4_method_3_code
def yX2_start : MethodName := ⟨RX2, "start", "()V"⟩
abbrev cX2_finish : ByteArray := prog_4_method_4_code
def yX2_finish : MethodName := ⟨RX2, "finish", "(I)V"⟩
abbrev cX2_goOnAt : ByteArray := prog_4_method_5_code
def yX2_goOnAt : MethodName := ⟨RX2, "goOnAt", "(I)V"⟩
abbrev cX2_giveUp : ByteArray := prog_4_method_6_code
def yX2_giveUp : MethodName := ⟨RX2, "giveUp", "()V"⟩
abbrev cX2_setHalted : ByteArray := prog_4_method_7_code
def yX2_setHalted : MethodName := ⟨RX2, "setHalted", "(I)I"⟩
abbrev cX2_tellOf : ByteArray := prog_4_method_8_code
def yX2_tellOf : MethodName := ⟨RX2, "tellOf", "(I)I"⟩
def RX3 : String := "TinStation$Crew"
def TX3 : u_T := fun k => match k with
  | 0 => ("TinStation$Crew", "place", "[I", true)
  | 1 => ("TinStation$Crew", "does", "[I", true)
  | 2 => ("TinStation$Crew", "mended", "[I", true)
  | 3 => ("TinStation$Crew", "ticksLeft", "[I", true)
  | 4 => ("TinStation$Crew", "shortOfAir", "[I", true)
  | 5 => ("TinStation$Crew", "dry", "[I", true)
  | _ => ("TinStation$Crew", "people", "I", false)
def tyX3 : Nat → FieldType := fun k => match k with
  | 0 => .array .int
  | 1 => .array .int
  | 2 => .array .int
  | 3 => .array .int
  | 4 => .array .int
  | 5 => .array .int
  | _ => .int
theorem nmX3 : ∀ a, a < 7 → ∀ b, b < 7 → a ≠ b → (TX3 a).2.1 ≠ (TX3 b).2.1 := by decide +kernel
theorem tyX3_ok : ∀ k, k < 7 → parseFieldDescriptor (TX3 k).2.2.1 = some (tyX3 k) := by decide +kernel
abbrev cX3_init : ByteArray := prog_5_method_1_code
def yX3_init : MethodName := ⟨RX3, "<init>", "()V"⟩
abbrev cX3_becomeLike : ByteArray := prog_5_method_2_code
def yX3_becomeLike : MethodName := ⟨RX3, "becomeLike", "(LTinStation$Crew;)V"⟩
abbrev cX3_has : ByteArray := prog_5_method_3_code
def yX3_has : MethodName := ⟨RX3, "has", "(I)Z"⟩
abbrev cX3_mends : ByteArray := prog_5_method_4_code
def yX3_mends : MethodName := ⟨RX3, "mends", "(I)Z"⟩
abbrev cX3_addPerson : ByteArray := prog_5_method_5_code
def yX3_addPerson : MethodName := ⟨RX3, "addPerson", "(I)I"⟩
abbrev cX3_setDoing : ByteArray := prog_5_method_6_code
def yX3_setDoing : MethodName := ⟨RX3, "setDoing", "(II)I"⟩
abbrev cX3_tellOf : ByteArray := prog_5_method_7_code
def yX3_tellOf : MethodName := ⟨RX3, "tellOf", "(II)I"⟩
abbrev cX3_startMending : ByteArray := prog_5_method_8_code
def yX3_startMending : MethodName := ⟨RX3, "startMending", "(III)V"⟩
abbrev cX3_isMended : ByteArray := prog_5_method_9_code
def yX3_isMended : MethodName := ⟨RX3, "isMended", "(I)Z"⟩
abbrev cX3_menders : ByteArray := prog_5_method_10_code
def yX3_menders : MethodName := ⟨RX3, "menders", "()I"⟩
abbrev cX3_anyoneIn : ByteArray := prog_5_method_11_code
def yX3_anyoneIn : MethodName := ⟨RX3, "anyoneIn", "(I)Z"⟩
abbrev cX3_mendOn : ByteArray := prog_5_method_12_code
def yX3_mendOn : MethodName := ⟨RX3, "mendOn", "(LTinStation$Plant;)V"⟩
abbrev cX3_live : ByteArray := prog_5_method_13_code
def yX3_live : MethodName := ⟨RX3, "live", "(LTinStation$Air;)V"⟩
abbrev cX3_breathe : ByteArray := prog_5_method_14_code
def yX3_breathe : MethodName := ⟨RX3, "breathe", "(ILTinStation$Air;)V"⟩
abbrev cX3_drink : ByteArray := prog_5_method_15_code
def yX3_drink : MethodName := ⟨RX3, "drink", "(ILTinStation$Air;)V"⟩
def RX4 : String := "TinStation$Hunt"
def TX4 : u_T := fun k => match k with
  | 0 => ("TinStation$Hunt", "part", "[I", true)
  | _ => ("TinStation$Hunt", "suspected", "I", false)
def tyX4 : Nat → FieldType := fun k => match k with
  | 0 => .array .int
  | _ => .int
theorem nmX4 : ∀ a, a < 2 → ∀ b, b < 2 → a ≠ b → (TX4 a).2.1 ≠ (TX4 b).2.1 := by decide +kernel
theorem tyX4_ok : ∀ k, k < 2 → parseFieldDescriptor (TX4 k).2.2.1 = some (tyX4 k) := by decide +kernel
abbrev cX4_init : ByteArray := prog_6_method_1_code
def yX4_init : MethodName := ⟨RX4, "<init>", "()V"⟩
abbrev cX4_startOver : ByteArray := prog_6_method_2_code
def yX4_startOver : MethodName := ⟨RX4, "startOver", "(LTinStation$Air;)I"⟩
abbrev cX4_narrow : ByteArray := prog_6_method_3_code
def yX4_narrow : MethodName := ⟨RX4, "narrow", "(LTinStation$Air;II)I"⟩
abbrev cX4_bestTest : ByteArray := prog_6_method_4_code
def yX4_bestTest : MethodName := ⟨RX4, "bestTest", "(LTinStation$Air;I)I"⟩
abbrev cX4_leftAtWorst : ByteArray := prog_6_method_5_code
def yX4_leftAtWorst : MethodName := ⟨RX4, "leftAtWorst", "(LTinStation$Air;I)I"⟩
abbrev cX4_findParts : ByteArray := prog_6_method_6_code
def yX4_findParts : MethodName := ⟨RX4, "findParts", "(LTinStation$Air;I)V"⟩
abbrev cX4_join : ByteArray := prog_6_method_7_code
def yX4_join : MethodName := ⟨RX4, "join", "(LTinStation$Air;I)V"⟩
def RX5 : String := "TinStation$Journal"
def TX5 : u_T := fun k => match k with
  | 0 => ("TinStation$Journal", "readSensor", "[I", true)
  | 1 => ("TinStation$Journal", "readTick", "[I", true)
  | 2 => ("TinStation$Journal", "readValue", "[I", true)
  | 3 => ("TinStation$Journal", "heardTick", "[I", true)
  | 4 => ("TinStation$Journal", "setSensor", "[I", true)
  | 5 => ("TinStation$Journal", "setTick", "[I", true)
  | 6 => ("TinStation$Journal", "setOver", "[I", true)
  | 7 => ("TinStation$Journal", "readings", "I", false)
  | 8 => ("TinStation$Journal", "calibrations", "I", false)
  | _ => ("TinStation$Journal", "lag", "I", false)
def tyX5 : Nat → FieldType := fun k => match k with
  | 0 => .array .int
  | 1 => .array .int
  | 2 => .array .int
  | 3 => .array .int
  | 4 => .array .int
  | 5 => .array .int
  | 6 => .array .int
  | 7 => .int
  | 8 => .int
  | _ => .int
theorem nmX5 : ∀ a, a < 10 → ∀ b, b < 10 → a ≠ b → (TX5 a).2.1 ≠ (TX5 b).2.1 := by decide +kernel
theorem tyX5_ok : ∀ k, k < 10 → parseFieldDescriptor (TX5 k).2.2.1 = some (tyX5 k) := by decide +kernel
abbrev cX5_init : ByteArray := prog_7_method_1_code
def yX5_init : MethodName := ⟨RX5, "<init>", "()V"⟩
abbrev cX5_isSensor : ByteArray := prog_7_method_2_code
def yX5_isSensor : MethodName := ⟨RX5, "isSensor", "(I)Z"⟩
abbrev cX5_addReading : ByteArray := prog_7_method_3_code
def yX5_addReading : MethodName := ⟨RX5, "addReading", "(III)I"⟩
abbrev cX5_addCalibration : ByteArray := prog_7_method_4_code
def yX5_addCalibration : MethodName := ⟨RX5, "addCalibration", "(III)I"⟩
abbrev cX5_setDelay : ByteArray := prog_7_method_5_code
def yX5_setDelay : MethodName := ⟨RX5, "setDelay", "(I)I"⟩
abbrev cX5_latestHeard : ByteArray := prog_7_method_6_code
def yX5_latestHeard : MethodName := ⟨RX5, "latestHeard", "(II)I"⟩
abbrev cX5_workedBack : ByteArray := prog_7_method_7_code
def yX5_workedBack : MethodName := ⟨RX5, "workedBack", "(I)I"⟩
abbrev cX5_tooMuch : ByteArray := prog_7_method_8_code
def yX5_tooMuch : MethodName := ⟨RX5, "tooMuch", "(II)I"⟩
abbrev cX5_between : ByteArray := prog_7_method_9_code
def yX5_between : MethodName := ⟨RX5, "between", "(III)I"⟩
def RX6 : String := "TinStation$Plant"
def TX6 : u_T := fun k => match k with
  | 0 => ("TinStation$Plant", "kind", "[I", true)
  | 1 => ("TinStation$Plant", "place", "[I", true)
  | 2 => ("TinStation$Plant", "rate", "[I", true)
  | 3 => ("TinStation$Plant", "power", "[I", true)
  | 4 => ("TinStation$Plant", "harm", "[I", true)
  | 5 => ("TinStation$Plant", "life", "[I", true)
  | 6 => ("TinStation$Plant", "wear", "[I", true)
  | 7 => ("TinStation$Plant", "on", "[Z", true)
  | 8 => ("TinStation$Plant", "fault", "[Z", true)
  | 9 => ("TinStation$Plant", "ran", "[Z", true)
  | 10 => ("TinStation$Plant", "sparesLeft", "[I", true)
  | 11 => ("TinStation$Plant", "machines", "I", false)
  | 12 => ("TinStation$Plant", "light", "I", false)
  | 13 => ("TinStation$Plant", "store", "I", false)
  | _ => ("TinStation$Plant", "charge", "I", false)
def tyX6 : Nat → FieldType := fun k => match k with
  | 0 => .array .int
  | 1 => .array .int
  | 2 => .array .int
  | 3 => .array .int
  | 4 => .array .int
  | 5 => .array .int
  | 6 => .array .int
  | 7 => .array .boolean
  | 8 => .array .boolean
  | 9 => .array .boolean
  | 10 => .array .int
  | 11 => .int
  | 12 => .int
  | 13 => .int
  | _ => .int
theorem nmX6 : ∀ a, a < 15 → ∀ b, b < 15 → a ≠ b → (TX6 a).2.1 ≠ (TX6 b).2.1 := by decide +kernel
theorem tyX6_ok : ∀ k, k < 15 → parseFieldDescriptor (TX6 k).2.2.1 = some (tyX6 k) := by decide +kernel
abbrev cX6_init : ByteArray := prog_8_method_1_code
def yX6_init : MethodName := ⟨RX6, "<init>", "()V"⟩
abbrev cX6_becomeLike : ByteArray := prog_8_method_2_code
def yX6_becomeLike : MethodName := ⟨RX6, "becomeLike", "(LTinStation$Plant;)V"⟩
abbrev cX6_isKind : ByteArray := prog_8_method_3_code
def yX6_isKind : MethodName := ⟨RX6, "isKind", "(I)Z"⟩
abbrev cX6_has : ByteArray := prog_8_method_4_code
def yX6_has : MethodName := ⟨RX6, "has", "(I)Z"⟩
abbrev cX6_addMachine : ByteArray := prog_8_method_5_code
def yX6_addMachine : MethodName := ⟨RX6, "addMachine", "(IIII)I"⟩
abbrev cX6_isUse : ByteArray := prog_8_method_6_code
def yX6_isUse : MethodName := ⟨RX6, "isUse", "(I)Z"⟩
abbrev cX6_rateAs : ByteArray := prog_8_method_7_code
def yX6_rateAs : MethodName := ⟨RX6, "rateAs", "(II)I"⟩
abbrev cX6_isUnder : ByteArray := prog_8_method_8_code
def yX6_isUnder : MethodName := ⟨RX6, "isUnder", "(II)Z"⟩
abbrev cX6_setOn : ByteArray := prog_8_method_9_code
def yX6_setOn : MethodName := ⟨RX6, "setOn", "(II)I"⟩
abbrev cX6_tellOf : ByteArray := prog_8_method_10_code
def yX6_tellOf : MethodName := ⟨RX6, "tellOf", "(II)I"⟩
abbrev cX6_setSpares : ByteArray := prog_8_method_11_code
def yX6_setSpares : MethodName := ⟨RX6, "setSpares", "(II)I"⟩
abbrev cX6_setSun : ByteArray := prog_8_method_12_code
def yX6_setSun : MethodName := ⟨RX6, "setSun", "(II)I"⟩
abbrev cX6_setBattery : ByteArray := prog_8_method_13_code
def yX6_setBattery : MethodName := ⟨RX6, "setBattery", "(I)I"⟩
abbrev cX6_makeNew : ByteArray := prog_8_method_14_code
def yX6_makeNew : MethodName := ⟨RX6, "makeNew", "(I)V"⟩
abbrev cX6_isReady : ByteArray := prog_8_method_15_code
def yX6_isReady : MethodName := ⟨RX6, "isReady", "(I)Z"⟩
abbrev cX6_sharePower : ByteArray := prog_8_method_16_code
def yX6_sharePower : MethodName := ⟨RX6, "sharePower", "(I)V"⟩
abbrev cX6_workAll : ByteArray := prog_8_method_17_code
def yX6_workAll : MethodName := ⟨RX6, "workAll", "(LTinStation$Air;)V"⟩
abbrev cX6_work : ByteArray := prog_8_method_18_code
def yX6_work : MethodName := ⟨RX6, "work", "(ILTinStation$Air;)V"⟩
abbrev cX6_split : ByteArray := prog_8_method_19_code
def yX6_split : MethodName := ⟨RX6, "split", "(ILTinStation$Air;)V"⟩
abbrev cX6_distil : ByteArray := prog_8_method_20_code
def yX6_distil : MethodName := ⟨RX6, "distil", "(ILTinStation$Air;)V"⟩
abbrev cX6_shedding : ByteArray := prog_8_method_21_code
def yX6_shedding : MethodName := ⟨RX6, "shedding", "(II)I"⟩
abbrev cX6_readySet : ByteArray := prog_8_method_22_code
def yX6_readySet : MethodName := ⟨RX6, "readySet", "()I"⟩
abbrev cX6_sumOver : ByteArray := prog_8_method_23_code
def yX6_sumOver : MethodName := ⟨RX6, "sumOver", "(I[I)I"⟩
abbrev cX6_leastHarm : ByteArray := prog_8_method_24_code
def yX6_leastHarm : MethodName := ⟨RX6, "leastHarm", "(I)I"⟩
def RX7 : String := "TinStation$Script"
def TX7 : u_T := fun k => match k with
  | 0 => ("TinStation$Script", "op", "[I", true)
  | 1 => ("TinStation$Script", "a", "[I", true)
  | 2 => ("TinStation$Script", "b", "[I", true)
  | 3 => ("TinStation$Script", "c", "[I", true)
  | _ => ("TinStation$Script", "lines", "I", false)
def tyX7 : Nat → FieldType := fun k => match k with
  | 0 => .array .int
  | 1 => .array .int
  | 2 => .array .int
  | 3 => .array .int
  | _ => .int
theorem nmX7 : ∀ a, a < 5 → ∀ b, b < 5 → a ≠ b → (TX7 a).2.1 ≠ (TX7 b).2.1 := by decide +kernel
theorem tyX7_ok : ∀ k, k < 5 → parseFieldDescriptor (TX7 k).2.2.1 = some (tyX7 k) := by decide +kernel
abbrev cX7_init : ByteArray := prog_9_method_1_code
def yX7_init : MethodName := ⟨RX7, "<init>", "()V"⟩
abbrev cX7_has : ByteArray := prog_9_method_2_code
def yX7_has : MethodName := ⟨RX7, "has", "(I)Z"⟩
abbrev cX7_addLine : ByteArray := prog_9_method_3_code
def yX7_addLine : MethodName := ⟨RX7, "addLine", "(IIII)I"⟩
def RX8 : String := "TinStation$World"
def TX8 : u_T := fun k => match k with
  | 0 => ("TinStation$World", "script", "LTinStation$Script;", true)
  | 1 => ("TinStation$World", "air", "LTinStation$Air;", true)
  | 2 => ("TinStation$World", "crew", "LTinStation$Crew;", true)
  | 3 => ("TinStation$World", "plant", "LTinStation$Plant;", true)
  | 4 => ("TinStation$World", "bounds", "LTinStation$Bounds;", true)
  | 5 => ("TinStation$World", "course", "LTinStation$Course;", true)
  | _ => ("TinStation$World", "tick", "I", false)
def tyX8 : Nat → FieldType := fun k => match k with
  | 0 => .object "TinStation$Script"
  | 1 => .object "TinStation$Air"
  | 2 => .object "TinStation$Crew"
  | 3 => .object "TinStation$Plant"
  | 4 => .object "TinStation$Bounds"
  | 5 => .object "TinStation$Course"
  | _ => .int
theorem nmX8 : ∀ a, a < 7 → ∀ b, b < 7 → a ≠ b → (TX8 a).2.1 ≠ (TX8 b).2.1 := by decide +kernel
theorem tyX8_ok : ∀ k, k < 7 → parseFieldDescriptor (TX8 k).2.2.1 = some (tyX8 k) := by decide +kernel
abbrev cX8_init : ByteArray := prog_10_method_1_code
def yX8_init : MethodName := ⟨RX8, "<init>", "(LTinStation$Script;)V"⟩
abbrev cX8_becomeLike : ByteArray := prog_10_method_2_code
def yX8_becomeLike : MethodName := ⟨RX8, "becomeLike", "(LTinStation$World;)V"⟩
abbrev cX8_passTick : ByteArray := prog_10_method_3_code
def yX8_passTick : MethodName := ⟨RX8, "passTick", "()Z"⟩
abbrev cX8_walk : ByteArray := prog_10_method_4_code
def yX8_walk : MethodName := ⟨RX8, "walk", "(II)I"⟩
abbrev cX8_mend : ByteArray := prog_10_method_5_code
def yX8_mend : MethodName := ⟨RX8, "mend", "(III)I"⟩
abbrev cX8_doText : ByteArray := prog_10_method_6_code
def yX8_doText : MethodName := ⟨RX8, "doText", "()V"⟩
abbrev cX8_lineAfter : ByteArray := prog_10_method_7_code
def yX8_lineAfter : MethodName := ⟨RX8, "lineAfter", "(I)I"⟩
abbrev cX8_actByText : ByteArray := prog_10_method_8_code
def yX8_actByText : MethodName := ⟨RX8, "actByText", "(I)I"⟩
abbrev cX8_lineAfterCheck : ByteArray := prog_10_method_9_code
def yX8_lineAfterCheck : MethodName := ⟨RX8, "lineAfterCheck", "(I)I"⟩
abbrev cX8_isCheck : ByteArray := prog_10_method_10_code
def yX8_isCheck : MethodName := ⟨RX8, "isCheck", "(III)Z"⟩
abbrev cX8_holds : ByteArray := prog_10_method_11_code
def yX8_holds : MethodName := ⟨RX8, "holds", "(III)Z"⟩
def RX9 : String := "TinStation"
def TX9 : u_T := fun k => match k with
  | 0 => ("TinStation", "script", "LTinStation$Script;", true)
  | 1 => ("TinStation", "now", "LTinStation$World;", true)
  | 2 => ("TinStation", "later", "LTinStation$World;", true)
  | 3 => ("TinStation", "leakHunt", "LTinStation$Hunt;", true)
  | 4 => ("TinStation", "journal", "LTinStation$Journal;", true)
  | 5 => ("TinStation", "waiting", "[I", true)
  | 6 => ("TinStation", "findings", "[I", true)
  | 7 => ("TinStation", "waitingNumbers", "I", false)
  | 8 => ("TinStation", "stationMass", "I", false)
  | _ => ("TinStation", "stationSpeed", "I", false)
def tyX9 : Nat → FieldType := fun k => match k with
  | 0 => .object "TinStation$Script"
  | 1 => .object "TinStation$World"
  | 2 => .object "TinStation$World"
  | 3 => .object "TinStation$Hunt"
  | 4 => .object "TinStation$Journal"
  | 5 => .array .int
  | 6 => .array .int
  | 7 => .int
  | 8 => .int
  | _ => .int
theorem nmX9 : ∀ a, a < 10 → ∀ b, b < 10 → a ≠ b → (TX9 a).2.1 ≠ (TX9 b).2.1 := by decide +kernel
theorem tyX9_ok : ∀ k, k < 10 → parseFieldDescriptor (TX9 k).2.2.1 = some (tyX9 k) := by decide +kernel
abbrev cX9_init : ByteArray := prog_1_method_1_code
def yX9_init : MethodName := ⟨RX9, "<init>", "()V"⟩
abbrev cX9_module : ByteArray := prog_1_method_2_code
def yX9_module : MethodName := ⟨RX9, "module", "()I"⟩
abbrev cX9_hatch : ByteArray := prog_1_method_3_code
def yX9_hatch : MethodName := ⟨RX9, "hatch", "(II)I"⟩
abbrev cX9_shut : ByteArray := prog_1_method_4_code
def yX9_shut : MethodName := ⟨RX9, "shut", "(II)I"⟩
abbrev cX9_gas : ByteArray := prog_1_method_5_code
def yX9_gas : MethodName := ⟨RX9, "gas", "(III)I"⟩
abbrev cX9_leak : ByteArray := prog_1_method_6_code
def yX9_leak : MethodName := ⟨RX9, "leak", "(II)I"⟩
abbrev cX9_tank : ByteArray := prog_1_method_7_code
def yX9_tank : MethodName := ⟨RX9, "tank", "(II)I"⟩
abbrev cX9_grams : ByteArray := prog_1_method_8_code
def yX9_grams : MethodName := ⟨RX9, "grams", "()I"⟩
abbrev cX9_person : ByteArray := prog_1_method_9_code
def yX9_person : MethodName := ⟨RX9, "person", "(I)I"⟩
abbrev cX9_go : ByteArray := prog_1_method_10_code
def yX9_go : MethodName := ⟨RX9, "go", "(II)I"⟩
abbrev cX9_doing : ByteArray := prog_1_method_11_code
def yX9_doing : MethodName := ⟨RX9, "doing", "(II)I"⟩
abbrev cX9_about : ByteArray := prog_1_method_12_code
def yX9_about : MethodName := ⟨RX9, "about", "(II)I"⟩
abbrev cX9_machine : ByteArray := prog_1_method_13_code
def yX9_machine : MethodName := ⟨RX9, "machine", "(IIII)I"⟩
abbrev cX9_as : ByteArray := prog_1_method_14_code
def yX9_as : MethodName := ⟨RX9, "as", "(II)I"⟩
abbrev cX9_turn : ByteArray := prog_1_method_15_code
def yX9_turn : MethodName := ⟨RX9, "turn", "(II)I"⟩
abbrev cX9_of : ByteArray := prog_1_method_16_code
def yX9_of : MethodName := ⟨RX9, "of", "(II)I"⟩
abbrev cX9_spares : ByteArray := prog_1_method_17_code
def yX9_spares : MethodName := ⟨RX9, "spares", "(II)I"⟩
abbrev cX9_repair : ByteArray := prog_1_method_18_code
def yX9_repair : MethodName := ⟨RX9, "repair", "(III)I"⟩
abbrev cX9_shed : ByteArray := prog_1_method_19_code
def yX9_shed : MethodName := ⟨RX9, "shed", "(II)I"⟩
abbrev cX9_sun : ByteArray := prog_1_method_20_code
def yX9_sun : MethodName := ⟨RX9, "sun", "(II)I"⟩
abbrev cX9_battery : ByteArray := prog_1_method_21_code
def yX9_battery : MethodName := ⟨RX9, "battery", "(I)I"⟩
abbrev cX9_bounds : ByteArray := prog_1_method_22_code
def yX9_bounds : MethodName := ⟨RX9, "bounds", "(III)I"⟩
abbrev cX9_ticks : ByteArray := prog_1_method_23_code
def yX9_ticks : MethodName := ⟨RX9, "ticks", "(I)I"⟩
abbrev cX9_broke : ByteArray := prog_1_method_24_code
def yX9_broke : MethodName := ⟨RX9, "broke", "(I)I"⟩
abbrev cX9_ahead : ByteArray := prog_1_method_25_code
def yX9_ahead : MethodName := ⟨RX9, "ahead", "(I)I"⟩
abbrev cX9_line : ByteArray := prog_1_method_26_code
def yX9_line : MethodName := ⟨RX9, "line", "(IIII)I"⟩
abbrev cX9_erase : ByteArray := prog_1_method_27_code
def yX9_erase : MethodName := ⟨RX9, "erase", "()I"⟩
abbrev cX9_begin : ByteArray := prog_1_method_28_code
def yX9_begin : MethodName := ⟨RX9, "begin", "()I"⟩
abbrev cX9_halt : ByteArray := prog_1_method_29_code
def yX9_halt : MethodName := ⟨RX9, "halt", "(I)I"⟩
abbrev cX9_abort : ByteArray := prog_1_method_30_code
def yX9_abort : MethodName := ⟨RX9, "abort", "()I"⟩
abbrev cX9_text : ByteArray := prog_1_method_31_code
def yX9_text : MethodName := ⟨RX9, "text", "(I)I"⟩
abbrev cX9_hunt : ByteArray := prog_1_method_32_code
def yX9_hunt : MethodName := ⟨RX9, "hunt", "()I"⟩
abbrev cX9_test : ByteArray := prog_1_method_33_code
def yX9_test : MethodName := ⟨RX9, "test", "(II)I"⟩
abbrev cX9_best : ByteArray := prog_1_method_34_code
def yX9_best : MethodName := ⟨RX9, "best", "(I)I"⟩
abbrev cX9_suspects : ByteArray := prog_1_method_35_code
def yX9_suspects : MethodName := ⟨RX9, "suspects", "()I"⟩
abbrev cX9_read : ByteArray := prog_1_method_36_code
def yX9_read : MethodName := ⟨RX9, "read", "(II)I"⟩
abbrev cX9_calibrate : ByteArray := prog_1_method_37_code
def yX9_calibrate : MethodName := ⟨RX9, "calibrate", "(II)I"⟩
abbrev cX9_worked : ByteArray := prog_1_method_38_code
def yX9_worked : MethodName := ⟨RX9, "worked", "(I)I"⟩
abbrev cX9_delay : ByteArray := prog_1_method_39_code
def yX9_delay : MethodName := ⟨RX9, "delay", "(I)I"⟩
abbrev cX9_known : ByteArray := prog_1_method_40_code
def yX9_known : MethodName := ⟨RX9, "known", "(II)I"⟩
abbrev cX9_mass : ByteArray := prog_1_method_41_code
def yX9_mass : MethodName := ⟨RX9, "mass", "(II)I"⟩
abbrev cX9_dock : ByteArray := prog_1_method_42_code
def yX9_dock : MethodName := ⟨RX9, "dock", "(II)I"⟩
abbrev cX9_undock : ByteArray := prog_1_method_43_code
def yX9_undock : MethodName := ⟨RX9, "undock", "(I)I"⟩
abbrev cX9_tell : ByteArray := prog_1_method_44_code
def yX9_tell : MethodName := ⟨RX9, "tell", "(I)I"⟩
abbrev cX9_check : ByteArray := prog_1_method_45_code
def yX9_check : MethodName := ⟨RX9, "check", "(II)I"⟩
abbrev cX9_count : ByteArray := prog_1_method_46_code
def yX9_count : MethodName := ⟨RX9, "count", "(I)I"⟩
abbrev cX9_found : ByteArray := prog_1_method_47_code
def yX9_found : MethodName := ⟨RX9, "found", "(I)I"⟩
abbrev cX9_counted : ByteArray := prog_1_method_48_code
def yX9_counted : MethodName := ⟨RX9, "counted", "(I)I"⟩
abbrev cX9_setMass : ByteArray := prog_1_method_49_code
def yX9_setMass : MethodName := ⟨RX9, "setMass", "(I)I"⟩
abbrev cX9_setSpeed : ByteArray := prog_1_method_50_code
def yX9_setSpeed : MethodName := ⟨RX9, "setSpeed", "(I)I"⟩
abbrev cX9_isMass : ByteArray := prog_1_method_51_code
def yX9_isMass : MethodName := ⟨RX9, "isMass", "(I)Z"⟩
abbrev cX9_isSpeed : ByteArray := prog_1_method_52_code
def yX9_isSpeed : MethodName := ⟨RX9, "isSpeed", "(I)Z"⟩
abbrev cX9_isSwitch : ByteArray := prog_1_method_53_code
def yX9_isSwitch : MethodName := ⟨RX9, "isSwitch", "(I)Z"⟩
abbrev cX9_one : ByteArray := prog_1_method_54_code
def yX9_one : MethodName := ⟨RX9, "one", "(Z)I"⟩
abbrev cX9_copy : ByteArray := prog_1_method_55_code
def yX9_copy : MethodName := ⟨RX9, "copy", "([I[I)V"⟩
abbrev cX9_copyFlags : ByteArray := prog_1_method_56_code
def yX9_copyFlags : MethodName := ⟨RX9, "copyFlags", "([Z[Z)V"⟩
def RX10 : String := "TinStationModel"
def TX10 : u_T := fun k => match k with
  | 0 => ("TinStationModel", "modules", "I", false)
  | 1 => ("TinStationModel", "gas", "[I", true)
  | 2 => ("TinStationModel", "heat", "[I", true)
  | 3 => ("TinStationModel", "leak", "[I", true)
  | 4 => ("TinStationModel", "hatches", "I", false)
  | 5 => ("TinStationModel", "from", "[I", true)
  | 6 => ("TinStationModel", "to", "[I", true)
  | 7 => ("TinStationModel", "isOpen", "[I", true)
  | 8 => ("TinStationModel", "tank", "[I", true)
  | 9 => ("TinStationModel", "people", "I", false)
  | 10 => ("TinStationModel", "place", "[I", true)
  | 11 => ("TinStationModel", "does", "[I", true)
  | 12 => ("TinStationModel", "mends", "[I", true)
  | 13 => ("TinStationModel", "hours", "[I", true)
  | 14 => ("TinStationModel", "shorts", "[I", true)
  | 15 => ("TinStationModel", "dry", "[I", true)
  | 16 => ("TinStationModel", "machines", "I", false)
  | 17 => ("TinStationModel", "kind", "[I", true)
  | 18 => ("TinStationModel", "room", "[I", true)
  | 19 => ("TinStationModel", "rate", "[I", true)
  | 20 => ("TinStationModel", "power", "[I", true)
  | 21 => ("TinStationModel", "harm", "[I", true)
  | 22 => ("TinStationModel", "life", "[I", true)
  | 23 => ("TinStationModel", "wear", "[I", true)
  | 24 => ("TinStationModel", "isOn", "[I", true)
  | 25 => ("TinStationModel", "fault", "[I", true)
  | 26 => ("TinStationModel", "ran", "[I", true)
  | 27 => ("TinStationModel", "spares", "[I", true)
  | 28 => ("TinStationModel", "misc", "[I", true)
  | 29 => ("TinStationModel", "light", "I", false)
  | 30 => ("TinStationModel", "store", "I", false)
  | 31 => ("TinStationModel", "leastOxygen", "I", false)
  | 32 => ("TinStationModel", "mostCarbon", "I", false)
  | 33 => ("TinStationModel", "mostHeat", "I", false)
  | 34 => ("TinStationModel", "lines", "I", false)
  | 35 => ("TinStationModel", "op", "[I", true)
  | 36 => ("TinStationModel", "lineA", "[I", true)
  | 37 => ("TinStationModel", "lineB", "[I", true)
  | 38 => ("TinStationModel", "lineC", "[I", true)
  | 39 => ("TinStationModel", "suspects", "I", false)
  | 40 => ("TinStationModel", "readings", "I", false)
  | 41 => ("TinStationModel", "sensor", "[I", true)
  | 42 => ("TinStationModel", "readAt", "[I", true)
  | 43 => ("TinStationModel", "value", "[I", true)
  | 44 => ("TinStationModel", "heardAt", "[I", true)
  | 45 => ("TinStationModel", "calibrations", "I", false)
  | 46 => ("TinStationModel", "calSensor", "[I", true)
  | 47 => ("TinStationModel", "calAt", "[I", true)
  | 48 => ("TinStationModel", "over", "[I", true)
  | 49 => ("TinStationModel", "delay", "I", false)
  | 50 => ("TinStationModel", "mass", "I", false)
  | 51 => ("TinStationModel", "speed", "I", false)
  | 52 => ("TinStationModel", "waits", "I", false)
  | 53 => ("TinStationModel", "waiting", "[I", true)
  | 54 => ("TinStationModel", "found", "[I", true)
  | 55 => ("TinStationModel", "aside", "[I", true)
  | _ => ("TinStationModel", "asideAt", "I", false)
def tyX10 : Nat → FieldType := fun k => match k with
  | 0 => .int
  | 1 => .array .int
  | 2 => .array .int
  | 3 => .array .int
  | 4 => .int
  | 5 => .array .int
  | 6 => .array .int
  | 7 => .array .int
  | 8 => .array .int
  | 9 => .int
  | 10 => .array .int
  | 11 => .array .int
  | 12 => .array .int
  | 13 => .array .int
  | 14 => .array .int
  | 15 => .array .int
  | 16 => .int
  | 17 => .array .int
  | 18 => .array .int
  | 19 => .array .int
  | 20 => .array .int
  | 21 => .array .int
  | 22 => .array .int
  | 23 => .array .int
  | 24 => .array .int
  | 25 => .array .int
  | 26 => .array .int
  | 27 => .array .int
  | 28 => .array .int
  | 29 => .int
  | 30 => .int
  | 31 => .int
  | 32 => .int
  | 33 => .int
  | 34 => .int
  | 35 => .array .int
  | 36 => .array .int
  | 37 => .array .int
  | 38 => .array .int
  | 39 => .int
  | 40 => .int
  | 41 => .array .int
  | 42 => .array .int
  | 43 => .array .int
  | 44 => .array .int
  | 45 => .int
  | 46 => .array .int
  | 47 => .array .int
  | 48 => .array .int
  | 49 => .int
  | 50 => .int
  | 51 => .int
  | 52 => .int
  | 53 => .array .int
  | 54 => .array .int
  | 55 => .array .int
  | _ => .int
theorem nmX10 : ∀ a, a < 57 → ∀ b, b < 57 → a ≠ b → (TX10 a).2.1 ≠ (TX10 b).2.1 := by decide +kernel
theorem tyX10_ok : ∀ k, k < 57 → parseFieldDescriptor (TX10 k).2.2.1 = some (tyX10 k) := by decide +kernel
abbrev cX10_init : ByteArray := prog_12_method_1_code
def yX10_init : MethodName := ⟨RX10, "<init>", "()V"⟩
abbrev cX10_finding : ByteArray := prog_12_method_2_code
def yX10_finding : MethodName := ⟨RX10, "finding", "(I)I"⟩
abbrev cX10_isIn : ByteArray := prog_12_method_3_code
def yX10_isIn : MethodName := ⟨RX10, "isIn", "(III)Z"⟩
abbrev cX10_isModule : ByteArray := prog_12_method_4_code
def yX10_isModule : MethodName := ⟨RX10, "isModule", "(I)Z"⟩
abbrev cX10_isHatch : ByteArray := prog_12_method_5_code
def yX10_isHatch : MethodName := ⟨RX10, "isHatch", "(I)Z"⟩
abbrev cX10_isPerson : ByteArray := prog_12_method_6_code
def yX10_isPerson : MethodName := ⟨RX10, "isPerson", "(I)Z"⟩
abbrev cX10_isMachine : ByteArray := prog_12_method_7_code
def yX10_isMachine : MethodName := ⟨RX10, "isMachine", "(I)Z"⟩
abbrev cX10_module : ByteArray := prog_12_method_8_code
def yX10_module : MethodName := ⟨RX10, "module", "()I"⟩
abbrev cX10_hatch : ByteArray := prog_12_method_9_code
def yX10_hatch : MethodName := ⟨RX10, "hatch", "(II)I"⟩
abbrev cX10_shut : ByteArray := prog_12_method_10_code
def yX10_shut : MethodName := ⟨RX10, "shut", "(II)I"⟩
abbrev cX10_gas : ByteArray := prog_12_method_11_code
def yX10_gas : MethodName := ⟨RX10, "gas", "(III)I"⟩
abbrev cX10_leak : ByteArray := prog_12_method_12_code
def yX10_leak : MethodName := ⟨RX10, "leak", "(II)I"⟩
abbrev cX10_tank : ByteArray := prog_12_method_13_code
def yX10_tank : MethodName := ⟨RX10, "tank", "(II)I"⟩
abbrev cX10_grams : ByteArray := prog_12_method_14_code
def yX10_grams : MethodName := ⟨RX10, "grams", "()I"⟩
abbrev cX10_person : ByteArray := prog_12_method_15_code
def yX10_person : MethodName := ⟨RX10, "person", "(I)I"⟩
abbrev cX10_canGo : ByteArray := prog_12_method_16_code
def yX10_canGo : MethodName := ⟨RX10, "canGo", "(II)Z"⟩
abbrev cX10_go : ByteArray := prog_12_method_17_code
def yX10_go : MethodName := ⟨RX10, "go", "(II)I"⟩
abbrev cX10_doing : ByteArray := prog_12_method_18_code
def yX10_doing : MethodName := ⟨RX10, "doing", "(II)I"⟩
abbrev cX10_about : ByteArray := prog_12_method_19_code
def yX10_about : MethodName := ⟨RX10, "about", "(II)I"⟩
abbrev cX10_machine : ByteArray := prog_12_method_20_code
def yX10_machine : MethodName := ⟨RX10, "machine", "(IIII)I"⟩
abbrev cX10_as : ByteArray := prog_12_method_21_code
def yX10_as : MethodName := ⟨RX10, "as", "(II)I"⟩
abbrev cX10_turn : ByteArray := prog_12_method_22_code
def yX10_turn : MethodName := ⟨RX10, "turn", "(II)I"⟩
abbrev cX10_of : ByteArray := prog_12_method_23_code
def yX10_of : MethodName := ⟨RX10, "of", "(II)I"⟩
abbrev cX10_spares : ByteArray := prog_12_method_24_code
def yX10_spares : MethodName := ⟨RX10, "spares", "(II)I"⟩
abbrev cX10_isMended : ByteArray := prog_12_method_25_code
def yX10_isMended : MethodName := ⟨RX10, "isMended", "(I)Z"⟩
abbrev cX10_refusesMend : ByteArray := prog_12_method_26_code
def yX10_refusesMend : MethodName := ⟨RX10, "refusesMend", "(III)I"⟩
abbrev cX10_beginMend : ByteArray := prog_12_method_27_code
def yX10_beginMend : MethodName := ⟨RX10, "beginMend", "(III)V"⟩
abbrev cX10_repair : ByteArray := prog_12_method_28_code
def yX10_repair : MethodName := ⟨RX10, "repair", "(III)I"⟩
abbrev cX10_canShed : ByteArray := prog_12_method_29_code
def yX10_canShed : MethodName := ⟨RX10, "canShed", "(I)Z"⟩
abbrev cX10_together : ByteArray := prog_12_method_30_code
def yX10_together : MethodName := ⟨RX10, "together", "(IZI)I"⟩
abbrev cX10_shed : ByteArray := prog_12_method_31_code
def yX10_shed : MethodName := ⟨RX10, "shed", "(II)I"⟩
abbrev cX10_endText : ByteArray := prog_12_method_32_code
def yX10_endText : MethodName := ⟨RX10, "endText", "(I)V"⟩
abbrev cX10_abortText : ByteArray := prog_12_method_33_code
def yX10_abortText : MethodName := ⟨RX10, "abortText", "()V"⟩
abbrev cX10_isLine : ByteArray := prog_12_method_34_code
def yX10_isLine : MethodName := ⟨RX10, "isLine", "(I)Z"⟩
abbrev cX10_canCheck : ByteArray := prog_12_method_35_code
def yX10_canCheck : MethodName := ⟨RX10, "canCheck", "(III)Z"⟩
abbrev cX10_isSo : ByteArray := prog_12_method_36_code
def yX10_isSo : MethodName := ⟨RX10, "isSo", "(II)Z"⟩
abbrev cX10_doLine : ByteArray := prog_12_method_37_code
def yX10_doLine : MethodName := ⟨RX10, "doLine", "(IIII)Z"⟩
abbrev cX10_runText : ByteArray := prog_12_method_38_code
def yX10_runText : MethodName := ⟨RX10, "runText", "()V"⟩
abbrev cX10_line : ByteArray := prog_12_method_39_code
def yX10_line : MethodName := ⟨RX10, "line", "(IIII)I"⟩
abbrev cX10_erase : ByteArray := prog_12_method_40_code
def yX10_erase : MethodName := ⟨RX10, "erase", "()I"⟩
abbrev cX10_begin : ByteArray := prog_12_method_41_code
def yX10_begin : MethodName := ⟨RX10, "begin", "()I"⟩
abbrev cX10_halt : ByteArray := prog_12_method_42_code
def yX10_halt : MethodName := ⟨RX10, "halt", "(I)I"⟩
abbrev cX10_abort : ByteArray := prog_12_method_43_code
def yX10_abort : MethodName := ⟨RX10, "abort", "()I"⟩
abbrev cX10_text : ByteArray := prog_12_method_44_code
def yX10_text : MethodName := ⟨RX10, "text", "(I)I"⟩
abbrev cX10_mendAll : ByteArray := prog_12_method_45_code
def yX10_mendAll : MethodName := ⟨RX10, "mendAll", "()V"⟩
abbrev cX10_feedAll : ByteArray := prog_12_method_46_code
def yX10_feedAll : MethodName := ⟨RX10, "feedAll", "()V"⟩
abbrev cX10_lesser : ByteArray := prog_12_method_47_code
def yX10_lesser : MethodName := ⟨RX10, "lesser", "(II)I"⟩
abbrev cX10_workOf : ByteArray := prog_12_method_48_code
def yX10_workOf : MethodName := ⟨RX10, "workOf", "(I)V"⟩
abbrev cX10_breathe : ByteArray := prog_12_method_49_code
def yX10_breathe : MethodName := ⟨RX10, "breathe", "(I)V"⟩
abbrev cX10_leakAll : ByteArray := prog_12_method_50_code
def yX10_leakAll : MethodName := ⟨RX10, "leakAll", "()V"⟩
abbrev cX10_mixAll : ByteArray := prog_12_method_51_code
def yX10_mixAll : MethodName := ⟨RX10, "mixAll", "()V"⟩
abbrev cX10_brokenAt : ByteArray := prog_12_method_52_code
def yX10_brokenAt : MethodName := ⟨RX10, "brokenAt", "()I"⟩
abbrev cX10_tick : ByteArray := prog_12_method_53_code
def yX10_tick : MethodName := ⟨RX10, "tick", "()Z"⟩
abbrev cX10_sun : ByteArray := prog_12_method_54_code
def yX10_sun : MethodName := ⟨RX10, "sun", "(II)I"⟩
abbrev cX10_battery : ByteArray := prog_12_method_55_code
def yX10_battery : MethodName := ⟨RX10, "battery", "(I)I"⟩
abbrev cX10_bounds : ByteArray := prog_12_method_56_code
def yX10_bounds : MethodName := ⟨RX10, "bounds", "(III)I"⟩
abbrev cX10_ticks : ByteArray := prog_12_method_57_code
def yX10_ticks : MethodName := ⟨RX10, "ticks", "(I)I"⟩
abbrev cX10_broke : ByteArray := prog_12_method_58_code
def yX10_broke : MethodName := ⟨RX10, "broke", "(I)I"⟩
abbrev cX10_lays : ByteArray := prog_12_method_59_code
def yX10_lays : MethodName := ⟨RX10, "lays", "([IZ)V"⟩
abbrev cX10_layAside : ByteArray := prog_12_method_60_code
def yX10_layAside : MethodName := ⟨RX10, "layAside", "(Z)V"⟩
abbrev cX10_ahead : ByteArray := prog_12_method_61_code
def yX10_ahead : MethodName := ⟨RX10, "ahead", "(I)I"⟩
abbrev cX10_partOf : ByteArray := prog_12_method_62_code
def yX10_partOf : MethodName := ⟨RX10, "partOf", "(II)I"⟩
abbrev cX10_ones : ByteArray := prog_12_method_63_code
def yX10_ones : MethodName := ⟨RX10, "ones", "(I)I"⟩
abbrev cX10_hunt : ByteArray := prog_12_method_64_code
def yX10_hunt : MethodName := ⟨RX10, "hunt", "()I"⟩
abbrev cX10_test : ByteArray := prog_12_method_65_code
def yX10_test : MethodName := ⟨RX10, "test", "(II)I"⟩
abbrev cX10_worst : ByteArray := prog_12_method_66_code
def yX10_worst : MethodName := ⟨RX10, "worst", "(I)I"⟩
abbrev cX10_best : ByteArray := prog_12_method_67_code
def yX10_best : MethodName := ⟨RX10, "best", "(I)I"⟩
abbrev cX10_suspects : ByteArray := prog_12_method_68_code
def yX10_suspects : MethodName := ⟨RX10, "suspects", "()I"⟩
abbrev cX10_read : ByteArray := prog_12_method_69_code
def yX10_read : MethodName := ⟨RX10, "read", "(II)I"⟩
abbrev cX10_calibrate : ByteArray := prog_12_method_70_code
def yX10_calibrate : MethodName := ⟨RX10, "calibrate", "(II)I"⟩
abbrev cX10_tooMuch : ByteArray := prog_12_method_71_code
def yX10_tooMuch : MethodName := ⟨RX10, "tooMuch", "(II)I"⟩
abbrev cX10_worked : ByteArray := prog_12_method_72_code
def yX10_worked : MethodName := ⟨RX10, "worked", "(I)I"⟩
abbrev cX10_delay : ByteArray := prog_12_method_73_code
def yX10_delay : MethodName := ⟨RX10, "delay", "(I)I"⟩
abbrev cX10_known : ByteArray := prog_12_method_74_code
def yX10_known : MethodName := ⟨RX10, "known", "(II)I"⟩
abbrev cX10_mass : ByteArray := prog_12_method_75_code
def yX10_mass : MethodName := ⟨RX10, "mass", "(II)I"⟩
abbrev cX10_dock : ByteArray := prog_12_method_76_code
def yX10_dock : MethodName := ⟨RX10, "dock", "(II)I"⟩
abbrev cX10_undock : ByteArray := prog_12_method_77_code
def yX10_undock : MethodName := ⟨RX10, "undock", "(I)I"⟩
abbrev cX10_tell : ByteArray := prog_12_method_78_code
def yX10_tell : MethodName := ⟨RX10, "tell", "(I)I"⟩
abbrev cX10_check : ByteArray := prog_12_method_79_code
def yX10_check : MethodName := ⟨RX10, "check", "(II)I"⟩
abbrev cX10_count : ByteArray := prog_12_method_80_code
def yX10_count : MethodName := ⟨RX10, "count", "(I)I"⟩
abbrev cX10_found : ByteArray := prog_12_method_81_code
def yX10_found : MethodName := ⟨RX10, "found", "(I)I"⟩
def RJ6 : String := "java/lang/Integer"
def TJ6 : u_T := fun k => match k with
  | _ => ("", "", "", false)
def tyJ6 : Nat → FieldType := fun k => match k with
  | _ => .int
theorem tyJ6_ok : ∀ k, k < 0 → parseFieldDescriptor (TJ6 k).2.2.1 = some (tyJ6 k) := by decide +kernel
abbrev cJ6_bitCount_0f7a4 : ByteArray := prog_13_method_49_code
def yJ6_bitCount_0f7a4 : MethodName := ⟨RJ6, "bitCount", "(I)I"⟩
def RJ9 : String := "java/lang/Math"
def TJ9 : u_T := fun k => match k with
  | _ => ("", "", "", false)
def tyJ9 : Nat → FieldType := fun k => match k with
  | _ => .int
theorem tyJ9_ok : ∀ k, k < 0 → parseFieldDescriptor (TJ9 k).2.2.1 = some (tyJ9 k) := by decide +kernel
abbrev cJ9_max_7cf53 : ByteArray := prog_14_method_65_code
def yJ9_max_7cf53 : MethodName := ⟨RJ9, "max", "(II)I"⟩
abbrev cJ9_min_7cf53 : ByteArray := prog_14_method_69_code
def yJ9_min_7cf53 : MethodName := ⟨RJ9, "min", "(II)I"⟩
def RJ10 : String := "java/lang/System"
def TJ10 : u_T := fun k => match k with
  | _ => ("", "", "", false)
def tyJ10 : Nat → FieldType := fun k => match k with
  | _ => .int
theorem tyJ10_ok : ∀ k, k < 0 → parseFieldDescriptor (TJ10 k).2.2.1 = some (tyJ10 k) := by decide +kernel
def RL : String := "TinStationLaw"
abbrev cL_law : ByteArray := code
def yL_law : MethodName := ⟨RL, "law", "([I)Z"⟩
abbrev vwCl : List vw_C := [(RX0, TX0, 8), (RX1, TX1, 6), (RX2, TX2, 7), (RX3, TX3, 7), (RX4, TX4, 2), (RX5, TX5, 10), (RX6, TX6, 15), (RX7, TX7, 5), (RX8, TX8, 7), (RX9, TX9, 10), (RX10, TX10, 57)]
end
