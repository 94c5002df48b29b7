section
-- ===== PART A: goes FIRST, ahead of the names: the tables' words, and 'selects' of the private methods out of them =====
/-- a private method of a class that the tables say can be made, by its rows of tables_1 -/
def lw_okq (q : MethodName × Nat) : Prop := (q.1.cls ≠ "java/lang/invoke/MethodHandle" ∧ q.1.cls ≠ "java/lang/invoke/VarHandle") ∧ Cond.instantiable q.1.cls q.2 ∈ tables_1 ∧ Cond.privateMethod q.1 ∈ tables_1 ∧ Cond.instanceMethod q.1 ∈ tables_1
theorem lw_p0 : lw_okq (⟨"TradeTests", "finding", "(I)I"⟩, 14) := ⟨⟨by decide +kernel, by decide +kernel⟩, List.mem_of_getElem? (i := 17) (by decide +kernel), List.mem_of_getElem? (i := 430) (by decide +kernel), List.mem_of_getElem? (i := 431) (by decide +kernel)⟩
theorem lw_p1 : lw_okq (⟨"TradeTests", "isWho", "(I)Z"⟩, 14) := ⟨⟨by decide +kernel, by decide +kernel⟩, List.mem_of_getElem? (i := 17) (by decide +kernel), List.mem_of_getElem? (i := 492) (by decide +kernel), List.mem_of_getElem? (i := 493) (by decide +kernel)⟩
theorem lw_p2 : lw_okq (⟨"TradeTests", "isWhen", "(II)Z"⟩, 14) := ⟨⟨by decide +kernel, by decide +kernel⟩, List.mem_of_getElem? (i := 17) (by decide +kernel), List.mem_of_getElem? (i := 496) (by decide +kernel), List.mem_of_getElem? (i := 497) (by decide +kernel)⟩
theorem lw_p3 : lw_okq (⟨"TradeTests", "isMiles", "(II)Z"⟩, 14) := ⟨⟨by decide +kernel, by decide +kernel⟩, List.mem_of_getElem? (i := 17) (by decide +kernel), List.mem_of_getElem? (i := 507) (by decide +kernel), List.mem_of_getElem? (i := 508) (by decide +kernel)⟩
theorem lw_p4 : lw_okq (⟨"TradeTests$Texts", "clearNext", "()V"⟩, 8) := ⟨⟨by decide +kernel, by decide +kernel⟩, List.mem_of_getElem? (i := 182) (by decide +kernel), List.mem_of_getElem? (i := 545) (by decide +kernel), List.mem_of_getElem? (i := 546) (by decide +kernel)⟩
theorem lw_p5 : lw_okq (⟨"TradeTests$Texts", "readRows", "()Z"⟩, 8) := ⟨⟨by decide +kernel, by decide +kernel⟩, List.mem_of_getElem? (i := 182) (by decide +kernel), List.mem_of_getElem? (i := 549) (by decide +kernel), List.mem_of_getElem? (i := 550) (by decide +kernel)⟩
theorem lw_p6 : lw_okq (⟨"TradeTests$Texts", "readRow", "()Z"⟩, 8) := ⟨⟨by decide +kernel, by decide +kernel⟩, List.mem_of_getElem? (i := 182) (by decide +kernel), List.mem_of_getElem? (i := 553) (by decide +kernel), List.mem_of_getElem? (i := 554) (by decide +kernel)⟩
theorem lw_p7 : lw_okq (⟨"TradeTests$Texts", "next", "()I"⟩, 8) := ⟨⟨by decide +kernel, by decide +kernel⟩, List.mem_of_getElem? (i := 182) (by decide +kernel), List.mem_of_getElem? (i := 557) (by decide +kernel), List.mem_of_getElem? (i := 558) (by decide +kernel)⟩
theorem lw_p8 : lw_okq (⟨"TradeTests$Texts", "readFault", "()Z"⟩, 8) := ⟨⟨by decide +kernel, by decide +kernel⟩, List.mem_of_getElem? (i := 182) (by decide +kernel), List.mem_of_getElem? (i := 561) (by decide +kernel), List.mem_of_getElem? (i := 562) (by decide +kernel)⟩
theorem lw_p9 : lw_okq (⟨"TradeTests$Texts", "readEnd", "()Z"⟩, 8) := ⟨⟨by decide +kernel, by decide +kernel⟩, List.mem_of_getElem? (i := 182) (by decide +kernel), List.mem_of_getElem? (i := 571) (by decide +kernel), List.mem_of_getElem? (i := 572) (by decide +kernel)⟩
theorem lw_p10 : lw_okq (⟨"TradeTests$Texts", "readNumber", "(I)I"⟩, 8) := ⟨⟨by decide +kernel, by decide +kernel⟩, List.mem_of_getElem? (i := 182) (by decide +kernel), List.mem_of_getElem? (i := 576) (by decide +kernel), List.mem_of_getElem? (i := 577) (by decide +kernel)⟩
theorem lw_p11 : lw_okq (⟨"TradeTests$Judge", "brakesDo", "(III)Z"⟩, 3) := ⟨⟨by decide +kernel, by decide +kernel⟩, List.mem_of_getElem? (i := 219) (by decide +kernel), List.mem_of_getElem? (i := 602) (by decide +kernel), List.mem_of_getElem? (i := 603) (by decide +kernel)⟩
theorem lw_p12 : lw_okq (⟨"TradeTests$Plan", "survey", "(I)V"⟩, 8) := ⟨⟨by decide +kernel, by decide +kernel⟩, List.mem_of_getElem? (i := 349) (by decide +kernel), List.mem_of_getElem? (i := 623) (by decide +kernel), List.mem_of_getElem? (i := 624) (by decide +kernel)⟩
theorem lw_p13 : lw_okq (⟨"TradeTests$Signals", "isAlike", "(II)Z"⟩, 4) := ⟨⟨by decide +kernel, by decide +kernel⟩, List.mem_of_getElem? (i := 235) (by decide +kernel), List.mem_of_getElem? (i := 636) (by decide +kernel), List.mem_of_getElem? (i := 637) (by decide +kernel)⟩
theorem lw_p14 : lw_okq (⟨"TradeTests$Signals", "isMeeting", "(II)Z"⟩, 4) := ⟨⟨by decide +kernel, by decide +kernel⟩, List.mem_of_getElem? (i := 235) (by decide +kernel), List.mem_of_getElem? (i := 653) (by decide +kernel), List.mem_of_getElem? (i := 654) (by decide +kernel)⟩
theorem lw_p15 : lw_okq (⟨"TradeTests$Rates", "fillCells", "()V"⟩, 9) := ⟨⟨by decide +kernel, by decide +kernel⟩, List.mem_of_getElem? (i := 254) (by decide +kernel), List.mem_of_getElem? (i := 684) (by decide +kernel), List.mem_of_getElem? (i := 685) (by decide +kernel)⟩
def lw_privs_1 : List (MethodName × Nat) := [(⟨"TradeTests", "finding", "(I)I"⟩, 14), (⟨"TradeTests", "isWho", "(I)Z"⟩, 14), (⟨"TradeTests", "isWhen", "(II)Z"⟩, 14), (⟨"TradeTests", "isMiles", "(II)Z"⟩, 14), (⟨"TradeTests$Texts", "clearNext", "()V"⟩, 8), (⟨"TradeTests$Texts", "readRows", "()Z"⟩, 8), (⟨"TradeTests$Texts", "readRow", "()Z"⟩, 8), (⟨"TradeTests$Texts", "next", "()I"⟩, 8), (⟨"TradeTests$Texts", "readFault", "()Z"⟩, 8), (⟨"TradeTests$Texts", "readEnd", "()Z"⟩, 8), (⟨"TradeTests$Texts", "readNumber", "(I)I"⟩, 8), (⟨"TradeTests$Judge", "brakesDo", "(III)Z"⟩, 3), (⟨"TradeTests$Plan", "survey", "(I)V"⟩, 8), (⟨"TradeTests$Signals", "isAlike", "(II)Z"⟩, 4), (⟨"TradeTests$Signals", "isMeeting", "(II)Z"⟩, 4), (⟨"TradeTests$Rates", "fillCells", "()V"⟩, 9)]
theorem lw_r1 : ∀ q ∈ lw_privs_1, lw_okq q := List.forall_mem_cons.mpr ⟨lw_p0, List.forall_mem_cons.mpr ⟨lw_p1, List.forall_mem_cons.mpr ⟨lw_p2, List.forall_mem_cons.mpr ⟨lw_p3, List.forall_mem_cons.mpr ⟨lw_p4, List.forall_mem_cons.mpr ⟨lw_p5, List.forall_mem_cons.mpr ⟨lw_p6, List.forall_mem_cons.mpr ⟨lw_p7, List.forall_mem_cons.mpr ⟨lw_p8, List.forall_mem_cons.mpr ⟨lw_p9, List.forall_mem_cons.mpr ⟨lw_p10, List.forall_mem_cons.mpr ⟨lw_p11, List.forall_mem_cons.mpr ⟨lw_p12, List.forall_mem_cons.mpr ⟨lw_p13, List.forall_mem_cons.mpr ⟨lw_p14, List.forall_mem_cons.mpr ⟨lw_p15, fun _ h => absurd h List.not_mem_nil⟩⟩⟩⟩⟩⟩⟩⟩⟩⟩⟩⟩⟩⟩⟩⟩
theorem lw_p16 : lw_okq (⟨"TradeTests$Rates", "cellOf", "(I)I"⟩, 9) := ⟨⟨by decide +kernel, by decide +kernel⟩, List.mem_of_getElem? (i := 254) (by decide +kernel), List.mem_of_getElem? (i := 688) (by decide +kernel), List.mem_of_getElem? (i := 689) (by decide +kernel)⟩
theorem lw_p17 : lw_okq (⟨"TradeTests$Rates", "measure", "(I)V"⟩, 9) := ⟨⟨by decide +kernel, by decide +kernel⟩, List.mem_of_getElem? (i := 254) (by decide +kernel), List.mem_of_getElem? (i := 696) (by decide +kernel), List.mem_of_getElem? (i := 697) (by decide +kernel)⟩
theorem lw_p18 : lw_okq (⟨"TradeTests$Rates", "cellShare", "(I)I"⟩, 9) := ⟨⟨by decide +kernel, by decide +kernel⟩, List.mem_of_getElem? (i := 254) (by decide +kernel), List.mem_of_getElem? (i := 701) (by decide +kernel), List.mem_of_getElem? (i := 702) (by decide +kernel)⟩
theorem lw_p19 : lw_okq (⟨"TradeTests$Rates", "more", "()I"⟩, 9) := ⟨⟨by decide +kernel, by decide +kernel⟩, List.mem_of_getElem? (i := 254) (by decide +kernel), List.mem_of_getElem? (i := 705) (by decide +kernel), List.mem_of_getElem? (i := 706) (by decide +kernel)⟩
theorem lw_p20 : lw_okq (⟨"TradeTests$Rates", "beyondChance", "()I"⟩, 9) := ⟨⟨by decide +kernel, by decide +kernel⟩, List.mem_of_getElem? (i := 254) (by decide +kernel), List.mem_of_getElem? (i := 709) (by decide +kernel), List.mem_of_getElem? (i := 710) (by decide +kernel)⟩
theorem lw_p21 : lw_okq (⟨"TradeTests$Rates", "garagesWithTests", "()I"⟩, 9) := ⟨⟨by decide +kernel, by decide +kernel⟩, List.mem_of_getElem? (i := 254) (by decide +kernel), List.mem_of_getElem? (i := 713) (by decide +kernel), List.mem_of_getElem? (i := 714) (by decide +kernel)⟩
theorem lw_p22 : lw_okq (⟨"TradeTests$Odometer", "milesAhead", "(I)I"⟩, 1) := ⟨⟨by decide +kernel, by decide +kernel⟩, List.mem_of_getElem? (i := 288) (by decide +kernel), List.mem_of_getElem? (i := 744) (by decide +kernel), List.mem_of_getElem? (i := 745) (by decide +kernel)⟩
theorem lw_p23 : lw_okq (⟨"TradeTests$Odometer", "milesBehind", "(I)I"⟩, 1) := ⟨⟨by decide +kernel, by decide +kernel⟩, List.mem_of_getElem? (i := 288) (by decide +kernel), List.mem_of_getElem? (i := 748) (by decide +kernel), List.mem_of_getElem? (i := 749) (by decide +kernel)⟩
theorem lw_p24 : lw_okq (⟨"TradeTests$Penalties", "fillPoints", "(I)V"⟩, 6) := ⟨⟨by decide +kernel, by decide +kernel⟩, List.mem_of_getElem? (i := 324) (by decide +kernel), List.mem_of_getElem? (i := 804) (by decide +kernel), List.mem_of_getElem? (i := 805) (by decide +kernel)⟩
theorem lw_p25 : lw_okq (⟨"TradeTests$Penalties", "rowSum", "(I)I"⟩, 6) := ⟨⟨by decide +kernel, by decide +kernel⟩, List.mem_of_getElem? (i := 324) (by decide +kernel), List.mem_of_getElem? (i := 809) (by decide +kernel), List.mem_of_getElem? (i := 810) (by decide +kernel)⟩
theorem lw_p26 : lw_okq (⟨"TradeTests$Plan", "newFaults", "(I)I"⟩, 8) := ⟨⟨by decide +kernel, by decide +kernel⟩, List.mem_of_getElem? (i := 349) (by decide +kernel), List.mem_of_getElem? (i := 847) (by decide +kernel), List.mem_of_getElem? (i := 848) (by decide +kernel)⟩
theorem lw_p27 : lw_okq (⟨"TradeTests$Plan", "mostFrom", "(II)I"⟩, 8) := ⟨⟨by decide +kernel, by decide +kernel⟩, List.mem_of_getElem? (i := 349) (by decide +kernel), List.mem_of_getElem? (i := 863) (by decide +kernel), List.mem_of_getElem? (i := 864) (by decide +kernel)⟩
theorem lw_p28 : lw_okq (⟨"TradeTests$Plan", "mostWith", "(III)I"⟩, 8) := ⟨⟨by decide +kernel, by decide +kernel⟩, List.mem_of_getElem? (i := 349) (by decide +kernel), List.mem_of_getElem? (i := 870) (by decide +kernel), List.mem_of_getElem? (i := 871) (by decide +kernel)⟩
theorem lw_p29 : lw_okq (⟨"TradeTests$Plan", "leastGarage", "(II)I"⟩, 8) := ⟨⟨by decide +kernel, by decide +kernel⟩, List.mem_of_getElem? (i := 349) (by decide +kernel), List.mem_of_getElem? (i := 885) (by decide +kernel), List.mem_of_getElem? (i := 886) (by decide +kernel)⟩
theorem lw_p30 : lw_okq (⟨"TradeTestsModel", "finds", "(I)I"⟩, 50) := ⟨⟨by decide +kernel, by decide +kernel⟩, List.mem_of_getElem? (i := 940) (by decide +kernel), List.mem_of_getElem? (i := 1108) (by decide +kernel), List.mem_of_getElem? (i := 1109) (by decide +kernel)⟩
theorem lw_p31 : lw_okq (⟨"TradeTestsModel", "isVehicle", "(I)Z"⟩, 50) := ⟨⟨by decide +kernel, by decide +kernel⟩, List.mem_of_getElem? (i := 940) (by decide +kernel), List.mem_of_getElem? (i := 1117) (by decide +kernel), List.mem_of_getElem? (i := 1118) (by decide +kernel)⟩
def lw_privs_2 : List (MethodName × Nat) := [(⟨"TradeTests$Rates", "cellOf", "(I)I"⟩, 9), (⟨"TradeTests$Rates", "measure", "(I)V"⟩, 9), (⟨"TradeTests$Rates", "cellShare", "(I)I"⟩, 9), (⟨"TradeTests$Rates", "more", "()I"⟩, 9), (⟨"TradeTests$Rates", "beyondChance", "()I"⟩, 9), (⟨"TradeTests$Rates", "garagesWithTests", "()I"⟩, 9), (⟨"TradeTests$Odometer", "milesAhead", "(I)I"⟩, 1), (⟨"TradeTests$Odometer", "milesBehind", "(I)I"⟩, 1), (⟨"TradeTests$Penalties", "fillPoints", "(I)V"⟩, 6), (⟨"TradeTests$Penalties", "rowSum", "(I)I"⟩, 6), (⟨"TradeTests$Plan", "newFaults", "(I)I"⟩, 8), (⟨"TradeTests$Plan", "mostFrom", "(II)I"⟩, 8), (⟨"TradeTests$Plan", "mostWith", "(III)I"⟩, 8), (⟨"TradeTests$Plan", "leastGarage", "(II)I"⟩, 8), (⟨"TradeTestsModel", "finds", "(I)I"⟩, 50), (⟨"TradeTestsModel", "isVehicle", "(I)Z"⟩, 50)]
theorem lw_r2 : ∀ q ∈ lw_privs_2, lw_okq q := List.forall_mem_cons.mpr ⟨lw_p16, List.forall_mem_cons.mpr ⟨lw_p17, List.forall_mem_cons.mpr ⟨lw_p18, List.forall_mem_cons.mpr ⟨lw_p19, List.forall_mem_cons.mpr ⟨lw_p20, List.forall_mem_cons.mpr ⟨lw_p21, List.forall_mem_cons.mpr ⟨lw_p22, List.forall_mem_cons.mpr ⟨lw_p23, List.forall_mem_cons.mpr ⟨lw_p24, List.forall_mem_cons.mpr ⟨lw_p25, List.forall_mem_cons.mpr ⟨lw_p26, List.forall_mem_cons.mpr ⟨lw_p27, List.forall_mem_cons.mpr ⟨lw_p28, List.forall_mem_cons.mpr ⟨lw_p29, List.forall_mem_cons.mpr ⟨lw_p30, List.forall_mem_cons.mpr ⟨lw_p31, fun _ h => absurd h List.not_mem_nil⟩⟩⟩⟩⟩⟩⟩⟩⟩⟩⟩⟩⟩⟩⟩⟩
theorem lw_p32 : lw_okq (⟨"TradeTestsModel", "dueOf", "(I)I"⟩, 50) := ⟨⟨by decide +kernel, by decide +kernel⟩, List.mem_of_getElem? (i := 940) (by decide +kernel), List.mem_of_getElem? (i := 1124) (by decide +kernel), List.mem_of_getElem? (i := 1125) (by decide +kernel)⟩
theorem lw_p33 : lw_okq (⟨"TradeTestsModel", "isGarage", "(I)Z"⟩, 50) := ⟨⟨by decide +kernel, by decide +kernel⟩, List.mem_of_getElem? (i := 940) (by decide +kernel), List.mem_of_getElem? (i := 1136) (by decide +kernel), List.mem_of_getElem? (i := 1137) (by decide +kernel)⟩
theorem lw_p34 : lw_okq (⟨"TradeTestsModel", "isTester", "(I)Z"⟩, 50) := ⟨⟨by decide +kernel, by decide +kernel⟩, List.mem_of_getElem? (i := 940) (by decide +kernel), List.mem_of_getElem? (i := 1144) (by decide +kernel), List.mem_of_getElem? (i := 1145) (by decide +kernel)⟩
theorem lw_p35 : lw_okq (⟨"TradeTestsModel", "placeOf", "(II)I"⟩, 50) := ⟨⟨by decide +kernel, by decide +kernel⟩, List.mem_of_getElem? (i := 940) (by decide +kernel), List.mem_of_getElem? (i := 1148) (by decide +kernel), List.mem_of_getElem? (i := 1149) (by decide +kernel)⟩
theorem lw_p36 : lw_okq (⟨"TradeTestsModel", "isTold", "(IIIII)Z"⟩, 50) := ⟨⟨by decide +kernel, by decide +kernel⟩, List.mem_of_getElem? (i := 940) (by decide +kernel), List.mem_of_getElem? (i := 1160) (by decide +kernel), List.mem_of_getElem? (i := 1161) (by decide +kernel)⟩
theorem lw_p37 : lw_okq (⟨"TradeTestsModel", "isTest", "(I)Z"⟩, 50) := ⟨⟨by decide +kernel, by decide +kernel⟩, List.mem_of_getElem? (i := 940) (by decide +kernel), List.mem_of_getElem? (i := 1170) (by decide +kernel), List.mem_of_getElem? (i := 1171) (by decide +kernel)⟩
theorem lw_p38 : lw_okq (⟨"TradeTestsModel", "garageOf", "(I)I"⟩, 50) := ⟨⟨by decide +kernel, by decide +kernel⟩, List.mem_of_getElem? (i := 940) (by decide +kernel), List.mem_of_getElem? (i := 1174) (by decide +kernel), List.mem_of_getElem? (i := 1175) (by decide +kernel)⟩
theorem lw_p39 : lw_okq (⟨"TradeTestsModel", "reads", "()Z"⟩, 50) := ⟨⟨by decide +kernel, by decide +kernel⟩, List.mem_of_getElem? (i := 940) (by decide +kernel), List.mem_of_getElem? (i := 1186) (by decide +kernel), List.mem_of_getElem? (i := 1187) (by decide +kernel)⟩
theorem lw_p40 : lw_okq (⟨"TradeTestsModel", "here", "()I"⟩, 50) := ⟨⟨by decide +kernel, by decide +kernel⟩, List.mem_of_getElem? (i := 940) (by decide +kernel), List.mem_of_getElem? (i := 1190) (by decide +kernel), List.mem_of_getElem? (i := 1191) (by decide +kernel)⟩
theorem lw_p41 : lw_okq (⟨"TradeTestsModel", "readsFault", "(I)Z"⟩, 50) := ⟨⟨by decide +kernel, by decide +kernel⟩, List.mem_of_getElem? (i := 940) (by decide +kernel), List.mem_of_getElem? (i := 1194) (by decide +kernel), List.mem_of_getElem? (i := 1195) (by decide +kernel)⟩
theorem lw_p42 : lw_okq (⟨"TradeTestsModel", "readsNumber", "(I)I"⟩, 50) := ⟨⟨by decide +kernel, by decide +kernel⟩, List.mem_of_getElem? (i := 940) (by decide +kernel), List.mem_of_getElem? (i := 1198) (by decide +kernel), List.mem_of_getElem? (i := 1199) (by decide +kernel)⟩
theorem lw_p43 : lw_okq (⟨"TradeTestsModel", "textOn", "(I)I"⟩, 50) := ⟨⟨by decide +kernel, by decide +kernel⟩, List.mem_of_getElem? (i := 940) (by decide +kernel), List.mem_of_getElem? (i := 1209) (by decide +kernel), List.mem_of_getElem? (i := 1210) (by decide +kernel)⟩
theorem lw_p44 : lw_okq (⟨"TradeTestsModel", "isPass", "(I)Z"⟩, 50) := ⟨⟨by decide +kernel, by decide +kernel⟩, List.mem_of_getElem? (i := 940) (by decide +kernel), List.mem_of_getElem? (i := 1217) (by decide +kernel), List.mem_of_getElem? (i := 1218) (by decide +kernel)⟩
theorem lw_p45 : lw_okq (⟨"TradeTestsModel", "unlikeOf", "(I)I"⟩, 50) := ⟨⟨by decide +kernel, by decide +kernel⟩, List.mem_of_getElem? (i := 940) (by decide +kernel), List.mem_of_getElem? (i := 1225) (by decide +kernel), List.mem_of_getElem? (i := 1226) (by decide +kernel)⟩
theorem lw_p46 : lw_okq (⟨"TradeTestsModel", "shareOf", "(I)I"⟩, 50) := ⟨⟨by decide +kernel, by decide +kernel⟩, List.mem_of_getElem? (i := 940) (by decide +kernel), List.mem_of_getElem? (i := 1233) (by decide +kernel), List.mem_of_getElem? (i := 1234) (by decide +kernel)⟩
theorem lw_p47 : lw_okq (⟨"TradeTestsModel", "cellOf", "(I)I"⟩, 50) := ⟨⟨by decide +kernel, by decide +kernel⟩, List.mem_of_getElem? (i := 940) (by decide +kernel), List.mem_of_getElem? (i := 1237) (by decide +kernel), List.mem_of_getElem? (i := 1238) (by decide +kernel)⟩
def lw_privs_3 : List (MethodName × Nat) := [(⟨"TradeTestsModel", "dueOf", "(I)I"⟩, 50), (⟨"TradeTestsModel", "isGarage", "(I)Z"⟩, 50), (⟨"TradeTestsModel", "isTester", "(I)Z"⟩, 50), (⟨"TradeTestsModel", "placeOf", "(II)I"⟩, 50), (⟨"TradeTestsModel", "isTold", "(IIIII)Z"⟩, 50), (⟨"TradeTestsModel", "isTest", "(I)Z"⟩, 50), (⟨"TradeTestsModel", "garageOf", "(I)I"⟩, 50), (⟨"TradeTestsModel", "reads", "()Z"⟩, 50), (⟨"TradeTestsModel", "here", "()I"⟩, 50), (⟨"TradeTestsModel", "readsFault", "(I)Z"⟩, 50), (⟨"TradeTestsModel", "readsNumber", "(I)I"⟩, 50), (⟨"TradeTestsModel", "textOn", "(I)I"⟩, 50), (⟨"TradeTestsModel", "isPass", "(I)Z"⟩, 50), (⟨"TradeTestsModel", "unlikeOf", "(I)I"⟩, 50), (⟨"TradeTestsModel", "shareOf", "(I)I"⟩, 50), (⟨"TradeTestsModel", "cellOf", "(I)I"⟩, 50)]
theorem lw_r3 : ∀ q ∈ lw_privs_3, lw_okq q := List.forall_mem_cons.mpr ⟨lw_p32, List.forall_mem_cons.mpr ⟨lw_p33, List.forall_mem_cons.mpr ⟨lw_p34, List.forall_mem_cons.mpr ⟨lw_p35, List.forall_mem_cons.mpr ⟨lw_p36, List.forall_mem_cons.mpr ⟨lw_p37, List.forall_mem_cons.mpr ⟨lw_p38, List.forall_mem_cons.mpr ⟨lw_p39, List.forall_mem_cons.mpr ⟨lw_p40, List.forall_mem_cons.mpr ⟨lw_p41, List.forall_mem_cons.mpr ⟨lw_p42, List.forall_mem_cons.mpr ⟨lw_p43, List.forall_mem_cons.mpr ⟨lw_p44, List.forall_mem_cons.mpr ⟨lw_p45, List.forall_mem_cons.mpr ⟨lw_p46, List.forall_mem_cons.mpr ⟨lw_p47, fun _ h => absurd h List.not_mem_nil⟩⟩⟩⟩⟩⟩⟩⟩⟩⟩⟩⟩⟩⟩⟩⟩
theorem lw_p48 : lw_okq (⟨"TradeTestsModel", "looked", "()I"⟩, 50) := ⟨⟨by decide +kernel, by decide +kernel⟩, List.mem_of_getElem? (i := 940) (by decide +kernel), List.mem_of_getElem? (i := 1246) (by decide +kernel), List.mem_of_getElem? (i := 1247) (by decide +kernel)⟩
theorem lw_p49 : lw_okq (⟨"TradeTestsModel", "riskOf", "(I)I"⟩, 50) := ⟨⟨by decide +kernel, by decide +kernel⟩, List.mem_of_getElem? (i := 940) (by decide +kernel), List.mem_of_getElem? (i := 1253) (by decide +kernel), List.mem_of_getElem? (i := 1254) (by decide +kernel)⟩
theorem lw_p50 : lw_okq (⟨"TradeTestsModel", "signsOf", "(I)I"⟩, 50) := ⟨⟨by decide +kernel, by decide +kernel⟩, List.mem_of_getElem? (i := 940) (by decide +kernel), List.mem_of_getElem? (i := 1257) (by decide +kernel), List.mem_of_getElem? (i := 1258) (by decide +kernel)⟩
theorem lw_p51 : lw_okq (⟨"TradeTestsModel", "alikeOf", "(I)I"⟩, 50) := ⟨⟨by decide +kernel, by decide +kernel⟩, List.mem_of_getElem? (i := 940) (by decide +kernel), List.mem_of_getElem? (i := 1261) (by decide +kernel), List.mem_of_getElem? (i := 1262) (by decide +kernel)⟩
theorem lw_p52 : lw_okq (⟨"TradeTestsModel", "isQuick", "(I)Z"⟩, 50) := ⟨⟨by decide +kernel, by decide +kernel⟩, List.mem_of_getElem? (i := 940) (by decide +kernel), List.mem_of_getElem? (i := 1268) (by decide +kernel), List.mem_of_getElem? (i := 1269) (by decide +kernel)⟩
theorem lw_p53 : lw_okq (⟨"TradeTestsModel", "overlaps", "(I)Z"⟩, 50) := ⟨⟨by decide +kernel, by decide +kernel⟩, List.mem_of_getElem? (i := 940) (by decide +kernel), List.mem_of_getElem? (i := 1272) (by decide +kernel), List.mem_of_getElem? (i := 1273) (by decide +kernel)⟩
theorem lw_p54 : lw_okq (⟨"TradeTestsModel", "isShut", "(I)Z"⟩, 50) := ⟨⟨by decide +kernel, by decide +kernel⟩, List.mem_of_getElem? (i := 940) (by decide +kernel), List.mem_of_getElem? (i := 1276) (by decide +kernel), List.mem_of_getElem? (i := 1277) (by decide +kernel)⟩
theorem lw_p55 : lw_okq (⟨"TradeTestsModel", "pointsOf", "(I)I"⟩, 50) := ⟨⟨by decide +kernel, by decide +kernel⟩, List.mem_of_getElem? (i := 940) (by decide +kernel), List.mem_of_getElem? (i := 1307) (by decide +kernel), List.mem_of_getElem? (i := 1308) (by decide +kernel)⟩
theorem lw_p56 : lw_okq (⟨"TradeTestsModel", "missed", "(I)I"⟩, 50) := ⟨⟨by decide +kernel, by decide +kernel⟩, List.mem_of_getElem? (i := 940) (by decide +kernel), List.mem_of_getElem? (i := 1311) (by decide +kernel), List.mem_of_getElem? (i := 1312) (by decide +kernel)⟩
theorem lw_p57 : lw_okq (⟨"TradeTestsModel", "findPoints", "()V"⟩, 50) := ⟨⟨by decide +kernel, by decide +kernel⟩, List.mem_of_getElem? (i := 940) (by decide +kernel), List.mem_of_getElem? (i := 1319) (by decide +kernel), List.mem_of_getElem? (i := 1320) (by decide +kernel)⟩
theorem lw_p58 : lw_okq (⟨"TradeTestsModel", "sumOf", "(II)I"⟩, 50) := ⟨⟨by decide +kernel, by decide +kernel⟩, List.mem_of_getElem? (i := 940) (by decide +kernel), List.mem_of_getElem? (i := 1323) (by decide +kernel), List.mem_of_getElem? (i := 1324) (by decide +kernel)⟩
theorem lw_p59 : lw_okq (⟨"TradeTestsModel", "worthOf", "(II)I"⟩, 50) := ⟨⟨by decide +kernel, by decide +kernel⟩, List.mem_of_getElem? (i := 940) (by decide +kernel), List.mem_of_getElem? (i := 1343) (by decide +kernel), List.mem_of_getElem? (i := 1344) (by decide +kernel)⟩
theorem lw_p60 : lw_okq (⟨"TradeTestsModel", "findPlan", "()I"⟩, 50) := ⟨⟨by decide +kernel, by decide +kernel⟩, List.mem_of_getElem? (i := 940) (by decide +kernel), List.mem_of_getElem? (i := 1351) (by decide +kernel), List.mem_of_getElem? (i := 1352) (by decide +kernel)⟩
theorem lw_p61 : lw_okq (⟨"TradeTestsModel", "leansOn", "(II)I"⟩, 50) := ⟨⟨by decide +kernel, by decide +kernel⟩, List.mem_of_getElem? (i := 940) (by decide +kernel), List.mem_of_getElem? (i := 1367) (by decide +kernel), List.mem_of_getElem? (i := 1368) (by decide +kernel)⟩
def lw_privs_4 : List (MethodName × Nat) := [(⟨"TradeTestsModel", "looked", "()I"⟩, 50), (⟨"TradeTestsModel", "riskOf", "(I)I"⟩, 50), (⟨"TradeTestsModel", "signsOf", "(I)I"⟩, 50), (⟨"TradeTestsModel", "alikeOf", "(I)I"⟩, 50), (⟨"TradeTestsModel", "isQuick", "(I)Z"⟩, 50), (⟨"TradeTestsModel", "overlaps", "(I)Z"⟩, 50), (⟨"TradeTestsModel", "isShut", "(I)Z"⟩, 50), (⟨"TradeTestsModel", "pointsOf", "(I)I"⟩, 50), (⟨"TradeTestsModel", "missed", "(I)I"⟩, 50), (⟨"TradeTestsModel", "findPoints", "()V"⟩, 50), (⟨"TradeTestsModel", "sumOf", "(II)I"⟩, 50), (⟨"TradeTestsModel", "worthOf", "(II)I"⟩, 50), (⟨"TradeTestsModel", "findPlan", "()I"⟩, 50), (⟨"TradeTestsModel", "leansOn", "(II)I"⟩, 50)]
theorem lw_r4 : ∀ q ∈ lw_privs_4, lw_okq q := List.forall_mem_cons.mpr ⟨lw_p48, List.forall_mem_cons.mpr ⟨lw_p49, List.forall_mem_cons.mpr ⟨lw_p50, List.forall_mem_cons.mpr ⟨lw_p51, List.forall_mem_cons.mpr ⟨lw_p52, List.forall_mem_cons.mpr ⟨lw_p53, List.forall_mem_cons.mpr ⟨lw_p54, List.forall_mem_cons.mpr ⟨lw_p55, List.forall_mem_cons.mpr ⟨lw_p56, List.forall_mem_cons.mpr ⟨lw_p57, List.forall_mem_cons.mpr ⟨lw_p58, List.forall_mem_cons.mpr ⟨lw_p59, List.forall_mem_cons.mpr ⟨lw_p60, List.forall_mem_cons.mpr ⟨lw_p61, fun _ h => absurd h List.not_mem_nil⟩⟩⟩⟩⟩⟩⟩⟩⟩⟩⟩⟩⟩⟩
def lw_privs : List (MethodName × Nat) := lw_privs_1 ++ (lw_privs_2 ++ (lw_privs_3 ++ (lw_privs_4)))
def lw_tbl : List Cond := k2_sels lw_privs ++ tables_1
theorem lw_privs_ok : ∀ q ∈ lw_privs, lw_okq q := by
  show ∀ q ∈ lw_privs_1 ++ (lw_privs_2 ++ (lw_privs_3 ++ (lw_privs_4))), lw_okq q
  exact List.forall_mem_append.mpr ⟨lw_r1, List.forall_mem_append.mpr ⟨lw_r2, List.forall_mem_append.mpr ⟨lw_r3, lw_r4⟩⟩⟩
end
section
/-! the program as tables: classes, fields, cells, links, methods (written by wip/whole/gen/tables.py out of the statement) -/
def cn (k : Nat) : String := (["TradeTests", "TradeTests$Vehicles", "TradeTests$Trade", "TradeTests$Tests", "TradeTests$Texts", "TradeTests$Judge", "TradeTests$Signals", "TradeTests$Rates", "TradeTests$Odometer", "TradeTests$Secrets", "TradeTests$Penalties", "TradeTests$Plan", "TradeTestsModel", "TradeTestsLaw", "java/lang/Integer", "java/lang/Math"] : List String).getD k ""
def fl_0 : List (String × String × Bool) := [("vehicles", "LTradeTests$Vehicles;", true), ("trade", "LTradeTests$Trade;", true), ("tests", "LTradeTests$Tests;", true), ("texts", "LTradeTests$Texts;", true), ("judge", "LTradeTests$Judge;", true), ("signals", "LTradeTests$Signals;", true), ("rates", "LTradeTests$Rates;", true), ("odometer", "LTradeTests$Odometer;", true), ("secrets", "LTradeTests$Secrets;", true), ("penalties", "LTradeTests$Penalties;", true), ("plan", "LTradeTests$Plan;", true), ("told", "[I", true), ("toldCount", "I", false), ("findings", "[I", true)]
def fl_1 : List (String × String × Bool) := [("kind", "[I", true), ("make", "[I", true), ("built", "[I", true), ("count", "I", false)]
def fl_2 : List (String × String × Bool) := [("opens", "[I", true), ("shuts", "[I", true), ("garages", "I", false), ("firstGarage", "[I", true), ("testers", "I", false), ("mover", "[I", true), ("target", "[I", true), ("since", "[I", true), ("moves", "I", false)]
def fl_3 : List (String × String × Bool) := [("vehicle", "[I", true), ("tester", "[I", true), ("day", "[I", true), ("minute", "[I", true), ("minutes", "[I", true), ("miles", "[I", true), ("left", "[I", true), ("right", "[I", true), ("faults", "[I", true), ("passed", "[I", true), ("appealed", "[I", true), ("visitor", "[I", true), ("chance", "[I", true), ("wrong", "[I", true), ("count", "I", false), ("drawn", "I", false)]
def fl_4 : List (String × String × Bool) := [("tape", "[I", true), ("bytes", "I", false), ("place", "I", false), ("since", "[I", true), ("leastBrake", "[I", true), ("brakeGap", "[I", true), ("fails", "[I", true), ("count", "I", false)]
def fl_5 : List (String × String × Bool) := [("vehicles", "LTradeTests$Vehicles;", true), ("tests", "LTradeTests$Tests;", true), ("texts", "LTradeTests$Texts;", true)]
def fl_6 : List (String × String × Bool) := [("vehicles", "LTradeTests$Vehicles;", true), ("trade", "LTradeTests$Trade;", true), ("tests", "LTradeTests$Tests;", true), ("judge", "LTradeTests$Judge;", true)]
def fl_7 : List (String × String × Bool) := [("vehicles", "LTradeTests$Vehicles;", true), ("trade", "LTradeTests$Trade;", true), ("tests", "LTradeTests$Tests;", true), ("cellTests", "[I", true), ("cellPassed", "[I", true), ("tested", "I", false), ("passed", "I", false), ("expected", "I", false), ("spread", "I", false)]
def fl_8 : List (String × String × Bool) := [("tests", "LTradeTests$Tests;", true)]
def fl_9 : List (String × String × Bool) := [("tests", "LTradeTests$Tests;", true), ("texts", "LTradeTests$Texts;", true), ("known", "[I", true), ("count", "I", false), ("visits", "I", false)]
def fl_10 : List (String × String × Bool) := [("tests", "LTradeTests$Tests;", true), ("judge", "LTradeTests$Judge;", true), ("signals", "LTradeTests$Signals;", true), ("secrets", "LTradeTests$Secrets;", true), ("rules", "[I", true), ("pointsRow", "[I", true)]
def fl_11 : List (String × String × Bool) := [("trade", "LTradeTests$Trade;", true), ("tests", "LTradeTests$Tests;", true), ("signals", "LTradeTests$Signals;", true), ("secrets", "LTradeTests$Secrets;", true), ("worths", "[I", true), ("best", "[I", true), ("risk", "I", false), ("seen", "I", false)]
def fl_12 : List (String × String × Bool) := [("vehicles", "I", false), ("garages", "I", false), ("testers", "I", false), ("moves", "I", false), ("tests", "I", false), ("texts", "I", false), ("secrets", "I", false), ("visits", "I", false), ("drawn", "I", false), ("taped", "I", false), ("waiting", "I", false), ("lapse", "I", false), ("ban", "I", false), ("limit", "I", false), ("kind", "[I", true), ("make", "[I", true), ("built", "[I", true), ("opens", "[I", true), ("shuts", "[I", true), ("home", "[I", true), ("moveOf", "[I", true), ("moveTo", "[I", true), ("moveDay", "[I", true), ("vehicleOf", "[I", true), ("testerOf", "[I", true), ("dayOf", "[I", true), ("minute", "[I", true), ("minutes", "[I", true), ("miles", "[I", true), ("left", "[I", true), ("right", "[I", true), ("faults", "[I", true), ("visitBy", "[I", true), ("chance", "[I", true), ("passed", "[Z", true), ("appealed", "[Z", true), ("wrong", "[Z", true), ("textDay", "[I", true), ("textLeast", "[I", true), ("textHundredths", "[I", true), ("textFails", "[I", true), ("secretFaults", "[I", true), ("tape", "[I", true), ("waits", "[I", true), ("counted", "[I", true), ("place", "I", false), ("worths", "[I", true), ("most", "[I", true), ("brings", "[I", true), ("goesTo", "[I", true)]
def flL : List (List (String × String × Bool)) := [fl_0, fl_1, fl_2, fl_3, fl_4, fl_5, fl_6, fl_7, fl_8, fl_9, fl_10, fl_11, fl_12]
def FT (c : Nat) : u_T := fun k => (cn c, (flL.getD c []).getD k ("", "", false))
def NF (c : Nat) : Nat := (flL.getD c []).length
def cls : List vw_C := (List.range 13).map (fun c => (cn c, FT c, NF c))
def fpl : List (List Nat) := [[455, 457, 459, 461, 463, 465, 467, 469, 471, 473, 475, 477, 479, 481], [102, 104, 106, 108], [133, 135, 137, 139, 141, 143, 145, 147, 149], [210, 212, 214, 216, 218, 220, 222, 224, 226, 228, 230, 232, 234, 236, 238, 240], [263, 265, 267, 269, 271, 273, 275, 277], [289, 291, 293], [306, 308, 310, 312], [330, 332, 334, 336, 338, 340, 342, 344, 346], [356], [374, 376, 378, 380, 382], [397, 399, 401, 403, 405, 407], [424, 426, 428, 430, 432, 434, 436, 438], [1057, 1059, 1061, 1063, 1065, 1067, 1069, 1071, 1073, 1075, 1077, 1079, 1081, 1083, 1085, 1087, 1089, 1091, 1093, 1095, 1097, 1099, 1101, 1103, 1105, 1107, 1109, 1111, 1113, 1115, 1117, 1119, 1121, 1123, 1125, 1127, 1129, 1131, 1133, 1135, 1137, 1139, 1141, 1143, 1145, 1147, 1149, 1151, 1153, 1155]]
set_option maxRecDepth 100000 in
theorem fpl_ok : ((List.range 13).all fun c => (List.range (NF c)).all fun k => decide (lw_tbl[((fpl.getD c []).getD k 0)]? = some (u_lay (cn c) (FT c) k))) = true := by decide +kernel
def fty (c k : Nat) : FieldType := match (parseFieldDescriptor (FT c k).2.2.1) with | some t => t | none => .int
set_option maxRecDepth 100000 in
theorem fty_ok : ((List.range 13).all fun c => (List.range (NF c)).all fun k => decide (parseFieldDescriptor (FT c k).2.2.1 = some (fty c k))) = true := by decide +kernel
set_option maxRecDepth 100000 in
theorem fnm_ok : ((List.range 13).all fun c => (List.range (NF c)).all fun a => (List.range (NF c)).all fun b => decide (a = b ∨ (FT c a).2.1 ≠ (FT c b).2.1)) = true := by decide +kernel
/-- a cell: 0 an object (its class; its fields: some k a fixed reference to the cell k, none a number), 1 ints, 2 booleans (length) -/
abbrev Ly : Type := Nat × Nat × List (Option Nat)
def lay : List Ly := [(0, 0, [some 1, some 2, some 3, some 4, some 5, some 6, some 7, some 8, some 9, some 10, some 11, some 13, none, some 14]), (0, 1, [some 15, some 16, some 17, none]), (0, 2, [some 18, some 19, none, some 20, none, some 21, some 22, some 23, none]), (0, 3, [some 24, some 25, some 26, some 27, some 28, some 29, some 30, some 31, some 32, some 33, some 34, some 35, some 36, some 37, none, none]), (0, 4, [some 38, none, none, some 39, some 40, some 41, some 42, none]), (0, 5, [some 1, some 3, some 4]), (0, 6, [some 1, some 2, some 3, some 5]), (0, 7, [some 1, some 2, some 3, some 43, some 44, none, none, none, none]), (0, 8, [some 3]), (0, 9, [some 3, some 4, some 45, none, none]), (0, 10, [some 3, some 5, some 6, some 9, some 46, some 47]), (0, 11, [some 2, some 3, some 6, some 9, some 48, some 49, none, none]), (0, 12, [none, none, none, none, none, none, none, none, none, none, none, none, none, none, some 50, some 51, some 52, some 53, some 54, some 55, some 56, some 57, some 58, some 59, some 60, some 61, some 62, some 63, some 64, some 65, some 66, some 67, some 68, some 69, some 70, some 71, some 72, some 73, some 74, some 75, some 76, some 77, some 78, some 79, some 80, none, some 81, some 82, some 83, some 84]), (1, 8, []), (1, 6, []), (1, 24, []), (1, 24, []), (1, 24, []), (1, 6, []), (1, 6, []), (1, 8, []), (1, 30, []), (1, 30, []), (1, 30, []), (1, 80, []), (1, 80, []), (1, 80, []), (1, 80, []), (1, 80, []), (1, 80, []), (1, 80, []), (1, 80, []), (1, 80, []), (1, 80, []), (1, 80, []), (1, 80, []), (1, 80, []), (1, 80, []), (1, 60, []), (1, 6, []), (1, 6, []), (1, 6, []), (1, 24, []), (1, 16, []), (1, 16, []), (1, 6, []), (1, 3, []), (1, 80, []), (1, 36, []), (1, 448, []), (1, 24, []), (1, 24, []), (1, 24, []), (1, 6, []), (1, 6, []), (1, 8, []), (1, 30, []), (1, 30, []), (1, 30, []), (1, 80, []), (1, 80, []), (1, 80, []), (1, 80, []), (1, 80, []), (1, 80, []), (1, 80, []), (1, 80, []), (1, 80, []), (1, 80, []), (1, 80, []), (2, 80, []), (2, 80, []), (2, 80, []), (1, 7, []), (1, 7, []), (1, 7, []), (1, 28, []), (1, 6, []), (1, 60, []), (1, 8, []), (1, 6, []), (1, 80, []), (1, 448, []), (1, 36, []), (1, 6, [])]
/-- field links: class, entry, class of the field, its number, the place of the word -/
def flt : List (Nat × Nat × Nat × Nat × Nat) := [(1, 9, 1, 0, 92), (5, 35, 1, 0, 93), (0, 126, 1, 0, 94), (6, 86, 1, 0, 95), (1, 15, 1, 1, 96), (7, 83, 1, 1, 97), (1, 18, 1, 2, 98), (0, 307, 1, 2, 99), (1, 21, 1, 3, 100), (0, 119, 1, 3, 101), (2, 9, 2, 0, 118), (6, 103, 2, 0, 119), (2, 15, 2, 1, 120), (6, 106, 2, 1, 121), (2, 30, 2, 2, 122), (0, 135, 2, 2, 123), (11, 78, 2, 2, 124), (2, 18, 2, 3, 125), (2, 34, 2, 4, 126), (0, 142, 2, 4, 127), (2, 21, 2, 5, 128), (2, 24, 2, 6, 129), (2, 27, 2, 7, 130), (2, 37, 2, 8, 131), (0, 151, 2, 8, 132), (3, 9, 3, 0, 158), (5, 40, 3, 0, 159), (8, 32, 3, 0, 160), (6, 61, 3, 0, 161), (7, 71, 3, 0, 162), (0, 229, 3, 0, 163), (3, 15, 3, 1, 164), (6, 53, 3, 1, 165), (2, 40, 3, 1, 166), (10, 88, 3, 1, 167), (3, 18, 3, 2, 168), (5, 23, 3, 2, 169), (7, 74, 3, 2, 170), (6, 64, 3, 2, 171), (9, 39, 3, 2, 172), (10, 85, 3, 2, 173), (2, 45, 3, 2, 174), (3, 21, 3, 3, 175), (6, 94, 3, 3, 176), (3, 24, 3, 4, 177), (6, 78, 3, 4, 178), (3, 27, 3, 5, 179), (8, 15, 3, 5, 180), (3, 30, 3, 6, 181), (5, 50, 3, 6, 182), (6, 72, 3, 6, 183), (3, 33, 3, 7, 184), (5, 53, 3, 7, 185), (6, 75, 3, 7, 186), (3, 36, 3, 8, 187), (5, 47, 3, 8, 188), (9, 51, 3, 8, 189), (3, 39, 3, 9, 190), (5, 66, 3, 9, 191), (7, 69, 3, 9, 192), (3, 42, 3, 10, 193), (10, 52, 3, 10, 194), (0, 241, 3, 10, 195), (3, 45, 3, 11, 196), (9, 27, 3, 11, 197), (3, 48, 3, 12, 198), (3, 51, 3, 13, 199), (3, 54, 3, 14, 200), (6, 44, 3, 14, 201), (8, 35, 3, 14, 202), (11, 49, 3, 14, 203), (7, 61, 3, 14, 204), (5, 73, 3, 14, 205), (10, 81, 3, 14, 206), (0, 175, 3, 14, 207), (3, 58, 3, 15, 208), (0, 297, 3, 15, 209), (4, 9, 4, 0, 249), (4, 27, 4, 1, 250), (0, 186, 4, 1, 251), (4, 38, 4, 2, 252), (4, 15, 4, 3, 253), (4, 18, 4, 4, 254), (5, 60, 4, 4, 255), (0, 202, 4, 4, 256), (4, 21, 4, 5, 257), (5, 63, 4, 5, 258), (0, 205, 4, 5, 259), (4, 24, 4, 6, 260), (4, 41, 4, 7, 261), (0, 192, 4, 7, 262), (5, 9, 5, 0, 286), (5, 15, 5, 1, 287), (5, 19, 5, 2, 288), (6, 7, 6, 0, 302), (6, 13, 6, 1, 303), (6, 17, 6, 2, 304), (6, 21, 6, 3, 305), (7, 18, 7, 0, 321), (7, 22, 7, 1, 322), (7, 26, 7, 2, 323), (7, 9, 7, 3, 324), (7, 15, 7, 4, 325), (7, 41, 7, 5, 326), (7, 45, 7, 6, 327), (7, 48, 7, 7, 328), (7, 51, 7, 8, 329), (8, 9, 8, 0, 355), (9, 15, 9, 0, 365), (9, 19, 9, 1, 366), (9, 9, 9, 2, 367), (11, 75, 9, 2, 368), (9, 23, 9, 3, 369), (11, 81, 9, 3, 370), (0, 253, 9, 3, 371), (9, 32, 9, 4, 372), (0, 294, 9, 4, 373), (10, 18, 10, 0, 391), (10, 22, 10, 1, 392), (10, 26, 10, 2, 393), (10, 30, 10, 3, 394), (10, 9, 10, 4, 395), (10, 15, 10, 5, 396), (11, 18, 11, 0, 416), (11, 22, 11, 1, 417), (11, 26, 11, 2, 418), (11, 30, 11, 3, 419), (11, 9, 11, 4, 420), (11, 15, 11, 5, 421), (11, 38, 11, 6, 422), (11, 46, 11, 7, 423), (0, 10, 0, 0, 441), (0, 19, 0, 1, 442), (0, 26, 0, 2, 443), (0, 33, 0, 3, 444), (0, 42, 0, 4, 445), (0, 51, 0, 5, 446), (0, 60, 0, 6, 447), (0, 69, 0, 7, 448), (0, 78, 0, 8, 449), (0, 87, 0, 9, 450), (0, 96, 0, 10, 451), (0, 100, 0, 11, 452), (0, 104, 0, 12, 453), (0, 108, 0, 13, 454), (12, 131, 12, 0, 1007), (12, 134, 12, 1, 1008), (12, 137, 12, 2, 1009), (12, 164, 12, 3, 1010), (12, 140, 12, 4, 1011), (12, 199, 12, 5, 1012), (12, 271, 12, 6, 1013), (12, 274, 12, 7, 1014), (12, 283, 12, 8, 1015), (12, 186, 12, 9, 1016), (12, 289, 12, 10, 1017), (12, 7, 12, 11, 1018), (12, 13, 12, 12, 1019), (12, 16, 12, 13, 1020), (12, 19, 12, 14, 1021), (12, 23, 12, 15, 1022), (12, 26, 12, 16, 1023), (12, 29, 12, 17, 1024), (12, 32, 12, 18, 1025), (12, 35, 12, 19, 1026), (12, 38, 12, 20, 1027), (12, 41, 12, 21, 1028), (12, 44, 12, 22, 1029), (12, 47, 12, 23, 1030), (12, 50, 12, 24, 1031), (12, 53, 12, 25, 1032), (12, 56, 12, 26, 1033), (12, 59, 12, 27, 1034), (12, 62, 12, 28, 1035), (12, 65, 12, 29, 1036), (12, 68, 12, 30, 1037), (12, 71, 12, 31, 1038), (12, 74, 12, 32, 1039), (12, 77, 12, 33, 1040), (12, 80, 12, 34, 1041), (12, 84, 12, 35, 1042), (12, 87, 12, 36, 1043), (12, 90, 12, 37, 1044), (12, 93, 12, 38, 1045), (12, 96, 12, 39, 1046), (12, 99, 12, 40, 1047), (12, 102, 12, 41, 1048), (12, 105, 12, 42, 1049), (12, 108, 12, 43, 1050), (12, 111, 12, 44, 1051), (12, 189, 12, 45, 1052), (12, 114, 12, 46, 1053), (12, 117, 12, 47, 1054), (12, 120, 12, 48, 1055), (12, 123, 12, 49, 1056)]
set_option maxRecDepth 100000 in
theorem flt_ok : (flt.all fun q => decide (lw_tbl[q.2.2.2.2]? = some (.fieldLink (cn q.1) q.2.1 (cn q.2.2.1) (FT q.2.2.1 q.2.2.2.1).2.1 (FT q.2.2.1 q.2.2.2.1).2.2.1)) && (decide (q.2.2.1 < 13) && decide (q.2.2.2.1 < NF q.2.2.1))) = true := by decide +kernel
def sC (j : Nat) : String := (["TradeTests", "TradeTests", "TradeTests$Penalties"] : List String).getD j ""
def sM (j : Nat) : String := (["DUE_DAYS", "FAIR_MINUTES", "MOST_OF_RULE"] : List String).getD j ""
def sV (j : Nat) : List Int32 := ([[365, 365, 182, 730], [20, 20, 30, 10], [3650, 1000, 200]] : List (List Int32)).getD j []
def kct : List (Nat × Nat × Int32 × Nat) := [(0, 303, -1000000, 495), (0, 174, 1000000, 572), (14, 265, 1431655765, 730), (14, 266, 858993459, 731), (14, 267, 252645135, 732), (8, 39, 999999, 813), (8, 40, 1000000, 817), (12, 126, -1000000, 1173), (12, 174, 999999, 1225), (12, 175, 1000000, 1226)]
set_option maxRecDepth 100000 in
theorem kct_ok : (kct.all fun q => decide (lw_tbl[q.2.2.2]? = some (.constant (cn q.1) q.2.1 q.2.2.1))) = true := by decide +kernel
/-- methods: class, name, descriptor, locals, answer (0 none, 1 int, 2 boolean), static (1), arguments with the object, places of the words code, instanceMethod or static, selects -/
abbrev Mt : Type := Nat × String × String × Nat × Nat × Nat × Nat × Nat × Nat × Nat
def mtL_0 : List Mt := [(0, "vehicle", "(III)I", 4, 1, 0, 4, 487, 485, 486), (0, "isBelow", "(II)Z", 2, 2, 1, 2, 490, 489, 0), (0, "finding", "(I)I", 2, 1, 0, 2, 494, 493, 0), (1, "add", "(III)I", 4, 1, 0, 4, 499, 497, 498), (0, "as", "(II)I", 3, 1, 0, 3, 503, 501, 502), (0, "isUnder", "(II)Z", 2, 2, 1, 2, 506, 505, 0), (1, "dueDays", "(I)I", 2, 1, 0, 2, 510, 508, 509), (0, "garage", "(II)I", 3, 1, 0, 3, 516, 514, 515), (2, "addGarage", "(II)I", 3, 1, 0, 3, 520, 518, 519), (0, "tester", "(I)I", 2, 1, 0, 2, 524, 522, 523), (2, "addTester", "(I)I", 2, 1, 0, 2, 528, 526, 527), (0, "move", "(III)I", 4, 1, 0, 4, 532, 530, 531), (2, "lastMoveDay", "(I)I", 4, 1, 0, 2, 536, 534, 535), (2, "addMove", "(III)V", 4, 0, 0, 4, 540, 538, 539), (2, "garageOn", "(II)I", 5, 1, 0, 3, 544, 542, 543), (0, "at", "(II)I", 3, 1, 0, 3, 548, 546, 547), (0, "test", "(IIIII)I", 6, 1, 0, 6, 552, 550, 551), (0, "isWho", "(I)Z", 2, 2, 0, 2, 556, 555, 1), (0, "isWhen", "(II)Z", 4, 2, 0, 3, 560, 559, 2), (3, "lastDay", "()I", 1, 1, 0, 1, 564, 562, 563), (0, "isHow", "(II)Z", 3, 2, 1, 2, 567, 566, 0), (0, "isMiles", "(II)Z", 3, 2, 0, 3, 571, 570, 3), (3, "add", "(IIIII)I", 6, 1, 0, 6, 576, 574, 575), (0, "of", "(II)I", 3, 1, 0, 3, 580, 578, 579), (2, "garageOf", "(LTradeTests$Tests;I)I", 3, 1, 0, 3, 584, 582, 583), (3, "detail", "(II)I", 3, 1, 0, 3, 589, 587, 588), (0, "feed", "(I)I", 2, 1, 0, 2, 593, 591, 592), (4, "addByte", "(I)I", 2, 1, 0, 2, 597, 595, 596), (0, "text", "(I)I", 3, 1, 0, 2, 601, 599, 600), (4, "takeTape", "(I)I", 3, 1, 0, 2, 605, 603, 604), (4, "clearNext", "()V", 2, 0, 0, 1, 609, 608, 4), (4, "readRows", "()Z", 2, 2, 0, 1, 613, 612, 5), (4, "readRow", "()Z", 3, 2, 0, 1, 617, 616, 6), (4, "next", "()I", 1, 1, 0, 1, 621, 620, 7), (4, "readFault", "()Z", 4, 2, 0, 1, 625, 624, 8), (4, "isDigit", "(II)Z", 2, 2, 1, 2, 628, 627, 0), (4, "kindOf", "(I)I", 1, 1, 1, 1, 631, 630, 0), (4, "readEnd", "()Z", 1, 2, 0, 1, 635, 634, 9), (4, "readNumber", "(I)I", 4, 1, 0, 2, 640, 639, 10), (0, "says", "(II)I", 5, 1, 0, 3, 644, 642, 643), (4, "inForce", "(I)I", 3, 1, 0, 2, 648, 646, 647), (4, "failing", "(II)I", 3, 1, 0, 3, 652, 650, 651), (0, "verdict", "(I)I", 2, 1, 0, 2, 656, 654, 655), (5, "passes", "(I)Z", 4, 2, 0, 2, 660, 658, 659), (5, "brakesDo", "(III)Z", 6, 2, 0, 4, 666, 665, 11), (0, "unlike", "(I)I", 2, 1, 0, 2, 670, 668, 669), (5, "unlikeness", "(I)I", 3, 1, 0, 2, 674, 672, 673), (0, "rate", "(II)I", 3, 1, 0, 3, 679, 677, 678), (11, "riskOf", "(I)I", 2, 1, 0, 2, 683, 681, 682), (11, "survey", "(I)V", 3, 0, 0, 2, 687, 686, 12)]
def mtL_1 : List Mt := [(6, "bits", "(I)I", 2, 1, 0, 2, 692, 690, 691), (6, "alikeTests", "(I)I", 4, 1, 0, 2, 696, 694, 695), (6, "isAlike", "(II)Z", 3, 2, 0, 3, 700, 699, 13), (15, "abs", "(I)I", 1, 1, 1, 1, 703, 702, 0), (6, "isQuick", "(I)Z", 2, 2, 0, 2, 707, 705, 706), (6, "isOverlapping", "(I)Z", 3, 2, 0, 2, 713, 711, 712), (6, "isMeeting", "(II)Z", 3, 2, 0, 3, 717, 716, 14), (6, "isShut", "(I)Z", 3, 2, 0, 2, 721, 719, 720), (5, "isFalsePass", "(I)Z", 2, 2, 0, 2, 726, 724, 725), (14, "bitCount", "(I)I", 1, 1, 1, 1, 729, 728, 0), (9, "knownIn", "(I)I", 2, 1, 0, 2, 736, 734, 735), (9, "isVisited", "(I)Z", 2, 2, 0, 2, 740, 738, 739), (7, "figure", "(II)I", 3, 1, 0, 3, 744, 742, 743), (7, "fillCells", "()V", 3, 0, 0, 1, 748, 747, 15), (7, "cellOf", "(I)I", 3, 1, 0, 2, 752, 751, 16), (1, "ageClass", "(II)I", 4, 1, 0, 3, 756, 754, 755), (7, "measure", "(I)V", 4, 0, 0, 2, 760, 759, 17), (7, "cellShare", "(I)I", 2, 1, 0, 2, 765, 764, 18), (7, "more", "()I", 1, 1, 0, 1, 769, 768, 19), (7, "beyondChance", "()I", 5, 1, 0, 1, 773, 772, 20), (7, "garagesWithTests", "()I", 3, 1, 0, 1, 777, 776, 21), (0, "share", "(II)I", 4, 1, 0, 3, 782, 780, 781), (7, "shareOf", "(II)I", 3, 1, 0, 3, 786, 784, 785), (0, "signs", "(I)I", 2, 1, 0, 2, 790, 788, 789), (0, "alike", "(I)I", 2, 1, 0, 2, 795, 793, 794), (0, "falls", "(I)I", 2, 1, 0, 2, 800, 798, 799), (8, "fall", "(I)I", 4, 1, 0, 2, 804, 802, 803), (8, "milesAhead", "(I)I", 3, 1, 0, 2, 808, 807, 22), (8, "milesBehind", "(I)I", 3, 1, 0, 2, 812, 811, 23), (8, "isTyped", "(III)Z", 6, 2, 1, 3, 816, 815, 0), (0, "rule", "(II)I", 3, 1, 0, 3, 821, 819, 820), (10, "isRule", "(II)Z", 3, 2, 0, 3, 825, 823, 824), (10, "setRule", "(II)I", 4, 1, 0, 3, 832, 830, 831), (0, "appeal", "(II)I", 4, 1, 0, 3, 836, 834, 835), (0, "points", "(I)I", 2, 1, 0, 2, 840, 838, 839), (10, "ofTest", "(I)I", 3, 1, 0, 2, 844, 842, 843), (9, "missed", "(I)I", 3, 1, 0, 2, 848, 846, 847), (0, "sum", "(II)I", 3, 1, 0, 3, 860, 858, 859), (10, "ofTester", "(II)I", 3, 1, 0, 3, 864, 862, 863), (10, "fillPoints", "(I)V", 3, 0, 0, 2, 868, 867, 24), (10, "rowSum", "(I)I", 4, 1, 0, 2, 873, 872, 25), (0, "banned", "(II)I", 3, 1, 0, 3, 877, 875, 876), (10, "isBanned", "(II)Z", 6, 2, 0, 3, 881, 879, 880), (0, "secret", "(I)I", 2, 1, 0, 2, 885, 883, 884), (9, "add", "(I)I", 2, 1, 0, 2, 889, 887, 888), (0, "visit", "(II)I", 3, 1, 0, 3, 893, 891, 892), (9, "send", "(II)V", 3, 0, 0, 3, 898, 896, 897), (0, "worth", "(II)I", 3, 1, 0, 3, 903, 901, 902), (11, "worthOf", "(II)I", 3, 1, 0, 3, 907, 905, 906), (11, "newFaults", "(I)I", 2, 1, 0, 2, 911, 910, 26)]
def mtL_2 : List Mt := [(0, "plan", "(I)I", 3, 1, 0, 2, 915, 913, 914), (11, "fillWorths", "()V", 3, 0, 0, 1, 919, 917, 918), (11, "fillBest", "()V", 3, 0, 0, 1, 923, 921, 922), (11, "mostFrom", "(II)I", 5, 1, 0, 3, 927, 926, 27), (11, "isFree", "(II)Z", 2, 2, 1, 2, 930, 929, 0), (11, "mostWith", "(III)I", 4, 1, 0, 4, 934, 933, 28), (15, "max", "(II)I", 2, 1, 1, 2, 937, 936, 0), (11, "most", "()I", 1, 1, 0, 1, 941, 939, 940), (11, "garageFor", "(I)I", 5, 1, 0, 2, 945, 943, 944), (11, "leastGarage", "(II)I", 4, 1, 0, 3, 949, 948, 29), (0, "draw", "(III)I", 4, 1, 0, 4, 953, 951, 952), (3, "isDrawn", "(I)Z", 2, 2, 0, 2, 957, 955, 956), (3, "addDraw", "(III)I", 4, 1, 0, 4, 961, 959, 960), (0, "error", "()I", 2, 1, 0, 1, 965, 963, 964), (3, "drawnError", "()I", 5, 1, 0, 1, 969, 967, 968), (0, "leans", "(II)I", 5, 1, 0, 3, 973, 971, 972), (5, "isLeaning", "(II)Z", 5, 2, 0, 3, 977, 975, 976), (0, "tell", "(I)I", 2, 1, 0, 2, 983, 981, 982), (0, "check", "(I)I", 4, 1, 0, 2, 987, 985, 986), (0, "count", "(I)I", 2, 1, 0, 2, 991, 989, 990), (6, "testsWithSigns", "()I", 3, 1, 0, 1, 995, 993, 994), (0, "found", "(I)I", 2, 1, 0, 2, 1000, 998, 999), (12, "vehicle", "(III)I", 4, 1, 0, 4, 1162, 1160, 1161), (12, "in", "(III)Z", 3, 2, 1, 3, 1165, 1164, 0), (12, "isDay", "(I)Z", 1, 2, 1, 1, 1168, 1167, 0), (12, "finds", "(I)I", 2, 1, 0, 2, 1172, 1171, 30), (12, "as", "(II)I", 3, 1, 0, 3, 1177, 1175, 1176), (12, "isVehicle", "(I)Z", 2, 2, 0, 2, 1181, 1180, 31), (12, "isUnder", "(II)Z", 2, 2, 1, 2, 1184, 1183, 0), (12, "dueOf", "(I)I", 2, 1, 0, 2, 1188, 1187, 32), (12, "garage", "(II)I", 3, 1, 0, 3, 1192, 1190, 1191), (12, "tester", "(I)I", 2, 1, 0, 2, 1196, 1194, 1195), (12, "isGarage", "(I)Z", 2, 2, 0, 2, 1200, 1199, 33), (12, "move", "(III)I", 5, 1, 0, 4, 1204, 1202, 1203), (12, "isTester", "(I)Z", 2, 2, 0, 2, 1208, 1207, 34), (12, "placeOf", "(II)I", 5, 1, 0, 3, 1212, 1211, 35), (12, "at", "(II)I", 3, 1, 0, 3, 1216, 1214, 1215), (12, "test", "(IIIII)I", 6, 1, 0, 6, 1220, 1218, 1219), (12, "isTold", "(IIIII)Z", 7, 2, 0, 6, 1224, 1223, 36), (12, "of", "(II)I", 3, 1, 0, 3, 1230, 1228, 1229), (12, "isTest", "(I)Z", 2, 2, 0, 2, 1234, 1233, 37), (12, "garageOf", "(I)I", 2, 1, 0, 2, 1238, 1237, 38), (12, "feed", "(I)I", 2, 1, 0, 2, 1242, 1240, 1241), (12, "text", "(I)I", 3, 1, 0, 2, 1246, 1244, 1245), (12, "reads", "()Z", 4, 2, 0, 1, 1250, 1249, 39), (12, "here", "()I", 1, 1, 0, 1, 1254, 1253, 40), (12, "readsFault", "(I)Z", 5, 2, 0, 2, 1258, 1257, 41), (12, "readsNumber", "(I)I", 4, 1, 0, 2, 1262, 1261, 42), (12, "isDigit", "(I)Z", 1, 2, 1, 1, 1265, 1264, 0), (12, "says", "(II)I", 4, 1, 0, 3, 1269, 1267, 1268)]
def mtL_3 : List Mt := [(12, "textOn", "(I)I", 4, 1, 0, 2, 1273, 1272, 43), (12, "verdict", "(I)I", 2, 1, 0, 2, 1277, 1275, 1276), (12, "isPass", "(I)Z", 6, 2, 0, 2, 1281, 1280, 44), (12, "unlike", "(I)I", 2, 1, 0, 2, 1285, 1283, 1284), (12, "unlikeOf", "(I)I", 2, 1, 0, 2, 1289, 1288, 45), (12, "share", "(II)I", 4, 1, 0, 3, 1293, 1291, 1292), (12, "shareOf", "(I)I", 5, 1, 0, 2, 1297, 1296, 46), (12, "cellOf", "(I)I", 3, 1, 0, 2, 1301, 1300, 47), (12, "rate", "(II)I", 9, 1, 0, 3, 1305, 1303, 1304), (12, "looked", "()I", 3, 1, 0, 1, 1310, 1309, 48), (12, "ones", "(I)I", 3, 1, 1, 1, 1313, 1312, 0), (12, "riskOf", "(I)I", 4, 1, 0, 2, 1317, 1316, 49), (12, "signsOf", "(I)I", 2, 1, 0, 2, 1321, 1320, 50), (12, "alikeOf", "(I)I", 4, 1, 0, 2, 1325, 1324, 51), (12, "areNear", "(III)Z", 3, 2, 1, 3, 1328, 1327, 0), (12, "isQuick", "(I)Z", 3, 2, 0, 2, 1332, 1331, 52), (12, "overlaps", "(I)Z", 3, 2, 0, 2, 1336, 1335, 53), (12, "isShut", "(I)Z", 3, 2, 0, 2, 1340, 1339, 54), (12, "signs", "(I)I", 2, 1, 0, 2, 1344, 1342, 1343), (12, "alike", "(I)I", 2, 1, 0, 2, 1348, 1346, 1347), (12, "falls", "(I)I", 5, 1, 0, 2, 1352, 1350, 1351), (12, "isTyped", "(III)Z", 7, 2, 1, 3, 1355, 1354, 0), (12, "rule", "(II)I", 4, 1, 0, 3, 1359, 1357, 1358), (12, "appeal", "(II)I", 4, 1, 0, 3, 1363, 1361, 1362), (12, "points", "(I)I", 2, 1, 0, 2, 1367, 1365, 1366), (12, "pointsOf", "(I)I", 3, 1, 0, 2, 1371, 1370, 55), (12, "missed", "(I)I", 3, 1, 0, 2, 1375, 1374, 56), (12, "sum", "(II)I", 3, 1, 0, 3, 1379, 1377, 1378), (12, "findPoints", "()V", 2, 0, 0, 1, 1383, 1382, 57), (12, "sumOf", "(II)I", 5, 1, 0, 3, 1387, 1386, 58), (12, "banned", "(II)I", 4, 1, 0, 3, 1391, 1389, 1390), (12, "secret", "(I)I", 2, 1, 0, 2, 1395, 1393, 1394), (12, "visit", "(II)I", 3, 1, 0, 3, 1399, 1397, 1398), (12, "worth", "(II)I", 3, 1, 0, 3, 1403, 1401, 1402), (12, "worthOf", "(II)I", 5, 1, 0, 3, 1407, 1406, 59), (12, "plan", "(I)I", 3, 1, 0, 2, 1411, 1409, 1410), (12, "findPlan", "()I", 6, 1, 0, 1, 1415, 1414, 60), (12, "draw", "(III)I", 4, 1, 0, 4, 1419, 1417, 1418), (12, "error", "()I", 5, 1, 0, 1, 1423, 1421, 1422), (12, "leans", "(II)I", 5, 1, 0, 3, 1427, 1425, 1426), (12, "leansOn", "(II)I", 5, 1, 0, 3, 1431, 1430, 61), (12, "tell", "(I)I", 2, 1, 0, 2, 1435, 1433, 1434), (12, "check", "(I)I", 4, 1, 0, 2, 1439, 1437, 1438), (12, "count", "(I)I", 4, 1, 0, 2, 1443, 1441, 1442), (12, "found", "(I)I", 2, 1, 0, 2, 1447, 1445, 1446)]
def mtL : List Mt := mtL_0 ++ (mtL_1 ++ (mtL_2 ++ (mtL_3)))
def mt (k : Nat) : Mt := mtL.getD k (99, "", "", 0, 0, 0, 0, 0, 0, 0)
def mbL_0 : List ByteArray := [prog_1_method_2_code, prog_1_method_41_code, prog_1_method_36_code, prog_12_method_2_code, prog_1_method_3_code, prog_1_method_42_code, prog_12_method_3_code, prog_1_method_4_code, prog_11_method_2_code, prog_1_method_5_code, prog_11_method_3_code, prog_1_method_6_code, prog_11_method_5_code, prog_11_method_4_code, prog_11_method_6_code, prog_1_method_7_code, prog_1_method_8_code, prog_1_method_37_code, prog_1_method_38_code, prog_9_method_3_code, prog_1_method_39_code, prog_1_method_40_code, prog_9_method_2_code, prog_1_method_9_code, prog_11_method_7_code, prog_9_method_4_code, prog_1_method_10_code, prog_10_method_2_code, prog_1_method_11_code, prog_10_method_3_code, prog_10_method_6_code, prog_10_method_7_code, prog_10_method_8_code, prog_10_method_12_code, prog_10_method_10_code, prog_10_method_13_code, prog_10_method_14_code, prog_10_method_11_code, prog_10_method_9_code, prog_1_method_12_code, prog_10_method_4_code, prog_10_method_5_code, prog_1_method_13_code, prog_2_method_2_code, prog_2_method_3_code, prog_1_method_14_code, prog_2_method_4_code, prog_1_method_15_code, prog_5_method_2_code, prog_5_method_4_code]
def mbL_1 : List ByteArray := [prog_8_method_2_code, prog_8_method_4_code, prog_8_method_5_code, prog_16_method_59_code, prog_8_method_6_code, prog_8_method_7_code, prog_8_method_8_code, prog_8_method_9_code, prog_2_method_5_code, prog_15_method_49_code, prog_7_method_5_code, prog_7_method_3_code, prog_6_method_3_code, prog_6_method_4_code, prog_6_method_5_code, prog_12_method_4_code, prog_6_method_7_code, prog_6_method_6_code, prog_6_method_8_code, prog_6_method_9_code, prog_6_method_10_code, prog_1_method_16_code, prog_6_method_2_code, prog_1_method_17_code, prog_1_method_18_code, prog_1_method_19_code, prog_3_method_2_code, prog_3_method_3_code, prog_3_method_4_code, prog_3_method_5_code, prog_1_method_20_code, prog_4_method_2_code, prog_4_method_3_code, prog_1_method_21_code, prog_1_method_22_code, prog_4_method_4_code, prog_7_method_6_code, prog_1_method_23_code, prog_4_method_5_code, prog_4_method_7_code, prog_4_method_8_code, prog_1_method_24_code, prog_4_method_6_code, prog_1_method_25_code, prog_7_method_2_code, prog_1_method_26_code, prog_7_method_4_code, prog_1_method_27_code, prog_5_method_3_code, prog_5_method_5_code]
def mbL_2 : List ByteArray := [prog_1_method_28_code, prog_5_method_6_code, prog_5_method_7_code, prog_5_method_8_code, prog_5_method_10_code, prog_5_method_9_code, prog_16_method_65_code, prog_5_method_11_code, prog_5_method_12_code, prog_5_method_13_code, prog_1_method_29_code, prog_9_method_5_code, prog_9_method_6_code, prog_1_method_30_code, prog_9_method_7_code, prog_1_method_31_code, prog_2_method_6_code, prog_1_method_32_code, prog_1_method_33_code, prog_1_method_34_code, prog_8_method_3_code, prog_1_method_35_code, prog_14_method_10_code, prog_14_method_3_code, prog_14_method_5_code, prog_14_method_4_code, prog_14_method_13_code, prog_14_method_6_code, prog_14_method_12_code, prog_14_method_11_code, prog_14_method_14_code, prog_14_method_15_code, prog_14_method_7_code, prog_14_method_17_code, prog_14_method_8_code, prog_14_method_16_code, prog_14_method_18_code, prog_14_method_20_code, prog_14_method_19_code, prog_14_method_22_code, prog_14_method_9_code, prog_14_method_21_code, prog_14_method_23_code, prog_14_method_29_code, prog_14_method_28_code, prog_14_method_24_code, prog_14_method_27_code, prog_14_method_26_code, prog_14_method_25_code, prog_14_method_31_code]
def mbL_3 : List ByteArray := [prog_14_method_30_code, prog_14_method_33_code, prog_14_method_32_code, prog_14_method_35_code, prog_14_method_34_code, prog_14_method_38_code, prog_14_method_37_code, prog_14_method_36_code, prog_14_method_42_code, prog_14_method_41_code, prog_14_method_39_code, prog_14_method_40_code, prog_14_method_48_code, prog_14_method_44_code, prog_14_method_43_code, prog_14_method_45_code, prog_14_method_46_code, prog_14_method_47_code, prog_14_method_49_code, prog_14_method_50_code, prog_14_method_52_code, prog_14_method_51_code, prog_14_method_53_code, prog_14_method_54_code, prog_14_method_57_code, prog_14_method_56_code, prog_14_method_55_code, prog_14_method_60_code, prog_14_method_58_code, prog_14_method_59_code, prog_14_method_61_code, prog_14_method_62_code, prog_14_method_63_code, prog_14_method_65_code, prog_14_method_64_code, prog_14_method_67_code, prog_14_method_66_code, prog_14_method_68_code, prog_14_method_69_code, prog_14_method_71_code, prog_14_method_70_code, prog_14_method_72_code, prog_14_method_73_code, prog_14_method_74_code, prog_14_method_75_code]
def mbL : List ByteArray := mbL_0 ++ (mbL_1 ++ (mbL_2 ++ (mbL_3)))
def mB (k : Nat) : ByteArray := mbL.getD k ⟨#[]⟩
def mO (k : Nat) : Nat := (mt k).1
def mY (k : Nat) : MethodName := ⟨cn (mt k).1, (mt k).2.1, (mt k).2.2.1⟩
def mL (k : Nat) : Nat := (mt k).2.2.2.1
def rty (n : Nat) : Option FieldType := match n with | 0 => none | 1 => some .int | _ => some .boolean
def mRk (k : Nat) : Nat := (mt k).2.2.2.2.1
def mR (k : Nat) : Option FieldType := rty (mRk k)
def mS (k : Nat) : Nat := (mt k).2.2.2.2.2.1
def mA (k : Nat) : Nat := (mt k).2.2.2.2.2.2.1
def mP1 (k : Nat) : Nat := (mt k).2.2.2.2.2.2.2.1
def mP2 (k : Nat) : Nat := (mt k).2.2.2.2.2.2.2.2.1
def mP3 (k : Nat) : Nat := (mt k).2.2.2.2.2.2.2.2.2
def NM : Nat := 195
def ipl : List Nat := [63, 64, 65, 66, 67, 68, 69, 70, 71, 72, 73, 74, 75, 62, 77, 76]
set_option maxRecDepth 100000 in
theorem ipl_ok : ((List.range 16).all fun c => decide (lw_tbl[ipl.getD c 0]? = some (.initialized (cn c)))) = true := by decide +kernel
def mOk (k : Nat) : Bool := decide (mO k < 16) && decide (mL k ≤ 9) && decide (mO k = 15 ∨ plainName (mY k).cls = true) && decide ((mY k).cls ≠ "java/lang/invoke/MethodHandle") && decide ((mY k).cls ≠ "java/lang/invoke/VarHandle") && decide ((parseMethodDescriptor (mY k).desc).map (fun d => d.parameters.length + (1 - mS k)) = some (mA k)) && decide (mS k ≤ 1) && decide (mA k ≤ mL k) && decide (lw_tbl[mP1 k]? = some (.code (mY k) (mB k) (mL k) (mR k))) && (if mS k = 1 then decide (lw_tbl[mP2 k]? = some (.static (mY k))) else decide (lw_tbl[mP2 k]? = some (.instanceMethod (mY k))) && decide (lw_tbl[mP3 k]? = some (.selects (mY k).cls (mY k) (mY k))) && decide (mO k < 13))
set_option maxRecDepth 100000 in
theorem mOk_0 : ((List.range 20).all fun j => mOk (0 + j)) = true := by decide +kernel
set_option maxRecDepth 100000 in
theorem mOk_1 : ((List.range 20).all fun j => mOk (20 + j)) = true := by decide +kernel
set_option maxRecDepth 100000 in
theorem mOk_2 : ((List.range 20).all fun j => mOk (40 + j)) = true := by decide +kernel
set_option maxRecDepth 100000 in
theorem mOk_3 : ((List.range 20).all fun j => mOk (60 + j)) = true := by decide +kernel
set_option maxRecDepth 100000 in
theorem mOk_4 : ((List.range 20).all fun j => mOk (80 + j)) = true := by decide +kernel
set_option maxRecDepth 100000 in
theorem mOk_5 : ((List.range 20).all fun j => mOk (100 + j)) = true := by decide +kernel
set_option maxRecDepth 100000 in
theorem mOk_6 : ((List.range 20).all fun j => mOk (120 + j)) = true := by decide +kernel
set_option maxRecDepth 100000 in
theorem mOk_7 : ((List.range 20).all fun j => mOk (140 + j)) = true := by decide +kernel
set_option maxRecDepth 100000 in
theorem mOk_8 : ((List.range 20).all fun j => mOk (160 + j)) = true := by decide +kernel
set_option maxRecDepth 100000 in
theorem mOk_9 : ((List.range 15).all fun j => mOk (180 + j)) = true := by decide +kernel
/-- method links: class, entry, method, place of the word -/
def mlt : List (Nat × Nat × Nat × Nat) := [(13, 13, 0, 484), (0, 111, 1, 488), (0, 115, 2, 491), (0, 122, 3, 496), (13, 18, 4, 500), (0, 129, 5, 504), (0, 132, 6, 507), (13, 23, 7, 513), (0, 138, 8, 517), (13, 27, 9, 521), (0, 145, 10, 525), (13, 32, 11, 529), (0, 148, 12, 533), (0, 154, 13, 537), (0, 158, 14, 541), (13, 36, 15, 545), (13, 40, 16, 549), (0, 161, 17, 553), (0, 165, 18, 557), (0, 304, 19, 561), (0, 168, 20, 565), (0, 171, 21, 568), (0, 176, 22, 573), (13, 45, 23, 577), (0, 179, 24, 581), (2, 48, 14, 585), (0, 183, 25, 586), (13, 49, 26, 590), (0, 189, 27, 594), (13, 53, 28, 598), (0, 193, 29, 602), (4, 31, 30, 606), (4, 34, 31, 610), (4, 44, 32, 614), (4, 47, 33, 618), (4, 51, 34, 622), (4, 58, 35, 626), (4, 65, 36, 629), (4, 62, 37, 632), (4, 54, 38, 637), (13, 57, 39, 641), (0, 196, 40, 645), (0, 199, 41, 649), (13, 61, 42, 653), (0, 208, 43, 657), (5, 29, 40, 661), (5, 43, 41, 662), (5, 56, 44, 663), (13, 65, 45, 667), (0, 211, 46, 671), (5, 69, 43, 675), (13, 69, 47, 676), (0, 214, 48, 680), (11, 34, 49, 684), (11, 54, 24, 688), (11, 60, 50, 689), (6, 25, 51, 693), (6, 57, 52, 697), (6, 67, 53, 701), (6, 29, 54, 704), (6, 33, 55, 710), (6, 91, 56, 714), (6, 36, 57, 718), (6, 97, 24, 722), (6, 39, 58, 723), (11, 65, 59, 727), (11, 70, 60, 733), (9, 35, 61, 737), (0, 217, 62, 741), (7, 30, 63, 745), (7, 66, 64, 749), (7, 77, 65, 753), (7, 37, 66, 757), (7, 86, 24, 761), (7, 33, 67, 762), (7, 54, 68, 766), (7, 58, 69, 770), (7, 92, 70, 774), (7, 95, 59, 778), (13, 73, 71, 779), (0, 220, 72, 783), (13, 77, 73, 787), (0, 223, 50, 791), (13, 81, 74, 792), (0, 226, 51, 796), (13, 85, 75, 797), (0, 232, 76, 801), (8, 21, 77, 805), (8, 25, 78, 809), (8, 28, 79, 814), (13, 89, 80, 818), (0, 235, 81, 822), (0, 238, 82, 829), (13, 93, 83, 833), (13, 97, 84, 837), (0, 244, 85, 841), (10, 41, 86, 845), (9, 42, 40, 849), (9, 48, 60, 850), (9, 54, 41, 851), (10, 47, 59, 852), (10, 57, 58, 853), (10, 63, 54, 854), (10, 68, 55, 855), (10, 71, 57, 856), (13, 101, 87, 857), (0, 247, 88, 861), (10, 74, 89, 865), (10, 91, 85, 869), (10, 78, 90, 870), (13, 105, 91, 874), (0, 250, 92, 878), (13, 109, 93, 882), (0, 254, 94, 886), (13, 113, 95, 890), (0, 256, 61, 894), (0, 259, 96, 895), (0, 263, 86, 899), (13, 117, 97, 900), (0, 266, 98, 904), (11, 42, 99, 908), (13, 121, 100, 912), (0, 269, 101, 916), (0, 272, 102, 920), (11, 82, 103, 924), (11, 86, 104, 928), (11, 90, 105, 931), (11, 94, 106, 935), (0, 275, 107, 938), (0, 279, 108, 942), (11, 99, 109, 946), (13, 125, 110, 950), (0, 282, 111, 954), (0, 285, 112, 958), (13, 129, 113, 962), (0, 288, 114, 966), (13, 134, 115, 970), (0, 291, 116, 974), (5, 77, 58, 978), (5, 80, 6, 979), (13, 138, 117, 980), (13, 142, 118, 984), (13, 146, 119, 988), (0, 300, 120, 992), (6, 50, 50, 996), (13, 150, 121, 997), (13, 17, 122, 1159), (12, 127, 123, 1163), (12, 143, 124, 1166), (12, 147, 125, 1169), (13, 22, 126, 1174), (12, 151, 127, 1178), (12, 154, 128, 1182), (12, 158, 129, 1185), (13, 26, 130, 1189), (13, 31, 131, 1193), (12, 161, 132, 1197), (13, 35, 133, 1201), (12, 167, 134, 1205), (12, 170, 135, 1209), (13, 39, 136, 1213), (13, 44, 137, 1217), (12, 176, 138, 1221), (13, 48, 139, 1227), (12, 180, 140, 1231), (12, 183, 141, 1235), (13, 52, 142, 1239), (13, 56, 143, 1243), (12, 208, 144, 1247), (12, 192, 145, 1251), (12, 202, 146, 1255), (12, 205, 147, 1259), (12, 196, 148, 1263), (13, 60, 149, 1266), (12, 212, 150, 1270), (13, 64, 151, 1274), (12, 215, 152, 1278), (13, 68, 153, 1282), (12, 218, 154, 1286), (13, 76, 155, 1290), (12, 224, 156, 1294), (12, 221, 157, 1298), (13, 72, 158, 1302), (12, 235, 159, 1307), (12, 230, 160, 1311), (12, 238, 161, 1314), (12, 227, 162, 1318), (12, 244, 163, 1322), (12, 241, 164, 1326), (12, 247, 165, 1329), (12, 250, 166, 1333), (12, 253, 167, 1337), (13, 80, 168, 1341), (13, 84, 169, 1345), (13, 88, 170, 1349), (12, 256, 171, 1353), (13, 92, 172, 1356), (13, 96, 173, 1360), (13, 100, 174, 1364), (12, 262, 175, 1368), (12, 259, 176, 1372), (13, 104, 177, 1376), (12, 265, 178, 1380), (12, 268, 179, 1384), (13, 108, 180, 1388), (13, 112, 181, 1392), (13, 116, 182, 1396), (13, 120, 183, 1400), (12, 277, 184, 1404), (13, 124, 185, 1408), (12, 280, 186, 1412), (13, 128, 187, 1416), (13, 133, 188, 1420), (13, 137, 189, 1424), (12, 286, 190, 1428), (13, 141, 191, 1432), (13, 145, 192, 1436), (13, 149, 193, 1440), (13, 153, 194, 1444)]
set_option maxRecDepth 100000 in
theorem mlt_ok : (mlt.all fun q => decide (lw_tbl[q.2.2.2]? = some (.methodLink (cn q.1) q.2.1 (mY q.2.2.1)))) = true := by decide +kernel
end
section
/-! the pure machine: cells hold numbers; an instruction is a predicate transformer -/
abbrev St : Type := Nat → Nat → Int32
def up (σ : St) (c i : Nat) (v : Int32) : St := fun c' => if c' = c then upd (σ c) i v else σ c'
abbrev LV : Type := List (Option Value)
/-- an instruction: pc, length, itself, its number, three operands, the branches of a switch -/
abbrev CE : Type := Nat × Nat × Instr × Int32 × Nat × Nat × Nat × List (Int32 × Nat)
abbrev KT : Type := Nat → LV → List Value → St → Prop
abbrev CT : Type := Nat → List Value → St → (Int32 → St → Prop) → Prop
def i_un (f : Int32 → Int32) (K : List Value → Prop) (st : List Value) : Prop := match st with
  | .int x :: r => K (.int (f x) :: r)
  | _ => False
def i_bin (f : Int32 → Int32 → Int32) (K : List Value → Prop) (st : List Value) : Prop := match st with
  | .int y :: .int x :: r => K (.int (f x y) :: r)
  | _ => False
def i_div (f : Int32 → Int32 → Int32) (K : List Value → Prop) (st : List Value) : Prop := match st with
  | .int y :: .int x :: r => ¬ y = 0 ∧ K (.int (f x y) :: r)
  | _ => False
def l_bin (f : Int64 → Int64 → Int64) (K : List Value → Prop) (st : List Value) : Prop := match st with
  | .long y :: .long x :: r => K (.long (f x y) :: r)
  | _ => False
def l_div (f : Int64 → Int64 → Int64) (K : List Value → Prop) (st : List Value) : Prop := match st with
  | .long y :: .long x :: r => ¬ y = 0 ∧ K (.long (f x y) :: r)
  | _ => False
def l_cmp (K : List Value → Prop) (st : List Value) : Prop := match st with
  | .long y :: .long x :: r => K (.int (lg_cmp x y) :: r)
  | _ => False
def c_i2l (K : List Value → Prop) (st : List Value) : Prop := match st with
  | .int x :: r => K (.long x.toInt64 :: r)
  | _ => False
def c_l2i (K : List Value → Prop) (st : List Value) : Prop := match st with
  | .long x :: r => K (.int x.toInt32 :: r)
  | _ => False
def i_if (B : Int32 → Prop) (T F : List Value → Prop) (st : List Value) : Prop := match st with
  | .int x :: r => (B x → T r) ∧ (¬ B x → F r)
  | _ => False
def i_ne (T F : List Value → Prop) (st : List Value) : Prop := match st with
  | .int x :: r => (¬ x = 0 → T r) ∧ (x = 0 → F r)
  | _ => False
def i_cmp (B : Int32 → Int32 → Prop) (T F : List Value → Prop) (st : List Value) : Prop := match st with
  | .int y :: .int x :: r => (B x y → T r) ∧ (¬ B x y → F r)
  | _ => False
def i_cne (T F : List Value → Prop) (st : List Value) : Prop := match st with
  | .int y :: .int x :: r => (¬ x = y → T r) ∧ (x = y → F r)
  | _ => False
def p_ldi (lv : LV) (a : Nat) (K : Value → Prop) : Prop := match lv[a]? with
  | some (some (.int x)) => K (.int x)
  | _ => False
def p_lda (lv : LV) (a : Nat) (K : Value → Prop) : Prop := match lv[a]? with
  | some (some (.ref x)) => K (.ref x)
  | _ => False
def p_ldl (lv : LV) (a : Nat) (K : Value → Prop) : Prop := match lv[a]? with
  | some (some (.long x)) => K (.long x)
  | _ => False
def isL (o : Option (Option Value)) : Bool := match o with
  | some (some (.long _)) => true
  | some (some (.double _)) => true
  | _ => false
def hitL (lv : LV) (a : Nat) : Bool := match a with
  | 0 => false
  | b + 1 => isL lv[b]?
def p_sti (lv : LV) (a : Nat) (K : LV → List Value → Prop) (st : List Value) : Prop := match st with
  | .int x :: r => (match hitL lv a with | true => False | false => K (lv.set a (some (.int x))) r)
  | _ => False
def p_sta (lv : LV) (a : Nat) (K : LV → List Value → Prop) (st : List Value) : Prop := match st with
  | .ref x :: r => (match hitL lv a with | true => False | false => K (lv.set a (some (.ref x))) r)
  | _ => False
def p_stl (lv : LV) (a : Nat) (K : LV → List Value → Prop) (st : List Value) : Prop := match st with
  | .long x :: r => (match hitL lv a with | true => False | false => K ((lv.set (a + 1) none).set a (some (.long x))) r)
  | _ => False
def p_inc (lv : LV) (a : Nat) (n : Int32) (K : LV → Prop) : Prop := match lv[a]? with
  | some (some (.int x)) => (match hitL lv a with | true => False | false => K (lv.set a (some (.int (x + n)))))
  | _ => False
/-- arrays outside the world: the static ones, then the script -/
def sAr (sc : Nat × (Nat → Int32)) (c : Nat) : Option (Nat × (Nat → Int32)) := match c with
  | 1000 => some (4, fun j => (sV 0).getD j 0)
  | 1001 => some (4, fun j => (sV 1).getD j 0)
  | 1002 => some (3, fun j => (sV 2).getD j 0)
  | 1003 => some sc
  | _ => none
def p_iald (sc : Nat × (Nat → Int32)) (K : List Value → Prop) (st : List Value) (σ : St) : Prop := match st with
  | .int i :: .ref c :: r => (match lay[c]? with
    | some (1, n, _) => vp_in i n ∧ K (.int (σ c i.toNatClampNeg) :: r)
    | some _ => False
    | none => (match sAr sc c with
      | some q => vp_in i q.1 ∧ K (.int (q.2 i.toNatClampNeg) :: r)
      | none => False))
  | _ => False
def p_zald (K : List Value → Prop) (st : List Value) (σ : St) : Prop := match st with
  | .int i :: .ref c :: r => (match lay[c]? with
    | some (2, n, _) => vp_in i n ∧ K (.int (σ c i.toNatClampNeg) :: r)
    | _ => False)
  | _ => False
def p_iast (K : List Value → St → Prop) (st : List Value) (σ : St) : Prop := match st with
  | .int x :: .int i :: .ref c :: r => (match lay[c]? with
    | some (1, n, _) => vp_in i n ∧ K r (up σ c i.toNatClampNeg x)
    | _ => False)
  | _ => False
def p_zast (K : List Value → St → Prop) (st : List Value) (σ : St) : Prop := match st with
  | .int x :: .int i :: .ref c :: r => (match lay[c]? with
    | some (2, n, _) => vp_in i n ∧ (x = 0 ∨ x = 1) ∧ K r (up σ c i.toNatClampNeg x)
    | _ => False)
  | _ => False
def p_len (sc : Nat × (Nat → Int32)) (K : List Value → Prop) (st : List Value) : Prop := match st with
  | .ref c :: r => (match lay[c]? with
    | some _ => False
    | none => (match sAr sc c with
      | some q => K (.int (Int32.ofNat q.1) :: r)
      | none => False))
  | _ => False
def p_get (ci k : Nat) (K : List Value → Prop) (st : List Value) (σ : St) : Prop := match st with
  | .ref c :: r => (match lay[c]? with
    | some (0, cj, fs) => (match Nat.beq cj ci with
      | true => (match fs[k]? with
        | some (some q) => K (.ref q :: r)
        | some none => K (.int (σ c k) :: r)
        | none => False)
      | false => False)
    | _ => False)
  | _ => False
def p_put (ci k : Nat) (K : List Value → St → Prop) (st : List Value) (σ : St) : Prop := match st with
  | .int x :: .ref c :: r => (match lay[c]? with
    | some (0, cj, fs) => (match Nat.beq cj ci with
      | true => (match fs[k]? with
        | some none => K r (up σ c k x)
        | _ => False)
      | false => False)
    | _ => False)
  | _ => False
def p_sw (sw : List (Int32 × Nat)) (x : Int32) (K : Nat → Prop) (a : Nat) : Prop := match sw with
  | [] => K a
  | q :: r => (x = q.1 → K q.2) ∧ (¬ x = q.1 → p_sw r x K a)
def p_swi (sw : List (Int32 × Nat)) (K : Nat → List Value → Prop) (a : Nat) (st : List Value) : Prop := match st with
  | .int x :: r => p_sw sw x (fun t => K t r) a
  | _ => False
def p_dup (K : List Value → Prop) (st : List Value) : Prop := match st with
  | v :: r => (match Nat.beq v.category 1 with | true => K (v :: v :: r) | false => False)
  | _ => False
def p_dup2 (K : List Value → Prop) (st : List Value) : Prop := match st with
  | v :: w :: r => (match Nat.beq v.category 1 && Nat.beq w.category 1 with | true => K (v :: w :: v :: w :: r) | false => False)
  | _ => False
def p_pop (K : List Value → Prop) (st : List Value) : Prop := match st with
  | v :: r => (match Nat.beq v.category 1 with | true => K r | false => False)
  | _ => False
/-- the first argument is an object of the class ci -/
def rcv (ci : Nat) (as : List Value) : Bool := match as with
  | .ref c :: _ => (match lay[c]? with
    | some (0, cj, _) => Nat.beq cj ci
    | _ => false)
  | _ => false
def cats (st : List Value) : Nat := (st.map fun v => v.category).sum
/-- a call: method a, b arguments; d 1 static -/
def p_call (C : CT) (vd : Bool) (a b : Nat) (ok : List Value → Bool) (K : List Value → St → Prop) (st : List Value) (σ : St) : Prop :=
  match Nat.ble b st.length && Nat.ble (cats (st.drop b)) 8 && ok (st.take b).reverse with
  | true => C a (st.take b).reverse σ (fun r σ' => K (bif vd then st.drop b else .int r :: st.drop b) σ')
  | false => False
def absI (x : Int32) : Int32 := if 0 ≤ x then x else 0 - x
def maxI (x y : Int32) : Int32 := if x < y then y else x
def p_ret (rk : Nat) (Q : Int32 → Prop) (st : List Value) : Prop := match st with
  | [.int x] => (match rk with | 0 => False | 1 => Q x | _ => (x = 0 ∨ x = 1) ∧ Q x)
  | _ => False
def p_rtv (rk : Nat) (Q : Prop) (st : List Value) : Prop := match st with
  | [] => (match rk with | 0 => Q | _ => False)
  | _ => False
/-- one instruction; rk: the method's answer (0 none, 1 int, 2 boolean) -/
def stp (sc : Nat × (Nat → Int32)) (C : CT) (rk : Nat) (Q : Int32 → St → Prop) (K : KT) (q : CE) (lv : LV) (st : List Value) (σ : St) : Prop :=
  match q with
  | (pc, len, ins, imm, a, b, d, sw) => (match ins with
    | .iconst _ => K (pc + len) lv (.int imm :: st) σ
    | .bipush _ => K (pc + len) lv (.int imm :: st) σ
    | .sipush _ => K (pc + len) lv (.int imm :: st) σ
    | .ldc _ => K (pc + len) lv (.int imm :: st) σ
    | .ldc_w _ => K (pc + len) lv (.int imm :: st) σ
    | .lconst _ => K (pc + len) lv (.long imm.toInt64 :: st) σ
    | .ldc2_w _ => K (pc + len) lv (.long imm.toInt64 :: st) σ
    | .iload_n _ => p_ldi lv a (fun v => K (pc + len) lv (v :: st) σ)
    | .iload _ => p_ldi lv a (fun v => K (pc + len) lv (v :: st) σ)
    | .aload_n _ => p_lda lv a (fun v => K (pc + len) lv (v :: st) σ)
    | .aload _ => p_lda lv a (fun v => K (pc + len) lv (v :: st) σ)
    | .lload_n _ => p_ldl lv a (fun v => K (pc + len) lv (v :: st) σ)
    | .lload _ => p_ldl lv a (fun v => K (pc + len) lv (v :: st) σ)
    | .istore_n _ => p_sti lv a (fun lv st => K (pc + len) lv st σ) st
    | .istore _ => p_sti lv a (fun lv st => K (pc + len) lv st σ) st
    | .astore_n _ => p_sta lv a (fun lv st => K (pc + len) lv st σ) st
    | .astore _ => p_sta lv a (fun lv st => K (pc + len) lv st σ) st
    | .lstore_n _ => p_stl lv a (fun lv st => K (pc + len) lv st σ) st
    | .lstore _ => p_stl lv a (fun lv st => K (pc + len) lv st σ) st
    | .iinc _ _ => p_inc lv a imm (fun lv => K (pc + len) lv st σ)
    | .iadd => i_bin (fun x y => x + y) (fun st => K (pc + len) lv st σ) st
    | .isub => i_bin (fun x y => x - y) (fun st => K (pc + len) lv st σ) st
    | .imul => i_bin (fun x y => x * y) (fun st => K (pc + len) lv st σ) st
    | .iand => i_bin (fun x y => x &&& y) (fun st => K (pc + len) lv st σ) st
    | .ior => i_bin (fun x y => x ||| y) (fun st => K (pc + len) lv st σ) st
    | .ixor => i_bin (fun x y => x ^^^ y) (fun st => K (pc + len) lv st σ) st
    | .ishl => i_bin (fun x y => x <<< (y &&& 31)) (fun st => K (pc + len) lv st σ) st
    | .ishr => i_bin (fun x y => x >>> (y &&& 31)) (fun st => K (pc + len) lv st σ) st
    | .iushr => i_bin (fun x y => (x.toUInt32 >>> (y.toUInt32 &&& Int32.toUInt32 31)).toInt32) (fun st => K (pc + len) lv st σ) st
    | .idiv => i_div (fun x y => x / y) (fun st => K (pc + len) lv st σ) st
    | .irem => i_div (fun x y => x - x / y * y) (fun st => K (pc + len) lv st σ) st
    | .ineg => i_un (fun x => -x) (fun st => K (pc + len) lv st σ) st
    | .lsub => l_bin (fun x y => x - y) (fun st => K (pc + len) lv st σ) st
    | .lmul => l_bin (fun x y => x * y) (fun st => K (pc + len) lv st σ) st
    | .ldiv => l_div (fun x y => x / y) (fun st => K (pc + len) lv st σ) st
    | .lcmp => l_cmp (fun st => K (pc + len) lv st σ) st
    | .i2l => c_i2l (fun st => K (pc + len) lv st σ) st
    | .l2i => c_l2i (fun st => K (pc + len) lv st σ) st
    | .dup => p_dup (fun st => K (pc + len) lv st σ) st
    | .dup2 => p_dup2 (fun st => K (pc + len) lv st σ) st
    | .pop => p_pop (fun st => K (pc + len) lv st σ) st
    | .goto _ => K a lv st σ
    | .ifCond .eq _ => i_if (fun x => x = 0) (fun st => K a lv st σ) (fun st => K (pc + len) lv st σ) st
    | .ifCond .ne _ => i_ne (fun st => K a lv st σ) (fun st => K (pc + len) lv st σ) st
    | .ifCond .lt _ => i_if (fun x => x < 0) (fun st => K a lv st σ) (fun st => K (pc + len) lv st σ) st
    | .ifCond .ge _ => i_if (fun x => 0 ≤ x) (fun st => K a lv st σ) (fun st => K (pc + len) lv st σ) st
    | .ifCond .gt _ => i_if (fun x => 0 < x) (fun st => K a lv st σ) (fun st => K (pc + len) lv st σ) st
    | .ifCond .le _ => i_if (fun x => x ≤ 0) (fun st => K a lv st σ) (fun st => K (pc + len) lv st σ) st
    | .if_icmp .eq _ => i_cmp (fun x y => x = y) (fun st => K a lv st σ) (fun st => K (pc + len) lv st σ) st
    | .if_icmp .ne _ => i_cne (fun st => K a lv st σ) (fun st => K (pc + len) lv st σ) st
    | .if_icmp .lt _ => i_cmp (fun x y => x < y) (fun st => K a lv st σ) (fun st => K (pc + len) lv st σ) st
    | .if_icmp .ge _ => i_cmp (fun x y => y ≤ x) (fun st => K a lv st σ) (fun st => K (pc + len) lv st σ) st
    | .if_icmp .gt _ => i_cmp (fun x y => y < x) (fun st => K a lv st σ) (fun st => K (pc + len) lv st σ) st
    | .if_icmp .le _ => i_cmp (fun x y => x ≤ y) (fun st => K a lv st σ) (fun st => K (pc + len) lv st σ) st
    | .tableswitch _ _ _ _ => p_swi sw (fun t st => K t lv st σ) a st
    | .lookupswitch _ _ => p_swi sw (fun t st => K t lv st σ) a st
    | .iaload => p_iald sc (fun st => K (pc + len) lv st σ) st σ
    | .baload => p_zald (fun st => K (pc + len) lv st σ) st σ
    | .iastore => p_iast (fun st σ => K (pc + len) lv st σ) st σ
    | .bastore => p_zast (fun st σ => K (pc + len) lv st σ) st σ
    | .arraylength => p_len sc (fun st => K (pc + len) lv st σ) st
    | .getfield _ => p_get a b (fun st => K (pc + len) lv st σ) st σ
    | .putfield _ => p_put a b (fun st σ => K (pc + len) lv st σ) st σ
    | .getstatic _ => K (pc + len) lv (.ref (1000 + a) :: st) σ
    | .invokevirtual _ => p_call C (Nat.beq (mRk a) 0) a b (rcv d) (fun st σ => K (pc + len) lv st σ) st σ
    | .invokestatic _ => (match Nat.beq d 53, Nat.beq d 106 with
      | true, _ => (match Nat.ble (cats st) 8 with | true => i_un absI (fun st => K (pc + len) lv st σ) st | false => False)
      | false, true => (match Nat.ble (cats st) 8 with | true => i_bin maxI (fun st => K (pc + len) lv st σ) st | false => False)
      | false, false => p_call C (Nat.beq (mRk a) 0) a b (fun _ => true) (fun st σ => K (pc + len) lv st σ) st σ)
    | .ireturn => p_ret rk (fun x => Q x σ) st
    | .return_ => p_rtv rk (Q 0 σ) st
    | _ => False)
def fnd (cd : List CE) (pc : Nat) : Option CE := match cd with
  | [] => none
  | q :: r => (match Nat.beq q.1 pc with | true => some q | false => fnd r pc)
def stC (sc : Nat × (Nat → Int32)) (C : CT) (rk : Nat) (cd : List CE) (Q : Int32 → St → Prop) (K : KT) : KT := fun pc lv st σ => match fnd cd pc with
  | some q => stp sc C rk Q K q lv st σ
  | none => False
/-- the least predicate closed under the steps -/
def Ex (sc : Nat × (Nat → Int32)) (C : CT) (rk : Nat) (cd : List CE) (Q : Int32 → St → Prop) : KT := fun pc lv st σ => ∀ X : KT, (∀ pc lv st σ, stC sc C rk cd Q X pc lv st σ → X pc lv st σ) → X pc lv st σ
/-- n steps, or fewer up to a cut -/
def wpn (sc : Nat × (Nat → Int32)) (C : CT) (rk : Nat) (cd : List CE) (cuts : List Nat) (Q : Int32 → St → Prop) (K : KT) : Nat → KT
  | 0 => K
  | n + 1 => fun pc lv st σ => (match cuts.any (fun c => Nat.beq c pc) with
    | true => K pc lv st σ
    | false => stC sc C rk cd Q (wpn sc C rk cd cuts Q K n) pc lv st σ)
def MonC (C : CT) : Prop := ∀ (k : Nat) (as : List Value) (σ : St) (Q Q' : Int32 → St → Prop), (∀ r σ', Q r σ' → Q' r σ') → C k as σ Q → C k as σ Q'
end
section
/-! the world of the cells, the frame's facts, the check of a code table -/
def cv (ad : Nat → Nat) (v : Value) : Value := match v with
  | .ref k => .ref (ad k)
  | w => w
theorem cv_cat (ad : Nat → Nat) (v : Value) : (cv ad v).category = v.category := by cases v <;> rfl
theorem cv_cats (ad : Nat → Nat) (st : List Value) : ((st.map (cv ad)).map fun v => v.category).sum = cats st := by
  unfold cats
  rw [List.map_map]
  congr 1
  exact List.map_congr_left (fun v _ => cv_cat ad v)
def prs (ad : Nat → Nat) (lv : LV) : List (Nat × Value) := lv.zipIdx.filterMap (fun q => q.1.map (fun v => (q.2, cv ad v)))
theorem prs_mem {ad : Nat → Nat} {lv : LV} {i : Nat} {w : Value} : (i, w) ∈ prs ad lv ↔ ∃ v, lv[i]? = some (some v) ∧ w = cv ad v := by
  unfold prs
  rw [List.mem_filterMap]
  constructor
  · rintro ⟨⟨o, j⟩, h1, h2⟩
    rw [List.mem_zipIdx_iff_getElem?] at h1
    cases o with
    | none => simp at h2
    | some v =>
      simp at h2
      obtain ⟨rfl, rfl⟩ := h2
      exact ⟨v, h1, rfl⟩
  · rintro ⟨v, h1, rfl⟩
    exact ⟨(some v, i), by rw [List.mem_zipIdx_iff_getElem?]; exact h1, rfl⟩
def LH (ad : Nat → Nat) (nL : Nat) (ls : Array Slot) (lv : LV) : Prop := lv.length = nL ∧ lv_has ls nL (prs ad lv)
theorem LH.at {ad : Nat → Nat} {nL : Nat} {ls : Array Slot} {lv : LV} (h : LH ad nL ls lv) {i : Nat} {v : Value} (hi : lv[i]? = some (some v)) : ls[i]? = some (.val (cv ad v)) := h.2.2.2 (i, cv ad v) (prs_mem.mpr ⟨v, hi, rfl⟩)
theorem LH.st1 {ad : Nat → Nat} {nL : Nat} {ls ls' : Array Slot} {lv : LV} (h : LH ad nL ls lv) {a : Nat} {v : Value} (hh : hitL lv a = false) (h' : lv_has ls' nL ((a, cv ad v) :: (prs ad lv).filter (fun q => !(q.1 == a) && !(q.1 + 1 == a && q.2.category == 2)))) : LH ad nL ls' (lv.set a (some v)) := by
  refine ⟨by rw [List.length_set]; exact h.1, h'.1, h'.2.1, ?_⟩
  rintro ⟨i, w⟩ hq
  apply h'.2.2
  obtain ⟨u, h1, rfl⟩ := prs_mem.mp hq
  by_cases hi : i = a
  · subst hi
    have hl : i < lv.length := by
      have := (List.getElem?_eq_some_iff.mp h1).1
      rwa [List.length_set] at this
    rw [List.getElem?_set_self hl] at h1
    cases h1
    exact List.mem_cons_self
  · rw [List.getElem?_set_ne (Ne.symm hi)] at h1
    refine List.mem_cons_of_mem _ (List.mem_filter.mpr ⟨prs_mem.mpr ⟨u, h1, rfl⟩, ?_⟩)
    by_cases hj : i + 1 = a
    · subst hj
      have h3 : isL lv[i]? = false := hh
      rw [h1] at h3
      cases u <;> simp_all [isL, cv, Value.category]
    · simp [hi, hj]
theorem LH.st2 {ad : Nat → Nat} {nL : Nat} {ls ls' : Array Slot} {lv : LV} (h : LH ad nL ls lv) {a : Nat} {x : Int64} (hh : hitL lv a = false) (h' : lv_has ls' nL ((a, Value.long x) :: (prs ad lv).filter (fun q => !(q.1 == a) && (!(q.1 == a + 1) && !(q.1 + 1 == a && q.2.category == 2))))) : LH ad nL ls' ((lv.set (a + 1) none).set a (some (.long x))) := by
  refine ⟨by rw [List.length_set, List.length_set]; exact h.1, h'.1, h'.2.1, ?_⟩
  rintro ⟨i, w⟩ hq
  apply h'.2.2
  obtain ⟨u, h1, rfl⟩ := prs_mem.mp hq
  by_cases hi : i = a
  · subst hi
    have hl : i < (lv.set (i + 1) none).length := by
      have := (List.getElem?_eq_some_iff.mp h1).1
      rwa [List.length_set] at this
    rw [List.getElem?_set_self hl] at h1
    cases h1
    exact List.mem_cons_self
  · rw [List.getElem?_set_ne (Ne.symm hi)] at h1
    have hi1 : i ≠ a + 1 := by
      intro e
      subst e
      have hl : a + 1 < lv.length := by
        have := (List.getElem?_eq_some_iff.mp h1).1
        rwa [List.length_set] at this
      rw [List.getElem?_set_self hl] at h1
      cases h1
    rw [List.getElem?_set_ne (Ne.symm hi1)] at h1
    refine List.mem_cons_of_mem _ (List.mem_filter.mpr ⟨prs_mem.mpr ⟨u, h1, rfl⟩, ?_⟩)
    by_cases hj : i + 1 = a
    · subst hj
      have h3 : isL lv[i]? = false := hh
      rw [h1] at h3
      cases u <;> simp_all [isL, cv, Value.category]
    · simp [hi, hj, hi1]
def fvl (ad : Nat → Nat) (σ : St) (c : Nat) (o : Option Nat) (k : Nat) : Value := match o with
  | some r => .ref (ad r)
  | none => .int (σ c k)
def obF (ad : Nat → Nat) (σ : St) (c : Nat) (fs : List (Option Nat)) : List Value := fs.zipIdx.map (fun q => fvl ad σ c q.1 q.2)
def ent (cI cZ : ClassId) (ad : Nat → Nat) (σ : St) (c : Nat) : va_E := match lay[c]? with
  | some (0, ci, fs) => .inr (ci, obF ad σ c fs)
  | some (1, n, _) => .inl (cI, n, .inl (σ c))
  | some (_, n, _) => .inl (cZ, n, .inl (σ c))
  | none => .inr (0, [])
def wW (cI cZ : ClassId) (ad : Nat → Nat) (σ : St) : va_W := (List.range 85).map (fun c => (ad c, ent cI cZ ad σ c))
theorem lay_len : lay.length = 85 := rfl
theorem lay_lt {c : Nat} {x : Ly} (h : lay[c]? = some x) : c < 85 := by
  have := (List.getElem?_eq_some_iff.mp h).1
  rwa [lay_len] at this
theorem wW_at {cI cZ : ClassId} {ad : Nat → Nat} {σ : St} {c : Nat} (h : c < 85) : (wW cI cZ ad σ)[c]? = some (ad c, ent cI cZ ad σ c) := by
  simp [wW, h]
theorem obF_at {ad : Nat → Nat} {σ : St} {c : Nat} {fs : List (Option Nat)} {k : Nat} {o : Option Nat} (h : fs[k]? = some o) : (obF ad σ c fs)[k]? = some (fvl ad σ c o k) := by
  simp [obF, h]
theorem obF_len {ad : Nat → Nat} {σ : St} {c : Nat} {fs : List (Option Nat)} : (obF ad σ c fs).length = fs.length := by simp [obF]
theorem up_self (σ : St) (c i : Nat) (v : Int32) : up σ c i v c = upd (σ c) i v := by simp [up]
theorem up_ne (σ : St) {c c' : Nat} (i : Nat) (v : Int32) (h : c' ≠ c) : up σ c i v c' = σ c' := by simp [up, h]
theorem obF_set {ad : Nat → Nat} {σ : St} {c : Nat} {fs : List (Option Nat)} {k : Nat} {v : Int32} (h : fs[k]? = some none) : (obF ad σ c fs).set k (.int v) = obF ad (up σ c k v) c fs := by
  apply List.ext_getElem?
  intro j
  have hk := (List.getElem?_eq_some_iff.mp h).1
  by_cases hj : j = k
  · subst hj
    rw [List.getElem?_set_self (by rw [obF_len]; exact hk), obF_at h]
    simp [fvl, up_self, upd]
  · rw [List.getElem?_set_ne (Ne.symm hj)]
    cases ho : fs[j]? with
    | none =>
      have h1 : fs.length ≤ j := List.getElem?_eq_none_iff.mp ho
      rw [List.getElem?_eq_none (by rw [obF_len]; exact h1), List.getElem?_eq_none (by rw [obF_len]; exact h1)]
    | some o =>
      rw [obF_at ho, obF_at ho]
      cases o with
      | none => simp [fvl, up_self, upd, hj]
      | some r => rfl
theorem ent_congr {cI cZ : ClassId} {ad : Nat → Nat} {σ σ' : St} {c : Nat} (h : σ c = σ' c) : ent cI cZ ad σ c = ent cI cZ ad σ' c := by
  unfold ent
  split <;> first | rfl | (simp [obF, fvl, h]; done) | (rw [h])
theorem wW_set {cI cZ : ClassId} {ad : Nat → Nat} {σ : St} {c i : Nat} {v : Int32} {e : va_E} (hc : c < 85) (he : e = ent cI cZ ad (up σ c i v) c) : (wW cI cZ ad σ).set c (ad c, e) = wW cI cZ ad (up σ c i v) := by
  apply List.ext_getElem?
  intro j
  have hlen : (wW cI cZ ad σ).length = 85 := by simp [wW]
  by_cases hj : j = c
  · subst hj
    rw [List.getElem?_set_self (by rw [hlen]; exact hc), wW_at hc, he]
  · rw [List.getElem?_set_ne (Ne.symm hj)]
    by_cases hl : j < 85
    · rw [wW_at hl, wW_at hl, ent_congr (up_ne σ i v hj).symm]
    · rw [List.getElem?_eq_none (by rw [hlen]; omega), List.getElem?_eq_none (by simp [wW]; omega)]
def TB : List Cond := lw_tbl.filter goodWord
theorem tb_of {i : Nat} {w : Cond} (h : lw_tbl[i]? = some w) (hg : goodWord w = true) : w ∈ TB := List.mem_filter.mpr ⟨List.mem_of_getElem? h, hg⟩
theorem tb_good : GoodIn TB TB := fun w h => ⟨h, good_of_word (List.mem_filter.mp h).2⟩
theorem cls_at {c : Nat} (h : c < 13) : cls[c]? = some (cn c, FT c, NF c) := by simp [cls, h]
theorem all_rg {n : Nat} {f : Nat → Bool} (h : ((List.range n).all f) = true) {k : Nat} (hk : k < n) : f k = true := List.all_eq_true.mp h k (List.mem_range.mpr hk)
theorem u_in {c : Nat} (hc : c < 13) : ∀ w ∈ u_ws (cn c) (FT c) (NF c), w ∈ TB := by
  intro w hw
  obtain ⟨k, hk, rfl⟩ := List.mem_map.mp hw
  have h := all_rg (all_rg fpl_ok hc) (List.mem_range.mp hk)
  refine tb_of (of_decide_eq_true h) ?_
  unfold u_lay
  split <;> rfl
theorem ty_in {c : Nat} (hc : c < 13) : ∀ k, k < NF c → parseFieldDescriptor (FT c k).2.2.1 = some (fty c k) := fun k hk => of_decide_eq_true (all_rg (all_rg fty_ok hc) hk)
theorem nm_in {c : Nat} (hc : c < 13) : ∀ a, a < NF c → ∀ b, b < NF c → a ≠ b → (FT c a).2.1 ≠ (FT c b).2.1 := fun a ha b hb hab => (of_decide_eq_true (all_rg (all_rg (all_rg fnm_ok hc) ha) hb)).resolve_left hab
theorem mOk_all {k : Nat} (h : k < NM) : mOk k = true := by
  have h' : k < 195 := h
  rcases Nat.lt_or_ge k 20 with q | q
  · have := all_rg mOk_0 (k := k) (by omega); rwa [Nat.zero_add] at this
  rcases Nat.lt_or_ge k 40 with q2 | q2
  · have := all_rg mOk_1 (k := k - 20) (by omega); rwa [show 20 + (k - 20) = k by omega] at this
  rcases Nat.lt_or_ge k 60 with q3 | q3
  · have := all_rg mOk_2 (k := k - 40) (by omega); rwa [show 40 + (k - 40) = k by omega] at this
  rcases Nat.lt_or_ge k 80 with q4 | q4
  · have := all_rg mOk_3 (k := k - 60) (by omega); rwa [show 60 + (k - 60) = k by omega] at this
  rcases Nat.lt_or_ge k 100 with q5 | q5
  · have := all_rg mOk_4 (k := k - 80) (by omega); rwa [show 80 + (k - 80) = k by omega] at this
  rcases Nat.lt_or_ge k 120 with q6 | q6
  · have := all_rg mOk_5 (k := k - 100) (by omega); rwa [show 100 + (k - 100) = k by omega] at this
  rcases Nat.lt_or_ge k 140 with q7 | q7
  · have := all_rg mOk_6 (k := k - 120) (by omega); rwa [show 120 + (k - 120) = k by omega] at this
  rcases Nat.lt_or_ge k 160 with q8 | q8
  · have := all_rg mOk_7 (k := k - 140) (by omega); rwa [show 140 + (k - 140) = k by omega] at this
  rcases Nat.lt_or_ge k 180 with q9 | q9
  · have := all_rg mOk_8 (k := k - 160) (by omega); rwa [show 160 + (k - 160) = k by omega] at this
  · have := all_rg mOk_9 (k := k - 180) (by omega); rwa [show 180 + (k - 180) = k by omega] at this
/-- words of nest mates: they hold at every state of the run, but aren't steady words -/
def nwF0 : Cond := .fieldLinkNest "TradeTests$Vehicles" 25 "TradeTests" "DUE_DAYS" "[I" "TradeTests"
def nwF1 : Cond := .fieldLinkNest "TradeTests$Signals" 81 "TradeTests" "FAIR_MINUTES" "[I" "TradeTests"
def nwM0 : Cond := .methodLinkNest "TradeTests$Texts" 68 (mY 5) "TradeTests"
def nwM1 : Cond := .methodLinkNest "TradeTests$Penalties" 34 (mY 1) "TradeTests"
def Nws (U : State) : Prop := va_Nw nwF0 U ∧ va_Nw nwF1 U ∧ va_Nw nwM0 U ∧ va_Nw nwM1 U
theorem Nws.warm {s U : State} (hW : s.WarmedH U.vm) (h : Nws s) : Nws U := ⟨va_Nw.warmF hW h.1, va_Nw.warmF hW h.2.1, va_Nw.warmM hW h.2.2.1, va_Nw.warmM hW h.2.2.2⟩
theorem Nws.same {s U : State} (hv : s.vm = U.vm) (h : Nws s) : Nws U := ⟨va_Nw.same rfl hv h.1, va_Nw.same rfl hv h.2.1, va_Nw.same rfl hv h.2.2.1, va_Nw.same rfl hv h.2.2.2⟩
def ADA (ad : Nat → Nat) : Nat → Prop := fun q => ∃ c, c < 85 ∧ q = ad c
/-- what a frame knows beside its cells: at the state U, with the heap H -/
def Ctx (dC : Nat → ClassId) (dI : Nat → Nat → Nat) (cI cZ : ClassId) (ad : Nat → Nat) (sc : Nat × (Nat → Int32)) (A : Nat → Prop) (U : State) (H : Heap) : Prop :=
  va_K (dC, dI) cls [(cI, .int), (cZ, .boolean)] U ∧ Nws U ∧ (∀ j, j < 3 → va_Z (sC j) (sM j) "[I" (.ref (ad (1000 + j))) A U H) ∧ ∀ c q, sAr sc c = some q → va_T .int (ad c) q.1 (fun j => .int (q.2 j)) A U H
theorem Ctx.moved {dC : Nat → ClassId} {dI : Nat → Nat → Nat} {cI cZ : ClassId} {ad : Nat → Nat} {sc : Nat × (Nat → Int32)} {A B : Nat → Prop} {s U : State} {H : Heap} {locs : List Loc} (h : Ctx dC dI cI cZ ad sc A s s.heap) (hW : s.WarmedH U.vm) (hS : va_S A s.heap H locs) (hAB : ∀ q, B q → A q) (hU : U.heap = H) : Ctx dC dI cI cZ ad sc B U U.heap := by
  obtain ⟨h1, h2, h3, h4⟩ := h
  refine ⟨va_K.moved hW.alike h1, h2.warm hW, fun j hj => ?_, fun c q hq => ?_⟩
  · rw [hU]
    exact (((h3 j hj).kept hS.2.1).moved hW.alike).narrow hAB
  · rw [hU]
    exact (((h4 c q hq).kept hS.2.1).moved hW.alike).narrow hAB
def rmD (d : Nat) : Room := { frames := d, cells := 0, slots := 0, locals := 28 * d }
def wkK (k : Nat) : List Cond := .code (mY k) (mB k) (mL k) (mR k) :: TB
/-- the world of a contract -/
def WB (dC : Nat → ClassId) (dI : Nat → Nat → Nat) (cI cZ : ClassId) (ad : Nat → Nat) (sc : Nat × (Nat → Int32)) (σ : St) (U : State) : Prop :=
  va_P (dC, dI) cls (wW cI cZ ad σ) U.heap ∧ va_D (ADA ad) (wW cI cZ ad σ) ∧ Ctx dC dI cI cZ ad sc (ADA ad) U U.heap
/-- a contract's end -/
def QcK (dC : Nat → ClassId) (dI : Nat → Nat → Nat) (cI cZ : ClassId) (ad : Nat → Nat) (sc : Nat × (Nat → Int32)) (k : Nat) (Q : Int32 → St → Prop) : Array Value → State → Outcome → State → Prop :=
  match Nat.beq (mRk k) 0 with
  | true => va_Qv (fun σ' => Q 0 σ') (WB dC dI cI cZ ad sc) (ADA ad)
  | false => va_Qi Q (WB dC dI cI cZ ad sc) (ADA ad)
def MetK (l : Launch) (dC : Nat → ClassId) (dI : Nat → Nat → Nat) (cI cZ : ClassId) (ad : Nat → Nat) (sc : Nat × (Nat → Int32)) (C : CT) (k d : Nat) : Prop :=
  ∀ (as : List Value) (σ : St) (Q : Int32 → St → Prop), C k as σ Q → Met l (mY k) (wkK k) (rmD d) (va_Pc (as.map (cv ad)) (WB dC dI cI cZ ad sc σ)) (QcK dC dI cI cZ ad sc k Q) 0 0 (ADA ad)
/-- the check of a row of code -/
def okI (own nL pc len : Nat) (ins : Instr) (imm : Int32) (a b d : Nat) (sw : List (Int32 × Nat)) : Bool := match ins with
  | .iconst n => decide (len = 1 ∧ Int32.ofInt n = imm)
  | .bipush n => decide (len = 2 ∧ (Int8.ofInt n).toInt32 = imm)
  | .sipush n => decide (len = 3 ∧ (Int16.ofInt n).toInt32 = imm)
  | .ldc i => decide (len = 2) && kct.any (fun q => decide (q.1 = own ∧ q.2.1 = i ∧ q.2.2.1 = imm))
  | .ldc_w i => decide (len = 3) && kct.any (fun q => decide (q.1 = own ∧ q.2.1 = i ∧ q.2.2.1 = imm))
  | .lconst n => decide (len = 1 ∧ Int64.ofNat (n : Nat) = imm.toInt64)
  | .ldc2_w i => decide (len = 3 ∧ own = 12 ∧ i = 233 ∧ imm = 1000)
  | .iload_n n => decide (len = 1 ∧ (n : Nat) = a)
  | .iload i => decide (len = 2 ∧ i = a)
  | .aload_n n => decide (len = 1 ∧ (n : Nat) = a)
  | .aload i => decide (len = 2 ∧ i = a)
  | .lload_n n => decide (len = 1 ∧ (n : Nat) = a)
  | .lload i => decide (len = 2 ∧ i = a)
  | .istore_n n => decide (len = 1 ∧ (n : Nat) = a ∧ a < nL)
  | .istore i => decide (len = 2 ∧ i = a ∧ a < nL)
  | .astore_n n => decide (len = 1 ∧ (n : Nat) = a ∧ a < nL)
  | .astore i => decide (len = 2 ∧ i = a ∧ a < nL)
  | .lstore_n n => decide (len = 1 ∧ (n : Nat) = a ∧ a + 1 < nL)
  | .lstore i => decide (len = 2 ∧ i = a ∧ a + 1 < nL)
  | .iinc i n => decide (len = 3 ∧ i = a ∧ a < nL ∧ Int32.ofInt n = imm)
  | .goto o => decide (len = 3 ∧ (pc : Int) + o = (a : Int))
  | .ifCond _ o => decide (len = 3 ∧ (pc : Int) + o = (a : Int))
  | .if_icmp _ o => decide (len = 3 ∧ (pc : Int) + o = (a : Int))
  | .tableswitch f lo hi os => decide ((pc : Int) + f = (a : Int) ∧ lo = 0 ∧ hi + 1 = (os.size : Int) ∧ os.size < 1000 ∧ sw.length = os.size) && (List.range os.size).all (fun j => decide ((sw.getD j (0, 0)).1 = Int32.ofNat j ∧ (pc : Int) + os.getD j 0 = ((sw.getD j (0, 0)).2 : Int)))
  | .lookupswitch f ps => decide ((pc : Int) + f = (a : Int) ∧ (ps.toList.zip (ps.toList.drop 1)).all (fun (x, next) => x.1 < next.1) = true ∧ ps.toList.map (fun q => (q.1, (pc : Int) + q.2)) = sw.map (fun q => (q.1.toInt, (q.2 : Int))))
  | .getfield i => decide (len = 3) && (match flt[d]? with | some q => decide (q.1 = own ∧ q.2.1 = i ∧ q.2.2.1 = a ∧ q.2.2.2.1 = b) | none => false)
  | .putfield i => decide (len = 3) && (match flt[d]? with | some q => decide (q.1 = own ∧ q.2.1 = i ∧ q.2.2.1 = a ∧ q.2.2.2.1 = b ∧ (FT a b).2.2.2 = false ∧ fty a b = .int) | none => false)
  | .getstatic i => decide (len = 3 ∧ ((own = 1 ∧ i = 25 ∧ a = 0) ∨ (own = 6 ∧ i = 81 ∧ a = 1) ∨ (own = 10 ∧ i = 38 ∧ a = 2)))
  | .invokevirtual i => decide (len = 3 ∧ a < NM ∧ mS a = 0 ∧ b = mA a ∧ d = mO a ∧ a ≠ 53 ∧ a ≠ 106) && mlt.any (fun q => decide (q.1 = own ∧ q.2.1 = i ∧ q.2.2.1 = a))
  | .invokestatic i => decide (len = 3 ∧ a < NM ∧ mS a = 1 ∧ b = mA a ∧ ((d = 53 ∧ a = 53 ∧ own = 6 ∧ i = 67) ∨ (d = 106 ∧ a = 106 ∧ own = 11 ∧ i = 94) ∨ (d = 0 ∧ a ≠ 53 ∧ a ≠ 106) ∨ (d = 1 ∧ own = 4 ∧ i = 68 ∧ a = 5) ∨ (d = 1 ∧ own = 10 ∧ i = 34 ∧ a = 1))) && (Nat.beq d 1 || mlt.any (fun q => decide (q.1 = own ∧ q.2.1 = i ∧ q.2.2.1 = a)))
  | _ => decide (len = 1)
def okCE (own nL : Nat) (cc : ByteArray) (q : CE) : Bool := match q with
  | (pc, len, ins, imm, a, b, d, sw) => decide (decode cc pc = .ok (ins, len)) && okI own nL pc len ins imm a b d sw
end
section
/-! monotone in what comes behind -/
theorem i_un_mono {f : Int32 → Int32} {K K' : List Value → Prop} {st : List Value} (hK : ∀ st, K st → K' st) (h : i_un f K st) : i_un f K' st := by
  unfold i_un at *; split at h <;> first | exact hK _ h | exact h.elim
theorem i_bin_mono {f : Int32 → Int32 → Int32} {K K' : List Value → Prop} {st : List Value} (hK : ∀ st, K st → K' st) (h : i_bin f K st) : i_bin f K' st := by
  unfold i_bin at *; split at h <;> first | exact hK _ h | exact h.elim
theorem i_div_mono {f : Int32 → Int32 → Int32} {K K' : List Value → Prop} {st : List Value} (hK : ∀ st, K st → K' st) (h : i_div f K st) : i_div f K' st := by
  unfold i_div at *; split at h <;> first | exact ⟨h.1, hK _ h.2⟩ | exact h.elim
theorem l_bin_mono {f : Int64 → Int64 → Int64} {K K' : List Value → Prop} {st : List Value} (hK : ∀ st, K st → K' st) (h : l_bin f K st) : l_bin f K' st := by
  unfold l_bin at *; split at h <;> first | exact hK _ h | exact h.elim
theorem l_div_mono {f : Int64 → Int64 → Int64} {K K' : List Value → Prop} {st : List Value} (hK : ∀ st, K st → K' st) (h : l_div f K st) : l_div f K' st := by
  unfold l_div at *; split at h <;> first | exact ⟨h.1, hK _ h.2⟩ | exact h.elim
theorem l_cmp_mono {K K' : List Value → Prop} {st : List Value} (hK : ∀ st, K st → K' st) (h : l_cmp K st) : l_cmp K' st := by
  unfold l_cmp at *; split at h <;> first | exact hK _ h | exact h.elim
theorem c_i2l_mono {K K' : List Value → Prop} {st : List Value} (hK : ∀ st, K st → K' st) (h : c_i2l K st) : c_i2l K' st := by
  unfold c_i2l at *; split at h <;> first | exact hK _ h | exact h.elim
theorem c_l2i_mono {K K' : List Value → Prop} {st : List Value} (hK : ∀ st, K st → K' st) (h : c_l2i K st) : c_l2i K' st := by
  unfold c_l2i at *; split at h <;> first | exact hK _ h | exact h.elim
theorem i_if_mono {B : Int32 → Prop} {T T' F F' : List Value → Prop} {st : List Value} (hT : ∀ st, T st → T' st) (hF : ∀ st, F st → F' st) (h : i_if B T F st) : i_if B T' F' st := by
  unfold i_if at *; split at h <;> first | exact ⟨fun z => hT _ (h.1 z), fun z => hF _ (h.2 z)⟩ | exact h.elim
theorem i_ne_mono {T T' F F' : List Value → Prop} {st : List Value} (hT : ∀ st, T st → T' st) (hF : ∀ st, F st → F' st) (h : i_ne T F st) : i_ne T' F' st := by
  unfold i_ne at *; split at h <;> first | exact ⟨fun z => hT _ (h.1 z), fun z => hF _ (h.2 z)⟩ | exact h.elim
theorem i_cmp_mono {B : Int32 → Int32 → Prop} {T T' F F' : List Value → Prop} {st : List Value} (hT : ∀ st, T st → T' st) (hF : ∀ st, F st → F' st) (h : i_cmp B T F st) : i_cmp B T' F' st := by
  unfold i_cmp at *; split at h <;> first | exact ⟨fun z => hT _ (h.1 z), fun z => hF _ (h.2 z)⟩ | exact h.elim
theorem i_cne_mono {T T' F F' : List Value → Prop} {st : List Value} (hT : ∀ st, T st → T' st) (hF : ∀ st, F st → F' st) (h : i_cne T F st) : i_cne T' F' st := by
  unfold i_cne at *; split at h <;> first | exact ⟨fun z => hT _ (h.1 z), fun z => hF _ (h.2 z)⟩ | exact h.elim
theorem p_ldi_mono {lv : LV} {a : Nat} {K K' : Value → Prop} (hK : ∀ v, K v → K' v) (h : p_ldi lv a K) : p_ldi lv a K' := by
  unfold p_ldi at *; split at h <;> first | exact hK _ h | exact h.elim
theorem p_lda_mono {lv : LV} {a : Nat} {K K' : Value → Prop} (hK : ∀ v, K v → K' v) (h : p_lda lv a K) : p_lda lv a K' := by
  unfold p_lda at *; split at h <;> first | exact hK _ h | exact h.elim
theorem p_ldl_mono {lv : LV} {a : Nat} {K K' : Value → Prop} (hK : ∀ v, K v → K' v) (h : p_ldl lv a K) : p_ldl lv a K' := by
  unfold p_ldl at *; split at h <;> first | exact hK _ h | exact h.elim
theorem p_sti_mono {lv : LV} {a : Nat} {K K' : LV → List Value → Prop} {st : List Value} (hK : ∀ lv st, K lv st → K' lv st) (h : p_sti lv a K st) : p_sti lv a K' st := by
  unfold p_sti at *; split at h
  · split at h
    · exact h.elim
    · exact hK _ _ h
  · exact h.elim
theorem p_sta_mono {lv : LV} {a : Nat} {K K' : LV → List Value → Prop} {st : List Value} (hK : ∀ lv st, K lv st → K' lv st) (h : p_sta lv a K st) : p_sta lv a K' st := by
  unfold p_sta at *; split at h
  · split at h
    · exact h.elim
    · exact hK _ _ h
  · exact h.elim
theorem p_stl_mono {lv : LV} {a : Nat} {K K' : LV → List Value → Prop} {st : List Value} (hK : ∀ lv st, K lv st → K' lv st) (h : p_stl lv a K st) : p_stl lv a K' st := by
  unfold p_stl at *; split at h
  · split at h
    · exact h.elim
    · exact hK _ _ h
  · exact h.elim
theorem p_inc_mono {lv : LV} {a : Nat} {n : Int32} {K K' : LV → Prop} (hK : ∀ lv, K lv → K' lv) (h : p_inc lv a n K) : p_inc lv a n K' := by
  unfold p_inc at *; split at h
  · split at h
    · exact h.elim
    · exact hK _ h
  · exact h.elim
theorem p_iald_mono {sc : Nat × (Nat → Int32)} {K K' : List Value → Prop} {st : List Value} {σ : St} (hK : ∀ st, K st → K' st) (h : p_iald sc K st σ) : p_iald sc K' st σ := by
  unfold p_iald at *; split at h
  · split at h
    · exact ⟨h.1, hK _ h.2⟩
    · exact h.elim
    · split at h
      · exact ⟨h.1, hK _ h.2⟩
      · exact h.elim
  · exact h.elim
theorem p_zald_mono {K K' : List Value → Prop} {st : List Value} {σ : St} (hK : ∀ st, K st → K' st) (h : p_zald K st σ) : p_zald K' st σ := by
  unfold p_zald at *; split at h
  · split at h
    · exact ⟨h.1, hK _ h.2⟩
    · exact h.elim
  · exact h.elim
theorem p_iast_mono {K K' : List Value → St → Prop} {st : List Value} {σ : St} (hK : ∀ st σ, K st σ → K' st σ) (h : p_iast K st σ) : p_iast K' st σ := by
  unfold p_iast at *; split at h
  · split at h
    · exact ⟨h.1, hK _ _ h.2⟩
    · exact h.elim
  · exact h.elim
theorem p_zast_mono {K K' : List Value → St → Prop} {st : List Value} {σ : St} (hK : ∀ st σ, K st σ → K' st σ) (h : p_zast K st σ) : p_zast K' st σ := by
  unfold p_zast at *; split at h
  · split at h
    · exact ⟨h.1, h.2.1, hK _ _ h.2.2⟩
    · exact h.elim
  · exact h.elim
theorem p_len_mono {sc : Nat × (Nat → Int32)} {K K' : List Value → Prop} {st : List Value} (hK : ∀ st, K st → K' st) (h : p_len sc K st) : p_len sc K' st := by
  unfold p_len at *; split at h
  · split at h
    · exact h.elim
    · split at h
      · exact hK _ h
      · exact h.elim
  · exact h.elim
theorem p_get_mono {ci k : Nat} {K K' : List Value → Prop} {st : List Value} {σ : St} (hK : ∀ st, K st → K' st) (h : p_get ci k K st σ) : p_get ci k K' st σ := by
  unfold p_get at *; split at h
  · split at h
    · split at h
      · split at h
        · exact hK _ h
        · exact hK _ h
        · exact h.elim
      · exact h.elim
    · exact h.elim
  · exact h.elim
theorem p_put_mono {ci k : Nat} {K K' : List Value → St → Prop} {st : List Value} {σ : St} (hK : ∀ st σ, K st σ → K' st σ) (h : p_put ci k K st σ) : p_put ci k K' st σ := by
  unfold p_put at *; split at h
  · split at h
    · split at h
      · split at h
        · exact hK _ _ h
        · exact h.elim
      · exact h.elim
    · exact h.elim
  · exact h.elim
theorem p_sw_mono {x : Int32} {K K' : Nat → Prop} (hK : ∀ t, K t → K' t) {a : Nat} : ∀ {sw : List (Int32 × Nat)}, p_sw sw x K a → p_sw sw x K' a
  | [], h => hK _ h
  | _ :: _, h => ⟨fun z => hK _ (h.1 z), fun z => p_sw_mono hK (h.2 z)⟩
theorem p_swi_mono {sw : List (Int32 × Nat)} {K K' : Nat → List Value → Prop} {a : Nat} {st : List Value} (hK : ∀ t st, K t st → K' t st) (h : p_swi sw K a st) : p_swi sw K' a st := by
  unfold p_swi at *; split at h
  · exact p_sw_mono (fun t => hK t _) h
  · exact h.elim
theorem p_dup_mono {K K' : List Value → Prop} {st : List Value} (hK : ∀ st, K st → K' st) (h : p_dup K st) : p_dup K' st := by
  unfold p_dup at *; split at h
  · split at h
    · exact hK _ h
    · exact h.elim
  · exact h.elim
theorem p_dup2_mono {K K' : List Value → Prop} {st : List Value} (hK : ∀ st, K st → K' st) (h : p_dup2 K st) : p_dup2 K' st := by
  unfold p_dup2 at *; split at h
  · split at h
    · exact hK _ h
    · exact h.elim
  · exact h.elim
theorem p_pop_mono {K K' : List Value → Prop} {st : List Value} (hK : ∀ st, K st → K' st) (h : p_pop K st) : p_pop K' st := by
  unfold p_pop at *; split at h
  · split at h
    · exact hK _ h
    · exact h.elim
  · exact h.elim
theorem p_call_mono {C : CT} (hC : MonC C) {vd : Bool} {a b : Nat} {ok : List Value → Bool} {K K' : List Value → St → Prop} {st : List Value} {σ : St} (hK : ∀ st σ, K st σ → K' st σ) (h : p_call C vd a b ok K st σ) : p_call C vd a b ok K' st σ := by
  unfold p_call at *; split at h
  · exact hC _ _ _ _ _ (fun r σ' z => hK _ _ z) h
  · exact h.elim
theorem p_ret_mono {rk : Nat} {Q Q' : Int32 → Prop} {st : List Value} (hQ : ∀ x, Q x → Q' x) (h : p_ret rk Q st) : p_ret rk Q' st := by
  unfold p_ret at *; split at h
  · split at h
    · exact h.elim
    · exact hQ _ h
    · exact ⟨h.1, hQ _ h.2⟩
  · exact h.elim
theorem p_rtv_mono {rk : Nat} {Q Q' : Prop} {st : List Value} (hQ : Q → Q') (h : p_rtv rk Q st) : p_rtv rk Q' st := by
  unfold p_rtv at *; split at h
  · split at h
    · exact hQ h
    · exact h.elim
  · exact h.elim
set_option maxHeartbeats 4000000 in
theorem stp_mono {sc : Nat × (Nat → Int32)} {C : CT} {rk : Nat} {Q Q' : Int32 → St → Prop} {K K' : KT} {q : CE} {lv : LV} {st : List Value} {σ : St} (hC : MonC C) (hQ : ∀ r σ, Q r σ → Q' r σ) (hK : ∀ pc lv st σ, K pc lv st σ → K' pc lv st σ) (h : stp sc C rk Q K q lv st σ) : stp sc C rk Q' K' q lv st σ := by
  obtain ⟨pc, len, ins, imm, a, b, d, sw⟩ := q
  cases ins with
  | iconst n => exact hK _ _ _ _ h
  | bipush n => exact hK _ _ _ _ h
  | sipush n => exact hK _ _ _ _ h
  | ldc n => exact hK _ _ _ _ h
  | ldc_w n => exact hK _ _ _ _ h
  | lconst n => exact hK _ _ _ _ h
  | ldc2_w n => exact hK _ _ _ _ h
  | iload_n n => (unfold stp at h ⊢; dsimp only at h ⊢; exact p_ldi_mono (fun v => hK _ _ _ _) h)
  | iload n => (unfold stp at h ⊢; dsimp only at h ⊢; exact p_ldi_mono (fun v => hK _ _ _ _) h)
  | aload_n n => (unfold stp at h ⊢; dsimp only at h ⊢; exact p_lda_mono (fun v => hK _ _ _ _) h)
  | aload n => (unfold stp at h ⊢; dsimp only at h ⊢; exact p_lda_mono (fun v => hK _ _ _ _) h)
  | lload_n n => (unfold stp at h ⊢; dsimp only at h ⊢; exact p_ldl_mono (fun v => hK _ _ _ _) h)
  | lload n => (unfold stp at h ⊢; dsimp only at h ⊢; exact p_ldl_mono (fun v => hK _ _ _ _) h)
  | istore_n n => (unfold stp at h ⊢; dsimp only at h ⊢; exact p_sti_mono (fun lv st => hK _ _ _ _) h)
  | istore n => (unfold stp at h ⊢; dsimp only at h ⊢; exact p_sti_mono (fun lv st => hK _ _ _ _) h)
  | astore_n n => (unfold stp at h ⊢; dsimp only at h ⊢; exact p_sta_mono (fun lv st => hK _ _ _ _) h)
  | astore n => (unfold stp at h ⊢; dsimp only at h ⊢; exact p_sta_mono (fun lv st => hK _ _ _ _) h)
  | lstore_n n => (unfold stp at h ⊢; dsimp only at h ⊢; exact p_stl_mono (fun lv st => hK _ _ _ _) h)
  | lstore n => (unfold stp at h ⊢; dsimp only at h ⊢; exact p_stl_mono (fun lv st => hK _ _ _ _) h)
  | iinc i n => (unfold stp at h ⊢; dsimp only at h ⊢; exact p_inc_mono (fun lv => hK _ _ _ _) h)
  | iadd => (unfold stp at h ⊢; dsimp only at h ⊢; exact i_bin_mono (fun st => hK _ _ _ _) h)
  | isub => (unfold stp at h ⊢; dsimp only at h ⊢; exact i_bin_mono (fun st => hK _ _ _ _) h)
  | imul => (unfold stp at h ⊢; dsimp only at h ⊢; exact i_bin_mono (fun st => hK _ _ _ _) h)
  | iand => (unfold stp at h ⊢; dsimp only at h ⊢; exact i_bin_mono (fun st => hK _ _ _ _) h)
  | ior => (unfold stp at h ⊢; dsimp only at h ⊢; exact i_bin_mono (fun st => hK _ _ _ _) h)
  | ixor => (unfold stp at h ⊢; dsimp only at h ⊢; exact i_bin_mono (fun st => hK _ _ _ _) h)
  | ishl => (unfold stp at h ⊢; dsimp only at h ⊢; exact i_bin_mono (fun st => hK _ _ _ _) h)
  | ishr => (unfold stp at h ⊢; dsimp only at h ⊢; exact i_bin_mono (fun st => hK _ _ _ _) h)
  | iushr => (unfold stp at h ⊢; dsimp only at h ⊢; exact i_bin_mono (fun st => hK _ _ _ _) h)
  | idiv => (unfold stp at h ⊢; dsimp only at h ⊢; exact i_div_mono (fun st => hK _ _ _ _) h)
  | irem => (unfold stp at h ⊢; dsimp only at h ⊢; exact i_div_mono (fun st => hK _ _ _ _) h)
  | ineg => (unfold stp at h ⊢; dsimp only at h ⊢; exact i_un_mono (fun st => hK _ _ _ _) h)
  | lsub => (unfold stp at h ⊢; dsimp only at h ⊢; exact l_bin_mono (fun st => hK _ _ _ _) h)
  | lmul => (unfold stp at h ⊢; dsimp only at h ⊢; exact l_bin_mono (fun st => hK _ _ _ _) h)
  | ldiv => (unfold stp at h ⊢; dsimp only at h ⊢; exact l_div_mono (fun st => hK _ _ _ _) h)
  | lcmp => (unfold stp at h ⊢; dsimp only at h ⊢; exact l_cmp_mono (fun st => hK _ _ _ _) h)
  | i2l => (unfold stp at h ⊢; dsimp only at h ⊢; exact c_i2l_mono (fun st => hK _ _ _ _) h)
  | l2i => (unfold stp at h ⊢; dsimp only at h ⊢; exact c_l2i_mono (fun st => hK _ _ _ _) h)
  | dup => (unfold stp at h ⊢; dsimp only at h ⊢; exact p_dup_mono (fun st => hK _ _ _ _) h)
  | dup2 => (unfold stp at h ⊢; dsimp only at h ⊢; exact p_dup2_mono (fun st => hK _ _ _ _) h)
  | pop => (unfold stp at h ⊢; dsimp only at h ⊢; exact p_pop_mono (fun st => hK _ _ _ _) h)
  | goto o => exact hK _ _ _ _ h
  | ifCond cc o =>
    cases cc with
    | eq => (unfold stp at h ⊢; dsimp only at h ⊢; exact i_if_mono (fun st => hK _ _ _ _) (fun st => hK _ _ _ _) h)
    | ne => (unfold stp at h ⊢; dsimp only at h ⊢; exact i_ne_mono (fun st => hK _ _ _ _) (fun st => hK _ _ _ _) h)
    | lt => (unfold stp at h ⊢; dsimp only at h ⊢; exact i_if_mono (fun st => hK _ _ _ _) (fun st => hK _ _ _ _) h)
    | ge => (unfold stp at h ⊢; dsimp only at h ⊢; exact i_if_mono (fun st => hK _ _ _ _) (fun st => hK _ _ _ _) h)
    | gt => (unfold stp at h ⊢; dsimp only at h ⊢; exact i_if_mono (fun st => hK _ _ _ _) (fun st => hK _ _ _ _) h)
    | le => (unfold stp at h ⊢; dsimp only at h ⊢; exact i_if_mono (fun st => hK _ _ _ _) (fun st => hK _ _ _ _) h)
  | if_icmp cc o =>
    cases cc with
    | eq => (unfold stp at h ⊢; dsimp only at h ⊢; exact i_cmp_mono (fun st => hK _ _ _ _) (fun st => hK _ _ _ _) h)
    | ne => (unfold stp at h ⊢; dsimp only at h ⊢; exact i_cne_mono (fun st => hK _ _ _ _) (fun st => hK _ _ _ _) h)
    | lt => (unfold stp at h ⊢; dsimp only at h ⊢; exact i_cmp_mono (fun st => hK _ _ _ _) (fun st => hK _ _ _ _) h)
    | ge => (unfold stp at h ⊢; dsimp only at h ⊢; exact i_cmp_mono (fun st => hK _ _ _ _) (fun st => hK _ _ _ _) h)
    | gt => (unfold stp at h ⊢; dsimp only at h ⊢; exact i_cmp_mono (fun st => hK _ _ _ _) (fun st => hK _ _ _ _) h)
    | le => (unfold stp at h ⊢; dsimp only at h ⊢; exact i_cmp_mono (fun st => hK _ _ _ _) (fun st => hK _ _ _ _) h)
  | tableswitch f lo hi os => (unfold stp at h ⊢; dsimp only at h ⊢; exact p_swi_mono (fun t st => hK _ _ _ _) h)
  | lookupswitch f ps => (unfold stp at h ⊢; dsimp only at h ⊢; exact p_swi_mono (fun t st => hK _ _ _ _) h)
  | iaload => (unfold stp at h ⊢; dsimp only at h ⊢; exact p_iald_mono (fun st => hK _ _ _ _) h)
  | baload => (unfold stp at h ⊢; dsimp only at h ⊢; exact p_zald_mono (fun st => hK _ _ _ _) h)
  | iastore => (unfold stp at h ⊢; dsimp only at h ⊢; exact p_iast_mono (fun st σ => hK _ _ _ _) h)
  | bastore => (unfold stp at h ⊢; dsimp only at h ⊢; exact p_zast_mono (fun st σ => hK _ _ _ _) h)
  | arraylength => (unfold stp at h ⊢; dsimp only at h ⊢; exact p_len_mono (fun st => hK _ _ _ _) h)
  | getfield i => (unfold stp at h ⊢; dsimp only at h ⊢; exact p_get_mono (fun st => hK _ _ _ _) h)
  | putfield i => (unfold stp at h ⊢; dsimp only at h ⊢; exact p_put_mono (fun st σ => hK _ _ _ _) h)
  | getstatic i => exact hK _ _ _ _ h
  | invokevirtual i => (unfold stp at h ⊢; dsimp only at h ⊢; exact p_call_mono hC (fun st σ => hK _ _ _ _) h)
  | invokestatic i =>
    unfold stp at h ⊢
    dsimp only at h ⊢
    split at h
    · split at h
      · exact i_un_mono (fun st => hK _ _ _ _) h
      · exact h.elim
    · split at h
      · exact i_bin_mono (fun st => hK _ _ _ _) h
      · exact h.elim
    · exact p_call_mono hC (fun st σ => hK _ _ _ _) h
  | ireturn => (unfold stp at h ⊢; dsimp only at h ⊢; exact p_ret_mono (fun x => hQ x _) h)
  | return_ => (unfold stp at h ⊢; dsimp only at h ⊢; exact p_rtv_mono (hQ 0 _) h)
  | _ => exact h.elim
theorem stC_mono {sc : Nat × (Nat → Int32)} {C : CT} {rk : Nat} {cd : List CE} {Q Q' : Int32 → St → Prop} {K K' : KT} {pc : Nat} {lv : LV} {st : List Value} {σ : St} (hC : MonC C) (hQ : ∀ r σ, Q r σ → Q' r σ) (hK : ∀ pc lv st σ, K pc lv st σ → K' pc lv st σ) (h : stC sc C rk cd Q K pc lv st σ) : stC sc C rk cd Q' K' pc lv st σ := by
  unfold stC at *
  split at h
  · exact stp_mono hC hQ hK h
  · exact h.elim
theorem Ex_fold {sc : Nat × (Nat → Int32)} {C : CT} {rk : Nat} {cd : List CE} {Q : Int32 → St → Prop} {pc : Nat} {lv : LV} {st : List Value} {σ : St} (hC : MonC C) (h : stC sc C rk cd Q (Ex sc C rk cd Q) pc lv st σ) : Ex sc C rk cd Q pc lv st σ :=
  fun X hX => hX _ _ _ _ (stC_mono hC (fun _ _ z => z) (fun _ _ _ _ z => z X hX) h)
theorem Ex_mono {sc : Nat × (Nat → Int32)} {C : CT} {rk : Nat} {cd : List CE} {Q Q' : Int32 → St → Prop} {pc : Nat} {lv : LV} {st : List Value} {σ : St} (hC : MonC C) (hQ : ∀ r σ, Q r σ → Q' r σ) (h : Ex sc C rk cd Q pc lv st σ) : Ex sc C rk cd Q' pc lv st σ :=
  fun X hX => h X (fun _ _ _ _ z => hX _ _ _ _ (stC_mono hC hQ (fun _ _ _ _ z => z) z))
theorem wpn_Ex {sc : Nat × (Nat → Int32)} {C : CT} {rk : Nat} {cd : List CE} {cuts : List Nat} {Q : Int32 → St → Prop} {K : KT} (hC : MonC C) (hK : ∀ pc lv st σ, K pc lv st σ → Ex sc C rk cd Q pc lv st σ) : ∀ (n : Nat) (pc : Nat) (lv : LV) (st : List Value) (σ : St), wpn sc C rk cd cuts Q K n pc lv st σ → Ex sc C rk cd Q pc lv st σ
  | 0, pc, lv, st, σ, h => hK _ _ _ _ h
  | n + 1, pc, lv, st, σ, h => by
    unfold wpn at h
    split at h
    · exact hK _ _ _ _ h
    · exact Ex_fold hC (stC_mono hC (fun _ _ z => z) (fun pc lv st σ z => wpn_Ex hC hK n pc lv st σ z) h)
end
section
/-! frames: what is known in one; calls -/
def Frm (p : Program) (l : Launch) (R : Room) (s : State) (m : MethodId) (args : Array Value) (c : Code) (own nL : Nat) (cc : ByteArray) (dC : Nat → ClassId) (dI : Nat → Nat → Nat) (cI cZ : ClassId) (ad : Nat → Nat) (sc : Nat × (Nat → Int32)) (A0 : Nat → Prop) (d cells slots : Nat) (C : CT) : Prop :=
  p.tables.exec = Jvm.exec ∧ c.code = cc ∧ c.maxLocals = nL ∧ s.vm.findClass (cn own) = some m.cls ∧ (∀ w ∈ TB, w.before args s = true) ∧ Ctx dC dI cI cZ ad sc A0 s s.heap ∧ (∀ q, ADA ad q → A0 q) ∧ d + 1 ≤ R.frames ∧ 28 * (d + 1) ≤ R.locals ∧ cells ≤ R.cells ∧ slots ≤ R.slots ∧ ∀ k, k < NM → k ≠ 53 → k ≠ 106 → MetK l dC dI cI cZ ad sc C k d
def XW (p : Program) (l : Launch) (e : Env) (R : Room) (s : State) (m : MethodId) (args : Array Value) (below : List Frame) (meth : Method) (c : Code) (dC : Nat → ClassId) (dI : Nat → Nat → Nat) (cI cZ : ClassId) (ad : Nat → Nat) (A0 : Nat → Prop) (cells slots : Nat) (QQ : State → Prop) (nL : Nat) : KT := fun pc lv st σ =>
  ∀ (H : Heap) (locs : List Loc) (ls : Array Slot), va_P (dC, dI) cls (wW cI cZ ad σ) H → va_D A0 (wW cI cZ ad σ) → va_S A0 s.heap H locs → LH ad nL ls lv → W p l e R s m args below meth c H locs cells slots QQ (F0 m pc ls (st.map (cv ad)))
theorem mOk_spec {k : Nat} (h : k < NM) (h1 : k ≠ 53) (h2 : k ≠ 106) : mO k < 16 ∧ mL k ≤ 9 ∧ ((mY k).cls ≠ "java/lang/invoke/MethodHandle" ∧ (mY k).cls ≠ "java/lang/invoke/VarHandle") ∧ (parseMethodDescriptor (mY k).desc).map (fun d => d.parameters.length + (1 - mS k)) = some (mA k) ∧ mS k ≤ 1 ∧ mA k ≤ mL k ∧ Cond.code (mY k) (mB k) (mL k) (mR k) ∈ TB := by
  have q := mOk_all h
  unfold mOk at q
  simp only [Bool.and_eq_true, decide_eq_true_eq] at q
  obtain ⟨⟨⟨⟨⟨⟨⟨⟨⟨q1, q2⟩, q3⟩, q4⟩, q5⟩, q6⟩, q7⟩, q8⟩, q9⟩, -⟩ := q
  exact ⟨q1, q2, ⟨q4, q5⟩, q6, q7, q8, tb_of q9 rfl⟩
theorem mOk_st {k : Nat} (h : k < NM) (hs : mS k = 1) : Cond.static (mY k) ∈ TB := by
  have q := mOk_all h
  unfold mOk at q
  rw [if_pos hs] at q
  simp only [Bool.and_eq_true, decide_eq_true_eq] at q
  exact tb_of q.2 rfl
theorem mOk_vi {k : Nat} (h : k < NM) (hs : mS k = 0) : Cond.instanceMethod (mY k) ∈ TB ∧ Cond.selects (mY k).cls (mY k) (mY k) ∈ TB ∧ mO k < 13 := by
  have q := mOk_all h
  unfold mOk at q
  rw [if_neg (by omega)] at q
  simp only [Bool.and_eq_true, decide_eq_true_eq] at q
  exact ⟨tb_of q.2.1.1 rfl, tb_of q.2.1.2 rfl, q.2.2⟩
theorem in_ini {o : Nat} (h : o < 16) : Cond.initialized (cn o) ∈ TB := tb_of (of_decide_eq_true (all_rg ipl_ok h)) rfl
theorem in_ml {own i k : Nat} (h : mlt.any (fun q => decide (q.1 = own ∧ q.2.1 = i ∧ q.2.2.1 = k)) = true) : Cond.methodLink (cn own) i (mY k) ∈ TB := by
  obtain ⟨q, hq, h2⟩ := List.any_eq_true.mp h
  obtain ⟨rfl, rfl, rfl⟩ := of_decide_eq_true h2
  exact tb_of (of_decide_eq_true (List.all_eq_true.mp mlt_ok q hq)) rfl
theorem wk_good {k : Nat} (h : k < NM) (h1 : k ≠ 53) (h2 : k ≠ 106) : GoodIn TB (wkK k) := by
  intro w hw
  rcases List.mem_cons.mp hw with rfl | hw
  · exact tb_good _ (mOk_spec h h1 h2).2.2.2.2.2.2
  · exact tb_good _ hw
theorem WB.blind {dC : Nat → ClassId} {dI : Nat → Nat → Nat} {cI cZ : ClassId} {ad : Nat → Nat} {sc : Nat × (Nat → Int32)} {σ : St} {av : List Value} : FrameBlind (va_Pc av (WB dC dI cI cZ ad sc σ)) := by
  intro a U g mk h
  obtain ⟨h0, h1, h2, h3, h4, h5, h6⟩ := h
  exact ⟨h0, h1, h2, va_K.moved (u := U) (U := U.calling g mk a) (Vm.Alike.refl U.vm) h3, h4.same rfl, fun j hj => va_Z.moved (u := U) (U := U.calling g mk a) (Vm.Alike.refl U.vm) (h5 j hj), fun c q hq => va_T.moved (u := U) (U := U.calling g mk a) (Vm.Alike.refl U.vm) (h6 c q hq)⟩
section CLL
variable {p : Program} {l : Launch} {e : Env} {R : Room} {s : State} {m : MethodId} {args : Array Value} {below : List Frame} {meth : Method} {c : Code} {own nL : Nat} {cc : ByteArray} {dC : Nat → ClassId} {dI : Nat → Nat → Nat} {cI cZ : ClassId} {ad : Nat → Nat} {sc : Nat × (Nat → Int32)} {A0 : Nat → Prop} {d cells slots : Nat} {C : CT} {QQ : State → Prop}
theorem pre_of (F : Frm p l R s m args c own nL cc dC dI cI cZ ad sc A0 d cells slots C) {H : Heap} {locs : List Loc} {σ : St} {av : List Value} (hP : va_P (dC, dI) cls (wW cI cZ ad σ) H) (hD : va_D A0 (wW cI cZ ad σ)) (hS : va_S A0 s.heap H locs) : ∀ U : State, U.heap = H → s.WarmedH U.vm → va_Pc av (WB dC dI cI cZ ad sc σ) av.toArray U := by
  obtain ⟨-, -, -, -, -, hC, hAA, -⟩ := F
  intro U hU hW
  refine ⟨rfl, by rw [hU]; exact hP, ⟨hD.1, fun k q hk => ?_⟩, hC.moved hW hS hAA hU⟩
  have hl : k < 85 := by
    have := (List.getElem?_eq_some_iff.mp hk).1
    simpa [wW] using this
  rw [wW_at hl] at hk
  cases hk
  exact ⟨k, hl, rfl⟩
theorem va_D.toA (hAA : ∀ q, ADA ad q → A0 q) {σ : St} (h : va_D (ADA ad) (wW cI cZ ad σ)) : va_D A0 (wW cI cZ ad σ) := h.weaken (fun _ _ _ z => hAA _ z)
/-- behind a call -/
theorem call_end (F : Frm p l R s m args c own nL cc dC dI cI cZ ad sc A0 d cells slots C) {k : Nat} {Q : Int32 → St → Prop} {pc : Nat} {ls : Array Slot} {st0 rest : List Value} {lv : LV} {H : Heap} {locs : List Loc} {av : Array Value}
    (hS : va_S A0 s.heap H locs) (hL : LH ad nL ls lv)
    (hr : va_Run p l e R s m args below meth c H locs cells slots 0 0 (F0 m pc ls st0) (rest.map (cv ad)) (QcK dC dI cI cZ ad sc k Q av) (ADA ad))
    (kk : ∀ r σ', Q r σ' → XW p l e R s m args below meth c dC dI cI cZ ad A0 cells slots QQ nL (pc + 3) lv (bif Nat.beq (mRk k) 0 then rest else .int r :: rest) σ') :
    W p l e R s m args below meth c H locs cells slots QQ (F0 m pc ls st0) := by
  obtain ⟨-, -, -, -, -, -, hAA, -⟩ := F
  unfold QcK at hr
  cases hv : Nat.beq (mRk k) 0 with
  | true =>
    rw [hv] at hr kk
    refine va_callv hr hS (fun q _ z => hAA q z) hAA (fun u t H1 locs1 ht hvm hw hB hz1 hk1 hS1 => ?_)
    obtain ⟨hP1, hD1, -⟩ := hB
    rw [ht] at hP1
    exact kk 0 u hw H1 locs1 ls hP1 (va_D.toA hAA hD1) hS1 hL
  | false =>
    rw [hv] at hr kk
    refine va_calli hr hS (fun q _ z => hAA q z) hAA (fun r u t H1 locs1 ht hvm hw hB hz1 hk1 hS1 => ?_)
    obtain ⟨hP1, hD1, -⟩ := hB
    rw [ht] at hP1
    exact kk r u hw H1 locs1 ls hP1 (va_D.toA hAA hD1) hS1 hL
set_option maxHeartbeats 1000000 in
theorem call_v (F : Frm p l R s m args c own nL cc dC dI cI cZ ad sc A0 d cells slots C) {k i : Nat} (hk : k < NM) (h53 : k ≠ 53) (h106 : k ≠ 106) (hs : mS k = 0) (hml : mlt.any (fun q => decide (q.1 = own ∧ q.2.1 = i ∧ q.2.2.1 = k)) = true)
    {pc : Nat} {ls : Array Slot} {lv : LV} {st : List Value} {σ : St} {H : Heap} {locs : List Loc} (hdg : decode cc pc = .ok (.invokevirtual i, 3))
    (hP : va_P (dC, dI) cls (wW cI cZ ad σ) H) (hD : va_D A0 (wW cI cZ ad σ)) (hS : va_S A0 s.heap H locs) (hL : LH ad nL ls lv)
    (h : p_call C (Nat.beq (mRk k) 0) k (mA k) (rcv (mO k)) (fun st σ => XW p l e R s m args below meth c dC dI cI cZ ad A0 cells slots QQ nL (pc + 3) lv st σ) st σ) :
    W p l e R s m args below meth c H locs cells slots QQ (F0 m pc ls (st.map (cv ad))) := by
  obtain ⟨hx, hb, hmx, hown, hts, hC, hAA, hR1, hR2, hc1, hc2, hM⟩ := id F
  unfold p_call at h
  split at h
  case h_2 => exact h.elim
  rename_i hcond
  simp only [Bool.and_eq_true] at hcond
  obtain ⟨⟨hlen, hcat⟩, hrc⟩ := hcond
  have hlen := Nat.le_of_ble_eq_true hlen
  have hcat := Nat.le_of_ble_eq_true hcat
  obtain ⟨ho, hmL, hy, hpar, hs1, hA, hcode⟩ := mOk_spec hk h53 h106
  obtain ⟨hin, hsel, ho13⟩ := mOk_vi hk hs
  have hst : st = (st.take (mA k)).reverse.reverse ++ st.drop (mA k) := by rw [List.reverse_reverse]; exact (List.take_append_drop _ _).symm
  have hal : (st.take (mA k)).reverse.length = mA k := by rw [List.length_reverse, List.length_take]; omega
  generalize st.drop (mA k) = rest at h hst hcat
  generalize (st.take (mA k)).reverse = as at h hst hal hrc
  unfold rcv at hrc
  split at hrc
  case h_2 => cases hrc
  rename_i r0 as'
  split at hrc
  case h_2 => cases hrc
  rename_i cj fs hlay
  have hcj : cj = mO k := Nat.eq_of_beq_eq_true hrc
  subst hcj
  have hMk := hM k hk h53 h106 _ σ _ h
  have hr0 := lay_lt hlay
  have hent : (wW cI cZ ad σ)[r0]? = some (ad r0, .inr (mO k, obF ad σ r0 fs)) := by rw [wW_at hr0]; simp only [ent, hlay]
  have hn : (as'.map (cv ad)).length + 1 = mA k := by rw [List.length_map]; simpa using hal
  have hpar2 : (parseMethodDescriptor (mY k).desc).map (fun d => d.parameters.length) = some ((as'.map (cv ad)).length) := by
    rw [hs] at hpar
    cases hpd : parseMethodDescriptor (mY k).desc with
    | none => rw [hpd] at hpar; cases hpar
    | some dd =>
      rw [hpd] at hpar
      simp only [Option.map_some, Option.some.injEq] at hpar ⊢
      omega
  have hT : GoodIn TB (wsV (cn own) i (cn (mO k)) (mY k) (wkK k)) := by
    intro w hw
    unfold wsV at hw
    rcases List.mem_append.mp hw with hw | hw
    · simp only [List.mem_cons, List.not_mem_nil, or_false] at hw
      rcases hw with rfl | rfl | rfl | rfl
      · exact tb_good _ (in_ml hml)
      · exact tb_good _ hin
      · exact tb_good _ hsel
      · exact tb_good _ (in_ini ho)
    · exact wk_good hk h53 h106 w hw
  have cw := cwV (R := R) (s := s) (args := args) (mc := 0) (ms := 0) (rm := rmD d) (as'.map (cv ad)).length hts hT rfl rfl rfl ⟨rfl, hy.1, hy.2, hpar2⟩ ⟨hR1, by show 8 + (mL k + 11) + 28 * d ≤ R.locals; omega⟩
  have hstk : st.map (cv ad) = (as'.map (cv ad)).reverse ++ .ref (ad r0) :: rest.map (cv ad) := by
    rw [hst, List.reverse_cons, List.map_append, List.map_append, List.map_reverse, List.append_assoc]
    rfl
  have hrun := va_runV (e := e) (below := below) (meth := meth) (locs := locs) (cells := cells) (slots := slots) (As := as'.map (cv ad)) (rest := rest.map (cv ad)) (b := ad r0) (g := F0 m pc ls (st.map (cv ad))) ⟨hx, hb, hmx, hown, hts⟩ hMk cw ⟨WB.blind, va_recv hC.1 hP (cls_at ho13) hent, pre_of F hP hD hS⟩ rfl rfl (hL.2.1) hstk (lv_room (by rw [cv_cats]; exact hcat)) hdg ⟨hc1, hc2⟩
  exact call_end F hS hL hrun (fun r σ' z => z)
set_option maxHeartbeats 1000000 in
theorem call_s (F : Frm p l R s m args c own nL cc dC dI cI cZ ad sc A0 d cells slots C) {k i : Nat} (hk : k < NM) (h53 : k ≠ 53) (h106 : k ≠ 106) (hs : mS k = 1) (hml : mlt.any (fun q => decide (q.1 = own ∧ q.2.1 = i ∧ q.2.2.1 = k)) = true ∨ ∃ host : String, va_Nw (.methodLinkNest (cn own) i (mY k) host) s)
    {pc : Nat} {ls : Array Slot} {lv : LV} {st : List Value} {σ : St} {H : Heap} {locs : List Loc} (hdg : decode cc pc = .ok (.invokestatic i, 3))
    (hP : va_P (dC, dI) cls (wW cI cZ ad σ) H) (hD : va_D A0 (wW cI cZ ad σ)) (hS : va_S A0 s.heap H locs) (hL : LH ad nL ls lv)
    (h : p_call C (Nat.beq (mRk k) 0) k (mA k) (fun _ => true) (fun st σ => XW p l e R s m args below meth c dC dI cI cZ ad A0 cells slots QQ nL (pc + 3) lv st σ) st σ) :
    W p l e R s m args below meth c H locs cells slots QQ (F0 m pc ls (st.map (cv ad))) := by
  obtain ⟨hx, hb, hmx, hown, hts, hC, hAA, hR1, hR2, hc1, hc2, hM⟩ := id F
  unfold p_call at h
  split at h
  case h_2 => exact h.elim
  rename_i hcond
  simp only [Bool.and_eq_true] at hcond
  obtain ⟨⟨hlen, hcat⟩, -⟩ := hcond
  have hlen := Nat.le_of_ble_eq_true hlen
  have hcat := Nat.le_of_ble_eq_true hcat
  obtain ⟨ho, hmL, hy, hpar, hs1, hA, hcode⟩ := mOk_spec hk h53 h106
  have hstt := mOk_st hk hs
  have hst : st = (st.take (mA k)).reverse.reverse ++ st.drop (mA k) := by rw [List.reverse_reverse]; exact (List.take_append_drop _ _).symm
  have hal : (st.take (mA k)).reverse.length = mA k := by rw [List.length_reverse, List.length_take]; omega
  generalize st.drop (mA k) = rest at h hst hcat
  generalize (st.take (mA k)).reverse = as at h hst hal
  have hMk := hM k hk h53 h106 _ σ _ h
  have hpar2 : (parseMethodDescriptor (mY k).desc).map (fun d => d.parameters.length) = some ((as.map (cv ad)).length) := by
    rw [hs] at hpar
    cases hpd : parseMethodDescriptor (mY k).desc with
    | none => rw [hpd] at hpar; cases hpar
    | some dd =>
      rw [hpd] at hpar
      simp only [Option.map_some, Option.some.injEq, List.length_map] at hpar ⊢
      omega
  have hstk : st.map (cv ad) = (as.map (cv ad)).reverse ++ rest.map (cv ad) := by
    rw [hst, List.map_append, List.map_reverse]
  rcases hml with hml | ⟨host, hnw⟩
  · have hT : GoodIn TB (va_wsS (cn own) i (mY k) (wkK k)) := by
      intro w hw
      unfold va_wsS at hw
      rcases List.mem_append.mp hw with hw | hw
      · simp only [List.mem_cons, List.not_mem_nil, or_false] at hw
        rcases hw with rfl | rfl | rfl
        · exact tb_good _ (in_ml hml)
        · exact tb_good _ hstt
        · exact tb_good _ (in_ini ho)
      · exact wk_good hk h53 h106 w hw
    have cw := va_cwS (R := R) (s := s) (args := args) (mc := 0) (ms := 0) (rm := rmD d) (as.map (cv ad)).length hts hT rfl rfl rfl ⟨hy.1, hy.2, hpar2⟩ ⟨hR1, by show 8 + (mL k + 11) + 28 * d ≤ R.locals; omega⟩
    have hrun := va_runS (e := e) (below := below) (meth := meth) (locs := locs) (cells := cells) (slots := slots) (As := as.map (cv ad)) (rest := rest.map (cv ad)) (g := F0 m pc ls (st.map (cv ad))) ⟨hx, hb, hmx, hown, hts⟩ hMk cw ⟨WB.blind, pre_of F hP hD hS⟩ rfl rfl (hL.2.1) hstk (lv_room (by rw [cv_cats]; exact hcat)) hdg ⟨hc1, hc2⟩
    exact call_end F hS hL hrun (fun r σ' z => z)
  · have cw := va_cnB (R := R) (s := s) (args := args) (mc := 0) (ms := 0) (rm := rmD d) (as.map (cv ad)).length hts (wk_good hk h53 h106) rfl rfl rfl hnw (hts _ (in_ini ho)) ⟨hy.1, hy.2, hpar2⟩ ⟨hR1, by show 8 + (mL k + 11) + 28 * d ≤ R.locals; omega⟩
    have hrun := va_runSN (e := e) (below := below) (meth := meth) (locs := locs) (cells := cells) (slots := slots) (As := as.map (cv ad)) (rest := rest.map (cv ad)) (g := F0 m pc ls (st.map (cv ad))) ⟨hx, hb, hmx, hown, hts⟩ hMk ⟨cw, hts _ hstt, trivial⟩ ⟨WB.blind, pre_of F hP hD hS⟩ rfl rfl (hL.2.1) hstk (lv_room (by rw [cv_cats]; exact hcat)) hdg ⟨hc1, hc2⟩
    exact call_end F hS hL hrun (fun r σ' z => z)
end CLL
end
section
/-! a step of the pure machine is a step of the machine -/
theorem in_kc {own i : Nat} {imm : Int32} (h : kct.any (fun q => decide (q.1 = own ∧ q.2.1 = i ∧ q.2.2.1 = imm)) = true) : Cond.constant (cn own) i imm ∈ TB := by
  obtain ⟨q, hq, h2⟩ := List.any_eq_true.mp h
  obtain ⟨rfl, rfl, rfl⟩ := of_decide_eq_true h2
  exact tb_of (of_decide_eq_true (List.all_eq_true.mp kct_ok q hq)) rfl
set_option maxRecDepth 100000 in
theorem kcl_ok : lw_tbl[1306]? = some (.constantLong (cn 12) 233 1000) := by decide +kernel
set_option maxRecDepth 100000 in
theorem most_ok : lw_tbl[827]? = some (.fieldLink (cn 10) 38 (sC 2) (sM 2) "[I") := by decide +kernel
theorem in_fl {own i a b d : Nat} (h : (match flt[d]? with | some q => decide (q.1 = own ∧ q.2.1 = i ∧ q.2.2.1 = a ∧ q.2.2.2.1 = b) | none => false) = true) : Cond.fieldLink (cn own) i (cn a) (FT a b).2.1 (FT a b).2.2.1 ∈ TB ∧ a < 13 ∧ b < NF a := by
  split at h
  · rename_i q hq
    obtain ⟨rfl, rfl, rfl, rfl⟩ := of_decide_eq_true h
    have h3 := List.all_eq_true.mp flt_ok q (List.mem_of_getElem? hq)
    simp only [Bool.and_eq_true, decide_eq_true_eq] at h3
    exact ⟨tb_of h3.1 rfl, h3.2.1, h3.2.2⟩
  · cases h
theorem nar_b {x : Int32} (h : x = 0 ∨ x = 1) : vp_nar .boolean x = x := by
  rcases h with rfl | rfl <;> rfl
theorem nar_b' {x : Int32} (h : x = 0 ∨ x = 1) : narrow .boolean (.int x) = .int x := by
  rcases h with rfl | rfl <;> rfl
theorem p_sw_at {K : Nat → Prop} {a : Nat} {x : Int32} : ∀ {sw : List (Int32 × Nat)} {j : Nat} {q : Int32 × Nat}, p_sw sw x K a → sw[j]? = some q → x = q.1 → (∀ i r, i < j → sw[i]? = some r → r.1 ≠ q.1) → K q.2
  | [], j, q, _, h, _, _ => by simp at h
  | r :: sw, 0, q, h, hj, hx, _ => by
    simp at hj
    subst hj
    exact h.1 hx
  | r :: sw, j + 1, q, h, hj, hx, hn => by
    have h0 : r.1 ≠ q.1 := hn 0 r (Nat.succ_pos j) rfl
    exact p_sw_at (h.2 (fun e => h0 (e.symm.trans hx))) (by simpa using hj) hx (fun i s hi hs => hn (i + 1) s (by omega) (by simpa using hs))
theorem p_sw_out {K : Nat → Prop} {a : Nat} {x : Int32} : ∀ {sw : List (Int32 × Nat)}, p_sw sw x K a → (∀ q ∈ sw, x ≠ q.1) → K a
  | [], h, _ => h
  | r :: sw, h, hn => p_sw_out (h.2 (hn r List.mem_cons_self)) (fun q hq => hn q (List.mem_cons_of_mem _ hq))
theorem mOk_code {k : Nat} (h : k < NM) : Cond.code (mY k) (mB k) (mL k) (mR k) ∈ TB := by
  have q := mOk_all h
  unfold mOk at q
  simp only [Bool.and_eq_true, decide_eq_true_eq] at q
  exact tb_of q.1.2 rfl
theorem mb53 : mB 53 = Lib.Math.abs.code := by decide +kernel
theorem mb106 : mB 106 = Lib.Math.max.code := by decide +kernel
theorem my53 : mY 53 = Lib.Math.abs.name := by decide +kernel
theorem my106 : mY 106 = Lib.Math.max.name := by decide +kernel
theorem mc53 : Cond.code Lib.Math.abs.name Lib.Math.abs.code 1 (some .int) ∈ TB := by
  have h := mOk_code (k := 53) (by decide)
  rw [mb53, my53] at h
  exact h
theorem mc106 : Cond.code Lib.Math.max.name Lib.Math.max.code 2 (some .int) ∈ TB := by
  have h := mOk_code (k := 106) (by decide)
  rw [mb106, my106] at h
  exact h
section SND
variable {p : Program} {l : Launch} {e : Env} {R : Room} {s : State} {m : MethodId} {args : Array Value} {below : List Frame} {meth : Method} {c : Code} {own nL : Nat} {cc : ByteArray} {dC : Nat → ClassId} {dI : Nat → Nat → Nat} {cI cZ : ClassId} {ad : Nat → Nat} {sc : Nat × (Nat → Int32)} {A0 : Nat → Prop} {d0 cells slots : Nat} {C : CT} {QQ : State → Prop}
/-- how a frame ends -/
def RetI (p : Program) (l : Launch) (e : Env) (R : Room) (s : State) (m : MethodId) (args : Array Value) (below : List Frame) (meth : Method) (c : Code) (cc : ByteArray) (dC : Nat → ClassId) (dI : Nat → Nat → Nat) (cI cZ : ClassId) (ad : Nat → Nat) (A0 : Nat → Prop) (cells slots : Nat) (QQ : State → Prop) (rk : Nat) (Q : Int32 → St → Prop) : Prop :=
  (∀ (pc : Nat) (x : Int32) (σ : St) (H : Heap) (locs : List Loc) (ls : Array Slot), rk ≠ 0 → (rk ≠ 1 → x = 0 ∨ x = 1) → Q x σ → va_P (dC, dI) cls (wW cI cZ ad σ) H → va_D A0 (wW cI cZ ad σ) → va_S A0 s.heap H locs → decode cc pc = .ok (.ireturn, 1) → W p l e R s m args below meth c H locs cells slots QQ (F0 m pc ls [.int x])) ∧
  ∀ (pc : Nat) (σ : St) (H : Heap) (locs : List Loc) (ls : Array Slot), rk = 0 → Q 0 σ → va_P (dC, dI) cls (wW cI cZ ad σ) H → va_D A0 (wW cI cZ ad σ) → va_S A0 s.heap H locs → decode cc pc = .ok (.return_, 1) → W p l e R s m args below meth c H locs cells slots QQ (F0 m pc ls [])
set_option maxHeartbeats 8000000 in
theorem snd1 (F : Frm p l R s m args c own nL cc dC dI cI cZ ad sc A0 d0 cells slots C) {rk : Nat} {Q : Int32 → St → Prop} (hret : RetI p l e R s m args below meth c cc dC dI cI cZ ad A0 cells slots QQ rk Q) {q : CE} (hok : okCE own nL cc q = true) {lv : LV} {st : List Value} {σ : St}
    (h : stp sc C rk Q (XW p l e R s m args below meth c dC dI cI cZ ad A0 cells slots QQ nL) q lv st σ) : XW p l e R s m args below meth c dC dI cI cZ ad A0 cells slots QQ nL q.1 lv st σ := by
  obtain ⟨hx, hb, hmx, hown, hts, hC, hAA, hR1, hR2, hc1, hc2, hM⟩ := id F
  obtain ⟨pc, len, ins, imm, a, b, d, sw⟩ := q
  unfold okCE at hok
  simp only [Bool.and_eq_true] at hok
  obtain ⟨hdg, hI⟩ := hok
  have hdg := of_decide_eq_true hdg
  intro H locs ls hP hD hS hL
  show W p l e R s m args below meth c H locs cells slots QQ (F0 m pc ls (st.map (cv ad)))
  unfold stp at h
  dsimp only at h
  unfold okI at hI
  cases ins with
  | iconst n =>
    dsimp only at h
    obtain ⟨rfl, hv⟩ := of_decide_eq_true hI
    exact lv_iconst hx hb hdg hv (h H locs ls hP hD hS hL)
  | bipush n =>
    dsimp only at h
    obtain ⟨rfl, hv⟩ := of_decide_eq_true hI
    exact lv_bipush hx hb hdg hv (h H locs ls hP hD hS hL)
  | sipush n =>
    dsimp only at h
    obtain ⟨rfl, hv⟩ := of_decide_eq_true hI
    exact lv_sipush hx hb hdg hv (h H locs ls hP hD hS hL)
  | ldc n =>
    dsimp only at h
    simp only [Bool.and_eq_true] at hI
    obtain ⟨h1, h2⟩ := hI
    obtain rfl := of_decide_eq_true h1
    exact lv_ldc hx hb hown (hts _ (in_kc h2)) hdg (h H locs ls hP hD hS hL)
  | ldc_w n =>
    dsimp only at h
    simp only [Bool.and_eq_true] at hI
    obtain ⟨h1, h2⟩ := hI
    obtain rfl := of_decide_eq_true h1
    exact lv_ldcw hx hb hown (hts _ (in_kc h2)) hdg (h H locs ls hP hD hS hL)
  | lconst n =>
    dsimp only at h
    obtain ⟨rfl, hv⟩ := of_decide_eq_true hI
    exact lv_lconst hx hb hdg hv (h H locs ls hP hD hS hL)
  | ldc2_w n =>
    dsimp only at h
    obtain ⟨rfl, rfl, rfl, rfl⟩ := of_decide_eq_true hI
    exact lv_ldc2 (v := 1000) hx hb hown (hts _ (tb_of kcl_ok rfl)) hdg (h H locs ls hP hD hS hL)
  | iload_n n =>
    dsimp only at h
    obtain ⟨rfl, hv⟩ := of_decide_eq_true hI
    unfold p_ldi at h
    split at h
    · rename_i x hlv
      exact lv_iload_n hx hb hdg hv (hL.at hlv) (h H locs ls hP hD hS hL)
    · exact h.elim
  | iload n =>
    dsimp only at h
    obtain ⟨rfl, rfl⟩ := of_decide_eq_true hI
    unfold p_ldi at h
    split at h
    · rename_i x hlv
      exact lv_iload hx hb hdg (hL.at hlv) (h H locs ls hP hD hS hL)
    · exact h.elim
  | aload_n n =>
    dsimp only at h
    obtain ⟨rfl, hv⟩ := of_decide_eq_true hI
    unfold p_lda at h
    split at h
    · rename_i x hlv
      exact lv_aload_n hx hb hdg hv (hL.at hlv) (h H locs ls hP hD hS hL)
    · exact h.elim
  | aload n =>
    dsimp only at h
    obtain ⟨rfl, rfl⟩ := of_decide_eq_true hI
    unfold p_lda at h
    split at h
    · rename_i x hlv
      exact lv_aload hx hb hdg (hL.at hlv) (h H locs ls hP hD hS hL)
    · exact h.elim
  | lload_n n =>
    dsimp only at h
    obtain ⟨rfl, hv⟩ := of_decide_eq_true hI
    unfold p_ldl at h
    split at h
    · rename_i x hlv
      exact lv_lload_n hx hb hdg hv (hL.at hlv) (h H locs ls hP hD hS hL)
    · exact h.elim
  | lload n =>
    dsimp only at h
    obtain ⟨rfl, rfl⟩ := of_decide_eq_true hI
    unfold p_ldl at h
    split at h
    · rename_i x hlv
      exact lv_lload hx hb hdg (hL.at hlv) (h H locs ls hP hD hS hL)
    · exact h.elim
  | istore_n n =>
    dsimp only at h
    obtain ⟨rfl, hv, ha⟩ := of_decide_eq_true hI
    unfold p_sti at h
    split at h
    · split at h
      · exact h.elim
      · rename_i hh
        exact lv_istore_n hx hb hdg hv hL.2 ha rfl (fun ls' hl' => h H locs ls' hP hD hS (hL.st1 hh hl'))
    · exact h.elim
  | istore n =>
    dsimp only at h
    obtain ⟨rfl, rfl, ha⟩ := of_decide_eq_true hI
    unfold p_sti at h
    split at h
    · split at h
      · exact h.elim
      · rename_i hh
        exact lv_istore hx hb hdg hL.2 ha rfl (fun ls' hl' => h H locs ls' hP hD hS (hL.st1 hh hl'))
    · exact h.elim
  | astore_n n =>
    dsimp only at h
    obtain ⟨rfl, hv, ha⟩ := of_decide_eq_true hI
    unfold p_sta at h
    split at h
    · split at h
      · exact h.elim
      · rename_i x r _ hh
        exact lv_astore_n hx hb hdg hv hL.2 ha rfl (fun ls' hl' => h H locs ls' hP hD hS (hL.st1 (v := .ref x) hh hl'))
    · exact h.elim
  | astore n =>
    dsimp only at h
    obtain ⟨rfl, rfl, ha⟩ := of_decide_eq_true hI
    unfold p_sta at h
    split at h
    · split at h
      · exact h.elim
      · rename_i x r _ hh
        exact lv_astore hx hb hdg hL.2 ha rfl (fun ls' hl' => h H locs ls' hP hD hS (hL.st1 (v := .ref x) hh hl'))
    · exact h.elim
  | lstore_n n =>
    dsimp only at h
    obtain ⟨rfl, hv, ha⟩ := of_decide_eq_true hI
    unfold p_stl at h
    split at h
    · split at h
      · exact h.elim
      · rename_i hh
        exact lv_lstore_n hx hb hdg hv hL.2 ha rfl (fun ls' hl' => h H locs ls' hP hD hS (hL.st2 hh hl'))
    · exact h.elim
  | lstore n =>
    dsimp only at h
    obtain ⟨rfl, rfl, ha⟩ := of_decide_eq_true hI
    unfold p_stl at h
    split at h
    · split at h
      · exact h.elim
      · rename_i hh
        exact lv_lstore hx hb hdg hL.2 ha rfl (fun ls' hl' => h H locs ls' hP hD hS (hL.st2 hh hl'))
    · exact h.elim
  | iinc i n =>
    dsimp only at h
    obtain ⟨rfl, rfl, ha, rfl⟩ := of_decide_eq_true hI
    unfold p_inc at h
    split at h
    · rename_i x hlv
      split at h
      · exact h.elim
      · rename_i hh
        obtain ⟨k, hk⟩ := List.getElem?_of_mem (prs_mem.mpr ⟨Value.int x, hlv, rfl⟩ : (i, cv ad (Value.int x)) ∈ prs ad lv)
        exact lv_iinc hx hb hdg hL.2 hk rfl ha rfl (fun ls' hl' => h H locs ls' hP hD hS (hL.st1 (v := .int (x + Int32.ofInt n)) hh hl'))
    · exact h.elim
  | iadd =>
    dsimp only at h
    obtain rfl := of_decide_eq_true hI
    unfold i_bin at h
    split at h
    · exact lv_iadd hx hb hdg (h H locs ls hP hD hS hL)
    · exact h.elim
  | isub =>
    dsimp only at h
    obtain rfl := of_decide_eq_true hI
    unfold i_bin at h
    split at h
    · exact lv_isub hx hb hdg (h H locs ls hP hD hS hL)
    · exact h.elim
  | imul =>
    dsimp only at h
    obtain rfl := of_decide_eq_true hI
    unfold i_bin at h
    split at h
    · exact lv_imul hx hb hdg (h H locs ls hP hD hS hL)
    · exact h.elim
  | iand =>
    dsimp only at h
    obtain rfl := of_decide_eq_true hI
    unfold i_bin at h
    split at h
    · exact lv_iand hx hb hdg (h H locs ls hP hD hS hL)
    · exact h.elim
  | ior =>
    dsimp only at h
    obtain rfl := of_decide_eq_true hI
    unfold i_bin at h
    split at h
    · exact lv_ior hx hb hdg (h H locs ls hP hD hS hL)
    · exact h.elim
  | ixor =>
    dsimp only at h
    obtain rfl := of_decide_eq_true hI
    unfold i_bin at h
    split at h
    · exact lv_ixor hx hb hdg (h H locs ls hP hD hS hL)
    · exact h.elim
  | ishl =>
    dsimp only at h
    obtain rfl := of_decide_eq_true hI
    unfold i_bin at h
    split at h
    · exact lv_ishl hx hb hdg (h H locs ls hP hD hS hL)
    · exact h.elim
  | ishr =>
    dsimp only at h
    obtain rfl := of_decide_eq_true hI
    unfold i_bin at h
    split at h
    · exact lv_ishr hx hb hdg (h H locs ls hP hD hS hL)
    · exact h.elim
  | iushr =>
    dsimp only at h
    obtain rfl := of_decide_eq_true hI
    unfold i_bin at h
    split at h
    · exact lv_iushr hx hb hdg rfl (h H locs ls hP hD hS hL)
    · exact h.elim
  | idiv =>
    dsimp only at h
    obtain rfl := of_decide_eq_true hI
    unfold i_div at h
    split at h
    · exact lv_idiv hx hb hdg h.1 (h.2 H locs ls hP hD hS hL)
    · exact h.elim
  | irem =>
    dsimp only at h
    obtain rfl := of_decide_eq_true hI
    unfold i_div at h
    split at h
    · exact lv_irem hx hb hdg h.1 (h.2 H locs ls hP hD hS hL)
    · exact h.elim
  | ineg =>
    dsimp only at h
    obtain rfl := of_decide_eq_true hI
    unfold i_un at h
    split at h
    · exact lv_ineg hx hb hdg (h H locs ls hP hD hS hL)
    · exact h.elim
  | lsub =>
    dsimp only at h
    obtain rfl := of_decide_eq_true hI
    unfold l_bin at h
    split at h
    · exact lv_lsub hx hb hdg (h H locs ls hP hD hS hL)
    · exact h.elim
  | lmul =>
    dsimp only at h
    obtain rfl := of_decide_eq_true hI
    unfold l_bin at h
    split at h
    · exact lv_lmul hx hb hdg (h H locs ls hP hD hS hL)
    · exact h.elim
  | ldiv =>
    dsimp only at h
    obtain rfl := of_decide_eq_true hI
    unfold l_div at h
    split at h
    · exact lv_ldiv hx hb hdg h.1 (h.2 H locs ls hP hD hS hL)
    · exact h.elim
  | lcmp =>
    dsimp only at h
    obtain rfl := of_decide_eq_true hI
    unfold l_cmp at h
    split at h
    · exact W.lcmp hx hb hdg (h H locs ls hP hD hS hL)
    · exact h.elim
  | i2l =>
    dsimp only at h
    obtain rfl := of_decide_eq_true hI
    unfold c_i2l at h
    split at h
    · exact lv_i2l hx hb hdg rfl (h H locs ls hP hD hS hL)
    · exact h.elim
  | l2i =>
    dsimp only at h
    obtain rfl := of_decide_eq_true hI
    unfold c_l2i at h
    split at h
    · exact lv_l2i hx hb hdg rfl (h H locs ls hP hD hS hL)
    · exact h.elim
  | dup =>
    dsimp only at h
    obtain rfl := of_decide_eq_true hI
    unfold p_dup at h
    split at h
    · split at h
      · rename_i hc
        exact lv_dup hx hb hdg (by rw [cv_cat]; exact Nat.eq_of_beq_eq_true hc) (h H locs ls hP hD hS hL)
      · exact h.elim
    · exact h.elim
  | dup2 =>
    dsimp only at h
    obtain rfl := of_decide_eq_true hI
    unfold p_dup2 at h
    split at h
    · split at h
      · rename_i hc
        simp only [Bool.and_eq_true] at hc
        exact lv_dup2_11 hx hb hdg (by rw [cv_cat]; exact Nat.eq_of_beq_eq_true hc.1) (by rw [cv_cat]; exact Nat.eq_of_beq_eq_true hc.2) (h H locs ls hP hD hS hL)
      · exact h.elim
    · exact h.elim
  | pop =>
    dsimp only at h
    obtain rfl := of_decide_eq_true hI
    unfold p_pop at h
    split at h
    · split at h
      · rename_i hc
        exact lv_pop hx hb hdg (by rw [cv_cat]; exact Nat.eq_of_beq_eq_true hc) (h H locs ls hP hD hS hL)
      · exact h.elim
    · exact h.elim
  | goto o =>
    dsimp only at h
    obtain ⟨rfl, ht⟩ := of_decide_eq_true hI
    exact lv_goto hx hb hdg ht (h H locs ls hP hD hS hL)
  | ifCond cd o =>
    obtain ⟨rfl, ht⟩ := of_decide_eq_true hI
    cases cd with
    | eq =>
      dsimp only [i_if] at h
      split at h
      · exact lv_if_eq hx hb hdg ht (fun z => h.1 z H locs ls hP hD hS hL) (fun z => h.2 z H locs ls hP hD hS hL)
      · exact h.elim
    | ne =>
      dsimp only [i_ne] at h
      split at h
      · exact lv_if_ne hx hb hdg ht (fun z => h.1 z H locs ls hP hD hS hL) (fun z => h.2 z H locs ls hP hD hS hL)
      · exact h.elim
    | lt =>
      dsimp only [i_if] at h
      split at h
      · exact lv_if_lt hx hb hdg ht (fun z => h.1 z H locs ls hP hD hS hL) (fun z => h.2 z H locs ls hP hD hS hL)
      · exact h.elim
    | ge =>
      dsimp only [i_if] at h
      split at h
      · exact lv_if_ge hx hb hdg ht (fun z => h.1 z H locs ls hP hD hS hL) (fun z => h.2 z H locs ls hP hD hS hL)
      · exact h.elim
    | gt =>
      dsimp only [i_if] at h
      split at h
      · exact lv_if_gt hx hb hdg ht (fun z => h.1 z H locs ls hP hD hS hL) (fun z => h.2 z H locs ls hP hD hS hL)
      · exact h.elim
    | le =>
      dsimp only [i_if] at h
      split at h
      · exact lv_if_le hx hb hdg ht (fun z => h.1 z H locs ls hP hD hS hL) (fun z => h.2 z H locs ls hP hD hS hL)
      · exact h.elim
  | if_icmp cd o =>
    obtain ⟨rfl, ht⟩ := of_decide_eq_true hI
    cases cd with
    | eq =>
      dsimp only [i_cmp] at h
      split at h
      · exact lv_icmp_eq hx hb hdg ht (fun z => h.1 z H locs ls hP hD hS hL) (fun z => h.2 z H locs ls hP hD hS hL)
      · exact h.elim
    | ne =>
      dsimp only [i_cne] at h
      split at h
      · exact lv_icmp_ne hx hb hdg ht (fun z => h.1 z H locs ls hP hD hS hL) (fun z => h.2 z H locs ls hP hD hS hL)
      · exact h.elim
    | lt =>
      dsimp only [i_cmp] at h
      split at h
      · exact lv_icmp_lt hx hb hdg ht (fun z => h.1 z H locs ls hP hD hS hL) (fun z => h.2 z H locs ls hP hD hS hL)
      · exact h.elim
    | ge =>
      dsimp only [i_cmp] at h
      split at h
      · exact lv_icmp_ge hx hb hdg ht (fun z => h.1 z H locs ls hP hD hS hL) (fun z => h.2 z H locs ls hP hD hS hL)
      · exact h.elim
    | gt =>
      dsimp only [i_cmp] at h
      split at h
      · exact lv_icmp_gt hx hb hdg ht (fun z => h.1 z H locs ls hP hD hS hL) (fun z => h.2 z H locs ls hP hD hS hL)
      · exact h.elim
    | le =>
      dsimp only [i_cmp] at h
      split at h
      · exact lv_icmp_le hx hb hdg ht (fun z => h.1 z H locs ls hP hD hS hL) (fun z => h.2 z H locs ls hP hD hS hL)
      · exact h.elim
  | tableswitch f lo hi os =>
    dsimp only at h
    simp only [Bool.and_eq_true] at hI
    obtain ⟨h1, h2⟩ := hI
    obtain ⟨ht, rfl, hhi, hsz, hsw⟩ := of_decide_eq_true h1
    unfold p_swi at h
    split at h
    · rename_i x r
      by_cases hr : x.toInt < 0 ∨ hi < x.toInt
      · refine lv_tableOut hx hb hdg hr ht ?_
        refine p_sw_out (K := fun t => W p l e R s m args below meth c H locs cells slots QQ (F0 m t ls (r.map (cv ad)))) (p_sw_mono (fun t z => z H locs ls hP hD hS hL) h) (fun q hq e => ?_)
        obtain ⟨j, hj⟩ := List.getElem?_of_mem hq
        have hjl : j < os.size := by rw [← hsw]; exact (List.getElem?_eq_some_iff.mp hj).1
        have h3 := of_decide_eq_true (all_rg h2 hjl)
        rw [List.getD_eq_getElem?_getD, hj] at h3
        have h4 : x = Int32.ofNat j := e.trans h3.1
        have h5 : x.toInt = (j : Int) := by rw [h4]; exact nI_toInt (by omega)
        omega
      · have hlt : x.toInt.toNat < os.size := by omega
        have h3 := of_decide_eq_true (all_rg h2 hlt)
        have hxj : x = Int32.ofNat x.toInt.toNat := by
          apply Int32.toInt_inj.mp
          have h6 : (nI x.toInt.toNat).toInt = (x.toInt.toNat : Int) := nI_toInt (by omega)
          show x.toInt = (nI x.toInt.toNat).toInt
          rw [h6]
          omega
        have hos : os[(x.toInt - 0).toNat]? = some (os.getD x.toInt.toNat 0) := by
          have : (x.toInt - 0).toNat = x.toInt.toNat := by omega
          rw [this]
          unfold Array.getD
          rw [dif_pos hlt]
          exact Array.getElem?_eq_getElem hlt
        have hsj : x.toInt.toNat < sw.length := by omega
        have hge : sw[x.toInt.toNat]? = some (sw.getD x.toInt.toNat (0, 0)) := by
          rw [List.getD_eq_getElem?_getD, List.getElem?_eq_getElem hsj]; rfl
        refine lv_tableIn hx hb hdg (fun z => hr (Or.inl z)) (fun z => hr (Or.inr z)) hos h3.2 ?_
        refine p_sw_at (K := fun t => W p l e R s m args below meth c H locs cells slots QQ (F0 m t ls (r.map (cv ad)))) (p_sw_mono (fun t z => z H locs ls hP hD hS hL) h) hge (by rw [h3.1]; exact hxj) (fun i q hi hq => ?_)
        have hil : i < os.size := by omega
        have h7 := of_decide_eq_true (all_rg h2 hil)
        rw [List.getD_eq_getElem?_getD, hq] at h7
        rw [h3.1]
        intro e
        have e2 : nI i = nI x.toInt.toNat := h7.1.symm.trans e
        have := (nI_eq (by omega) (by omega)).mp e2
        omega
    · exact h.elim
  | lookupswitch f ps =>
    dsimp only at h
    obtain ⟨ht, hp, hm⟩ := of_decide_eq_true hI
    unfold p_swi at h
    split at h
    · rename_i x r
      have key : ∀ (pl : List (Int × Int)) (sl : List (Int32 × Nat)), pl.map (fun q => (q.1, (pc : Int) + q.2)) = sl.map (fun q => (q.1.toInt, (q.2 : Int))) → p_sw sl x (fun t => XW p l e R s m args below meth c dC dI cI cZ ad A0 cells slots QQ nL t lv r σ) a → ∃ (off : Int) (tgt : Nat), Op.lookupswitch.offset pl f x.toInt = off ∧ (pc : Int) + off = (tgt : Int) ∧ XW p l e R s m args below meth c dC dI cI cZ ad A0 cells slots QQ nL tgt lv r σ := by
        intro pl
        induction pl with
        | nil =>
          intro sl hsl hsw
          cases sl with
          | nil => exact ⟨f, a, rfl, ht, hsw⟩
          | cons y ys => cases hsl
        | cons z zs ih =>
          intro sl hsl hsw
          cases sl with
          | nil => cases hsl
          | cons y ys =>
            simp only [List.map_cons, List.cons.injEq, Prod.mk.injEq] at hsl
            obtain ⟨⟨e1, e2⟩, e3⟩ := hsl
            by_cases hxy : x = y.1
            · refine ⟨z.2, y.2, ?_, e2, hsw.1 hxy⟩
              obtain ⟨z1, z2⟩ := z
              rw [Op.lookupswitch.offset_cons, if_pos]
              rw [hxy]; exact e1
            · obtain ⟨off, tgt, g1, g2, g3⟩ := ih ys e3 (hsw.2 hxy)
              refine ⟨off, tgt, ?_, g2, g3⟩
              obtain ⟨z1, z2⟩ := z
              rw [lv_osw hxy e1.symm]
              exact g1
      obtain ⟨off, tgt, g1, g2, g3⟩ := key _ _ hm h
      exact lv_lookup hx hb hdg hp g1 g2 (g3 H locs ls hP hD hS hL)
    · exact h.elim
  | iaload =>
    dsimp only at h
    obtain rfl := of_decide_eq_true hI
    unfold p_iald at h
    split at h
    · rename_i i cl r
      split at h
      · rename_i n fs hlay
        exact va_iald hx hb hC.1 hP cl 0 (by rw [wW_at (lay_lt hlay)]; simp only [ent, hlay]) rfl h.1 hdg (h.2 H locs ls hP hD hS hL)
      · exact h.elim
      · split at h
        · rename_i q hq
          exact va_ti hx hb (hC.2.2.2 _ _ hq) hS h.1 rfl hdg (h.2 H locs ls hP hD hS hL)
        · exact h.elim
    · exact h.elim
  | baload =>
    dsimp only at h
    obtain rfl := of_decide_eq_true hI
    unfold p_zald at h
    split at h
    · rename_i i cl r
      split at h
      · rename_i n fs hlay
        exact va_zald hx hb hC.1 hP cl 1 (by rw [wW_at (lay_lt hlay)]; simp only [ent, hlay]) rfl h.1 hdg (h.2 H locs ls hP hD hS hL)
      · exact h.elim
    · exact h.elim
  | iastore =>
    dsimp only at h
    obtain rfl := of_decide_eq_true hI
    unfold p_iast at h
    split at h
    · rename_i x i cl r
      split at h
      · rename_i n fs hlay
        refine va_iast (f := σ cl) (cA := cI) (n := n) hx hb hC.1 hP hD hS cl 0 (by rw [wW_at (lay_lt hlay)]; simp only [ent, hlay]) rfl h.1 hdg (fun H1 locs1 hP1 hD1 hS1 => ?_)
        rw [wW_set (i := i.toNatClampNeg) (v := x) (lay_lt hlay) (by simp only [ent, hlay, up_self])] at hP1 hD1
        exact h.2 H1 locs1 ls hP1 hD1 hS1 hL
      · exact h.elim
    · exact h.elim
  | bastore =>
    dsimp only at h
    obtain rfl := of_decide_eq_true hI
    unfold p_zast at h
    split at h
    · rename_i x i cl r
      split at h
      · rename_i n fs hlay
        refine va_zast (f := σ cl) (cA := cZ) (n := n) hx hb hC.1 hP hD hS cl 1 (by rw [wW_at (lay_lt hlay)]; simp only [ent, hlay]) rfl h.1 hdg (fun H1 locs1 hP1 hD1 hS1 => ?_)
        rw [nar_b h.2.1] at hP1 hD1
        rw [wW_set (i := i.toNatClampNeg) (v := x) (lay_lt hlay) (by simp only [ent, hlay, up_self])] at hP1 hD1
        exact h.2.2 H1 locs1 ls hP1 hD1 hS1 hL
      · exact h.elim
    · exact h.elim
  | arraylength =>
    dsimp only at h
    obtain rfl := of_decide_eq_true hI
    unfold p_len at h
    split at h
    · split at h
      · exact h.elim
      · split at h
        · rename_i q hq
          exact va_tlen hx hb (hC.2.2.2 _ _ hq) hS rfl hdg (h H locs ls hP hD hS hL)
        · exact h.elim
    · exact h.elim
  | getfield i =>
    dsimp only at h
    simp only [Bool.and_eq_true] at hI
    obtain ⟨h1, h2⟩ := hI
    obtain rfl := of_decide_eq_true h1
    obtain ⟨hw, ha, hbk⟩ := in_fl h2
    unfold p_get at h
    split at h
    · rename_i cl r
      split at h
      · rename_i cj fs hlay
        split at h
        · rename_i hcj
          have hcj := Nat.eq_of_beq_eq_true hcj
          subst hcj
          have hent : (wW cI cZ ad σ)[cl]? = some (ad cl, .inr (cj, obF ad σ cl fs)) := by rw [wW_at (lay_lt hlay)]; simp only [ent, hlay]
          split at h
          · rename_i q hf
            exact va_get (v := .ref (ad q)) (C := cn cj) (T := FT cj) (N := NF cj) hx hb hts (u_in ha) hown hC.1 hP cl hent (cls_at ha) b hbk (hts _ hw) (fun _ z => z) (obF_at hf) hdg (h H locs ls hP hD hS hL)
          · rename_i hf
            exact va_get (v := .int (σ cl b)) (C := cn cj) (T := FT cj) (N := NF cj) hx hb hts (u_in ha) hown hC.1 hP cl hent (cls_at ha) b hbk (hts _ hw) (fun _ z => z) (obF_at hf) hdg (h H locs ls hP hD hS hL)
          · exact h.elim
        · exact h.elim
      · exact h.elim
    · exact h.elim
  | putfield i =>
    dsimp only at h
    simp only [Bool.and_eq_true] at hI
    obtain ⟨h1, h2⟩ := hI
    obtain rfl := of_decide_eq_true h1
    have h2' : (match flt[d]? with | some q => decide (q.1 = own ∧ q.2.1 = i ∧ q.2.2.1 = a ∧ q.2.2.2.1 = b) | none => false) = true ∧ (FT a b).2.2.2 = false ∧ fty a b = .int := by
      revert h2
      cases flt[d]? with
      | none => intro z; cases z
      | some q =>
        intro z
        obtain ⟨z1, z2, z3, z4, z5, z6⟩ := of_decide_eq_true z
        exact ⟨decide_eq_true ⟨z1, z2, z3, z4⟩, z5, z6⟩
    obtain ⟨h3, hfin, hty⟩ := h2'
    obtain ⟨hw, ha, hbk⟩ := in_fl h3
    unfold p_put at h
    split at h
    · rename_i x cl r
      split at h
      · rename_i cj fs hlay
        split at h
        · rename_i hcj
          have hcj := Nat.eq_of_beq_eq_true hcj
          subst hcj
          have hent : (wW cI cZ ad σ)[cl]? = some (ad cl, .inr (cj, obF ad σ cl fs)) := by rw [wW_at (lay_lt hlay)]; simp only [ent, hlay]
          split at h
          · rename_i hf
            have hpd := ty_in ha b hbk
            rw [hty] at hpd
            refine va_put (v := .int x) (ty := .int) (C := cn cj) (T := FT cj) (N := NF cj) hx hb hts (u_in ha) (fty cj) (ty_in ha) (nm_in ha) hown hC.1 hP hD hS cl hent (cls_at ha) b hbk (hts _ hw) (fun _ z => z) hfin hpd rfl rfl (by rw [obF_len]; exact (List.getElem?_eq_some_iff.mp hf).1) hdg (fun H1 locs1 hP1 hD1 hS1 => ?_)
            rw [wW_set (i := b) (v := x) (lay_lt hlay) (by simp only [ent, hlay]; rw [obF_set hf])] at hP1 hD1
            exact h H1 locs1 ls hP1 hD1 hS1 hL
          · exact h.elim
        · exact h.elim
      · exact h.elim
    · exact h.elim
  | getstatic i =>
    dsimp only at h
    obtain ⟨rfl, hh⟩ := of_decide_eq_true hI
    rcases hh with ⟨rfl, rfl, rfl⟩ | ⟨rfl, rfl, rfl⟩ | ⟨rfl, rfl, rfl⟩
    · exact va_getsN hx hb (hC.2.2.1 0 (by omega)) hS hown (va_Nw.use rfl hC.2.1.1) (fun _ z => z) hdg (h H locs ls hP hD hS hL)
    · exact va_getsN hx hb (hC.2.2.1 1 (by omega)) hS hown (va_Nw.use rfl hC.2.1.2.1) (fun _ z => z) hdg (h H locs ls hP hD hS hL)
    · exact va_gets hx hb (hC.2.2.1 2 (by omega)) hS hown (hts _ (tb_of most_ok rfl)) (fun _ z => z) hdg (h H locs ls hP hD hS hL)
  | invokevirtual i =>
    dsimp only at h
    simp only [Bool.and_eq_true] at hI
    obtain ⟨h1, h2⟩ := hI
    obtain ⟨rfl, hk, hs, rfl, rfl, h53, h106⟩ := of_decide_eq_true h1
    exact call_v F hk h53 h106 hs h2 hdg hP hD hS hL h
  | invokestatic i =>
    dsimp only at h
    simp only [Bool.and_eq_true] at hI
    obtain ⟨h1, h2⟩ := hI
    obtain ⟨rfl, hk, hs, rfl, hh⟩ := of_decide_eq_true h1
    rcases hh with ⟨rfl, rfl, rfl, rfl⟩ | ⟨rfl, rfl, rfl, rfl⟩ | ⟨rfl, h53, h106⟩ | ⟨rfl, rfl, rfl, rfl⟩ | ⟨rfl, rfl, rfl, rfl⟩
    · have h : (match Nat.ble (cats st) 8 with | true => i_un absI (fun st => XW p l e R s m args below meth c dC dI cI cZ ad A0 cells slots QQ nL (pc + 3) lv st σ) st | false => False) := h
      split at h
      · rename_i hcat
        have hcat := Nat.le_of_ble_eq_true hcat
        have hlk : Cond.methodLink (cn 6) 67 (mY 53) ∈ TB := in_ml (by simpa using h2)
        have hstt := mOk_st hk hs
        rw [my53] at hlk hstt
        unfold i_un at h
        split at h
        · rename_i x r _ _
          have hcr : ((r.map (cv ad)).map fun v => v.category).sum ≤ 8 := by
            rw [cv_cats]
            have : cats (Value.int x :: r) = 1 + cats r := rfl
            omega
          exact va_mabs hx hb (hmx.trans hL.2.1.symm) hown (hts _ hlk) (hts _ hstt) (hts _ (in_ini (o := 15) (by omega))) (hts _ mc53) (by omega) (by omega) hc1 hc2 hdg (h H locs ls hP hD hS hL)
        · exact h.elim
      · exact h.elim
    · have h : (match Nat.ble (cats st) 8 with | true => i_bin maxI (fun st => XW p l e R s m args below meth c dC dI cI cZ ad A0 cells slots QQ nL (pc + 3) lv st σ) st | false => False) := h
      split at h
      · rename_i hcat
        have hcat := Nat.le_of_ble_eq_true hcat
        have hlk : Cond.methodLink (cn 11) 94 (mY 106) ∈ TB := in_ml (by simpa using h2)
        have hstt := mOk_st hk hs
        rw [my106] at hlk hstt
        unfold i_bin at h
        split at h
        · rename_i y x r _ _
          have hcr : ((r.map (cv ad)).map fun v => v.category).sum ≤ 8 := by
            rw [cv_cats]
            have : cats (Value.int y :: Value.int x :: r) = 1 + (1 + cats r) := rfl
            omega
          exact va_mmax hx hb (hmx.trans hL.2.1.symm) hown (hts _ hlk) (hts _ hstt) (hts _ (in_ini (o := 15) (by omega))) (hts _ mc106) (by omega) (by omega) hc1 hc2 hdg (h H locs ls hP hD hS hL)
        · exact h.elim
      · exact h.elim
    · refine call_s F hk h53 h106 hs (Or.inl ?_) hdg hP hD hS hL h
      simpa using h2
    · exact call_s F hk (by decide) (by decide) hs (Or.inr ⟨"TradeTests", hC.2.1.2.2.1⟩) hdg hP hD hS hL h
    · exact call_s F hk (by decide) (by decide) hs (Or.inr ⟨"TradeTests", hC.2.1.2.2.2⟩) hdg hP hD hS hL h
  | ireturn =>
    dsimp only at h
    obtain rfl := of_decide_eq_true hI
    unfold p_ret at h
    split at h
    · split at h
      · exact h.elim
      · exact hret.1 pc _ σ H locs ls (by omega) (fun z => absurd rfl z) h hP hD hS hdg
      · rename_i hz0 hz1
        exact hret.1 pc _ σ H locs ls hz0 (fun _ => h.1) h.2 hP hD hS hdg
    · exact h.elim
  | return_ =>
    dsimp only at h
    obtain rfl := of_decide_eq_true hI
    unfold p_rtv at h
    split at h
    · split at h
      · exact hret.2 pc σ H locs ls rfl h hP hD hS hdg
      · exact h.elim
    · exact h.elim
  | _ => exact h.elim
theorem fnd_spec : ∀ {cd : List CE} {pc : Nat} {q : CE}, fnd cd pc = some q → q ∈ cd ∧ q.1 = pc
  | [], _, _, h => by cases h
  | r :: cd, pc, q, h => by
    unfold fnd at h
    split at h
    · rename_i hq
      cases h
      exact ⟨List.mem_cons_self, Nat.eq_of_beq_eq_true hq⟩
    · obtain ⟨h1, h2⟩ := fnd_spec h
      exact ⟨List.mem_cons_of_mem _ h1, h2⟩
/-- what the pure machine comes to, the machine comes to -/
theorem snd (F : Frm p l R s m args c own nL cc dC dI cI cZ ad sc A0 d0 cells slots C) {rk : Nat} {Q : Int32 → St → Prop} (hret : RetI p l e R s m args below meth c cc dC dI cI cZ ad A0 cells slots QQ rk Q) {cd : List CE} (hok : ∀ q ∈ cd, okCE own nL cc q = true) {pc : Nat} {lv : LV} {st : List Value} {σ : St}
    (h : Ex sc C rk cd Q pc lv st σ) : XW p l e R s m args below meth c dC dI cI cZ ad A0 cells slots QQ nL pc lv st σ := by
  refine h _ (fun pc lv st σ z => ?_)
  unfold stC at z
  split at z
  · rename_i q hq
    obtain ⟨h1, rfl⟩ := fnd_spec hq
    exact snd1 F hret (hok q h1) z
  · exact z.elim
end SND
end
section
/-! contracts of all methods out of the pure machine -/
def lv0 (k : Nat) (as : List Value) : LV := as.map some ++ List.replicate (mL k - as.length) none
theorem lg_sl1 : ∀ {vs : List Value}, (∀ v ∈ vs, v.category = 1) → (lg_sl vs).length = vs.length
  | [], _ => rfl
  | v :: vs, h => by
    have h1 := h v List.mem_cons_self
    have ih := lg_sl1 (vs := vs) (fun w hw => h w (List.mem_cons_of_mem _ hw))
    unfold lg_sl at ih ⊢
    rw [List.flatMap_cons, List.length_append, ih, if_neg (by omega)]
    simp; omega
theorem lv_args1 : ∀ {vs : List Value} {n i : Nat} {v : Value}, (∀ v ∈ vs, v.category = 1) → vs[i]? = some v → (n + i, v) ∈ lv_args n vs
  | [], n, i, v, _, h => by simp at h
  | w :: vs, n, 0, v, hc, h => by
    simp at h
    subst h
    exact List.mem_cons_self
  | w :: vs, n, i + 1, v, hc, h => by
    have h1 := hc w List.mem_cons_self
    have ih := lv_args1 (vs := vs) (n := n + 1) (i := i) (v := v) (fun z hz => hc z (List.mem_cons_of_mem _ hz)) (by simpa using h)
    unfold lv_args
    rw [if_neg (by omega)]
    refine List.mem_cons_of_mem _ ?_
    rw [show n + (i + 1) = n + 1 + i by omega]
    exact ih
theorem LH0 {ad : Nat → Nat} {k : Nat} {as : List Value} (hc : ∀ v ∈ as, v.category = 1) (hn : as.length ≤ mL k) : LH ad (mL k) ((lg_sl (as.map (cv ad)) ++ List.replicate (mL k - (lg_sl (as.map (cv ad))).length) Slot.unset).toArray) (lv0 k as) := by
  have hc' : ∀ v ∈ as.map (cv ad), v.category = 1 := by
    intro v hv
    obtain ⟨w, hw, rfl⟩ := List.mem_map.mp hv
    rw [cv_cat]; exact hc w hw
  have hl := lv_entry (as.map (cv ad)) (n := mL k) (by rw [lg_sl1 hc', List.length_map]; exact hn)
  refine ⟨by simp [lv0]; omega, hl.1, hl.2.1, ?_⟩
  rintro ⟨i, w⟩ hq
  obtain ⟨v, h1, rfl⟩ := prs_mem.mp hq
  have hi : as[i]? = some v := by
    unfold lv0 at h1
    rcases Nat.lt_or_ge i as.length with hlt | hge
    · rw [List.getElem?_append_left (by rw [List.length_map]; exact hlt), List.getElem?_map] at h1
      cases hz : as[i]? with
      | none => rw [hz] at h1; cases h1
      | some z => rw [hz] at h1; simp at h1; rw [h1]
    · rw [List.getElem?_append_right (by rw [List.length_map]; exact hge)] at h1
      have := List.eq_of_mem_replicate (List.mem_of_getElem? h1)
      cases this
  have h2 := lv_args1 (n := 0) (i := i) hc' (show (as.map (cv ad))[i]? = some (cv ad v) by rw [List.getElem?_map, hi]; rfl)
  rw [Nat.zero_add] at h2
  exact hl.2.2 _ h2
/-- only calls of methods below a depth -/
def CDd (C : CT) (dep : Nat → Nat) (d : Nat) : CT := fun k as σ Q => dep k ≤ d ∧ C k as σ Q
theorem CDd_mon {C : CT} (hC : MonC C) (dep : Nat → Nat) (d : Nat) : MonC (CDd C dep d) := fun k as σ Q Q' hQ h => ⟨h.1, hC k as σ Q Q' hQ h.2⟩
def dpOk (dep : Nat → Nat) (d : Nat) (q : CE) : Bool := match q with
  | (_, _, ins, _, a, _, b, _) => (match ins with
    | .invokevirtual _ => Nat.ble (dep a) d
    | .invokestatic _ => Nat.beq b 53 || Nat.beq b 106 || Nat.ble (dep a) d
    | _ => true)
theorem p_call_dep {C : CT} {dep : Nat → Nat} {d : Nat} {vd : Bool} {a b : Nat} (hd : dep a ≤ d) {ok : List Value → Bool} {K : List Value → St → Prop} {st : List Value} {σ : St} (h : p_call C vd a b ok K st σ) : p_call (CDd C dep d) vd a b ok K st σ := by
  unfold p_call at *
  split at h
  · exact ⟨hd, h⟩
  · exact h.elim
set_option maxHeartbeats 4000000 in
theorem stp_dep {sc : Nat × (Nat → Int32)} {C : CT} {dep : Nat → Nat} {d : Nat} {rk : Nat} {Q : Int32 → St → Prop} {K : KT} {q : CE} (hq : dpOk dep d q = true) {lv : LV} {st : List Value} {σ : St} (h : stp sc C rk Q K q lv st σ) : stp sc (CDd C dep d) rk Q K q lv st σ := by
  obtain ⟨pc, len, ins, imm, a, b, dd, sw⟩ := q
  cases ins with
  | invokevirtual i =>
    unfold stp at h ⊢
    dsimp only at h ⊢
    exact p_call_dep (Nat.le_of_ble_eq_true hq) h
  | invokestatic i =>
    unfold stp at h ⊢
    unfold dpOk at hq
    dsimp only at h hq ⊢
    split at h
    · exact h
    · exact h
    · rename_i h1 h2
      rw [h1, h2] at hq
      exact p_call_dep (Nat.le_of_ble_eq_true hq) h
  | ifCond cc o => cases cc <;> exact h
  | if_icmp cc o => cases cc <;> exact h
  | _ => exact h
theorem Ex_dep {sc : Nat × (Nat → Int32)} {C : CT} {dep : Nat → Nat} {d : Nat} {rk : Nat} {cd : List CE} (hcd : ∀ q ∈ cd, dpOk dep d q = true) {Q : Int32 → St → Prop} {pc : Nat} {lv : LV} {st : List Value} {σ : St} (h : Ex sc C rk cd Q pc lv st σ) : Ex sc (CDd C dep d) rk cd Q pc lv st σ := by
  intro X hX
  refine h X (fun pc lv st σ z => hX _ _ _ _ ?_)
  unfold stC at *
  split at z
  · rename_i q hq
    exact stp_dep (hcd q (fnd_spec hq).1) z
  · exact z.elim
theorem plain_k {k : Nat} (h : k < NM) (h1 : mO k ≠ 15) : plainName (mY k).cls = true := by
  have q := mOk_all h
  unfold mOk at q
  simp only [Bool.and_eq_true, decide_eq_true_eq] at q
  obtain ⟨⟨⟨⟨⟨⟨⟨⟨⟨q1, q2⟩, q3⟩, q4⟩, q5⟩, q6⟩, q7⟩, q8⟩, q9⟩, -⟩ := q
  exact q3.resolve_left h1
set_option maxRecDepth 100000 in
theorem mo15 : ((List.range NM).all fun k => decide (k = 53 ∨ k = 106 ∨ mO k ≠ 15)) = true := by decide +kernel
set_option maxHeartbeats 4000000 in
theorem met_one {l : Launch} {dC : Nat → ClassId} {dI : Nat → Nat → Nat} {cI cZ : ClassId} {ad : Nat → Nat} {sc : Nat × (Nat → Int32)} {C : CT} {d k : Nat} (hk : k < NM) (h53 : k ≠ 53) (h106 : k ≠ 106) (hM : ∀ k, k < NM → k ≠ 53 → k ≠ 106 → MetK l dC dI cI cZ ad sc C k d) {cd : List CE} (hcd : ∀ q ∈ cd, okCE (mO k) (mL k) (mB k) q = true) {as : List Value} (hc : ∀ v ∈ as, v.category = 1) (hn : as.length ≤ mL k) {σ : St} {Q : Int32 → St → Prop}
    (hE : Ex sc C (mRk k) cd Q 0 (lv0 k as) [] σ) : Met l (mY k) (wkK k) (rmD (d + 1)) (va_Pc (as.map (cv ad)) (WB dC dI cI cZ ad sc σ)) (QcK dC dI cI cZ ad sc k Q) 0 0 (ADA ad) := by
  have hpl : plainName (mY k).cls = true := plain_k hk (((of_decide_eq_true (all_rg mo15 hk)).resolve_left h53).resolve_left h106)
  refine Met.ofW (cc := mB k) (maxL := mL k) (ret := mR k) hpl rfl ?_
  intro p e s m args below meth c s₁ B hml hv
  obtain ⟨rfl, hP, hD, hCtx⟩ := hv
  have hts : ∀ w ∈ TB, w.before (as.map (cv ad)).toArray s = true := fun w hw => atoms_spec (ws := wkK k) B.pre w (List.mem_cons_of_mem _ hw)
  have hown : s.vm.findClass (cn (mO k)) = some m.cls := findClass_of_methodNamed B.named
  have hlocks := B.notSynchronized
  have hr := B.returns
  have F : Frm p l (headSpec (wkK k) (rmD (d + 1))).room s m (as.map (cv ad)).toArray c (mO k) (mL k) (mB k) dC dI cI cZ ad sc (ADA ad) d 0 0 C := ⟨B.exec, B.bytes, hml, hown, hts, hCtx, fun _ z => z, Nat.le_refl _, Nat.le_refl _, Nat.zero_le _, Nat.zero_le _, hM⟩
  have hret : RetI p l e (headSpec (wkK k) (rmD (d + 1))).room s m (as.map (cv ad)).toArray below meth c (mB k) dC dI cI cZ ad (ADA ad) 0 0 (MQ below (QcK dC dI cI cZ ad sc k Q) (as.map (cv ad)).toArray s 0 0 (ADA ad)) (mRk k) Q := by
    have hend : ∀ (t : State) (σ' : St) (H : Heap) (locs : List Loc), t.heap = H → s.WarmedH t.vm → va_P (dC, dI) cls (wW cI cZ ad σ') H → va_D (ADA ad) (wW cI cZ ad σ') → va_S (ADA ad) s.heap H locs → WB dC dI cI cZ ad sc σ' t ∧ va_F (ADA ad) s t := fun t σ' H locs ht hW hP' hD' hS' => ⟨⟨by rw [ht]; exact hP', hD', hCtx.moved hW hS' (fun _ z => z) ht⟩, hS'.F ht⟩
    refine ⟨fun pc x σ' H locs ls hz hbo hQ hP' hD' hS' hdg => ?_, fun pc σ' H locs ls hz hQ hP' hD' hS' hdg => ?_⟩
    · have hq : ∀ t : State, t.heap = H → s.WarmedH t.vm → QcK dC dI cI cZ ad sc k Q (as.map (cv ad)).toArray s (.returned (some (.int x))) t := by
        intro t ht hW
        unfold QcK
        have hb0 : Nat.beq (mRk k) 0 = false := by
          cases hbq : Nat.beq (mRk k) 0 with
          | false => rfl
          | true => exact absurd (Nat.eq_of_beq_eq_true hbq) hz
        rw [hb0]
        obtain ⟨g1, g2⟩ := hend t σ' H locs ht hW hP' hD' hS'
        exact ⟨⟨x, σ', rfl, hQ, g1⟩, g2⟩
      by_cases h1 : mRk k = 1
      · have hr1 : meth.sig.returnType = some .int := by rw [hr]; show rty (mRk k) = _; rw [h1]; rfl
        exact W.iret B.exec B.bytes hr1 hq hS'.2.2 hdg
      · have hr2 : meth.sig.returnType = some .boolean := by
          rw [hr]; show rty (mRk k) = _
          unfold rty
          split
          · omega
          · omega
          · rfl
        exact W.zret B.exec B.bytes hr2 (nar_b' (hbo h1)) hq hS'.2.2 hdg
    · have hq : ∀ t : State, t.heap = H → s.WarmedH t.vm → QcK dC dI cI cZ ad sc k Q (as.map (cv ad)).toArray s (.returned none) t := by
        intro t ht hW
        unfold QcK
        rw [hz]
        obtain ⟨g1, g2⟩ := hend t σ' H locs ht hW hP' hD' hS'
        exact ⟨⟨σ', rfl, hQ, g1⟩, g2⟩
      have hr0 : meth.sig.returnType = none := by rw [hr]; show rty (mRk k) = _; rw [hz]; rfl
      exact W.vret B.exec B.bytes hr0 hq hS'.2.2 hdg
  rw [lg_entry_eq]
  exact snd F hret hcd hE s.heap [] _ hP hD va_S.rf (LH0 hc hn)
/-- all contracts, by the depth of the calls -/
theorem all_met {l : Launch} {dC : Nat → ClassId} {dI : Nat → Nat → Nat} {cI cZ : ClassId} {ad : Nat → Nat} {sc : Nat × (Nat → Int32)} {C : CT} {dep : Nat → Nat} {cdf : Nat → List CE} (hargs : ∀ k as σ Q, C k as σ Q → as.length = mA k ∧ ∀ v ∈ as, v.category = 1)
    (hcd : ∀ k, k < NM → k ≠ 53 → k ≠ 106 → ∀ q ∈ cdf k, okCE (mO k) (mL k) (mB k) q = true ∧ ∀ d, dep k ≤ d + 1 → dpOk dep d q = true) (hdep : ∀ k, 0 < dep k)
    (hpure : ∀ k, k < NM → k ≠ 53 → k ≠ 106 → ∀ as σ Q, C k as σ Q → Ex sc C (mRk k) (cdf k) Q 0 (lv0 k as) [] σ) : ∀ d k, k < NM → k ≠ 53 → k ≠ 106 → MetK l dC dI cI cZ ad sc (CDd C dep d) k d
  | 0, k, _, _, _ => fun as σ Q h => absurd h.1 (by have := hdep k; omega)
  | d + 1, k, hk, h53, h106 => fun as σ Q h => by
    have ha := hargs k as σ Q h.2
    refine met_one hk h53 h106 (all_met hargs hcd hdep hpure d) (fun q hq => (hcd k hk h53 h106 q hq).1) ha.2 (by rw [ha.1]; exact (mOk_spec hk h53 h106).2.2.2.2.2.1) ?_
    exact Ex_dep (fun q hq => (hcd k hk h53 h106 q hq).2 d h.1) (hpure k hk h53 h106 as σ Q h.2)
end
