section
-- ===== PART A: goes FIRST, ahead of the names: the tables' words, and 'selects' of the private methods out of them =====
/-- a private method of a class that the tables say can be made, by its rows of tables_1 -/
def lw_okq (q : MethodName × Nat) : Prop := (q.1.cls ≠ "java/lang/invoke/MethodHandle" ∧ q.1.cls ≠ "java/lang/invoke/VarHandle") ∧ Cond.instantiable q.1.cls q.2 ∈ tables_1 ∧ Cond.privateMethod q.1 ∈ tables_1 ∧ Cond.instanceMethod q.1 ∈ tables_1
theorem lw_p0 : lw_okq (⟨"TradeTests", "finding", "(I)I"⟩, 14) := ⟨⟨by decide +kernel, by decide +kernel⟩, List.mem_of_getElem? (i := 17) (by decide +kernel), List.mem_of_getElem? (i := 430) (by decide +kernel), List.mem_of_getElem? (i := 431) (by decide +kernel)⟩
theorem lw_p1 : lw_okq (⟨"TradeTests", "isWho", "(I)Z"⟩, 14) := ⟨⟨by decide +kernel, by decide +kernel⟩, List.mem_of_getElem? (i := 17) (by decide +kernel), List.mem_of_getElem? (i := 492) (by decide +kernel), List.mem_of_getElem? (i := 493) (by decide +kernel)⟩
theorem lw_p2 : lw_okq (⟨"TradeTests", "isWhen", "(II)Z"⟩, 14) := ⟨⟨by decide +kernel, by decide +kernel⟩, List.mem_of_getElem? (i := 17) (by decide +kernel), List.mem_of_getElem? (i := 496) (by decide +kernel), List.mem_of_getElem? (i := 497) (by decide +kernel)⟩
theorem lw_p3 : lw_okq (⟨"TradeTests", "isMiles", "(II)Z"⟩, 14) := ⟨⟨by decide +kernel, by decide +kernel⟩, List.mem_of_getElem? (i := 17) (by decide +kernel), List.mem_of_getElem? (i := 507) (by decide +kernel), List.mem_of_getElem? (i := 508) (by decide +kernel)⟩
theorem lw_p4 : lw_okq (⟨"TradeTests$Texts", "clearNext", "()V"⟩, 8) := ⟨⟨by decide +kernel, by decide +kernel⟩, List.mem_of_getElem? (i := 182) (by decide +kernel), List.mem_of_getElem? (i := 545) (by decide +kernel), List.mem_of_getElem? (i := 546) (by decide +kernel)⟩
theorem lw_p5 : lw_okq (⟨"TradeTests$Texts", "readRows", "()Z"⟩, 8) := ⟨⟨by decide +kernel, by decide +kernel⟩, List.mem_of_getElem? (i := 182) (by decide +kernel), List.mem_of_getElem? (i := 549) (by decide +kernel), List.mem_of_getElem? (i := 550) (by decide +kernel)⟩
theorem lw_p6 : lw_okq (⟨"TradeTests$Texts", "readRow", "()Z"⟩, 8) := ⟨⟨by decide +kernel, by decide +kernel⟩, List.mem_of_getElem? (i := 182) (by decide +kernel), List.mem_of_getElem? (i := 553) (by decide +kernel), List.mem_of_getElem? (i := 554) (by decide +kernel)⟩
theorem lw_p7 : lw_okq (⟨"TradeTests$Texts", "next", "()I"⟩, 8) := ⟨⟨by decide +kernel, by decide +kernel⟩, List.mem_of_getElem? (i := 182) (by decide +kernel), List.mem_of_getElem? (i := 557) (by decide +kernel), List.mem_of_getElem? (i := 558) (by decide +kernel)⟩
theorem lw_p8 : lw_okq (⟨"TradeTests$Texts", "readFault", "()Z"⟩, 8) := ⟨⟨by decide +kernel, by decide +kernel⟩, List.mem_of_getElem? (i := 182) (by decide +kernel), List.mem_of_getElem? (i := 561) (by decide +kernel), List.mem_of_getElem? (i := 562) (by decide +kernel)⟩
theorem lw_p9 : lw_okq (⟨"TradeTests$Texts", "readEnd", "()Z"⟩, 8) := ⟨⟨by decide +kernel, by decide +kernel⟩, List.mem_of_getElem? (i := 182) (by decide +kernel), List.mem_of_getElem? (i := 571) (by decide +kernel), List.mem_of_getElem? (i := 572) (by decide +kernel)⟩
theorem lw_p10 : lw_okq (⟨"TradeTests$Texts", "readNumber", "(I)I"⟩, 8) := ⟨⟨by decide +kernel, by decide +kernel⟩, List.mem_of_getElem? (i := 182) (by decide +kernel), List.mem_of_getElem? (i := 576) (by decide +kernel), List.mem_of_getElem? (i := 577) (by decide +kernel)⟩
theorem lw_p11 : lw_okq (⟨"TradeTests$Judge", "brakesDo", "(III)Z"⟩, 3) := ⟨⟨by decide +kernel, by decide +kernel⟩, List.mem_of_getElem? (i := 219) (by decide +kernel), List.mem_of_getElem? (i := 602) (by decide +kernel), List.mem_of_getElem? (i := 603) (by decide +kernel)⟩
theorem lw_p12 : lw_okq (⟨"TradeTests$Plan", "survey", "(I)V"⟩, 8) := ⟨⟨by decide +kernel, by decide +kernel⟩, List.mem_of_getElem? (i := 349) (by decide +kernel), List.mem_of_getElem? (i := 623) (by decide +kernel), List.mem_of_getElem? (i := 624) (by decide +kernel)⟩
theorem lw_p13 : lw_okq (⟨"TradeTests$Signals", "isAlike", "(II)Z"⟩, 4) := ⟨⟨by decide +kernel, by decide +kernel⟩, List.mem_of_getElem? (i := 235) (by decide +kernel), List.mem_of_getElem? (i := 636) (by decide +kernel), List.mem_of_getElem? (i := 637) (by decide +kernel)⟩
theorem lw_p14 : lw_okq (⟨"TradeTests$Signals", "isMeeting", "(II)Z"⟩, 4) := ⟨⟨by decide +kernel, by decide +kernel⟩, List.mem_of_getElem? (i := 235) (by decide +kernel), List.mem_of_getElem? (i := 653) (by decide +kernel), List.mem_of_getElem? (i := 654) (by decide +kernel)⟩
theorem lw_p15 : lw_okq (⟨"TradeTests$Rates", "fillCells", "()V"⟩, 9) := ⟨⟨by decide +kernel, by decide +kernel⟩, List.mem_of_getElem? (i := 254) (by decide +kernel), List.mem_of_getElem? (i := 684) (by decide +kernel), List.mem_of_getElem? (i := 685) (by decide +kernel)⟩
def lw_privs_1 : List (MethodName × Nat) := [(⟨"TradeTests", "finding", "(I)I"⟩, 14), (⟨"TradeTests", "isWho", "(I)Z"⟩, 14), (⟨"TradeTests", "isWhen", "(II)Z"⟩, 14), (⟨"TradeTests", "isMiles", "(II)Z"⟩, 14), (⟨"TradeTests$Texts", "clearNext", "()V"⟩, 8), (⟨"TradeTests$Texts", "readRows", "()Z"⟩, 8), (⟨"TradeTests$Texts", "readRow", "()Z"⟩, 8), (⟨"TradeTests$Texts", "next", "()I"⟩, 8), (⟨"TradeTests$Texts", "readFault", "()Z"⟩, 8), (⟨"TradeTests$Texts", "readEnd", "()Z"⟩, 8), (⟨"TradeTests$Texts", "readNumber", "(I)I"⟩, 8), (⟨"TradeTests$Judge", "brakesDo", "(III)Z"⟩, 3), (⟨"TradeTests$Plan", "survey", "(I)V"⟩, 8), (⟨"TradeTests$Signals", "isAlike", "(II)Z"⟩, 4), (⟨"TradeTests$Signals", "isMeeting", "(II)Z"⟩, 4), (⟨"TradeTests$Rates", "fillCells", "()V"⟩, 9)]
theorem lw_r1 : ∀ q ∈ lw_privs_1, lw_okq q := List.forall_mem_cons.mpr ⟨lw_p0, List.forall_mem_cons.mpr ⟨lw_p1, List.forall_mem_cons.mpr ⟨lw_p2, List.forall_mem_cons.mpr ⟨lw_p3, List.forall_mem_cons.mpr ⟨lw_p4, List.forall_mem_cons.mpr ⟨lw_p5, List.forall_mem_cons.mpr ⟨lw_p6, List.forall_mem_cons.mpr ⟨lw_p7, List.forall_mem_cons.mpr ⟨lw_p8, List.forall_mem_cons.mpr ⟨lw_p9, List.forall_mem_cons.mpr ⟨lw_p10, List.forall_mem_cons.mpr ⟨lw_p11, List.forall_mem_cons.mpr ⟨lw_p12, List.forall_mem_cons.mpr ⟨lw_p13, List.forall_mem_cons.mpr ⟨lw_p14, List.forall_mem_cons.mpr ⟨lw_p15, fun _ h => absurd h List.not_mem_nil⟩⟩⟩⟩⟩⟩⟩⟩⟩⟩⟩⟩⟩⟩⟩⟩
theorem lw_p16 : lw_okq (⟨"TradeTests$Rates", "cellOf", "(I)I"⟩, 9) := ⟨⟨by decide +kernel, by decide +kernel⟩, List.mem_of_getElem? (i := 254) (by decide +kernel), List.mem_of_getElem? (i := 688) (by decide +kernel), List.mem_of_getElem? (i := 689) (by decide +kernel)⟩
theorem lw_p17 : lw_okq (⟨"TradeTests$Rates", "measure", "(I)V"⟩, 9) := ⟨⟨by decide +kernel, by decide +kernel⟩, List.mem_of_getElem? (i := 254) (by decide +kernel), List.mem_of_getElem? (i := 696) (by decide +kernel), List.mem_of_getElem? (i := 697) (by decide +kernel)⟩
theorem lw_p18 : lw_okq (⟨"TradeTests$Rates", "cellShare", "(I)I"⟩, 9) := ⟨⟨by decide +kernel, by decide +kernel⟩, List.mem_of_getElem? (i := 254) (by decide +kernel), List.mem_of_getElem? (i := 701) (by decide +kernel), List.mem_of_getElem? (i := 702) (by decide +kernel)⟩
theorem lw_p19 : lw_okq (⟨"TradeTests$Rates", "more", "()I"⟩, 9) := ⟨⟨by decide +kernel, by decide +kernel⟩, List.mem_of_getElem? (i := 254) (by decide +kernel), List.mem_of_getElem? (i := 705) (by decide +kernel), List.mem_of_getElem? (i := 706) (by decide +kernel)⟩
theorem lw_p20 : lw_okq (⟨"TradeTests$Rates", "beyondChance", "()I"⟩, 9) := ⟨⟨by decide +kernel, by decide +kernel⟩, List.mem_of_getElem? (i := 254) (by decide +kernel), List.mem_of_getElem? (i := 709) (by decide +kernel), List.mem_of_getElem? (i := 710) (by decide +kernel)⟩
theorem lw_p21 : lw_okq (⟨"TradeTests$Rates", "garagesWithTests", "()I"⟩, 9) := ⟨⟨by decide +kernel, by decide +kernel⟩, List.mem_of_getElem? (i := 254) (by decide +kernel), List.mem_of_getElem? (i := 713) (by decide +kernel), List.mem_of_getElem? (i := 714) (by decide +kernel)⟩
theorem lw_p22 : lw_okq (⟨"TradeTests$Odometer", "milesAhead", "(I)I"⟩, 1) := ⟨⟨by decide +kernel, by decide +kernel⟩, List.mem_of_getElem? (i := 288) (by decide +kernel), List.mem_of_getElem? (i := 744) (by decide +kernel), List.mem_of_getElem? (i := 745) (by decide +kernel)⟩
theorem lw_p23 : lw_okq (⟨"TradeTests$Odometer", "milesBehind", "(I)I"⟩, 1) := ⟨⟨by decide +kernel, by decide +kernel⟩, List.mem_of_getElem? (i := 288) (by decide +kernel), List.mem_of_getElem? (i := 748) (by decide +kernel), List.mem_of_getElem? (i := 749) (by decide +kernel)⟩
theorem lw_p24 : lw_okq (⟨"TradeTests$Penalties", "fillPoints", "(I)V"⟩, 6) := ⟨⟨by decide +kernel, by decide +kernel⟩, List.mem_of_getElem? (i := 324) (by decide +kernel), List.mem_of_getElem? (i := 804) (by decide +kernel), List.mem_of_getElem? (i := 805) (by decide +kernel)⟩
theorem lw_p25 : lw_okq (⟨"TradeTests$Penalties", "rowSum", "(I)I"⟩, 6) := ⟨⟨by decide +kernel, by decide +kernel⟩, List.mem_of_getElem? (i := 324) (by decide +kernel), List.mem_of_getElem? (i := 809) (by decide +kernel), List.mem_of_getElem? (i := 810) (by decide +kernel)⟩
theorem lw_p26 : lw_okq (⟨"TradeTests$Plan", "newFaults", "(I)I"⟩, 8) := ⟨⟨by decide +kernel, by decide +kernel⟩, List.mem_of_getElem? (i := 349) (by decide +kernel), List.mem_of_getElem? (i := 847) (by decide +kernel), List.mem_of_getElem? (i := 848) (by decide +kernel)⟩
theorem lw_p27 : lw_okq (⟨"TradeTests$Plan", "mostFrom", "(II)I"⟩, 8) := ⟨⟨by decide +kernel, by decide +kernel⟩, List.mem_of_getElem? (i := 349) (by decide +kernel), List.mem_of_getElem? (i := 863) (by decide +kernel), List.mem_of_getElem? (i := 864) (by decide +kernel)⟩
theorem lw_p28 : lw_okq (⟨"TradeTests$Plan", "mostWith", "(III)I"⟩, 8) := ⟨⟨by decide +kernel, by decide +kernel⟩, List.mem_of_getElem? (i := 349) (by decide +kernel), List.mem_of_getElem? (i := 870) (by decide +kernel), List.mem_of_getElem? (i := 871) (by decide +kernel)⟩
theorem lw_p29 : lw_okq (⟨"TradeTests$Plan", "leastGarage", "(II)I"⟩, 8) := ⟨⟨by decide +kernel, by decide +kernel⟩, List.mem_of_getElem? (i := 349) (by decide +kernel), List.mem_of_getElem? (i := 885) (by decide +kernel), List.mem_of_getElem? (i := 886) (by decide +kernel)⟩
theorem lw_p30 : lw_okq (⟨"TradeTestsModel", "finds", "(I)I"⟩, 50) := ⟨⟨by decide +kernel, by decide +kernel⟩, List.mem_of_getElem? (i := 940) (by decide +kernel), List.mem_of_getElem? (i := 1108) (by decide +kernel), List.mem_of_getElem? (i := 1109) (by decide +kernel)⟩
theorem lw_p31 : lw_okq (⟨"TradeTestsModel", "isVehicle", "(I)Z"⟩, 50) := ⟨⟨by decide +kernel, by decide +kernel⟩, List.mem_of_getElem? (i := 940) (by decide +kernel), List.mem_of_getElem? (i := 1117) (by decide +kernel), List.mem_of_getElem? (i := 1118) (by decide +kernel)⟩
def lw_privs_2 : List (MethodName × Nat) := [(⟨"TradeTests$Rates", "cellOf", "(I)I"⟩, 9), (⟨"TradeTests$Rates", "measure", "(I)V"⟩, 9), (⟨"TradeTests$Rates", "cellShare", "(I)I"⟩, 9), (⟨"TradeTests$Rates", "more", "()I"⟩, 9), (⟨"TradeTests$Rates", "beyondChance", "()I"⟩, 9), (⟨"TradeTests$Rates", "garagesWithTests", "()I"⟩, 9), (⟨"TradeTests$Odometer", "milesAhead", "(I)I"⟩, 1), (⟨"TradeTests$Odometer", "milesBehind", "(I)I"⟩, 1), (⟨"TradeTests$Penalties", "fillPoints", "(I)V"⟩, 6), (⟨"TradeTests$Penalties", "rowSum", "(I)I"⟩, 6), (⟨"TradeTests$Plan", "newFaults", "(I)I"⟩, 8), (⟨"TradeTests$Plan", "mostFrom", "(II)I"⟩, 8), (⟨"TradeTests$Plan", "mostWith", "(III)I"⟩, 8), (⟨"TradeTests$Plan", "leastGarage", "(II)I"⟩, 8), (⟨"TradeTestsModel", "finds", "(I)I"⟩, 50), (⟨"TradeTestsModel", "isVehicle", "(I)Z"⟩, 50)]
theorem lw_r2 : ∀ q ∈ lw_privs_2, lw_okq q := List.forall_mem_cons.mpr ⟨lw_p16, List.forall_mem_cons.mpr ⟨lw_p17, List.forall_mem_cons.mpr ⟨lw_p18, List.forall_mem_cons.mpr ⟨lw_p19, List.forall_mem_cons.mpr ⟨lw_p20, List.forall_mem_cons.mpr ⟨lw_p21, List.forall_mem_cons.mpr ⟨lw_p22, List.forall_mem_cons.mpr ⟨lw_p23, List.forall_mem_cons.mpr ⟨lw_p24, List.forall_mem_cons.mpr ⟨lw_p25, List.forall_mem_cons.mpr ⟨lw_p26, List.forall_mem_cons.mpr ⟨lw_p27, List.forall_mem_cons.mpr ⟨lw_p28, List.forall_mem_cons.mpr ⟨lw_p29, List.forall_mem_cons.mpr ⟨lw_p30, List.forall_mem_cons.mpr ⟨lw_p31, fun _ h => absurd h List.not_mem_nil⟩⟩⟩⟩⟩⟩⟩⟩⟩⟩⟩⟩⟩⟩⟩⟩
theorem lw_p32 : lw_okq (⟨"TradeTestsModel", "dueOf", "(I)I"⟩, 50) := ⟨⟨by decide +kernel, by decide +kernel⟩, List.mem_of_getElem? (i := 940) (by decide +kernel), List.mem_of_getElem? (i := 1124) (by decide +kernel), List.mem_of_getElem? (i := 1125) (by decide +kernel)⟩
theorem lw_p33 : lw_okq (⟨"TradeTestsModel", "isGarage", "(I)Z"⟩, 50) := ⟨⟨by decide +kernel, by decide +kernel⟩, List.mem_of_getElem? (i := 940) (by decide +kernel), List.mem_of_getElem? (i := 1136) (by decide +kernel), List.mem_of_getElem? (i := 1137) (by decide +kernel)⟩
theorem lw_p34 : lw_okq (⟨"TradeTestsModel", "isTester", "(I)Z"⟩, 50) := ⟨⟨by decide +kernel, by decide +kernel⟩, List.mem_of_getElem? (i := 940) (by decide +kernel), List.mem_of_getElem? (i := 1144) (by decide +kernel), List.mem_of_getElem? (i := 1145) (by decide +kernel)⟩
theorem lw_p35 : lw_okq (⟨"TradeTestsModel", "placeOf", "(II)I"⟩, 50) := ⟨⟨by decide +kernel, by decide +kernel⟩, List.mem_of_getElem? (i := 940) (by decide +kernel), List.mem_of_getElem? (i := 1148) (by decide +kernel), List.mem_of_getElem? (i := 1149) (by decide +kernel)⟩
theorem lw_p36 : lw_okq (⟨"TradeTestsModel", "isTold", "(IIIII)Z"⟩, 50) := ⟨⟨by decide +kernel, by decide +kernel⟩, List.mem_of_getElem? (i := 940) (by decide +kernel), List.mem_of_getElem? (i := 1160) (by decide +kernel), List.mem_of_getElem? (i := 1161) (by decide +kernel)⟩
theorem lw_p37 : lw_okq (⟨"TradeTestsModel", "isTest", "(I)Z"⟩, 50) := ⟨⟨by decide +kernel, by decide +kernel⟩, List.mem_of_getElem? (i := 940) (by decide +kernel), List.mem_of_getElem? (i := 1170) (by decide +kernel), List.mem_of_getElem? (i := 1171) (by decide +kernel)⟩
theorem lw_p38 : lw_okq (⟨"TradeTestsModel", "garageOf", "(I)I"⟩, 50) := ⟨⟨by decide +kernel, by decide +kernel⟩, List.mem_of_getElem? (i := 940) (by decide +kernel), List.mem_of_getElem? (i := 1174) (by decide +kernel), List.mem_of_getElem? (i := 1175) (by decide +kernel)⟩
theorem lw_p39 : lw_okq (⟨"TradeTestsModel", "reads", "()Z"⟩, 50) := ⟨⟨by decide +kernel, by decide +kernel⟩, List.mem_of_getElem? (i := 940) (by decide +kernel), List.mem_of_getElem? (i := 1186) (by decide +kernel), List.mem_of_getElem? (i := 1187) (by decide +kernel)⟩
theorem lw_p40 : lw_okq (⟨"TradeTestsModel", "here", "()I"⟩, 50) := ⟨⟨by decide +kernel, by decide +kernel⟩, List.mem_of_getElem? (i := 940) (by decide +kernel), List.mem_of_getElem? (i := 1190) (by decide +kernel), List.mem_of_getElem? (i := 1191) (by decide +kernel)⟩
theorem lw_p41 : lw_okq (⟨"TradeTestsModel", "readsFault", "(I)Z"⟩, 50) := ⟨⟨by decide +kernel, by decide +kernel⟩, List.mem_of_getElem? (i := 940) (by decide +kernel), List.mem_of_getElem? (i := 1194) (by decide +kernel), List.mem_of_getElem? (i := 1195) (by decide +kernel)⟩
theorem lw_p42 : lw_okq (⟨"TradeTestsModel", "readsNumber", "(I)I"⟩, 50) := ⟨⟨by decide +kernel, by decide +kernel⟩, List.mem_of_getElem? (i := 940) (by decide +kernel), List.mem_of_getElem? (i := 1198) (by decide +kernel), List.mem_of_getElem? (i := 1199) (by decide +kernel)⟩
theorem lw_p43 : lw_okq (⟨"TradeTestsModel", "textOn", "(I)I"⟩, 50) := ⟨⟨by decide +kernel, by decide +kernel⟩, List.mem_of_getElem? (i := 940) (by decide +kernel), List.mem_of_getElem? (i := 1209) (by decide +kernel), List.mem_of_getElem? (i := 1210) (by decide +kernel)⟩
theorem lw_p44 : lw_okq (⟨"TradeTestsModel", "isPass", "(I)Z"⟩, 50) := ⟨⟨by decide +kernel, by decide +kernel⟩, List.mem_of_getElem? (i := 940) (by decide +kernel), List.mem_of_getElem? (i := 1217) (by decide +kernel), List.mem_of_getElem? (i := 1218) (by decide +kernel)⟩
theorem lw_p45 : lw_okq (⟨"TradeTestsModel", "unlikeOf", "(I)I"⟩, 50) := ⟨⟨by decide +kernel, by decide +kernel⟩, List.mem_of_getElem? (i := 940) (by decide +kernel), List.mem_of_getElem? (i := 1225) (by decide +kernel), List.mem_of_getElem? (i := 1226) (by decide +kernel)⟩
theorem lw_p46 : lw_okq (⟨"TradeTestsModel", "shareOf", "(I)I"⟩, 50) := ⟨⟨by decide +kernel, by decide +kernel⟩, List.mem_of_getElem? (i := 940) (by decide +kernel), List.mem_of_getElem? (i := 1233) (by decide +kernel), List.mem_of_getElem? (i := 1234) (by decide +kernel)⟩
theorem lw_p47 : lw_okq (⟨"TradeTestsModel", "cellOf", "(I)I"⟩, 50) := ⟨⟨by decide +kernel, by decide +kernel⟩, List.mem_of_getElem? (i := 940) (by decide +kernel), List.mem_of_getElem? (i := 1237) (by decide +kernel), List.mem_of_getElem? (i := 1238) (by decide +kernel)⟩
def lw_privs_3 : List (MethodName × Nat) := [(⟨"TradeTestsModel", "dueOf", "(I)I"⟩, 50), (⟨"TradeTestsModel", "isGarage", "(I)Z"⟩, 50), (⟨"TradeTestsModel", "isTester", "(I)Z"⟩, 50), (⟨"TradeTestsModel", "placeOf", "(II)I"⟩, 50), (⟨"TradeTestsModel", "isTold", "(IIIII)Z"⟩, 50), (⟨"TradeTestsModel", "isTest", "(I)Z"⟩, 50), (⟨"TradeTestsModel", "garageOf", "(I)I"⟩, 50), (⟨"TradeTestsModel", "reads", "()Z"⟩, 50), (⟨"TradeTestsModel", "here", "()I"⟩, 50), (⟨"TradeTestsModel", "readsFault", "(I)Z"⟩, 50), (⟨"TradeTestsModel", "readsNumber", "(I)I"⟩, 50), (⟨"TradeTestsModel", "textOn", "(I)I"⟩, 50), (⟨"TradeTestsModel", "isPass", "(I)Z"⟩, 50), (⟨"TradeTestsModel", "unlikeOf", "(I)I"⟩, 50), (⟨"TradeTestsModel", "shareOf", "(I)I"⟩, 50), (⟨"TradeTestsModel", "cellOf", "(I)I"⟩, 50)]
theorem lw_r3 : ∀ q ∈ lw_privs_3, lw_okq q := List.forall_mem_cons.mpr ⟨lw_p32, List.forall_mem_cons.mpr ⟨lw_p33, List.forall_mem_cons.mpr ⟨lw_p34, List.forall_mem_cons.mpr ⟨lw_p35, List.forall_mem_cons.mpr ⟨lw_p36, List.forall_mem_cons.mpr ⟨lw_p37, List.forall_mem_cons.mpr ⟨lw_p38, List.forall_mem_cons.mpr ⟨lw_p39, List.forall_mem_cons.mpr ⟨lw_p40, List.forall_mem_cons.mpr ⟨lw_p41, List.forall_mem_cons.mpr ⟨lw_p42, List.forall_mem_cons.mpr ⟨lw_p43, List.forall_mem_cons.mpr ⟨lw_p44, List.forall_mem_cons.mpr ⟨lw_p45, List.forall_mem_cons.mpr ⟨lw_p46, List.forall_mem_cons.mpr ⟨lw_p47, fun _ h => absurd h List.not_mem_nil⟩⟩⟩⟩⟩⟩⟩⟩⟩⟩⟩⟩⟩⟩⟩⟩
theorem lw_p48 : lw_okq (⟨"TradeTestsModel", "looked", "()I"⟩, 50) := ⟨⟨by decide +kernel, by decide +kernel⟩, List.mem_of_getElem? (i := 940) (by decide +kernel), List.mem_of_getElem? (i := 1246) (by decide +kernel), List.mem_of_getElem? (i := 1247) (by decide +kernel)⟩
theorem lw_p49 : lw_okq (⟨"TradeTestsModel", "riskOf", "(I)I"⟩, 50) := ⟨⟨by decide +kernel, by decide +kernel⟩, List.mem_of_getElem? (i := 940) (by decide +kernel), List.mem_of_getElem? (i := 1253) (by decide +kernel), List.mem_of_getElem? (i := 1254) (by decide +kernel)⟩
theorem lw_p50 : lw_okq (⟨"TradeTestsModel", "signsOf", "(I)I"⟩, 50) := ⟨⟨by decide +kernel, by decide +kernel⟩, List.mem_of_getElem? (i := 940) (by decide +kernel), List.mem_of_getElem? (i := 1257) (by decide +kernel), List.mem_of_getElem? (i := 1258) (by decide +kernel)⟩
theorem lw_p51 : lw_okq (⟨"TradeTestsModel", "alikeOf", "(I)I"⟩, 50) := ⟨⟨by decide +kernel, by decide +kernel⟩, List.mem_of_getElem? (i := 940) (by decide +kernel), List.mem_of_getElem? (i := 1261) (by decide +kernel), List.mem_of_getElem? (i := 1262) (by decide +kernel)⟩
theorem lw_p52 : lw_okq (⟨"TradeTestsModel", "isQuick", "(I)Z"⟩, 50) := ⟨⟨by decide +kernel, by decide +kernel⟩, List.mem_of_getElem? (i := 940) (by decide +kernel), List.mem_of_getElem? (i := 1268) (by decide +kernel), List.mem_of_getElem? (i := 1269) (by decide +kernel)⟩
theorem lw_p53 : lw_okq (⟨"TradeTestsModel", "overlaps", "(I)Z"⟩, 50) := ⟨⟨by decide +kernel, by decide +kernel⟩, List.mem_of_getElem? (i := 940) (by decide +kernel), List.mem_of_getElem? (i := 1272) (by decide +kernel), List.mem_of_getElem? (i := 1273) (by decide +kernel)⟩
theorem lw_p54 : lw_okq (⟨"TradeTestsModel", "isShut", "(I)Z"⟩, 50) := ⟨⟨by decide +kernel, by decide +kernel⟩, List.mem_of_getElem? (i := 940) (by decide +kernel), List.mem_of_getElem? (i := 1276) (by decide +kernel), List.mem_of_getElem? (i := 1277) (by decide +kernel)⟩
theorem lw_p55 : lw_okq (⟨"TradeTestsModel", "pointsOf", "(I)I"⟩, 50) := ⟨⟨by decide +kernel, by decide +kernel⟩, List.mem_of_getElem? (i := 940) (by decide +kernel), List.mem_of_getElem? (i := 1307) (by decide +kernel), List.mem_of_getElem? (i := 1308) (by decide +kernel)⟩
theorem lw_p56 : lw_okq (⟨"TradeTestsModel", "missed", "(I)I"⟩, 50) := ⟨⟨by decide +kernel, by decide +kernel⟩, List.mem_of_getElem? (i := 940) (by decide +kernel), List.mem_of_getElem? (i := 1311) (by decide +kernel), List.mem_of_getElem? (i := 1312) (by decide +kernel)⟩
theorem lw_p57 : lw_okq (⟨"TradeTestsModel", "findPoints", "()V"⟩, 50) := ⟨⟨by decide +kernel, by decide +kernel⟩, List.mem_of_getElem? (i := 940) (by decide +kernel), List.mem_of_getElem? (i := 1319) (by decide +kernel), List.mem_of_getElem? (i := 1320) (by decide +kernel)⟩
theorem lw_p58 : lw_okq (⟨"TradeTestsModel", "sumOf", "(II)I"⟩, 50) := ⟨⟨by decide +kernel, by decide +kernel⟩, List.mem_of_getElem? (i := 940) (by decide +kernel), List.mem_of_getElem? (i := 1323) (by decide +kernel), List.mem_of_getElem? (i := 1324) (by decide +kernel)⟩
theorem lw_p59 : lw_okq (⟨"TradeTestsModel", "worthOf", "(II)I"⟩, 50) := ⟨⟨by decide +kernel, by decide +kernel⟩, List.mem_of_getElem? (i := 940) (by decide +kernel), List.mem_of_getElem? (i := 1343) (by decide +kernel), List.mem_of_getElem? (i := 1344) (by decide +kernel)⟩
theorem lw_p60 : lw_okq (⟨"TradeTestsModel", "findPlan", "()I"⟩, 50) := ⟨⟨by decide +kernel, by decide +kernel⟩, List.mem_of_getElem? (i := 940) (by decide +kernel), List.mem_of_getElem? (i := 1351) (by decide +kernel), List.mem_of_getElem? (i := 1352) (by decide +kernel)⟩
theorem lw_p61 : lw_okq (⟨"TradeTestsModel", "leansOn", "(II)I"⟩, 50) := ⟨⟨by decide +kernel, by decide +kernel⟩, List.mem_of_getElem? (i := 940) (by decide +kernel), List.mem_of_getElem? (i := 1367) (by decide +kernel), List.mem_of_getElem? (i := 1368) (by decide +kernel)⟩
def lw_privs_4 : List (MethodName × Nat) := [(⟨"TradeTestsModel", "looked", "()I"⟩, 50), (⟨"TradeTestsModel", "riskOf", "(I)I"⟩, 50), (⟨"TradeTestsModel", "signsOf", "(I)I"⟩, 50), (⟨"TradeTestsModel", "alikeOf", "(I)I"⟩, 50), (⟨"TradeTestsModel", "isQuick", "(I)Z"⟩, 50), (⟨"TradeTestsModel", "overlaps", "(I)Z"⟩, 50), (⟨"TradeTestsModel", "isShut", "(I)Z"⟩, 50), (⟨"TradeTestsModel", "pointsOf", "(I)I"⟩, 50), (⟨"TradeTestsModel", "missed", "(I)I"⟩, 50), (⟨"TradeTestsModel", "findPoints", "()V"⟩, 50), (⟨"TradeTestsModel", "sumOf", "(II)I"⟩, 50), (⟨"TradeTestsModel", "worthOf", "(II)I"⟩, 50), (⟨"TradeTestsModel", "findPlan", "()I"⟩, 50), (⟨"TradeTestsModel", "leansOn", "(II)I"⟩, 50)]
theorem lw_r4 : ∀ q ∈ lw_privs_4, lw_okq q := List.forall_mem_cons.mpr ⟨lw_p48, List.forall_mem_cons.mpr ⟨lw_p49, List.forall_mem_cons.mpr ⟨lw_p50, List.forall_mem_cons.mpr ⟨lw_p51, List.forall_mem_cons.mpr ⟨lw_p52, List.forall_mem_cons.mpr ⟨lw_p53, List.forall_mem_cons.mpr ⟨lw_p54, List.forall_mem_cons.mpr ⟨lw_p55, List.forall_mem_cons.mpr ⟨lw_p56, List.forall_mem_cons.mpr ⟨lw_p57, List.forall_mem_cons.mpr ⟨lw_p58, List.forall_mem_cons.mpr ⟨lw_p59, List.forall_mem_cons.mpr ⟨lw_p60, List.forall_mem_cons.mpr ⟨lw_p61, fun _ h => absurd h List.not_mem_nil⟩⟩⟩⟩⟩⟩⟩⟩⟩⟩⟩⟩⟩⟩
def lw_privs : List (MethodName × Nat) := lw_privs_1 ++ (lw_privs_2 ++ (lw_privs_3 ++ (lw_privs_4)))
def lw_tbl : List Cond := k2_sels lw_privs ++ tables_1
theorem lw_privs_ok : ∀ q ∈ lw_privs, lw_okq q := by
  show ∀ q ∈ lw_privs_1 ++ (lw_privs_2 ++ (lw_privs_3 ++ (lw_privs_4))), lw_okq q
  exact List.forall_mem_append.mpr ⟨lw_r1, List.forall_mem_append.mpr ⟨lw_r2, List.forall_mem_append.mpr ⟨lw_r3, lw_r4⟩⟩⟩
end
section
/-! the program as tables: classes, fields, cells, links, methods (written by wip/whole/gen/tables.py out of the statement) -/
def cn (k : Nat) : String := (["TradeTests", "TradeTests$Vehicles", "TradeTests$Trade", "TradeTests$Tests", "TradeTests$Texts", "TradeTests$Judge", "TradeTests$Signals", "TradeTests$Rates", "TradeTests$Odometer", "TradeTests$Secrets", "TradeTests$Penalties", "TradeTests$Plan", "TradeTestsModel", "TradeTestsLaw", "java/lang/Integer", "java/lang/Math"] : List String).getD k ""
def fl_0 : List (String × String × Bool) := [("vehicles", "LTradeTests$Vehicles;", true), ("trade", "LTradeTests$Trade;", true), ("tests", "LTradeTests$Tests;", true), ("texts", "LTradeTests$Texts;", true), ("judge", "LTradeTests$Judge;", true), ("signals", "LTradeTests$Signals;", true), ("rates", "LTradeTests$Rates;", true), ("odometer", "LTradeTests$Odometer;", true), ("secrets", "LTradeTests$Secrets;", true), ("penalties", "LTradeTests$Penalties;", true), ("plan", "LTradeTests$Plan;", true), ("told", "[I", true), ("toldCount", "I", false), ("findings", "[I", true)]
def fl_1 : List (String × String × Bool) := [("kind", "[I", true), ("make", "[I", true), ("built", "[I", true), ("count", "I", false)]
def fl_2 : List (String × String × Bool) := [("opens", "[I", true), ("shuts", "[I", true), ("garages", "I", false), ("firstGarage", "[I", true), ("testers", "I", false), ("mover", "[I", true), ("target", "[I", true), ("since", "[I", true), ("moves", "I", false)]
def fl_3 : List (String × String × Bool) := [("vehicle", "[I", true), ("tester", "[I", true), ("day", "[I", true), ("minute", "[I", true), ("minutes", "[I", true), ("miles", "[I", true), ("left", "[I", true), ("right", "[I", true), ("faults", "[I", true), ("passed", "[I", true), ("appealed", "[I", true), ("visitor", "[I", true), ("chance", "[I", true), ("wrong", "[I", true), ("count", "I", false), ("drawn", "I", false)]
def fl_4 : List (String × String × Bool) := [("tape", "[I", true), ("bytes", "I", false), ("place", "I", false), ("since", "[I", true), ("leastBrake", "[I", true), ("brakeGap", "[I", true), ("fails", "[I", true), ("count", "I", false)]
def fl_5 : List (String × String × Bool) := [("vehicles", "LTradeTests$Vehicles;", true), ("tests", "LTradeTests$Tests;", true), ("texts", "LTradeTests$Texts;", true)]
def fl_6 : List (String × String × Bool) := [("vehicles", "LTradeTests$Vehicles;", true), ("trade", "LTradeTests$Trade;", true), ("tests", "LTradeTests$Tests;", true), ("judge", "LTradeTests$Judge;", true)]
def fl_7 : List (String × String × Bool) := [("vehicles", "LTradeTests$Vehicles;", true), ("trade", "LTradeTests$Trade;", true), ("tests", "LTradeTests$Tests;", true), ("cellTests", "[I", true), ("cellPassed", "[I", true), ("tested", "I", false), ("passed", "I", false), ("expected", "I", false), ("spread", "I", false)]
def fl_8 : List (String × String × Bool) := [("tests", "LTradeTests$Tests;", true)]
def fl_9 : List (String × String × Bool) := [("tests", "LTradeTests$Tests;", true), ("texts", "LTradeTests$Texts;", true), ("known", "[I", true), ("count", "I", false), ("visits", "I", false)]
def fl_10 : List (String × String × Bool) := [("tests", "LTradeTests$Tests;", true), ("judge", "LTradeTests$Judge;", true), ("signals", "LTradeTests$Signals;", true), ("secrets", "LTradeTests$Secrets;", true), ("rules", "[I", true), ("pointsRow", "[I", true)]
def fl_11 : List (String × String × Bool) := [("trade", "LTradeTests$Trade;", true), ("tests", "LTradeTests$Tests;", true), ("signals", "LTradeTests$Signals;", true), ("secrets", "LTradeTests$Secrets;", true), ("worths", "[I", true), ("best", "[I", true), ("risk", "I", false), ("seen", "I", false)]
def fl_12 : List (String × String × Bool) := [("vehicles", "I", false), ("garages", "I", false), ("testers", "I", false), ("moves", "I", false), ("tests", "I", false), ("texts", "I", false), ("secrets", "I", false), ("visits", "I", false), ("drawn", "I", false), ("taped", "I", false), ("waiting", "I", false), ("lapse", "I", false), ("ban", "I", false), ("limit", "I", false), ("kind", "[I", true), ("make", "[I", true), ("built", "[I", true), ("opens", "[I", true), ("shuts", "[I", true), ("home", "[I", true), ("moveOf", "[I", true), ("moveTo", "[I", true), ("moveDay", "[I", true), ("vehicleOf", "[I", true), ("testerOf", "[I", true), ("dayOf", "[I", true), ("minute", "[I", true), ("minutes", "[I", true), ("miles", "[I", true), ("left", "[I", true), ("right", "[I", true), ("faults", "[I", true), ("visitBy", "[I", true), ("chance", "[I", true), ("passed", "[Z", true), ("appealed", "[Z", true), ("wrong", "[Z", true), ("textDay", "[I", true), ("textLeast", "[I", true), ("textHundredths", "[I", true), ("textFails", "[I", true), ("secretFaults", "[I", true), ("tape", "[I", true), ("waits", "[I", true), ("counted", "[I", true), ("place", "I", false), ("worths", "[I", true), ("most", "[I", true), ("brings", "[I", true), ("goesTo", "[I", true)]
def flL : List (List (String × String × Bool)) := [fl_0, fl_1, fl_2, fl_3, fl_4, fl_5, fl_6, fl_7, fl_8, fl_9, fl_10, fl_11, fl_12]
def FT (c : Nat) : u_T := fun k => (cn c, (flL.getD c []).getD k ("", "", false))
def NF (c : Nat) : Nat := (flL.getD c []).length
def cls : List vw_C := (List.range 13).map (fun c => (cn c, FT c, NF c))
def fpl : List (List Nat) := [[455, 457, 459, 461, 463, 465, 467, 469, 471, 473, 475, 477, 479, 481], [102, 104, 106, 108], [133, 135, 137, 139, 141, 143, 145, 147, 149], [210, 212, 214, 216, 218, 220, 222, 224, 226, 228, 230, 232, 234, 236, 238, 240], [263, 265, 267, 269, 271, 273, 275, 277], [289, 291, 293], [306, 308, 310, 312], [330, 332, 334, 336, 338, 340, 342, 344, 346], [356], [374, 376, 378, 380, 382], [397, 399, 401, 403, 405, 407], [424, 426, 428, 430, 432, 434, 436, 438], [1057, 1059, 1061, 1063, 1065, 1067, 1069, 1071, 1073, 1075, 1077, 1079, 1081, 1083, 1085, 1087, 1089, 1091, 1093, 1095, 1097, 1099, 1101, 1103, 1105, 1107, 1109, 1111, 1113, 1115, 1117, 1119, 1121, 1123, 1125, 1127, 1129, 1131, 1133, 1135, 1137, 1139, 1141, 1143, 1145, 1147, 1149, 1151, 1153, 1155]]
set_option maxRecDepth 100000 in
theorem fpl_ok : ((List.range 13).all fun c => (List.range (NF c)).all fun k => decide (lw_tbl[((fpl.getD c []).getD k 0)]? = some (u_lay (cn c) (FT c) k))) = true := by decide +kernel
def fty (c k : Nat) : FieldType := match (parseFieldDescriptor (FT c k).2.2.1) with | some t => t | none => .int
set_option maxRecDepth 100000 in
theorem fty_ok : ((List.range 13).all fun c => (List.range (NF c)).all fun k => decide (parseFieldDescriptor (FT c k).2.2.1 = some (fty c k))) = true := by decide +kernel
set_option maxRecDepth 100000 in
theorem fnm_ok : ((List.range 13).all fun c => (List.range (NF c)).all fun a => (List.range (NF c)).all fun b => decide (a = b ∨ (FT c a).2.1 ≠ (FT c b).2.1)) = true := by decide +kernel
/-- a cell: 0 an object (its class; its fields: some k a fixed reference to the cell k, none a number), 1 ints, 2 booleans (length) -/
abbrev Ly : Type := Nat × Nat × List (Option Nat)
def lay : List Ly := [(0, 0, [some 1, some 2, some 3, some 4, some 5, some 6, some 7, some 8, some 9, some 10, some 11, some 13, none, some 14]), (0, 1, [some 15, some 16, some 17, none]), (0, 2, [some 18, some 19, none, some 20, none, some 21, some 22, some 23, none]), (0, 3, [some 24, some 25, some 26, some 27, some 28, some 29, some 30, some 31, some 32, some 33, some 34, some 35, some 36, some 37, none, none]), (0, 4, [some 38, none, none, some 39, some 40, some 41, some 42, none]), (0, 5, [some 1, some 3, some 4]), (0, 6, [some 1, some 2, some 3, some 5]), (0, 7, [some 1, some 2, some 3, some 43, some 44, none, none, none, none]), (0, 8, [some 3]), (0, 9, [some 3, some 4, some 45, none, none]), (0, 10, [some 3, some 5, some 6, some 9, some 46, some 47]), (0, 11, [some 2, some 3, some 6, some 9, some 48, some 49, none, none]), (0, 12, [none, none, none, none, none, none, none, none, none, none, none, none, none, none, some 50, some 51, some 52, some 53, some 54, some 55, some 56, some 57, some 58, some 59, some 60, some 61, some 62, some 63, some 64, some 65, some 66, some 67, some 68, some 69, some 70, some 71, some 72, some 73, some 74, some 75, some 76, some 77, some 78, some 79, some 80, none, some 81, some 82, some 83, some 84]), (1, 8, []), (1, 6, []), (1, 24, []), (1, 24, []), (1, 24, []), (1, 6, []), (1, 6, []), (1, 8, []), (1, 30, []), (1, 30, []), (1, 30, []), (1, 80, []), (1, 80, []), (1, 80, []), (1, 80, []), (1, 80, []), (1, 80, []), (1, 80, []), (1, 80, []), (1, 80, []), (1, 80, []), (1, 80, []), (1, 80, []), (1, 80, []), (1, 80, []), (1, 60, []), (1, 6, []), (1, 6, []), (1, 6, []), (1, 24, []), (1, 16, []), (1, 16, []), (1, 6, []), (1, 3, []), (1, 80, []), (1, 36, []), (1, 448, []), (1, 24, []), (1, 24, []), (1, 24, []), (1, 6, []), (1, 6, []), (1, 8, []), (1, 30, []), (1, 30, []), (1, 30, []), (1, 80, []), (1, 80, []), (1, 80, []), (1, 80, []), (1, 80, []), (1, 80, []), (1, 80, []), (1, 80, []), (1, 80, []), (1, 80, []), (1, 80, []), (2, 80, []), (2, 80, []), (2, 80, []), (1, 7, []), (1, 7, []), (1, 7, []), (1, 28, []), (1, 6, []), (1, 60, []), (1, 8, []), (1, 6, []), (1, 80, []), (1, 448, []), (1, 36, []), (1, 6, [])]
/-- field links: class, entry, class of the field, its number, the place of the word -/
def flt : List (Nat × Nat × Nat × Nat × Nat) := [(1, 9, 1, 0, 92), (5, 35, 1, 0, 93), (0, 126, 1, 0, 94), (6, 86, 1, 0, 95), (1, 15, 1, 1, 96), (7, 83, 1, 1, 97), (1, 18, 1, 2, 98), (0, 307, 1, 2, 99), (1, 21, 1, 3, 100), (0, 119, 1, 3, 101), (2, 9, 2, 0, 118), (6, 103, 2, 0, 119), (2, 15, 2, 1, 120), (6, 106, 2, 1, 121), (2, 30, 2, 2, 122), (0, 135, 2, 2, 123), (11, 78, 2, 2, 124), (2, 18, 2, 3, 125), (2, 34, 2, 4, 126), (0, 142, 2, 4, 127), (2, 21, 2, 5, 128), (2, 24, 2, 6, 129), (2, 27, 2, 7, 130), (2, 37, 2, 8, 131), (0, 151, 2, 8, 132), (3, 9, 3, 0, 158), (5, 40, 3, 0, 159), (8, 32, 3, 0, 160), (6, 61, 3, 0, 161), (7, 71, 3, 0, 162), (0, 229, 3, 0, 163), (3, 15, 3, 1, 164), (6, 53, 3, 1, 165), (2, 40, 3, 1, 166), (10, 88, 3, 1, 167), (3, 18, 3, 2, 168), (5, 23, 3, 2, 169), (7, 74, 3, 2, 170), (6, 64, 3, 2, 171), (9, 39, 3, 2, 172), (10, 85, 3, 2, 173), (2, 45, 3, 2, 174), (3, 21, 3, 3, 175), (6, 94, 3, 3, 176), (3, 24, 3, 4, 177), (6, 78, 3, 4, 178), (3, 27, 3, 5, 179), (8, 15, 3, 5, 180), (3, 30, 3, 6, 181), (5, 50, 3, 6, 182), (6, 72, 3, 6, 183), (3, 33, 3, 7, 184), (5, 53, 3, 7, 185), (6, 75, 3, 7, 186), (3, 36, 3, 8, 187), (5, 47, 3, 8, 188), (9, 51, 3, 8, 189), (3, 39, 3, 9, 190), (5, 66, 3, 9, 191), (7, 69, 3, 9, 192), (3, 42, 3, 10, 193), (10, 52, 3, 10, 194), (0, 241, 3, 10, 195), (3, 45, 3, 11, 196), (9, 27, 3, 11, 197), (3, 48, 3, 12, 198), (3, 51, 3, 13, 199), (3, 54, 3, 14, 200), (6, 44, 3, 14, 201), (8, 35, 3, 14, 202), (11, 49, 3, 14, 203), (7, 61, 3, 14, 204), (5, 73, 3, 14, 205), (10, 81, 3, 14, 206), (0, 175, 3, 14, 207), (3, 58, 3, 15, 208), (0, 297, 3, 15, 209), (4, 9, 4, 0, 249), (4, 27, 4, 1, 250), (0, 186, 4, 1, 251), (4, 38, 4, 2, 252), (4, 15, 4, 3, 253), (4, 18, 4, 4, 254), (5, 60, 4, 4, 255), (0, 202, 4, 4, 256), (4, 21, 4, 5, 257), (5, 63, 4, 5, 258), (0, 205, 4, 5, 259), (4, 24, 4, 6, 260), (4, 41, 4, 7, 261), (0, 192, 4, 7, 262), (5, 9, 5, 0, 286), (5, 15, 5, 1, 287), (5, 19, 5, 2, 288), (6, 7, 6, 0, 302), (6, 13, 6, 1, 303), (6, 17, 6, 2, 304), (6, 21, 6, 3, 305), (7, 18, 7, 0, 321), (7, 22, 7, 1, 322), (7, 26, 7, 2, 323), (7, 9, 7, 3, 324), (7, 15, 7, 4, 325), (7, 41, 7, 5, 326), (7, 45, 7, 6, 327), (7, 48, 7, 7, 328), (7, 51, 7, 8, 329), (8, 9, 8, 0, 355), (9, 15, 9, 0, 365), (9, 19, 9, 1, 366), (9, 9, 9, 2, 367), (11, 75, 9, 2, 368), (9, 23, 9, 3, 369), (11, 81, 9, 3, 370), (0, 253, 9, 3, 371), (9, 32, 9, 4, 372), (0, 294, 9, 4, 373), (10, 18, 10, 0, 391), (10, 22, 10, 1, 392), (10, 26, 10, 2, 393), (10, 30, 10, 3, 394), (10, 9, 10, 4, 395), (10, 15, 10, 5, 396), (11, 18, 11, 0, 416), (11, 22, 11, 1, 417), (11, 26, 11, 2, 418), (11, 30, 11, 3, 419), (11, 9, 11, 4, 420), (11, 15, 11, 5, 421), (11, 38, 11, 6, 422), (11, 46, 11, 7, 423), (0, 10, 0, 0, 441), (0, 19, 0, 1, 442), (0, 26, 0, 2, 443), (0, 33, 0, 3, 444), (0, 42, 0, 4, 445), (0, 51, 0, 5, 446), (0, 60, 0, 6, 447), (0, 69, 0, 7, 448), (0, 78, 0, 8, 449), (0, 87, 0, 9, 450), (0, 96, 0, 10, 451), (0, 100, 0, 11, 452), (0, 104, 0, 12, 453), (0, 108, 0, 13, 454), (12, 131, 12, 0, 1007), (12, 134, 12, 1, 1008), (12, 137, 12, 2, 1009), (12, 164, 12, 3, 1010), (12, 140, 12, 4, 1011), (12, 199, 12, 5, 1012), (12, 271, 12, 6, 1013), (12, 274, 12, 7, 1014), (12, 283, 12, 8, 1015), (12, 186, 12, 9, 1016), (12, 289, 12, 10, 1017), (12, 7, 12, 11, 1018), (12, 13, 12, 12, 1019), (12, 16, 12, 13, 1020), (12, 19, 12, 14, 1021), (12, 23, 12, 15, 1022), (12, 26, 12, 16, 1023), (12, 29, 12, 17, 1024), (12, 32, 12, 18, 1025), (12, 35, 12, 19, 1026), (12, 38, 12, 20, 1027), (12, 41, 12, 21, 1028), (12, 44, 12, 22, 1029), (12, 47, 12, 23, 1030), (12, 50, 12, 24, 1031), (12, 53, 12, 25, 1032), (12, 56, 12, 26, 1033), (12, 59, 12, 27, 1034), (12, 62, 12, 28, 1035), (12, 65, 12, 29, 1036), (12, 68, 12, 30, 1037), (12, 71, 12, 31, 1038), (12, 74, 12, 32, 1039), (12, 77, 12, 33, 1040), (12, 80, 12, 34, 1041), (12, 84, 12, 35, 1042), (12, 87, 12, 36, 1043), (12, 90, 12, 37, 1044), (12, 93, 12, 38, 1045), (12, 96, 12, 39, 1046), (12, 99, 12, 40, 1047), (12, 102, 12, 41, 1048), (12, 105, 12, 42, 1049), (12, 108, 12, 43, 1050), (12, 111, 12, 44, 1051), (12, 189, 12, 45, 1052), (12, 114, 12, 46, 1053), (12, 117, 12, 47, 1054), (12, 120, 12, 48, 1055), (12, 123, 12, 49, 1056)]
set_option maxRecDepth 100000 in
theorem flt_ok : (flt.all fun q => decide (lw_tbl[q.2.2.2.2]? = some (.fieldLink (cn q.1) q.2.1 (cn q.2.2.1) (FT q.2.2.1 q.2.2.2.1).2.1 (FT q.2.2.1 q.2.2.2.1).2.2.1)) && (decide (q.2.2.1 < 13) && decide (q.2.2.2.1 < NF q.2.2.1))) = true := by decide +kernel
def sC (j : Nat) : String := (["TradeTests", "TradeTests", "TradeTests$Penalties"] : List String).getD j ""
def sM (j : Nat) : String := (["DUE_DAYS", "FAIR_MINUTES", "MOST_OF_RULE"] : List String).getD j ""
def sV (j : Nat) : List Int32 := ([[365, 365, 182, 730], [20, 20, 30, 10], [3650, 1000, 200]] : List (List Int32)).getD j []
def kct : List (Nat × Nat × Int32 × Nat) := [(0, 303, -1000000, 495), (0, 174, 1000000, 572), (14, 265, 1431655765, 730), (14, 266, 858993459, 731), (14, 267, 252645135, 732), (8, 39, 999999, 813), (8, 40, 1000000, 817), (12, 126, -1000000, 1173), (12, 174, 999999, 1225), (12, 175, 1000000, 1226)]
set_option maxRecDepth 100000 in
theorem kct_ok : (kct.all fun q => decide (lw_tbl[q.2.2.2]? = some (.constant (cn q.1) q.2.1 q.2.2.1))) = true := by decide +kernel
/-- methods: class, name, descriptor, locals, answer (0 none, 1 int, 2 boolean), static (1), arguments with the object, places of the words code, instanceMethod or static, selects -/
abbrev Mt : Type := Nat × String × String × Nat × Nat × Nat × Nat × Nat × Nat × Nat
def mtL_0 : List Mt := [(0, "vehicle", "(III)I", 4, 1, 0, 4, 487, 485, 486), (0, "isBelow", "(II)Z", 2, 2, 1, 2, 490, 489, 0), (0, "finding", "(I)I", 2, 1, 0, 2, 494, 493, 0), (1, "add", "(III)I", 4, 1, 0, 4, 499, 497, 498), (0, "as", "(II)I", 3, 1, 0, 3, 503, 501, 502), (0, "isUnder", "(II)Z", 2, 2, 1, 2, 506, 505, 0), (1, "dueDays", "(I)I", 2, 1, 0, 2, 510, 508, 509), (0, "garage", "(II)I", 3, 1, 0, 3, 516, 514, 515), (2, "addGarage", "(II)I", 3, 1, 0, 3, 520, 518, 519), (0, "tester", "(I)I", 2, 1, 0, 2, 524, 522, 523), (2, "addTester", "(I)I", 2, 1, 0, 2, 528, 526, 527), (0, "move", "(III)I", 4, 1, 0, 4, 532, 530, 531), (2, "lastMoveDay", "(I)I", 4, 1, 0, 2, 536, 534, 535), (2, "addMove", "(III)V", 4, 0, 0, 4, 540, 538, 539), (2, "garageOn", "(II)I", 5, 1, 0, 3, 544, 542, 543), (0, "at", "(II)I", 3, 1, 0, 3, 548, 546, 547), (0, "test", "(IIIII)I", 6, 1, 0, 6, 552, 550, 551), (0, "isWho", "(I)Z", 2, 2, 0, 2, 556, 555, 1), (0, "isWhen", "(II)Z", 4, 2, 0, 3, 560, 559, 2), (3, "lastDay", "()I", 1, 1, 0, 1, 564, 562, 563), (0, "isHow", "(II)Z", 3, 2, 1, 2, 567, 566, 0), (0, "isMiles", "(II)Z", 3, 2, 0, 3, 571, 570, 3), (3, "add", "(IIIII)I", 6, 1, 0, 6, 576, 574, 575), (0, "of", "(II)I", 3, 1, 0, 3, 580, 578, 579), (2, "garageOf", "(LTradeTests$Tests;I)I", 3, 1, 0, 3, 584, 582, 583), (3, "detail", "(II)I", 3, 1, 0, 3, 589, 587, 588), (0, "feed", "(I)I", 2, 1, 0, 2, 593, 591, 592), (4, "addByte", "(I)I", 2, 1, 0, 2, 597, 595, 596), (0, "text", "(I)I", 3, 1, 0, 2, 601, 599, 600), (4, "takeTape", "(I)I", 3, 1, 0, 2, 605, 603, 604), (4, "clearNext", "()V", 2, 0, 0, 1, 609, 608, 4), (4, "readRows", "()Z", 2, 2, 0, 1, 613, 612, 5), (4, "readRow", "()Z", 3, 2, 0, 1, 617, 616, 6), (4, "next", "()I", 1, 1, 0, 1, 621, 620, 7), (4, "readFault", "()Z", 4, 2, 0, 1, 625, 624, 8), (4, "isDigit", "(II)Z", 2, 2, 1, 2, 628, 627, 0), (4, "kindOf", "(I)I", 1, 1, 1, 1, 631, 630, 0), (4, "readEnd", "()Z", 1, 2, 0, 1, 635, 634, 9), (4, "readNumber", "(I)I", 4, 1, 0, 2, 640, 639, 10), (0, "says", "(II)I", 5, 1, 0, 3, 644, 642, 643), (4, "inForce", "(I)I", 3, 1, 0, 2, 648, 646, 647), (4, "failing", "(II)I", 3, 1, 0, 3, 652, 650, 651), (0, "verdict", "(I)I", 2, 1, 0, 2, 656, 654, 655), (5, "passes", "(I)Z", 4, 2, 0, 2, 660, 658, 659), (5, "brakesDo", "(III)Z", 6, 2, 0, 4, 666, 665, 11), (0, "unlike", "(I)I", 2, 1, 0, 2, 670, 668, 669), (5, "unlikeness", "(I)I", 3, 1, 0, 2, 674, 672, 673), (0, "rate", "(II)I", 3, 1, 0, 3, 679, 677, 678), (11, "riskOf", "(I)I", 2, 1, 0, 2, 683, 681, 682), (11, "survey", "(I)V", 3, 0, 0, 2, 687, 686, 12)]
def mtL_1 : List Mt := [(6, "bits", "(I)I", 2, 1, 0, 2, 692, 690, 691), (6, "alikeTests", "(I)I", 4, 1, 0, 2, 696, 694, 695), (6, "isAlike", "(II)Z", 3, 2, 0, 3, 700, 699, 13), (15, "abs", "(I)I", 1, 1, 1, 1, 703, 702, 0), (6, "isQuick", "(I)Z", 2, 2, 0, 2, 707, 705, 706), (6, "isOverlapping", "(I)Z", 3, 2, 0, 2, 713, 711, 712), (6, "isMeeting", "(II)Z", 3, 2, 0, 3, 717, 716, 14), (6, "isShut", "(I)Z", 3, 2, 0, 2, 721, 719, 720), (5, "isFalsePass", "(I)Z", 2, 2, 0, 2, 726, 724, 725), (14, "bitCount", "(I)I", 1, 1, 1, 1, 729, 728, 0), (9, "knownIn", "(I)I", 2, 1, 0, 2, 736, 734, 735), (9, "isVisited", "(I)Z", 2, 2, 0, 2, 740, 738, 739), (7, "figure", "(II)I", 3, 1, 0, 3, 744, 742, 743), (7, "fillCells", "()V", 3, 0, 0, 1, 748, 747, 15), (7, "cellOf", "(I)I", 3, 1, 0, 2, 752, 751, 16), (1, "ageClass", "(II)I", 4, 1, 0, 3, 756, 754, 755), (7, "measure", "(I)V", 4, 0, 0, 2, 760, 759, 17), (7, "cellShare", "(I)I", 2, 1, 0, 2, 765, 764, 18), (7, "more", "()I", 1, 1, 0, 1, 769, 768, 19), (7, "beyondChance", "()I", 5, 1, 0, 1, 773, 772, 20), (7, "garagesWithTests", "()I", 3, 1, 0, 1, 777, 776, 21), (0, "share", "(II)I", 4, 1, 0, 3, 782, 780, 781), (7, "shareOf", "(II)I", 3, 1, 0, 3, 786, 784, 785), (0, "signs", "(I)I", 2, 1, 0, 2, 790, 788, 789), (0, "alike", "(I)I", 2, 1, 0, 2, 795, 793, 794), (0, "falls", "(I)I", 2, 1, 0, 2, 800, 798, 799), (8, "fall", "(I)I", 4, 1, 0, 2, 804, 802, 803), (8, "milesAhead", "(I)I", 3, 1, 0, 2, 808, 807, 22), (8, "milesBehind", "(I)I", 3, 1, 0, 2, 812, 811, 23), (8, "isTyped", "(III)Z", 6, 2, 1, 3, 816, 815, 0), (0, "rule", "(II)I", 3, 1, 0, 3, 821, 819, 820), (10, "isRule", "(II)Z", 3, 2, 0, 3, 825, 823, 824), (10, "setRule", "(II)I", 4, 1, 0, 3, 832, 830, 831), (0, "appeal", "(II)I", 4, 1, 0, 3, 836, 834, 835), (0, "points", "(I)I", 2, 1, 0, 2, 840, 838, 839), (10, "ofTest", "(I)I", 3, 1, 0, 2, 844, 842, 843), (9, "missed", "(I)I", 3, 1, 0, 2, 848, 846, 847), (0, "sum", "(II)I", 3, 1, 0, 3, 860, 858, 859), (10, "ofTester", "(II)I", 3, 1, 0, 3, 864, 862, 863), (10, "fillPoints", "(I)V", 3, 0, 0, 2, 868, 867, 24), (10, "rowSum", "(I)I", 4, 1, 0, 2, 873, 872, 25), (0, "banned", "(II)I", 3, 1, 0, 3, 877, 875, 876), (10, "isBanned", "(II)Z", 6, 2, 0, 3, 881, 879, 880), (0, "secret", "(I)I", 2, 1, 0, 2, 885, 883, 884), (9, "add", "(I)I", 2, 1, 0, 2, 889, 887, 888), (0, "visit", "(II)I", 3, 1, 0, 3, 893, 891, 892), (9, "send", "(II)V", 3, 0, 0, 3, 898, 896, 897), (0, "worth", "(II)I", 3, 1, 0, 3, 903, 901, 902), (11, "worthOf", "(II)I", 3, 1, 0, 3, 907, 905, 906), (11, "newFaults", "(I)I", 2, 1, 0, 2, 911, 910, 26)]
def mtL_2 : List Mt := [(0, "plan", "(I)I", 3, 1, 0, 2, 915, 913, 914), (11, "fillWorths", "()V", 3, 0, 0, 1, 919, 917, 918), (11, "fillBest", "()V", 3, 0, 0, 1, 923, 921, 922), (11, "mostFrom", "(II)I", 5, 1, 0, 3, 927, 926, 27), (11, "isFree", "(II)Z", 2, 2, 1, 2, 930, 929, 0), (11, "mostWith", "(III)I", 4, 1, 0, 4, 934, 933, 28), (15, "max", "(II)I", 2, 1, 1, 2, 937, 936, 0), (11, "most", "()I", 1, 1, 0, 1, 941, 939, 940), (11, "garageFor", "(I)I", 5, 1, 0, 2, 945, 943, 944), (11, "leastGarage", "(II)I", 4, 1, 0, 3, 949, 948, 29), (0, "draw", "(III)I", 4, 1, 0, 4, 953, 951, 952), (3, "isDrawn", "(I)Z", 2, 2, 0, 2, 957, 955, 956), (3, "addDraw", "(III)I", 4, 1, 0, 4, 961, 959, 960), (0, "error", "()I", 2, 1, 0, 1, 965, 963, 964), (3, "drawnError", "()I", 5, 1, 0, 1, 969, 967, 968), (0, "leans", "(II)I", 5, 1, 0, 3, 973, 971, 972), (5, "isLeaning", "(II)Z", 5, 2, 0, 3, 977, 975, 976), (0, "tell", "(I)I", 2, 1, 0, 2, 983, 981, 982), (0, "check", "(I)I", 4, 1, 0, 2, 987, 985, 986), (0, "count", "(I)I", 2, 1, 0, 2, 991, 989, 990), (6, "testsWithSigns", "()I", 3, 1, 0, 1, 995, 993, 994), (0, "found", "(I)I", 2, 1, 0, 2, 1000, 998, 999), (12, "vehicle", "(III)I", 4, 1, 0, 4, 1162, 1160, 1161), (12, "in", "(III)Z", 3, 2, 1, 3, 1165, 1164, 0), (12, "isDay", "(I)Z", 1, 2, 1, 1, 1168, 1167, 0), (12, "finds", "(I)I", 2, 1, 0, 2, 1172, 1171, 30), (12, "as", "(II)I", 3, 1, 0, 3, 1177, 1175, 1176), (12, "isVehicle", "(I)Z", 2, 2, 0, 2, 1181, 1180, 31), (12, "isUnder", "(II)Z", 2, 2, 1, 2, 1184, 1183, 0), (12, "dueOf", "(I)I", 2, 1, 0, 2, 1188, 1187, 32), (12, "garage", "(II)I", 3, 1, 0, 3, 1192, 1190, 1191), (12, "tester", "(I)I", 2, 1, 0, 2, 1196, 1194, 1195), (12, "isGarage", "(I)Z", 2, 2, 0, 2, 1200, 1199, 33), (12, "move", "(III)I", 5, 1, 0, 4, 1204, 1202, 1203), (12, "isTester", "(I)Z", 2, 2, 0, 2, 1208, 1207, 34), (12, "placeOf", "(II)I", 5, 1, 0, 3, 1212, 1211, 35), (12, "at", "(II)I", 3, 1, 0, 3, 1216, 1214, 1215), (12, "test", "(IIIII)I", 6, 1, 0, 6, 1220, 1218, 1219), (12, "isTold", "(IIIII)Z", 7, 2, 0, 6, 1224, 1223, 36), (12, "of", "(II)I", 3, 1, 0, 3, 1230, 1228, 1229), (12, "isTest", "(I)Z", 2, 2, 0, 2, 1234, 1233, 37), (12, "garageOf", "(I)I", 2, 1, 0, 2, 1238, 1237, 38), (12, "feed", "(I)I", 2, 1, 0, 2, 1242, 1240, 1241), (12, "text", "(I)I", 3, 1, 0, 2, 1246, 1244, 1245), (12, "reads", "()Z", 4, 2, 0, 1, 1250, 1249, 39), (12, "here", "()I", 1, 1, 0, 1, 1254, 1253, 40), (12, "readsFault", "(I)Z", 5, 2, 0, 2, 1258, 1257, 41), (12, "readsNumber", "(I)I", 4, 1, 0, 2, 1262, 1261, 42), (12, "isDigit", "(I)Z", 1, 2, 1, 1, 1265, 1264, 0), (12, "says", "(II)I", 4, 1, 0, 3, 1269, 1267, 1268)]
def mtL_3 : List Mt := [(12, "textOn", "(I)I", 4, 1, 0, 2, 1273, 1272, 43), (12, "verdict", "(I)I", 2, 1, 0, 2, 1277, 1275, 1276), (12, "isPass", "(I)Z", 6, 2, 0, 2, 1281, 1280, 44), (12, "unlike", "(I)I", 2, 1, 0, 2, 1285, 1283, 1284), (12, "unlikeOf", "(I)I", 2, 1, 0, 2, 1289, 1288, 45), (12, "share", "(II)I", 4, 1, 0, 3, 1293, 1291, 1292), (12, "shareOf", "(I)I", 5, 1, 0, 2, 1297, 1296, 46), (12, "cellOf", "(I)I", 3, 1, 0, 2, 1301, 1300, 47), (12, "rate", "(II)I", 9, 1, 0, 3, 1305, 1303, 1304), (12, "looked", "()I", 3, 1, 0, 1, 1310, 1309, 48), (12, "ones", "(I)I", 3, 1, 1, 1, 1313, 1312, 0), (12, "riskOf", "(I)I", 4, 1, 0, 2, 1317, 1316, 49), (12, "signsOf", "(I)I", 2, 1, 0, 2, 1321, 1320, 50), (12, "alikeOf", "(I)I", 4, 1, 0, 2, 1325, 1324, 51), (12, "areNear", "(III)Z", 3, 2, 1, 3, 1328, 1327, 0), (12, "isQuick", "(I)Z", 3, 2, 0, 2, 1332, 1331, 52), (12, "overlaps", "(I)Z", 3, 2, 0, 2, 1336, 1335, 53), (12, "isShut", "(I)Z", 3, 2, 0, 2, 1340, 1339, 54), (12, "signs", "(I)I", 2, 1, 0, 2, 1344, 1342, 1343), (12, "alike", "(I)I", 2, 1, 0, 2, 1348, 1346, 1347), (12, "falls", "(I)I", 5, 1, 0, 2, 1352, 1350, 1351), (12, "isTyped", "(III)Z", 7, 2, 1, 3, 1355, 1354, 0), (12, "rule", "(II)I", 4, 1, 0, 3, 1359, 1357, 1358), (12, "appeal", "(II)I", 4, 1, 0, 3, 1363, 1361, 1362), (12, "points", "(I)I", 2, 1, 0, 2, 1367, 1365, 1366), (12, "pointsOf", "(I)I", 3, 1, 0, 2, 1371, 1370, 55), (12, "missed", "(I)I", 3, 1, 0, 2, 1375, 1374, 56), (12, "sum", "(II)I", 3, 1, 0, 3, 1379, 1377, 1378), (12, "findPoints", "()V", 2, 0, 0, 1, 1383, 1382, 57), (12, "sumOf", "(II)I", 5, 1, 0, 3, 1387, 1386, 58), (12, "banned", "(II)I", 4, 1, 0, 3, 1391, 1389, 1390), (12, "secret", "(I)I", 2, 1, 0, 2, 1395, 1393, 1394), (12, "visit", "(II)I", 3, 1, 0, 3, 1399, 1397, 1398), (12, "worth", "(II)I", 3, 1, 0, 3, 1403, 1401, 1402), (12, "worthOf", "(II)I", 5, 1, 0, 3, 1407, 1406, 59), (12, "plan", "(I)I", 3, 1, 0, 2, 1411, 1409, 1410), (12, "findPlan", "()I", 6, 1, 0, 1, 1415, 1414, 60), (12, "draw", "(III)I", 4, 1, 0, 4, 1419, 1417, 1418), (12, "error", "()I", 5, 1, 0, 1, 1423, 1421, 1422), (12, "leans", "(II)I", 5, 1, 0, 3, 1427, 1425, 1426), (12, "leansOn", "(II)I", 5, 1, 0, 3, 1431, 1430, 61), (12, "tell", "(I)I", 2, 1, 0, 2, 1435, 1433, 1434), (12, "check", "(I)I", 4, 1, 0, 2, 1439, 1437, 1438), (12, "count", "(I)I", 4, 1, 0, 2, 1443, 1441, 1442), (12, "found", "(I)I", 2, 1, 0, 2, 1447, 1445, 1446)]
def mtL : List Mt := mtL_0 ++ (mtL_1 ++ (mtL_2 ++ (mtL_3)))
def mt (k : Nat) : Mt := mtL.getD k (99, "", "", 0, 0, 0, 0, 0, 0, 0)
def mbL_0 : List ByteArray := [prog_1_method_2_code, prog_1_method_41_code, prog_1_method_36_code, prog_12_method_2_code, prog_1_method_3_code, prog_1_method_42_code, prog_12_method_3_code, prog_1_method_4_code, prog_11_method_2_code, prog_1_method_5_code, prog_11_method_3_code, prog_1_method_6_code, prog_11_method_5_code, prog_11_method_4_code, prog_11_method_6_code, prog_1_method_7_code, prog_1_method_8_code, prog_1_method_37_code, prog_1_method_38_code, prog_9_method_3_code, prog_1_method_39_code, prog_1_method_40_code, prog_9_method_2_code, prog_1_method_9_code, prog_11_method_7_code, prog_9_method_4_code, prog_1_method_10_code, prog_10_method_2_code, prog_1_method_11_code, prog_10_method_3_code, prog_10_method_6_code, prog_10_method_7_code, prog_10_method_8_code, prog_10_method_12_code, prog_10_method_10_code, prog_10_method_13_code, prog_10_method_14_code, prog_10_method_11_code, prog_10_method_9_code, prog_1_method_12_code, prog_10_method_4_code, prog_10_method_5_code, prog_1_method_13_code, prog_2_method_2_code, prog_2_method_3_code, prog_1_method_14_code, prog_2_method_4_code, prog_1_method_15_code, prog_5_method_2_code, prog_5_method_4_code]
def mbL_1 : List ByteArray := [prog_8_method_2_code, prog_8_method_4_code, prog_8_method_5_code, prog_16_method_59_code, prog_8_method_6_code, prog_8_method_7_code, prog_8_method_8_code, prog_8_method_9_code, prog_2_method_5_code, prog_15_method_49_code, prog_7_method_5_code, prog_7_method_3_code, prog_6_method_3_code, prog_6_method_4_code, prog_6_method_5_code, prog_12_method_4_code, prog_6_method_7_code, prog_6_method_6_code, prog_6_method_8_code, prog_6_method_9_code, prog_6_method_10_code, prog_1_method_16_code, prog_6_method_2_code, prog_1_method_17_code, prog_1_method_18_code, prog_1_method_19_code, prog_3_method_2_code, prog_3_method_3_code, prog_3_method_4_code, prog_3_method_5_code, prog_1_method_20_code, prog_4_method_2_code, prog_4_method_3_code, prog_1_method_21_code, prog_1_method_22_code, prog_4_method_4_code, prog_7_method_6_code, prog_1_method_23_code, prog_4_method_5_code, prog_4_method_7_code, prog_4_method_8_code, prog_1_method_24_code, prog_4_method_6_code, prog_1_method_25_code, prog_7_method_2_code, prog_1_method_26_code, prog_7_method_4_code, prog_1_method_27_code, prog_5_method_3_code, prog_5_method_5_code]
def mbL_2 : List ByteArray := [prog_1_method_28_code, prog_5_method_6_code, prog_5_method_7_code, prog_5_method_8_code, prog_5_method_10_code, prog_5_method_9_code, prog_16_method_65_code, prog_5_method_11_code, prog_5_method_12_code, prog_5_method_13_code, prog_1_method_29_code, prog_9_method_5_code, prog_9_method_6_code, prog_1_method_30_code, prog_9_method_7_code, prog_1_method_31_code, prog_2_method_6_code, prog_1_method_32_code, prog_1_method_33_code, prog_1_method_34_code, prog_8_method_3_code, prog_1_method_35_code, prog_14_method_10_code, prog_14_method_3_code, prog_14_method_5_code, prog_14_method_4_code, prog_14_method_13_code, prog_14_method_6_code, prog_14_method_12_code, prog_14_method_11_code, prog_14_method_14_code, prog_14_method_15_code, prog_14_method_7_code, prog_14_method_17_code, prog_14_method_8_code, prog_14_method_16_code, prog_14_method_18_code, prog_14_method_20_code, prog_14_method_19_code, prog_14_method_22_code, prog_14_method_9_code, prog_14_method_21_code, prog_14_method_23_code, prog_14_method_29_code, prog_14_method_28_code, prog_14_method_24_code, prog_14_method_27_code, prog_14_method_26_code, prog_14_method_25_code, prog_14_method_31_code]
def mbL_3 : List ByteArray := [prog_14_method_30_code, prog_14_method_33_code, prog_14_method_32_code, prog_14_method_35_code, prog_14_method_34_code, prog_14_method_38_code, prog_14_method_37_code, prog_14_method_36_code, prog_14_method_42_code, prog_14_method_41_code, prog_14_method_39_code, prog_14_method_40_code, prog_14_method_48_code, prog_14_method_44_code, prog_14_method_43_code, prog_14_method_45_code, prog_14_method_46_code, prog_14_method_47_code, prog_14_method_49_code, prog_14_method_50_code, prog_14_method_52_code, prog_14_method_51_code, prog_14_method_53_code, prog_14_method_54_code, prog_14_method_57_code, prog_14_method_56_code, prog_14_method_55_code, prog_14_method_60_code, prog_14_method_58_code, prog_14_method_59_code, prog_14_method_61_code, prog_14_method_62_code, prog_14_method_63_code, prog_14_method_65_code, prog_14_method_64_code, prog_14_method_67_code, prog_14_method_66_code, prog_14_method_68_code, prog_14_method_69_code, prog_14_method_71_code, prog_14_method_70_code, prog_14_method_72_code, prog_14_method_73_code, prog_14_method_74_code, prog_14_method_75_code]
def mbL : List ByteArray := mbL_0 ++ (mbL_1 ++ (mbL_2 ++ (mbL_3)))
def mB (k : Nat) : ByteArray := mbL.getD k ⟨#[]⟩
def mO (k : Nat) : Nat := (mt k).1
def mY (k : Nat) : MethodName := ⟨cn (mt k).1, (mt k).2.1, (mt k).2.2.1⟩
def mL (k : Nat) : Nat := (mt k).2.2.2.1
def rty (n : Nat) : Option FieldType := match n with | 0 => none | 1 => some .int | _ => some .boolean
def mRk (k : Nat) : Nat := (mt k).2.2.2.2.1
def mR (k : Nat) : Option FieldType := rty (mRk k)
def mS (k : Nat) : Nat := (mt k).2.2.2.2.2.1
def mA (k : Nat) : Nat := (mt k).2.2.2.2.2.2.1
def mP1 (k : Nat) : Nat := (mt k).2.2.2.2.2.2.2.1
def mP2 (k : Nat) : Nat := (mt k).2.2.2.2.2.2.2.2.1
def mP3 (k : Nat) : Nat := (mt k).2.2.2.2.2.2.2.2.2
def NM : Nat := 195
def ipl : List Nat := [63, 64, 65, 66, 67, 68, 69, 70, 71, 72, 73, 74, 75, 62, 77, 76]
set_option maxRecDepth 100000 in
theorem ipl_ok : ((List.range 16).all fun c => decide (lw_tbl[ipl.getD c 0]? = some (.initialized (cn c)))) = true := by decide +kernel
def mOk (k : Nat) : Bool := decide (mO k < 16) && decide (mL k ≤ 9) && decide (mO k = 15 ∨ plainName (mY k).cls = true) && decide ((mY k).cls ≠ "java/lang/invoke/MethodHandle") && decide ((mY k).cls ≠ "java/lang/invoke/VarHandle") && decide ((parseMethodDescriptor (mY k).desc).map (fun d => d.parameters.length + (1 - mS k)) = some (mA k)) && decide (mS k ≤ 1) && decide (mA k ≤ mL k) && decide (lw_tbl[mP1 k]? = some (.code (mY k) (mB k) (mL k) (mR k))) && (if mS k = 1 then decide (lw_tbl[mP2 k]? = some (.static (mY k))) else decide (lw_tbl[mP2 k]? = some (.instanceMethod (mY k))) && decide (lw_tbl[mP3 k]? = some (.selects (mY k).cls (mY k) (mY k))) && decide (mO k < 13))
set_option maxRecDepth 100000 in
theorem mOk_0 : ((List.range 20).all fun j => mOk (0 + j)) = true := by decide +kernel
set_option maxRecDepth 100000 in
theorem mOk_1 : ((List.range 20).all fun j => mOk (20 + j)) = true := by decide +kernel
set_option maxRecDepth 100000 in
theorem mOk_2 : ((List.range 20).all fun j => mOk (40 + j)) = true := by decide +kernel
set_option maxRecDepth 100000 in
theorem mOk_3 : ((List.range 20).all fun j => mOk (60 + j)) = true := by decide +kernel
set_option maxRecDepth 100000 in
theorem mOk_4 : ((List.range 20).all fun j => mOk (80 + j)) = true := by decide +kernel
set_option maxRecDepth 100000 in
theorem mOk_5 : ((List.range 20).all fun j => mOk (100 + j)) = true := by decide +kernel
set_option maxRecDepth 100000 in
theorem mOk_6 : ((List.range 20).all fun j => mOk (120 + j)) = true := by decide +kernel
set_option maxRecDepth 100000 in
theorem mOk_7 : ((List.range 20).all fun j => mOk (140 + j)) = true := by decide +kernel
set_option maxRecDepth 100000 in
theorem mOk_8 : ((List.range 20).all fun j => mOk (160 + j)) = true := by decide +kernel
set_option maxRecDepth 100000 in
theorem mOk_9 : ((List.range 15).all fun j => mOk (180 + j)) = true := by decide +kernel
/-- method links: class, entry, method, place of the word -/
def mlt : List (Nat × Nat × Nat × Nat) := [(13, 13, 0, 484), (0, 111, 1, 488), (0, 115, 2, 491), (0, 122, 3, 496), (13, 18, 4, 500), (0, 129, 5, 504), (0, 132, 6, 507), (13, 23, 7, 513), (0, 138, 8, 517), (13, 27, 9, 521), (0, 145, 10, 525), (13, 32, 11, 529), (0, 148, 12, 533), (0, 154, 13, 537), (0, 158, 14, 541), (13, 36, 15, 545), (13, 40, 16, 549), (0, 161, 17, 553), (0, 165, 18, 557), (0, 304, 19, 561), (0, 168, 20, 565), (0, 171, 21, 568), (0, 176, 22, 573), (13, 45, 23, 577), (0, 179, 24, 581), (2, 48, 14, 585), (0, 183, 25, 586), (13, 49, 26, 590), (0, 189, 27, 594), (13, 53, 28, 598), (0, 193, 29, 602), (4, 31, 30, 606), (4, 34, 31, 610), (4, 44, 32, 614), (4, 47, 33, 618), (4, 51, 34, 622), (4, 58, 35, 626), (4, 65, 36, 629), (4, 62, 37, 632), (4, 54, 38, 637), (13, 57, 39, 641), (0, 196, 40, 645), (0, 199, 41, 649), (13, 61, 42, 653), (0, 208, 43, 657), (5, 29, 40, 661), (5, 43, 41, 662), (5, 56, 44, 663), (13, 65, 45, 667), (0, 211, 46, 671), (5, 69, 43, 675), (13, 69, 47, 676), (0, 214, 48, 680), (11, 34, 49, 684), (11, 54, 24, 688), (11, 60, 50, 689), (6, 25, 51, 693), (6, 57, 52, 697), (6, 67, 53, 701), (6, 29, 54, 704), (6, 33, 55, 710), (6, 91, 56, 714), (6, 36, 57, 718), (6, 97, 24, 722), (6, 39, 58, 723), (11, 65, 59, 727), (11, 70, 60, 733), (9, 35, 61, 737), (0, 217, 62, 741), (7, 30, 63, 745), (7, 66, 64, 749), (7, 77, 65, 753), (7, 37, 66, 757), (7, 86, 24, 761), (7, 33, 67, 762), (7, 54, 68, 766), (7, 58, 69, 770), (7, 92, 70, 774), (7, 95, 59, 778), (13, 73, 71, 779), (0, 220, 72, 783), (13, 77, 73, 787), (0, 223, 50, 791), (13, 81, 74, 792), (0, 226, 51, 796), (13, 85, 75, 797), (0, 232, 76, 801), (8, 21, 77, 805), (8, 25, 78, 809), (8, 28, 79, 814), (13, 89, 80, 818), (0, 235, 81, 822), (0, 238, 82, 829), (13, 93, 83, 833), (13, 97, 84, 837), (0, 244, 85, 841), (10, 41, 86, 845), (9, 42, 40, 849), (9, 48, 60, 850), (9, 54, 41, 851), (10, 47, 59, 852), (10, 57, 58, 853), (10, 63, 54, 854), (10, 68, 55, 855), (10, 71, 57, 856), (13, 101, 87, 857), (0, 247, 88, 861), (10, 74, 89, 865), (10, 91, 85, 869), (10, 78, 90, 870), (13, 105, 91, 874), (0, 250, 92, 878), (13, 109, 93, 882), (0, 254, 94, 886), (13, 113, 95, 890), (0, 256, 61, 894), (0, 259, 96, 895), (0, 263, 86, 899), (13, 117, 97, 900), (0, 266, 98, 904), (11, 42, 99, 908), (13, 121, 100, 912), (0, 269, 101, 916), (0, 272, 102, 920), (11, 82, 103, 924), (11, 86, 104, 928), (11, 90, 105, 931), (11, 94, 106, 935), (0, 275, 107, 938), (0, 279, 108, 942), (11, 99, 109, 946), (13, 125, 110, 950), (0, 282, 111, 954), (0, 285, 112, 958), (13, 129, 113, 962), (0, 288, 114, 966), (13, 134, 115, 970), (0, 291, 116, 974), (5, 77, 58, 978), (5, 80, 6, 979), (13, 138, 117, 980), (13, 142, 118, 984), (13, 146, 119, 988), (0, 300, 120, 992), (6, 50, 50, 996), (13, 150, 121, 997), (13, 17, 122, 1159), (12, 127, 123, 1163), (12, 143, 124, 1166), (12, 147, 125, 1169), (13, 22, 126, 1174), (12, 151, 127, 1178), (12, 154, 128, 1182), (12, 158, 129, 1185), (13, 26, 130, 1189), (13, 31, 131, 1193), (12, 161, 132, 1197), (13, 35, 133, 1201), (12, 167, 134, 1205), (12, 170, 135, 1209), (13, 39, 136, 1213), (13, 44, 137, 1217), (12, 176, 138, 1221), (13, 48, 139, 1227), (12, 180, 140, 1231), (12, 183, 141, 1235), (13, 52, 142, 1239), (13, 56, 143, 1243), (12, 208, 144, 1247), (12, 192, 145, 1251), (12, 202, 146, 1255), (12, 205, 147, 1259), (12, 196, 148, 1263), (13, 60, 149, 1266), (12, 212, 150, 1270), (13, 64, 151, 1274), (12, 215, 152, 1278), (13, 68, 153, 1282), (12, 218, 154, 1286), (13, 76, 155, 1290), (12, 224, 156, 1294), (12, 221, 157, 1298), (13, 72, 158, 1302), (12, 235, 159, 1307), (12, 230, 160, 1311), (12, 238, 161, 1314), (12, 227, 162, 1318), (12, 244, 163, 1322), (12, 241, 164, 1326), (12, 247, 165, 1329), (12, 250, 166, 1333), (12, 253, 167, 1337), (13, 80, 168, 1341), (13, 84, 169, 1345), (13, 88, 170, 1349), (12, 256, 171, 1353), (13, 92, 172, 1356), (13, 96, 173, 1360), (13, 100, 174, 1364), (12, 262, 175, 1368), (12, 259, 176, 1372), (13, 104, 177, 1376), (12, 265, 178, 1380), (12, 268, 179, 1384), (13, 108, 180, 1388), (13, 112, 181, 1392), (13, 116, 182, 1396), (13, 120, 183, 1400), (12, 277, 184, 1404), (13, 124, 185, 1408), (12, 280, 186, 1412), (13, 128, 187, 1416), (13, 133, 188, 1420), (13, 137, 189, 1424), (12, 286, 190, 1428), (13, 141, 191, 1432), (13, 145, 192, 1436), (13, 149, 193, 1440), (13, 153, 194, 1444)]
set_option maxRecDepth 100000 in
theorem mlt_ok : (mlt.all fun q => decide (lw_tbl[q.2.2.2]? = some (.methodLink (cn q.1) q.2.1 (mY q.2.2.1)))) = true := by decide +kernel
end
section
/-! the pure machine: cells hold numbers; an instruction is a predicate transformer -/
abbrev St : Type := Nat → Nat → Int32
def up (σ : St) (c i : Nat) (v : Int32) : St := fun c' => if c' = c then upd (σ c) i v else σ c'
abbrev LV : Type := List (Option Value)
/-- an instruction: pc, length, itself, its number, three operands, the branches of a switch -/
abbrev CE : Type := Nat × Nat × Instr × Int32 × Nat × Nat × Nat × List (Int32 × Nat)
abbrev KT : Type := Nat → LV → List Value → St → Prop
abbrev CT : Type := Nat → List Value → St → (Int32 → St → Prop) → Prop
def i_un (f : Int32 → Int32) (K : List Value → Prop) (st : List Value) : Prop := match st with
  | .int x :: r => K (.int (f x) :: r)
  | _ => False
def i_bin (f : Int32 → Int32 → Int32) (K : List Value → Prop) (st : List Value) : Prop := match st with
  | .int y :: .int x :: r => K (.int (f x y) :: r)
  | _ => False
def i_div (f : Int32 → Int32 → Int32) (K : List Value → Prop) (st : List Value) : Prop := match st with
  | .int y :: .int x :: r => ¬ y = 0 ∧ K (.int (f x y) :: r)
  | _ => False
def l_bin (f : Int64 → Int64 → Int64) (K : List Value → Prop) (st : List Value) : Prop := match st with
  | .long y :: .long x :: r => K (.long (f x y) :: r)
  | _ => False
def l_div (f : Int64 → Int64 → Int64) (K : List Value → Prop) (st : List Value) : Prop := match st with
  | .long y :: .long x :: r => ¬ y = 0 ∧ K (.long (f x y) :: r)
  | _ => False
def l_cmp (K : List Value → Prop) (st : List Value) : Prop := match st with
  | .long y :: .long x :: r => K (.int (lg_cmp x y) :: r)
  | _ => False
def c_i2l (K : List Value → Prop) (st : List Value) : Prop := match st with
  | .int x :: r => K (.long x.toInt64 :: r)
  | _ => False
def c_l2i (K : List Value → Prop) (st : List Value) : Prop := match st with
  | .long x :: r => K (.int x.toInt32 :: r)
  | _ => False
def i_if (B : Int32 → Prop) (T F : List Value → Prop) (st : List Value) : Prop := match st with
  | .int x :: r => (B x → T r) ∧ (¬ B x → F r)
  | _ => False
def i_ne (T F : List Value → Prop) (st : List Value) : Prop := match st with
  | .int x :: r => (¬ x = 0 → T r) ∧ (x = 0 → F r)
  | _ => False
def i_cmp (B : Int32 → Int32 → Prop) (T F : List Value → Prop) (st : List Value) : Prop := match st with
  | .int y :: .int x :: r => (B x y → T r) ∧ (¬ B x y → F r)
  | _ => False
def i_cne (T F : List Value → Prop) (st : List Value) : Prop := match st with
  | .int y :: .int x :: r => (¬ x = y → T r) ∧ (x = y → F r)
  | _ => False
def p_ldi (lv : LV) (a : Nat) (K : Value → Prop) : Prop := match lv[a]? with
  | some (some (.int x)) => K (.int x)
  | _ => False
def p_lda (lv : LV) (a : Nat) (K : Value → Prop) : Prop := match lv[a]? with
  | some (some (.ref x)) => K (.ref x)
  | _ => False
def p_ldl (lv : LV) (a : Nat) (K : Value → Prop) : Prop := match lv[a]? with
  | some (some (.long x)) => K (.long x)
  | _ => False
def isL (o : Option (Option Value)) : Bool := match o with
  | some (some (.long _)) => true
  | some (some (.double _)) => true
  | _ => false
def hitL (lv : LV) (a : Nat) : Bool := match a with
  | 0 => false
  | b + 1 => isL lv[b]?
def p_sti (lv : LV) (a : Nat) (K : LV → List Value → Prop) (st : List Value) : Prop := match st with
  | .int x :: r => (match hitL lv a with | true => False | false => K (lv.set a (some (.int x))) r)
  | _ => False
def p_sta (lv : LV) (a : Nat) (K : LV → List Value → Prop) (st : List Value) : Prop := match st with
  | .ref x :: r => (match hitL lv a with | true => False | false => K (lv.set a (some (.ref x))) r)
  | _ => False
def p_stl (lv : LV) (a : Nat) (K : LV → List Value → Prop) (st : List Value) : Prop := match st with
  | .long x :: r => (match hitL lv a with | true => False | false => K ((lv.set (a + 1) none).set a (some (.long x))) r)
  | _ => False
def p_inc (lv : LV) (a : Nat) (n : Int32) (K : LV → Prop) : Prop := match lv[a]? with
  | some (some (.int x)) => (match hitL lv a with | true => False | false => K (lv.set a (some (.int (x + n)))))
  | _ => False
/-- arrays outside the world: the static ones, then the script -/
def sAr (sc : Nat × (Nat → Int32)) (c : Nat) : Option (Nat × (Nat → Int32)) := match c with
  | 1000 => some (4, fun j => (sV 0).getD j 0)
  | 1001 => some (4, fun j => (sV 1).getD j 0)
  | 1002 => some (3, fun j => (sV 2).getD j 0)
  | 1003 => some sc
  | _ => none
def p_iald (sc : Nat × (Nat → Int32)) (K : List Value → Prop) (st : List Value) (σ : St) : Prop := match st with
  | .int i :: .ref c :: r => (match lay[c]? with
    | some (1, n, _) => vp_in i n ∧ K (.int (σ c i.toNatClampNeg) :: r)
    | some _ => False
    | none => (match sAr sc c with
      | some q => vp_in i q.1 ∧ K (.int (q.2 i.toNatClampNeg) :: r)
      | none => False))
  | _ => False
def p_zald (K : List Value → Prop) (st : List Value) (σ : St) : Prop := match st with
  | .int i :: .ref c :: r => (match lay[c]? with
    | some (2, n, _) => vp_in i n ∧ K (.int (σ c i.toNatClampNeg) :: r)
    | _ => False)
  | _ => False
def p_iast (K : List Value → St → Prop) (st : List Value) (σ : St) : Prop := match st with
  | .int x :: .int i :: .ref c :: r => (match lay[c]? with
    | some (1, n, _) => vp_in i n ∧ K r (up σ c i.toNatClampNeg x)
    | _ => False)
  | _ => False
def p_zast (K : List Value → St → Prop) (st : List Value) (σ : St) : Prop := match st with
  | .int x :: .int i :: .ref c :: r => (match lay[c]? with
    | some (2, n, _) => vp_in i n ∧ (x = 0 ∨ x = 1) ∧ K r (up σ c i.toNatClampNeg x)
    | _ => False)
  | _ => False
def p_len (sc : Nat × (Nat → Int32)) (K : List Value → Prop) (st : List Value) : Prop := match st with
  | .ref c :: r => (match lay[c]? with
    | some _ => False
    | none => (match sAr sc c with
      | some q => K (.int (Int32.ofNat q.1) :: r)
      | none => False))
  | _ => False
def p_get (ci k : Nat) (K : List Value → Prop) (st : List Value) (σ : St) : Prop := match st with
  | .ref c :: r => (match lay[c]? with
    | some (0, cj, fs) => (match Nat.beq cj ci with
      | true => (match fs[k]? with
        | some (some q) => K (.ref q :: r)
        | some none => K (.int (σ c k) :: r)
        | none => False)
      | false => False)
    | _ => False)
  | _ => False
def p_put (ci k : Nat) (K : List Value → St → Prop) (st : List Value) (σ : St) : Prop := match st with
  | .int x :: .ref c :: r => (match lay[c]? with
    | some (0, cj, fs) => (match Nat.beq cj ci with
      | true => (match fs[k]? with
        | some none => K r (up σ c k x)
        | _ => False)
      | false => False)
    | _ => False)
  | _ => False
def p_sw (sw : List (Int32 × Nat)) (x : Int32) (K : Nat → Prop) (a : Nat) : Prop := match sw with
  | [] => K a
  | q :: r => (x = q.1 → K q.2) ∧ (¬ x = q.1 → p_sw r x K a)
def p_swi (sw : List (Int32 × Nat)) (K : Nat → List Value → Prop) (a : Nat) (st : List Value) : Prop := match st with
  | .int x :: r => p_sw sw x (fun t => K t r) a
  | _ => False
def p_dup (K : List Value → Prop) (st : List Value) : Prop := match st with
  | v :: r => (match Nat.beq v.category 1 with | true => K (v :: v :: r) | false => False)
  | _ => False
def p_dup2 (K : List Value → Prop) (st : List Value) : Prop := match st with
  | v :: w :: r => (match Nat.beq v.category 1 && Nat.beq w.category 1 with | true => K (v :: w :: v :: w :: r) | false => False)
  | _ => False
def p_pop (K : List Value → Prop) (st : List Value) : Prop := match st with
  | v :: r => (match Nat.beq v.category 1 with | true => K r | false => False)
  | _ => False
/-- the first argument is an object of the class ci -/
def rcv (ci : Nat) (as : List Value) : Bool := match as with
  | .ref c :: _ => (match lay[c]? with
    | some (0, cj, _) => Nat.beq cj ci
    | _ => false)
  | _ => false
def cats (st : List Value) : Nat := (st.map fun v => v.category).sum
/-- a call: method a, b arguments; d 1 static -/
def p_call (C : CT) (vd : Bool) (a b : Nat) (ok : List Value → Bool) (K : List Value → St → Prop) (st : List Value) (σ : St) : Prop :=
  match Nat.ble b st.length && Nat.ble (cats (st.drop b)) 8 && ok (st.take b).reverse with
  | true => C a (st.take b).reverse σ (fun r σ' => K (bif vd then st.drop b else .int r :: st.drop b) σ')
  | false => False
def absI (x : Int32) : Int32 := if 0 ≤ x then x else 0 - x
def maxI (x y : Int32) : Int32 := if x < y then y else x
def p_ret (rk : Nat) (Q : Int32 → Prop) (st : List Value) : Prop := match st with
  | [.int x] => (match rk with | 0 => False | 1 => Q x | _ => (x = 0 ∨ x = 1) ∧ Q x)
  | _ => False
def p_rtv (rk : Nat) (Q : Prop) (st : List Value) : Prop := match st with
  | [] => (match rk with | 0 => Q | _ => False)
  | _ => False
/-- one instruction; rk: the method's answer (0 none, 1 int, 2 boolean) -/
def stp (sc : Nat × (Nat → Int32)) (C : CT) (rk : Nat) (Q : Int32 → St → Prop) (K : KT) (q : CE) (lv : LV) (st : List Value) (σ : St) : Prop :=
  match q with
  | (pc, len, ins, imm, a, b, d, sw) => (match ins with
    | .iconst _ => K (pc + len) lv (.int imm :: st) σ
    | .bipush _ => K (pc + len) lv (.int imm :: st) σ
    | .sipush _ => K (pc + len) lv (.int imm :: st) σ
    | .ldc _ => K (pc + len) lv (.int imm :: st) σ
    | .ldc_w _ => K (pc + len) lv (.int imm :: st) σ
    | .lconst _ => K (pc + len) lv (.long imm.toInt64 :: st) σ
    | .ldc2_w _ => K (pc + len) lv (.long imm.toInt64 :: st) σ
    | .iload_n _ => p_ldi lv a (fun v => K (pc + len) lv (v :: st) σ)
    | .iload _ => p_ldi lv a (fun v => K (pc + len) lv (v :: st) σ)
    | .aload_n _ => p_lda lv a (fun v => K (pc + len) lv (v :: st) σ)
    | .aload _ => p_lda lv a (fun v => K (pc + len) lv (v :: st) σ)
    | .lload_n _ => p_ldl lv a (fun v => K (pc + len) lv (v :: st) σ)
    | .lload _ => p_ldl lv a (fun v => K (pc + len) lv (v :: st) σ)
    | .istore_n _ => p_sti lv a (fun lv st => K (pc + len) lv st σ) st
    | .istore _ => p_sti lv a (fun lv st => K (pc + len) lv st σ) st
    | .astore_n _ => p_sta lv a (fun lv st => K (pc + len) lv st σ) st
    | .astore _ => p_sta lv a (fun lv st => K (pc + len) lv st σ) st
    | .lstore_n _ => p_stl lv a (fun lv st => K (pc + len) lv st σ) st
    | .lstore _ => p_stl lv a (fun lv st => K (pc + len) lv st σ) st
    | .iinc _ _ => p_inc lv a imm (fun lv => K (pc + len) lv st σ)
    | .iadd => i_bin (fun x y => x + y) (fun st => K (pc + len) lv st σ) st
    | .isub => i_bin (fun x y => x - y) (fun st => K (pc + len) lv st σ) st
    | .imul => i_bin (fun x y => x * y) (fun st => K (pc + len) lv st σ) st
    | .iand => i_bin (fun x y => x &&& y) (fun st => K (pc + len) lv st σ) st
    | .ior => i_bin (fun x y => x ||| y) (fun st => K (pc + len) lv st σ) st
    | .ixor => i_bin (fun x y => x ^^^ y) (fun st => K (pc + len) lv st σ) st
    | .ishl => i_bin (fun x y => x <<< (y &&& 31)) (fun st => K (pc + len) lv st σ) st
    | .ishr => i_bin (fun x y => x >>> (y &&& 31)) (fun st => K (pc + len) lv st σ) st
    | .iushr => i_bin (fun x y => (x.toUInt32 >>> (y.toUInt32 &&& Int32.toUInt32 31)).toInt32) (fun st => K (pc + len) lv st σ) st
    | .idiv => i_div (fun x y => x / y) (fun st => K (pc + len) lv st σ) st
    | .irem => i_div (fun x y => x - x / y * y) (fun st => K (pc + len) lv st σ) st
    | .ineg => i_un (fun x => -x) (fun st => K (pc + len) lv st σ) st
    | .lsub => l_bin (fun x y => x - y) (fun st => K (pc + len) lv st σ) st
    | .lmul => l_bin (fun x y => x * y) (fun st => K (pc + len) lv st σ) st
    | .ldiv => l_div (fun x y => x / y) (fun st => K (pc + len) lv st σ) st
    | .lcmp => l_cmp (fun st => K (pc + len) lv st σ) st
    | .i2l => c_i2l (fun st => K (pc + len) lv st σ) st
    | .l2i => c_l2i (fun st => K (pc + len) lv st σ) st
    | .dup => p_dup (fun st => K (pc + len) lv st σ) st
    | .dup2 => p_dup2 (fun st => K (pc + len) lv st σ) st
    | .pop => p_pop (fun st => K (pc + len) lv st σ) st
    | .goto _ => K a lv st σ
    | .ifCond .eq _ => i_if (fun x => x = 0) (fun st => K a lv st σ) (fun st => K (pc + len) lv st σ) st
    | .ifCond .ne _ => i_ne (fun st => K a lv st σ) (fun st => K (pc + len) lv st σ) st
    | .ifCond .lt _ => i_if (fun x => x < 0) (fun st => K a lv st σ) (fun st => K (pc + len) lv st σ) st
    | .ifCond .ge _ => i_if (fun x => 0 ≤ x) (fun st => K a lv st σ) (fun st => K (pc + len) lv st σ) st
    | .ifCond .gt _ => i_if (fun x => 0 < x) (fun st => K a lv st σ) (fun st => K (pc + len) lv st σ) st
    | .ifCond .le _ => i_if (fun x => x ≤ 0) (fun st => K a lv st σ) (fun st => K (pc + len) lv st σ) st
    | .if_icmp .eq _ => i_cmp (fun x y => x = y) (fun st => K a lv st σ) (fun st => K (pc + len) lv st σ) st
    | .if_icmp .ne _ => i_cne (fun st => K a lv st σ) (fun st => K (pc + len) lv st σ) st
    | .if_icmp .lt _ => i_cmp (fun x y => x < y) (fun st => K a lv st σ) (fun st => K (pc + len) lv st σ) st
    | .if_icmp .ge _ => i_cmp (fun x y => y ≤ x) (fun st => K a lv st σ) (fun st => K (pc + len) lv st σ) st
    | .if_icmp .gt _ => i_cmp (fun x y => y < x) (fun st => K a lv st σ) (fun st => K (pc + len) lv st σ) st
    | .if_icmp .le _ => i_cmp (fun x y => x ≤ y) (fun st => K a lv st σ) (fun st => K (pc + len) lv st σ) st
    | .tableswitch _ _ _ _ => p_swi sw (fun t st => K t lv st σ) a st
    | .lookupswitch _ _ => p_swi sw (fun t st => K t lv st σ) a st
    | .iaload => p_iald sc (fun st => K (pc + len) lv st σ) st σ
    | .baload => p_zald (fun st => K (pc + len) lv st σ) st σ
    | .iastore => p_iast (fun st σ => K (pc + len) lv st σ) st σ
    | .bastore => p_zast (fun st σ => K (pc + len) lv st σ) st σ
    | .arraylength => p_len sc (fun st => K (pc + len) lv st σ) st
    | .getfield _ => p_get a b (fun st => K (pc + len) lv st σ) st σ
    | .putfield _ => p_put a b (fun st σ => K (pc + len) lv st σ) st σ
    | .getstatic _ => K (pc + len) lv (.ref (1000 + a) :: st) σ
    | .invokevirtual _ => p_call C (Nat.beq (mRk a) 0) a b (rcv d) (fun st σ => K (pc + len) lv st σ) st σ
    | .invokestatic _ => (match Nat.beq d 53, Nat.beq d 106 with
      | true, _ => (match Nat.ble (cats st) 8 with | true => i_un absI (fun st => K (pc + len) lv st σ) st | false => False)
      | false, true => (match Nat.ble (cats st) 8 with | true => i_bin maxI (fun st => K (pc + len) lv st σ) st | false => False)
      | false, false => p_call C (Nat.beq (mRk a) 0) a b (fun _ => true) (fun st σ => K (pc + len) lv st σ) st σ)
    | .ireturn => p_ret rk (fun x => Q x σ) st
    | .return_ => p_rtv rk (Q 0 σ) st
    | _ => False)
def fnd (cd : List CE) (pc : Nat) : Option CE := match cd with
  | [] => none
  | q :: r => (match Nat.beq q.1 pc with | true => some q | false => fnd r pc)
def stC (sc : Nat × (Nat → Int32)) (C : CT) (rk : Nat) (cd : List CE) (Q : Int32 → St → Prop) (K : KT) : KT := fun pc lv st σ => match fnd cd pc with
  | some q => stp sc C rk Q K q lv st σ
  | none => False
/-- forget what some places hold -/
def fg : List Bool → LV → LV
  | b :: m, o :: l => (match b with | true => o | false => none) :: fg m l
  | _, l => l
/-- the least predicate closed under the steps, and under forgetting -/
def Ex (sc : Nat × (Nat → Int32)) (C : CT) (rk : Nat) (cd : List CE) (Q : Int32 → St → Prop) : KT := fun pc lv st σ => ∀ X : KT, (∀ pc lv st σ, stC sc C rk cd Q X pc lv st σ → X pc lv st σ) → (∀ pc m lv st σ, X pc (fg m lv) st σ → X pc lv st σ) → X pc lv st σ
/-- n steps, or fewer up to a cut -/
def wpn (sc : Nat × (Nat → Int32)) (C : CT) (rk : Nat) (cd : List CE) (cuts : List Nat) (Q : Int32 → St → Prop) (K : KT) : Nat → KT
  | 0 => K
  | n + 1 => fun pc lv st σ => (match cuts.any (fun c => Nat.beq c pc) with
    | true => K pc lv st σ
    | false => stC sc C rk cd Q (wpn sc C rk cd cuts Q K n) pc lv st σ)
def MonC (C : CT) : Prop := ∀ (k : Nat) (as : List Value) (σ : St) (Q Q' : Int32 → St → Prop), (∀ r σ', Q r σ' → Q' r σ') → C k as σ Q → C k as σ Q'
end
section
/-! the world of the cells, the frame's facts, the check of a code table -/
def cv (ad : Nat → Nat) (v : Value) : Value := match v with
  | .ref k => .ref (ad k)
  | w => w
theorem cv_cat (ad : Nat → Nat) (v : Value) : (cv ad v).category = v.category := by cases v <;> rfl
theorem cv_cats (ad : Nat → Nat) (st : List Value) : ((st.map (cv ad)).map fun v => v.category).sum = cats st := by
  unfold cats
  rw [List.map_map]
  congr 1
  exact List.map_congr_left (fun v _ => cv_cat ad v)
def prs (ad : Nat → Nat) (lv : LV) : List (Nat × Value) := lv.zipIdx.filterMap (fun q => q.1.map (fun v => (q.2, cv ad v)))
theorem prs_mem {ad : Nat → Nat} {lv : LV} {i : Nat} {w : Value} : (i, w) ∈ prs ad lv ↔ ∃ v, lv[i]? = some (some v) ∧ w = cv ad v := by
  unfold prs
  rw [List.mem_filterMap]
  constructor
  · rintro ⟨⟨o, j⟩, h1, h2⟩
    rw [List.mem_zipIdx_iff_getElem?] at h1
    cases o with
    | none => simp at h2
    | some v =>
      simp at h2
      obtain ⟨rfl, rfl⟩ := h2
      exact ⟨v, h1, rfl⟩
  · rintro ⟨v, h1, rfl⟩
    exact ⟨(some v, i), by rw [List.mem_zipIdx_iff_getElem?]; exact h1, rfl⟩
def LH (ad : Nat → Nat) (nL : Nat) (ls : Array Slot) (lv : LV) : Prop := lv.length = nL ∧ lv_has ls nL (prs ad lv)
theorem LH.at {ad : Nat → Nat} {nL : Nat} {ls : Array Slot} {lv : LV} (h : LH ad nL ls lv) {i : Nat} {v : Value} (hi : lv[i]? = some (some v)) : ls[i]? = some (.val (cv ad v)) := h.2.2.2 (i, cv ad v) (prs_mem.mpr ⟨v, hi, rfl⟩)
theorem LH.st1 {ad : Nat → Nat} {nL : Nat} {ls ls' : Array Slot} {lv : LV} (h : LH ad nL ls lv) {a : Nat} {v : Value} (hh : hitL lv a = false) (h' : lv_has ls' nL ((a, cv ad v) :: (prs ad lv).filter (fun q => !(q.1 == a) && !(q.1 + 1 == a && q.2.category == 2)))) : LH ad nL ls' (lv.set a (some v)) := by
  refine ⟨by rw [List.length_set]; exact h.1, h'.1, h'.2.1, ?_⟩
  rintro ⟨i, w⟩ hq
  apply h'.2.2
  obtain ⟨u, h1, rfl⟩ := prs_mem.mp hq
  by_cases hi : i = a
  · subst hi
    have hl : i < lv.length := by
      have := (List.getElem?_eq_some_iff.mp h1).1
      rwa [List.length_set] at this
    rw [List.getElem?_set_self hl] at h1
    cases h1
    exact List.mem_cons_self
  · rw [List.getElem?_set_ne (Ne.symm hi)] at h1
    refine List.mem_cons_of_mem _ (List.mem_filter.mpr ⟨prs_mem.mpr ⟨u, h1, rfl⟩, ?_⟩)
    by_cases hj : i + 1 = a
    · subst hj
      have h3 : isL lv[i]? = false := hh
      rw [h1] at h3
      cases u <;> simp_all [isL, cv, Value.category]
    · simp [hi, hj]
theorem LH.st2 {ad : Nat → Nat} {nL : Nat} {ls ls' : Array Slot} {lv : LV} (h : LH ad nL ls lv) {a : Nat} {x : Int64} (hh : hitL lv a = false) (h' : lv_has ls' nL ((a, Value.long x) :: (prs ad lv).filter (fun q => !(q.1 == a) && (!(q.1 == a + 1) && !(q.1 + 1 == a && q.2.category == 2))))) : LH ad nL ls' ((lv.set (a + 1) none).set a (some (.long x))) := by
  refine ⟨by rw [List.length_set, List.length_set]; exact h.1, h'.1, h'.2.1, ?_⟩
  rintro ⟨i, w⟩ hq
  apply h'.2.2
  obtain ⟨u, h1, rfl⟩ := prs_mem.mp hq
  by_cases hi : i = a
  · subst hi
    have hl : i < (lv.set (i + 1) none).length := by
      have := (List.getElem?_eq_some_iff.mp h1).1
      rwa [List.length_set] at this
    rw [List.getElem?_set_self hl] at h1
    cases h1
    exact List.mem_cons_self
  · rw [List.getElem?_set_ne (Ne.symm hi)] at h1
    have hi1 : i ≠ a + 1 := by
      intro e
      subst e
      have hl : a + 1 < lv.length := by
        have := (List.getElem?_eq_some_iff.mp h1).1
        rwa [List.length_set] at this
      rw [List.getElem?_set_self hl] at h1
      cases h1
    rw [List.getElem?_set_ne (Ne.symm hi1)] at h1
    refine List.mem_cons_of_mem _ (List.mem_filter.mpr ⟨prs_mem.mpr ⟨u, h1, rfl⟩, ?_⟩)
    by_cases hj : i + 1 = a
    · subst hj
      have h3 : isL lv[i]? = false := hh
      rw [h1] at h3
      cases u <;> simp_all [isL, cv, Value.category]
    · simp [hi, hj, hi1]
def fvl (ad : Nat → Nat) (σ : St) (c : Nat) (o : Option Nat) (k : Nat) : Value := match o with
  | some r => .ref (ad r)
  | none => .int (σ c k)
def obF (ad : Nat → Nat) (σ : St) (c : Nat) (fs : List (Option Nat)) : List Value := fs.zipIdx.map (fun q => fvl ad σ c q.1 q.2)
def ent (cI cZ : ClassId) (ad : Nat → Nat) (σ : St) (c : Nat) : va_E := match lay[c]? with
  | some (0, ci, fs) => .inr (ci, obF ad σ c fs)
  | some (1, n, _) => .inl (cI, n, .inl (σ c))
  | some (_, n, _) => .inl (cZ, n, .inl (σ c))
  | none => .inr (0, [])
def wW (cI cZ : ClassId) (ad : Nat → Nat) (σ : St) : va_W := (List.range 85).map (fun c => (ad c, ent cI cZ ad σ c))
theorem lay_len : lay.length = 85 := rfl
theorem lay_lt {c : Nat} {x : Ly} (h : lay[c]? = some x) : c < 85 := by
  have := (List.getElem?_eq_some_iff.mp h).1
  rwa [lay_len] at this
theorem wW_at {cI cZ : ClassId} {ad : Nat → Nat} {σ : St} {c : Nat} (h : c < 85) : (wW cI cZ ad σ)[c]? = some (ad c, ent cI cZ ad σ c) := by
  simp [wW, h]
theorem obF_at {ad : Nat → Nat} {σ : St} {c : Nat} {fs : List (Option Nat)} {k : Nat} {o : Option Nat} (h : fs[k]? = some o) : (obF ad σ c fs)[k]? = some (fvl ad σ c o k) := by
  simp [obF, h]
theorem obF_len {ad : Nat → Nat} {σ : St} {c : Nat} {fs : List (Option Nat)} : (obF ad σ c fs).length = fs.length := by simp [obF]
theorem up_self (σ : St) (c i : Nat) (v : Int32) : up σ c i v c = upd (σ c) i v := by simp [up]
theorem up_ne (σ : St) {c c' : Nat} (i : Nat) (v : Int32) (h : c' ≠ c) : up σ c i v c' = σ c' := by simp [up, h]
theorem obF_set {ad : Nat → Nat} {σ : St} {c : Nat} {fs : List (Option Nat)} {k : Nat} {v : Int32} (h : fs[k]? = some none) : (obF ad σ c fs).set k (.int v) = obF ad (up σ c k v) c fs := by
  apply List.ext_getElem?
  intro j
  have hk := (List.getElem?_eq_some_iff.mp h).1
  by_cases hj : j = k
  · subst hj
    rw [List.getElem?_set_self (by rw [obF_len]; exact hk), obF_at h]
    simp [fvl, up_self, upd]
  · rw [List.getElem?_set_ne (Ne.symm hj)]
    cases ho : fs[j]? with
    | none =>
      have h1 : fs.length ≤ j := List.getElem?_eq_none_iff.mp ho
      rw [List.getElem?_eq_none (by rw [obF_len]; exact h1), List.getElem?_eq_none (by rw [obF_len]; exact h1)]
    | some o =>
      rw [obF_at ho, obF_at ho]
      cases o with
      | none => simp [fvl, up_self, upd, hj]
      | some r => rfl
theorem ent_congr {cI cZ : ClassId} {ad : Nat → Nat} {σ σ' : St} {c : Nat} (h : σ c = σ' c) : ent cI cZ ad σ c = ent cI cZ ad σ' c := by
  unfold ent
  split <;> first | rfl | (simp [obF, fvl, h]; done) | (rw [h])
theorem wW_set {cI cZ : ClassId} {ad : Nat → Nat} {σ : St} {c i : Nat} {v : Int32} {e : va_E} (hc : c < 85) (he : e = ent cI cZ ad (up σ c i v) c) : (wW cI cZ ad σ).set c (ad c, e) = wW cI cZ ad (up σ c i v) := by
  apply List.ext_getElem?
  intro j
  have hlen : (wW cI cZ ad σ).length = 85 := by simp [wW]
  by_cases hj : j = c
  · subst hj
    rw [List.getElem?_set_self (by rw [hlen]; exact hc), wW_at hc, he]
  · rw [List.getElem?_set_ne (Ne.symm hj)]
    by_cases hl : j < 85
    · rw [wW_at hl, wW_at hl, ent_congr (up_ne σ i v hj).symm]
    · rw [List.getElem?_eq_none (by rw [hlen]; omega), List.getElem?_eq_none (by simp [wW]; omega)]
def TB : List Cond := lw_tbl.filter goodWord
theorem tb_of {i : Nat} {w : Cond} (h : lw_tbl[i]? = some w) (hg : goodWord w = true) : w ∈ TB := List.mem_filter.mpr ⟨List.mem_of_getElem? h, hg⟩
theorem tb_good : GoodIn TB TB := fun w h => ⟨h, good_of_word (List.mem_filter.mp h).2⟩
theorem cls_at {c : Nat} (h : c < 13) : cls[c]? = some (cn c, FT c, NF c) := by simp [cls, h]
theorem all_rg {n : Nat} {f : Nat → Bool} (h : ((List.range n).all f) = true) {k : Nat} (hk : k < n) : f k = true := List.all_eq_true.mp h k (List.mem_range.mpr hk)
theorem u_in {c : Nat} (hc : c < 13) : ∀ w ∈ u_ws (cn c) (FT c) (NF c), w ∈ TB := by
  intro w hw
  obtain ⟨k, hk, rfl⟩ := List.mem_map.mp hw
  have h := all_rg (all_rg fpl_ok hc) (List.mem_range.mp hk)
  refine tb_of (of_decide_eq_true h) ?_
  unfold u_lay
  split <;> rfl
theorem ty_in {c : Nat} (hc : c < 13) : ∀ k, k < NF c → parseFieldDescriptor (FT c k).2.2.1 = some (fty c k) := fun k hk => of_decide_eq_true (all_rg (all_rg fty_ok hc) hk)
theorem nm_in {c : Nat} (hc : c < 13) : ∀ a, a < NF c → ∀ b, b < NF c → a ≠ b → (FT c a).2.1 ≠ (FT c b).2.1 := fun a ha b hb hab => (of_decide_eq_true (all_rg (all_rg (all_rg fnm_ok hc) ha) hb)).resolve_left hab
theorem mOk_all {k : Nat} (h : k < NM) : mOk k = true := by
  have h' : k < 195 := h
  rcases Nat.lt_or_ge k 20 with q | q
  · have := all_rg mOk_0 (k := k) (by omega); rwa [Nat.zero_add] at this
  rcases Nat.lt_or_ge k 40 with q2 | q2
  · have := all_rg mOk_1 (k := k - 20) (by omega); rwa [show 20 + (k - 20) = k by omega] at this
  rcases Nat.lt_or_ge k 60 with q3 | q3
  · have := all_rg mOk_2 (k := k - 40) (by omega); rwa [show 40 + (k - 40) = k by omega] at this
  rcases Nat.lt_or_ge k 80 with q4 | q4
  · have := all_rg mOk_3 (k := k - 60) (by omega); rwa [show 60 + (k - 60) = k by omega] at this
  rcases Nat.lt_or_ge k 100 with q5 | q5
  · have := all_rg mOk_4 (k := k - 80) (by omega); rwa [show 80 + (k - 80) = k by omega] at this
  rcases Nat.lt_or_ge k 120 with q6 | q6
  · have := all_rg mOk_5 (k := k - 100) (by omega); rwa [show 100 + (k - 100) = k by omega] at this
  rcases Nat.lt_or_ge k 140 with q7 | q7
  · have := all_rg mOk_6 (k := k - 120) (by omega); rwa [show 120 + (k - 120) = k by omega] at this
  rcases Nat.lt_or_ge k 160 with q8 | q8
  · have := all_rg mOk_7 (k := k - 140) (by omega); rwa [show 140 + (k - 140) = k by omega] at this
  rcases Nat.lt_or_ge k 180 with q9 | q9
  · have := all_rg mOk_8 (k := k - 160) (by omega); rwa [show 160 + (k - 160) = k by omega] at this
  · have := all_rg mOk_9 (k := k - 180) (by omega); rwa [show 180 + (k - 180) = k by omega] at this
/-- words of nest mates: they hold at every state of the run, but aren't steady words -/
def nwF0 : Cond := .fieldLinkNest "TradeTests$Vehicles" 25 "TradeTests" "DUE_DAYS" "[I" "TradeTests"
def nwF1 : Cond := .fieldLinkNest "TradeTests$Signals" 81 "TradeTests" "FAIR_MINUTES" "[I" "TradeTests"
def nwM0 : Cond := .methodLinkNest "TradeTests$Texts" 68 (mY 5) "TradeTests"
def nwM1 : Cond := .methodLinkNest "TradeTests$Penalties" 34 (mY 1) "TradeTests"
def Nws (U : State) : Prop := va_Nw nwF0 U ∧ va_Nw nwF1 U ∧ va_Nw nwM0 U ∧ va_Nw nwM1 U
theorem Nws.warm {s U : State} (hW : s.WarmedH U.vm) (h : Nws s) : Nws U := ⟨va_Nw.warmF hW h.1, va_Nw.warmF hW h.2.1, va_Nw.warmM hW h.2.2.1, va_Nw.warmM hW h.2.2.2⟩
theorem Nws.same {s U : State} (hv : s.vm = U.vm) (h : Nws s) : Nws U := ⟨va_Nw.same rfl hv h.1, va_Nw.same rfl hv h.2.1, va_Nw.same rfl hv h.2.2.1, va_Nw.same rfl hv h.2.2.2⟩
def ADA (ad : Nat → Nat) : Nat → Prop := fun q => ∃ c, c < 85 ∧ q = ad c
/-- what a frame knows beside its cells: at the state U, with the heap H -/
def Ctx (dC : Nat → ClassId) (dI : Nat → Nat → Nat) (cI cZ : ClassId) (ad : Nat → Nat) (sc : Nat × (Nat → Int32)) (A : Nat → Prop) (U : State) (H : Heap) : Prop :=
  va_K (dC, dI) cls [(cI, .int), (cZ, .boolean)] U ∧ Nws U ∧ (∀ j, j < 3 → va_Z (sC j) (sM j) "[I" (.ref (ad (1000 + j))) A U H) ∧ ∀ c q, sAr sc c = some q → va_T .int (ad c) q.1 (fun j => .int (q.2 j)) A U H
theorem Ctx.moved {dC : Nat → ClassId} {dI : Nat → Nat → Nat} {cI cZ : ClassId} {ad : Nat → Nat} {sc : Nat × (Nat → Int32)} {A B : Nat → Prop} {s U : State} {H : Heap} {locs : List Loc} (h : Ctx dC dI cI cZ ad sc A s s.heap) (hW : s.WarmedH U.vm) (hS : va_S A s.heap H locs) (hAB : ∀ q, B q → A q) (hU : U.heap = H) : Ctx dC dI cI cZ ad sc B U U.heap := by
  obtain ⟨h1, h2, h3, h4⟩ := h
  refine ⟨va_K.moved hW.alike h1, h2.warm hW, fun j hj => ?_, fun c q hq => ?_⟩
  · rw [hU]
    exact (((h3 j hj).kept hS.2.1).moved hW.alike).narrow hAB
  · rw [hU]
    exact (((h4 c q hq).kept hS.2.1).moved hW.alike).narrow hAB
def rmD (d : Nat) : Room := { frames := d, cells := 0, slots := 0, locals := 28 * d }
def wkK (k : Nat) : List Cond := .code (mY k) (mB k) (mL k) (mR k) :: TB
/-- the world of a contract -/
def WB (dC : Nat → ClassId) (dI : Nat → Nat → Nat) (cI cZ : ClassId) (ad : Nat → Nat) (sc : Nat × (Nat → Int32)) (σ : St) (U : State) : Prop :=
  va_P (dC, dI) cls (wW cI cZ ad σ) U.heap ∧ va_D (ADA ad) (wW cI cZ ad σ) ∧ Ctx dC dI cI cZ ad sc (ADA ad) U U.heap
/-- a contract's end -/
def QcK (dC : Nat → ClassId) (dI : Nat → Nat → Nat) (cI cZ : ClassId) (ad : Nat → Nat) (sc : Nat × (Nat → Int32)) (k : Nat) (Q : Int32 → St → Prop) : Array Value → State → Outcome → State → Prop :=
  match Nat.beq (mRk k) 0 with
  | true => va_Qv (fun σ' => Q 0 σ') (WB dC dI cI cZ ad sc) (ADA ad)
  | false => va_Qi Q (WB dC dI cI cZ ad sc) (ADA ad)
def MetK (l : Launch) (dC : Nat → ClassId) (dI : Nat → Nat → Nat) (cI cZ : ClassId) (ad : Nat → Nat) (sc : Nat × (Nat → Int32)) (C : CT) (k d : Nat) : Prop :=
  ∀ (as : List Value) (σ : St) (Q : Int32 → St → Prop), C k as σ Q → Met l (mY k) (wkK k) (rmD d) (va_Pc (as.map (cv ad)) (WB dC dI cI cZ ad sc σ)) (QcK dC dI cI cZ ad sc k Q) 0 0 (ADA ad)
/-- the check of a row of code -/
def okI (own nL pc len : Nat) (ins : Instr) (imm : Int32) (a b d : Nat) (sw : List (Int32 × Nat)) : Bool := match ins with
  | .iconst n => decide (len = 1 ∧ Int32.ofInt n = imm)
  | .bipush n => decide (len = 2 ∧ (Int8.ofInt n).toInt32 = imm)
  | .sipush n => decide (len = 3 ∧ (Int16.ofInt n).toInt32 = imm)
  | .ldc i => decide (len = 2) && kct.any (fun q => decide (q.1 = own ∧ q.2.1 = i ∧ q.2.2.1 = imm))
  | .ldc_w i => decide (len = 3) && kct.any (fun q => decide (q.1 = own ∧ q.2.1 = i ∧ q.2.2.1 = imm))
  | .lconst n => decide (len = 1 ∧ Int64.ofNat (n : Nat) = imm.toInt64)
  | .ldc2_w i => decide (len = 3 ∧ own = 12 ∧ i = 233 ∧ imm = 1000)
  | .iload_n n => decide (len = 1 ∧ (n : Nat) = a)
  | .iload i => decide (len = 2 ∧ i = a)
  | .aload_n n => decide (len = 1 ∧ (n : Nat) = a)
  | .aload i => decide (len = 2 ∧ i = a)
  | .lload_n n => decide (len = 1 ∧ (n : Nat) = a)
  | .lload i => decide (len = 2 ∧ i = a)
  | .istore_n n => decide (len = 1 ∧ (n : Nat) = a ∧ a < nL)
  | .istore i => decide (len = 2 ∧ i = a ∧ a < nL)
  | .astore_n n => decide (len = 1 ∧ (n : Nat) = a ∧ a < nL)
  | .astore i => decide (len = 2 ∧ i = a ∧ a < nL)
  | .lstore_n n => decide (len = 1 ∧ (n : Nat) = a ∧ a + 1 < nL)
  | .lstore i => decide (len = 2 ∧ i = a ∧ a + 1 < nL)
  | .iinc i n => decide (len = 3 ∧ i = a ∧ a < nL ∧ Int32.ofInt n = imm)
  | .goto o => decide (len = 3 ∧ (pc : Int) + o = (a : Int))
  | .ifCond _ o => decide (len = 3 ∧ (pc : Int) + o = (a : Int))
  | .if_icmp _ o => decide (len = 3 ∧ (pc : Int) + o = (a : Int))
  | .tableswitch f lo hi os => decide ((pc : Int) + f = (a : Int) ∧ lo = 0 ∧ hi + 1 = (os.size : Int) ∧ os.size < 1000 ∧ sw.length = os.size) && (List.range os.size).all (fun j => decide ((sw.getD j (0, 0)).1 = Int32.ofNat j ∧ (pc : Int) + os.getD j 0 = ((sw.getD j (0, 0)).2 : Int)))
  | .lookupswitch f ps => decide ((pc : Int) + f = (a : Int) ∧ (ps.toList.zip (ps.toList.drop 1)).all (fun (x, next) => x.1 < next.1) = true ∧ ps.toList.map (fun q => (q.1, (pc : Int) + q.2)) = sw.map (fun q => (q.1.toInt, (q.2 : Int))))
  | .getfield i => decide (len = 3) && (match flt[d]? with | some q => decide (q.1 = own ∧ q.2.1 = i ∧ q.2.2.1 = a ∧ q.2.2.2.1 = b) | none => false)
  | .putfield i => decide (len = 3) && (match flt[d]? with | some q => decide (q.1 = own ∧ q.2.1 = i ∧ q.2.2.1 = a ∧ q.2.2.2.1 = b ∧ (FT a b).2.2.2 = false ∧ fty a b = .int) | none => false)
  | .getstatic i => decide (len = 3 ∧ ((own = 1 ∧ i = 25 ∧ a = 0) ∨ (own = 6 ∧ i = 81 ∧ a = 1) ∨ (own = 10 ∧ i = 38 ∧ a = 2)))
  | .invokevirtual i => decide (len = 3 ∧ a < NM ∧ mS a = 0 ∧ b = mA a ∧ d = mO a ∧ a ≠ 53 ∧ a ≠ 106) && mlt.any (fun q => decide (q.1 = own ∧ q.2.1 = i ∧ q.2.2.1 = a))
  | .invokestatic i => decide (len = 3 ∧ a < NM ∧ mS a = 1 ∧ b = mA a ∧ ((d = 53 ∧ a = 53 ∧ own = 6 ∧ i = 67) ∨ (d = 106 ∧ a = 106 ∧ own = 11 ∧ i = 94) ∨ (d = 0 ∧ a ≠ 53 ∧ a ≠ 106) ∨ (d = 1 ∧ own = 4 ∧ i = 68 ∧ a = 5) ∨ (d = 1 ∧ own = 10 ∧ i = 34 ∧ a = 1))) && (Nat.beq d 1 || mlt.any (fun q => decide (q.1 = own ∧ q.2.1 = i ∧ q.2.2.1 = a)))
  | _ => decide (len = 1)
def okCE (own nL : Nat) (cc : ByteArray) (q : CE) : Bool := match q with
  | (pc, len, ins, imm, a, b, d, sw) => decide (decode cc pc = .ok (ins, len)) && okI own nL pc len ins imm a b d sw
end
section
/-! monotone in what comes behind -/
theorem i_un_mono {f : Int32 → Int32} {K K' : List Value → Prop} {st : List Value} (hK : ∀ st, K st → K' st) (h : i_un f K st) : i_un f K' st := by
  unfold i_un at *; split at h <;> first | exact hK _ h | exact h.elim
theorem i_bin_mono {f : Int32 → Int32 → Int32} {K K' : List Value → Prop} {st : List Value} (hK : ∀ st, K st → K' st) (h : i_bin f K st) : i_bin f K' st := by
  unfold i_bin at *; split at h <;> first | exact hK _ h | exact h.elim
theorem i_div_mono {f : Int32 → Int32 → Int32} {K K' : List Value → Prop} {st : List Value} (hK : ∀ st, K st → K' st) (h : i_div f K st) : i_div f K' st := by
  unfold i_div at *; split at h <;> first | exact ⟨h.1, hK _ h.2⟩ | exact h.elim
theorem l_bin_mono {f : Int64 → Int64 → Int64} {K K' : List Value → Prop} {st : List Value} (hK : ∀ st, K st → K' st) (h : l_bin f K st) : l_bin f K' st := by
  unfold l_bin at *; split at h <;> first | exact hK _ h | exact h.elim
theorem l_div_mono {f : Int64 → Int64 → Int64} {K K' : List Value → Prop} {st : List Value} (hK : ∀ st, K st → K' st) (h : l_div f K st) : l_div f K' st := by
  unfold l_div at *; split at h <;> first | exact ⟨h.1, hK _ h.2⟩ | exact h.elim
theorem l_cmp_mono {K K' : List Value → Prop} {st : List Value} (hK : ∀ st, K st → K' st) (h : l_cmp K st) : l_cmp K' st := by
  unfold l_cmp at *; split at h <;> first | exact hK _ h | exact h.elim
theorem c_i2l_mono {K K' : List Value → Prop} {st : List Value} (hK : ∀ st, K st → K' st) (h : c_i2l K st) : c_i2l K' st := by
  unfold c_i2l at *; split at h <;> first | exact hK _ h | exact h.elim
theorem c_l2i_mono {K K' : List Value → Prop} {st : List Value} (hK : ∀ st, K st → K' st) (h : c_l2i K st) : c_l2i K' st := by
  unfold c_l2i at *; split at h <;> first | exact hK _ h | exact h.elim
theorem i_if_mono {B : Int32 → Prop} {T T' F F' : List Value → Prop} {st : List Value} (hT : ∀ st, T st → T' st) (hF : ∀ st, F st → F' st) (h : i_if B T F st) : i_if B T' F' st := by
  unfold i_if at *; split at h <;> first | exact ⟨fun z => hT _ (h.1 z), fun z => hF _ (h.2 z)⟩ | exact h.elim
theorem i_ne_mono {T T' F F' : List Value → Prop} {st : List Value} (hT : ∀ st, T st → T' st) (hF : ∀ st, F st → F' st) (h : i_ne T F st) : i_ne T' F' st := by
  unfold i_ne at *; split at h <;> first | exact ⟨fun z => hT _ (h.1 z), fun z => hF _ (h.2 z)⟩ | exact h.elim
theorem i_cmp_mono {B : Int32 → Int32 → Prop} {T T' F F' : List Value → Prop} {st : List Value} (hT : ∀ st, T st → T' st) (hF : ∀ st, F st → F' st) (h : i_cmp B T F st) : i_cmp B T' F' st := by
  unfold i_cmp at *; split at h <;> first | exact ⟨fun z => hT _ (h.1 z), fun z => hF _ (h.2 z)⟩ | exact h.elim
theorem i_cne_mono {T T' F F' : List Value → Prop} {st : List Value} (hT : ∀ st, T st → T' st) (hF : ∀ st, F st → F' st) (h : i_cne T F st) : i_cne T' F' st := by
  unfold i_cne at *; split at h <;> first | exact ⟨fun z => hT _ (h.1 z), fun z => hF _ (h.2 z)⟩ | exact h.elim
theorem p_ldi_mono {lv : LV} {a : Nat} {K K' : Value → Prop} (hK : ∀ v, K v → K' v) (h : p_ldi lv a K) : p_ldi lv a K' := by
  unfold p_ldi at *; split at h <;> first | exact hK _ h | exact h.elim
theorem p_lda_mono {lv : LV} {a : Nat} {K K' : Value → Prop} (hK : ∀ v, K v → K' v) (h : p_lda lv a K) : p_lda lv a K' := by
  unfold p_lda at *; split at h <;> first | exact hK _ h | exact h.elim
theorem p_ldl_mono {lv : LV} {a : Nat} {K K' : Value → Prop} (hK : ∀ v, K v → K' v) (h : p_ldl lv a K) : p_ldl lv a K' := by
  unfold p_ldl at *; split at h <;> first | exact hK _ h | exact h.elim
theorem p_sti_mono {lv : LV} {a : Nat} {K K' : LV → List Value → Prop} {st : List Value} (hK : ∀ lv st, K lv st → K' lv st) (h : p_sti lv a K st) : p_sti lv a K' st := by
  unfold p_sti at *; split at h
  · split at h
    · exact h.elim
    · exact hK _ _ h
  · exact h.elim
theorem p_sta_mono {lv : LV} {a : Nat} {K K' : LV → List Value → Prop} {st : List Value} (hK : ∀ lv st, K lv st → K' lv st) (h : p_sta lv a K st) : p_sta lv a K' st := by
  unfold p_sta at *; split at h
  · split at h
    · exact h.elim
    · exact hK _ _ h
  · exact h.elim
theorem p_stl_mono {lv : LV} {a : Nat} {K K' : LV → List Value → Prop} {st : List Value} (hK : ∀ lv st, K lv st → K' lv st) (h : p_stl lv a K st) : p_stl lv a K' st := by
  unfold p_stl at *; split at h
  · split at h
    · exact h.elim
    · exact hK _ _ h
  · exact h.elim
theorem p_inc_mono {lv : LV} {a : Nat} {n : Int32} {K K' : LV → Prop} (hK : ∀ lv, K lv → K' lv) (h : p_inc lv a n K) : p_inc lv a n K' := by
  unfold p_inc at *; split at h
  · split at h
    · exact h.elim
    · exact hK _ h
  · exact h.elim
theorem p_iald_mono {sc : Nat × (Nat → Int32)} {K K' : List Value → Prop} {st : List Value} {σ : St} (hK : ∀ st, K st → K' st) (h : p_iald sc K st σ) : p_iald sc K' st σ := by
  unfold p_iald at *; split at h
  · split at h
    · exact ⟨h.1, hK _ h.2⟩
    · exact h.elim
    · split at h
      · exact ⟨h.1, hK _ h.2⟩
      · exact h.elim
  · exact h.elim
theorem p_zald_mono {K K' : List Value → Prop} {st : List Value} {σ : St} (hK : ∀ st, K st → K' st) (h : p_zald K st σ) : p_zald K' st σ := by
  unfold p_zald at *; split at h
  · split at h
    · exact ⟨h.1, hK _ h.2⟩
    · exact h.elim
  · exact h.elim
theorem p_iast_mono {K K' : List Value → St → Prop} {st : List Value} {σ : St} (hK : ∀ st σ, K st σ → K' st σ) (h : p_iast K st σ) : p_iast K' st σ := by
  unfold p_iast at *; split at h
  · split at h
    · exact ⟨h.1, hK _ _ h.2⟩
    · exact h.elim
  · exact h.elim
theorem p_zast_mono {K K' : List Value → St → Prop} {st : List Value} {σ : St} (hK : ∀ st σ, K st σ → K' st σ) (h : p_zast K st σ) : p_zast K' st σ := by
  unfold p_zast at *; split at h
  · split at h
    · exact ⟨h.1, h.2.1, hK _ _ h.2.2⟩
    · exact h.elim
  · exact h.elim
theorem p_len_mono {sc : Nat × (Nat → Int32)} {K K' : List Value → Prop} {st : List Value} (hK : ∀ st, K st → K' st) (h : p_len sc K st) : p_len sc K' st := by
  unfold p_len at *; split at h
  · split at h
    · exact h.elim
    · split at h
      · exact hK _ h
      · exact h.elim
  · exact h.elim
theorem p_get_mono {ci k : Nat} {K K' : List Value → Prop} {st : List Value} {σ : St} (hK : ∀ st, K st → K' st) (h : p_get ci k K st σ) : p_get ci k K' st σ := by
  unfold p_get at *; split at h
  · split at h
    · split at h
      · split at h
        · exact hK _ h
        · exact hK _ h
        · exact h.elim
      · exact h.elim
    · exact h.elim
  · exact h.elim
theorem p_put_mono {ci k : Nat} {K K' : List Value → St → Prop} {st : List Value} {σ : St} (hK : ∀ st σ, K st σ → K' st σ) (h : p_put ci k K st σ) : p_put ci k K' st σ := by
  unfold p_put at *; split at h
  · split at h
    · split at h
      · split at h
        · exact hK _ _ h
        · exact h.elim
      · exact h.elim
    · exact h.elim
  · exact h.elim
theorem p_sw_mono {x : Int32} {K K' : Nat → Prop} (hK : ∀ t, K t → K' t) {a : Nat} : ∀ {sw : List (Int32 × Nat)}, p_sw sw x K a → p_sw sw x K' a
  | [], h => hK _ h
  | _ :: _, h => ⟨fun z => hK _ (h.1 z), fun z => p_sw_mono hK (h.2 z)⟩
theorem p_swi_mono {sw : List (Int32 × Nat)} {K K' : Nat → List Value → Prop} {a : Nat} {st : List Value} (hK : ∀ t st, K t st → K' t st) (h : p_swi sw K a st) : p_swi sw K' a st := by
  unfold p_swi at *; split at h
  · exact p_sw_mono (fun t => hK t _) h
  · exact h.elim
theorem p_dup_mono {K K' : List Value → Prop} {st : List Value} (hK : ∀ st, K st → K' st) (h : p_dup K st) : p_dup K' st := by
  unfold p_dup at *; split at h
  · split at h
    · exact hK _ h
    · exact h.elim
  · exact h.elim
theorem p_dup2_mono {K K' : List Value → Prop} {st : List Value} (hK : ∀ st, K st → K' st) (h : p_dup2 K st) : p_dup2 K' st := by
  unfold p_dup2 at *; split at h
  · split at h
    · exact hK _ h
    · exact h.elim
  · exact h.elim
theorem p_pop_mono {K K' : List Value → Prop} {st : List Value} (hK : ∀ st, K st → K' st) (h : p_pop K st) : p_pop K' st := by
  unfold p_pop at *; split at h
  · split at h
    · exact hK _ h
    · exact h.elim
  · exact h.elim
theorem p_call_mono {C : CT} (hC : MonC C) {vd : Bool} {a b : Nat} {ok : List Value → Bool} {K K' : List Value → St → Prop} {st : List Value} {σ : St} (hK : ∀ st σ, K st σ → K' st σ) (h : p_call C vd a b ok K st σ) : p_call C vd a b ok K' st σ := by
  unfold p_call at *; split at h
  · exact hC _ _ _ _ _ (fun r σ' z => hK _ _ z) h
  · exact h.elim
theorem p_ret_mono {rk : Nat} {Q Q' : Int32 → Prop} {st : List Value} (hQ : ∀ x, Q x → Q' x) (h : p_ret rk Q st) : p_ret rk Q' st := by
  unfold p_ret at *; split at h
  · split at h
    · exact h.elim
    · exact hQ _ h
    · exact ⟨h.1, hQ _ h.2⟩
  · exact h.elim
theorem p_rtv_mono {rk : Nat} {Q Q' : Prop} {st : List Value} (hQ : Q → Q') (h : p_rtv rk Q st) : p_rtv rk Q' st := by
  unfold p_rtv at *; split at h
  · split at h
    · exact hQ h
    · exact h.elim
  · exact h.elim
set_option maxHeartbeats 4000000 in
theorem stp_mono {sc : Nat × (Nat → Int32)} {C : CT} {rk : Nat} {Q Q' : Int32 → St → Prop} {K K' : KT} {q : CE} {lv : LV} {st : List Value} {σ : St} (hC : MonC C) (hQ : ∀ r σ, Q r σ → Q' r σ) (hK : ∀ pc lv st σ, K pc lv st σ → K' pc lv st σ) (h : stp sc C rk Q K q lv st σ) : stp sc C rk Q' K' q lv st σ := by
  obtain ⟨pc, len, ins, imm, a, b, d, sw⟩ := q
  cases ins with
  | iconst n => exact hK _ _ _ _ h
  | bipush n => exact hK _ _ _ _ h
  | sipush n => exact hK _ _ _ _ h
  | ldc n => exact hK _ _ _ _ h
  | ldc_w n => exact hK _ _ _ _ h
  | lconst n => exact hK _ _ _ _ h
  | ldc2_w n => exact hK _ _ _ _ h
  | iload_n n => (unfold stp at h ⊢; dsimp only at h ⊢; exact p_ldi_mono (fun v => hK _ _ _ _) h)
  | iload n => (unfold stp at h ⊢; dsimp only at h ⊢; exact p_ldi_mono (fun v => hK _ _ _ _) h)
  | aload_n n => (unfold stp at h ⊢; dsimp only at h ⊢; exact p_lda_mono (fun v => hK _ _ _ _) h)
  | aload n => (unfold stp at h ⊢; dsimp only at h ⊢; exact p_lda_mono (fun v => hK _ _ _ _) h)
  | lload_n n => (unfold stp at h ⊢; dsimp only at h ⊢; exact p_ldl_mono (fun v => hK _ _ _ _) h)
  | lload n => (unfold stp at h ⊢; dsimp only at h ⊢; exact p_ldl_mono (fun v => hK _ _ _ _) h)
  | istore_n n => (unfold stp at h ⊢; dsimp only at h ⊢; exact p_sti_mono (fun lv st => hK _ _ _ _) h)
  | istore n => (unfold stp at h ⊢; dsimp only at h ⊢; exact p_sti_mono (fun lv st => hK _ _ _ _) h)
  | astore_n n => (unfold stp at h ⊢; dsimp only at h ⊢; exact p_sta_mono (fun lv st => hK _ _ _ _) h)
  | astore n => (unfold stp at h ⊢; dsimp only at h ⊢; exact p_sta_mono (fun lv st => hK _ _ _ _) h)
  | lstore_n n => (unfold stp at h ⊢; dsimp only at h ⊢; exact p_stl_mono (fun lv st => hK _ _ _ _) h)
  | lstore n => (unfold stp at h ⊢; dsimp only at h ⊢; exact p_stl_mono (fun lv st => hK _ _ _ _) h)
  | iinc i n => (unfold stp at h ⊢; dsimp only at h ⊢; exact p_inc_mono (fun lv => hK _ _ _ _) h)
  | iadd => (unfold stp at h ⊢; dsimp only at h ⊢; exact i_bin_mono (fun st => hK _ _ _ _) h)
  | isub => (unfold stp at h ⊢; dsimp only at h ⊢; exact i_bin_mono (fun st => hK _ _ _ _) h)
  | imul => (unfold stp at h ⊢; dsimp only at h ⊢; exact i_bin_mono (fun st => hK _ _ _ _) h)
  | iand => (unfold stp at h ⊢; dsimp only at h ⊢; exact i_bin_mono (fun st => hK _ _ _ _) h)
  | ior => (unfold stp at h ⊢; dsimp only at h ⊢; exact i_bin_mono (fun st => hK _ _ _ _) h)
  | ixor => (unfold stp at h ⊢; dsimp only at h ⊢; exact i_bin_mono (fun st => hK _ _ _ _) h)
  | ishl => (unfold stp at h ⊢; dsimp only at h ⊢; exact i_bin_mono (fun st => hK _ _ _ _) h)
  | ishr => (unfold stp at h ⊢; dsimp only at h ⊢; exact i_bin_mono (fun st => hK _ _ _ _) h)
  | iushr => (unfold stp at h ⊢; dsimp only at h ⊢; exact i_bin_mono (fun st => hK _ _ _ _) h)
  | idiv => (unfold stp at h ⊢; dsimp only at h ⊢; exact i_div_mono (fun st => hK _ _ _ _) h)
  | irem => (unfold stp at h ⊢; dsimp only at h ⊢; exact i_div_mono (fun st => hK _ _ _ _) h)
  | ineg => (unfold stp at h ⊢; dsimp only at h ⊢; exact i_un_mono (fun st => hK _ _ _ _) h)
  | lsub => (unfold stp at h ⊢; dsimp only at h ⊢; exact l_bin_mono (fun st => hK _ _ _ _) h)
  | lmul => (unfold stp at h ⊢; dsimp only at h ⊢; exact l_bin_mono (fun st => hK _ _ _ _) h)
  | ldiv => (unfold stp at h ⊢; dsimp only at h ⊢; exact l_div_mono (fun st => hK _ _ _ _) h)
  | lcmp => (unfold stp at h ⊢; dsimp only at h ⊢; exact l_cmp_mono (fun st => hK _ _ _ _) h)
  | i2l => (unfold stp at h ⊢; dsimp only at h ⊢; exact c_i2l_mono (fun st => hK _ _ _ _) h)
  | l2i => (unfold stp at h ⊢; dsimp only at h ⊢; exact c_l2i_mono (fun st => hK _ _ _ _) h)
  | dup => (unfold stp at h ⊢; dsimp only at h ⊢; exact p_dup_mono (fun st => hK _ _ _ _) h)
  | dup2 => (unfold stp at h ⊢; dsimp only at h ⊢; exact p_dup2_mono (fun st => hK _ _ _ _) h)
  | pop => (unfold stp at h ⊢; dsimp only at h ⊢; exact p_pop_mono (fun st => hK _ _ _ _) h)
  | goto o => exact hK _ _ _ _ h
  | ifCond cc o =>
    cases cc with
    | eq => (unfold stp at h ⊢; dsimp only at h ⊢; exact i_if_mono (fun st => hK _ _ _ _) (fun st => hK _ _ _ _) h)
    | ne => (unfold stp at h ⊢; dsimp only at h ⊢; exact i_ne_mono (fun st => hK _ _ _ _) (fun st => hK _ _ _ _) h)
    | lt => (unfold stp at h ⊢; dsimp only at h ⊢; exact i_if_mono (fun st => hK _ _ _ _) (fun st => hK _ _ _ _) h)
    | ge => (unfold stp at h ⊢; dsimp only at h ⊢; exact i_if_mono (fun st => hK _ _ _ _) (fun st => hK _ _ _ _) h)
    | gt => (unfold stp at h ⊢; dsimp only at h ⊢; exact i_if_mono (fun st => hK _ _ _ _) (fun st => hK _ _ _ _) h)
    | le => (unfold stp at h ⊢; dsimp only at h ⊢; exact i_if_mono (fun st => hK _ _ _ _) (fun st => hK _ _ _ _) h)
  | if_icmp cc o =>
    cases cc with
    | eq => (unfold stp at h ⊢; dsimp only at h ⊢; exact i_cmp_mono (fun st => hK _ _ _ _) (fun st => hK _ _ _ _) h)
    | ne => (unfold stp at h ⊢; dsimp only at h ⊢; exact i_cne_mono (fun st => hK _ _ _ _) (fun st => hK _ _ _ _) h)
    | lt => (unfold stp at h ⊢; dsimp only at h ⊢; exact i_cmp_mono (fun st => hK _ _ _ _) (fun st => hK _ _ _ _) h)
    | ge => (unfold stp at h ⊢; dsimp only at h ⊢; exact i_cmp_mono (fun st => hK _ _ _ _) (fun st => hK _ _ _ _) h)
    | gt => (unfold stp at h ⊢; dsimp only at h ⊢; exact i_cmp_mono (fun st => hK _ _ _ _) (fun st => hK _ _ _ _) h)
    | le => (unfold stp at h ⊢; dsimp only at h ⊢; exact i_cmp_mono (fun st => hK _ _ _ _) (fun st => hK _ _ _ _) h)
  | tableswitch f lo hi os => (unfold stp at h ⊢; dsimp only at h ⊢; exact p_swi_mono (fun t st => hK _ _ _ _) h)
  | lookupswitch f ps => (unfold stp at h ⊢; dsimp only at h ⊢; exact p_swi_mono (fun t st => hK _ _ _ _) h)
  | iaload => (unfold stp at h ⊢; dsimp only at h ⊢; exact p_iald_mono (fun st => hK _ _ _ _) h)
  | baload => (unfold stp at h ⊢; dsimp only at h ⊢; exact p_zald_mono (fun st => hK _ _ _ _) h)
  | iastore => (unfold stp at h ⊢; dsimp only at h ⊢; exact p_iast_mono (fun st σ => hK _ _ _ _) h)
  | bastore => (unfold stp at h ⊢; dsimp only at h ⊢; exact p_zast_mono (fun st σ => hK _ _ _ _) h)
  | arraylength => (unfold stp at h ⊢; dsimp only at h ⊢; exact p_len_mono (fun st => hK _ _ _ _) h)
  | getfield i => (unfold stp at h ⊢; dsimp only at h ⊢; exact p_get_mono (fun st => hK _ _ _ _) h)
  | putfield i => (unfold stp at h ⊢; dsimp only at h ⊢; exact p_put_mono (fun st σ => hK _ _ _ _) h)
  | getstatic i => exact hK _ _ _ _ h
  | invokevirtual i => (unfold stp at h ⊢; dsimp only at h ⊢; exact p_call_mono hC (fun st σ => hK _ _ _ _) h)
  | invokestatic i =>
    unfold stp at h ⊢
    dsimp only at h ⊢
    split at h
    · split at h
      · exact i_un_mono (fun st => hK _ _ _ _) h
      · exact h.elim
    · split at h
      · exact i_bin_mono (fun st => hK _ _ _ _) h
      · exact h.elim
    · exact p_call_mono hC (fun st σ => hK _ _ _ _) h
  | ireturn => (unfold stp at h ⊢; dsimp only at h ⊢; exact p_ret_mono (fun x => hQ x _) h)
  | return_ => (unfold stp at h ⊢; dsimp only at h ⊢; exact p_rtv_mono (hQ 0 _) h)
  | _ => exact h.elim
theorem stC_mono {sc : Nat × (Nat → Int32)} {C : CT} {rk : Nat} {cd : List CE} {Q Q' : Int32 → St → Prop} {K K' : KT} {pc : Nat} {lv : LV} {st : List Value} {σ : St} (hC : MonC C) (hQ : ∀ r σ, Q r σ → Q' r σ) (hK : ∀ pc lv st σ, K pc lv st σ → K' pc lv st σ) (h : stC sc C rk cd Q K pc lv st σ) : stC sc C rk cd Q' K' pc lv st σ := by
  unfold stC at *
  split at h
  · exact stp_mono hC hQ hK h
  · exact h.elim
theorem Ex_fold {sc : Nat × (Nat → Int32)} {C : CT} {rk : Nat} {cd : List CE} {Q : Int32 → St → Prop} {pc : Nat} {lv : LV} {st : List Value} {σ : St} (hC : MonC C) (h : stC sc C rk cd Q (Ex sc C rk cd Q) pc lv st σ) : Ex sc C rk cd Q pc lv st σ :=
  fun X hX hF => hX _ _ _ _ (stC_mono hC (fun _ _ z => z) (fun _ _ _ _ z => z X hX hF) h)
theorem Ex_fg {sc : Nat × (Nat → Int32)} {C : CT} {rk : Nat} {cd : List CE} {Q : Int32 → St → Prop} {pc : Nat} {lv : LV} {st : List Value} {σ : St} (m : List Bool) (h : Ex sc C rk cd Q pc (fg m lv) st σ) : Ex sc C rk cd Q pc lv st σ :=
  fun X hX hF => hF _ _ _ _ _ (h X hX hF)
theorem Ex_mono {sc : Nat × (Nat → Int32)} {C : CT} {rk : Nat} {cd : List CE} {Q Q' : Int32 → St → Prop} {pc : Nat} {lv : LV} {st : List Value} {σ : St} (hC : MonC C) (hQ : ∀ r σ, Q r σ → Q' r σ) (h : Ex sc C rk cd Q pc lv st σ) : Ex sc C rk cd Q' pc lv st σ :=
  fun X hX hF => h X (fun _ _ _ _ z => hX _ _ _ _ (stC_mono hC hQ (fun _ _ _ _ z => z) z)) hF
theorem wpn_Ex {sc : Nat × (Nat → Int32)} {C : CT} {rk : Nat} {cd : List CE} {cuts : List Nat} {Q : Int32 → St → Prop} {K : KT} (hC : MonC C) (hK : ∀ pc lv st σ, K pc lv st σ → Ex sc C rk cd Q pc lv st σ) : ∀ (n : Nat) (pc : Nat) (lv : LV) (st : List Value) (σ : St), wpn sc C rk cd cuts Q K n pc lv st σ → Ex sc C rk cd Q pc lv st σ
  | 0, pc, lv, st, σ, h => hK _ _ _ _ h
  | n + 1, pc, lv, st, σ, h => by
    unfold wpn at h
    split at h
    · exact hK _ _ _ _ h
    · exact Ex_fold hC (stC_mono hC (fun _ _ z => z) (fun pc lv st σ z => wpn_Ex hC hK n pc lv st σ z) h)
theorem stw_Ex {sc : Nat × (Nat → Int32)} {C : CT} {rk : Nat} {cd : List CE} {cuts : List Nat} {Q : Int32 → St → Prop} (hC : MonC C) (n : Nat) {pc : Nat} {lv : LV} {st : List Value} {σ : St} (h : stC sc C rk cd Q (wpn sc C rk cd cuts Q (Ex sc C rk cd Q) n) pc lv st σ) : Ex sc C rk cd Q pc lv st σ :=
  Ex_fold hC (stC_mono hC (fun _ _ z => z) (fun pc lv st σ z => wpn_Ex hC (fun _ _ _ _ z => z) n pc lv st σ z) h)
end
section
/-! frames: what is known in one; calls -/
def Frm (p : Program) (l : Launch) (R : Room) (s : State) (m : MethodId) (args : Array Value) (c : Code) (own nL : Nat) (cc : ByteArray) (dC : Nat → ClassId) (dI : Nat → Nat → Nat) (cI cZ : ClassId) (ad : Nat → Nat) (sc : Nat × (Nat → Int32)) (A0 : Nat → Prop) (d cells slots : Nat) (C : CT) : Prop :=
  p.tables.exec = Jvm.exec ∧ c.code = cc ∧ c.maxLocals = nL ∧ s.vm.findClass (cn own) = some m.cls ∧ (∀ w ∈ TB, w.before args s = true) ∧ Ctx dC dI cI cZ ad sc A0 s s.heap ∧ (∀ q, ADA ad q → A0 q) ∧ d + 1 ≤ R.frames ∧ 28 * (d + 1) ≤ R.locals ∧ cells ≤ R.cells ∧ slots ≤ R.slots ∧ ∀ k, k < NM → k ≠ 53 → k ≠ 106 → MetK l dC dI cI cZ ad sc C k d
def XW (p : Program) (l : Launch) (e : Env) (R : Room) (s : State) (m : MethodId) (args : Array Value) (below : List Frame) (meth : Method) (c : Code) (dC : Nat → ClassId) (dI : Nat → Nat → Nat) (cI cZ : ClassId) (ad : Nat → Nat) (A0 : Nat → Prop) (cells slots : Nat) (QQ : State → Prop) (nL : Nat) : KT := fun pc lv st σ =>
  ∀ (H : Heap) (locs : List Loc) (ls : Array Slot), va_P (dC, dI) cls (wW cI cZ ad σ) H → va_D A0 (wW cI cZ ad σ) → va_S A0 s.heap H locs → LH ad nL ls lv → W p l e R s m args below meth c H locs cells slots QQ (F0 m pc ls (st.map (cv ad)))
theorem mOk_spec {k : Nat} (h : k < NM) (h1 : k ≠ 53) (h2 : k ≠ 106) : mO k < 16 ∧ mL k ≤ 9 ∧ ((mY k).cls ≠ "java/lang/invoke/MethodHandle" ∧ (mY k).cls ≠ "java/lang/invoke/VarHandle") ∧ (parseMethodDescriptor (mY k).desc).map (fun d => d.parameters.length + (1 - mS k)) = some (mA k) ∧ mS k ≤ 1 ∧ mA k ≤ mL k ∧ Cond.code (mY k) (mB k) (mL k) (mR k) ∈ TB := by
  have q := mOk_all h
  unfold mOk at q
  simp only [Bool.and_eq_true, decide_eq_true_eq] at q
  obtain ⟨⟨⟨⟨⟨⟨⟨⟨⟨q1, q2⟩, q3⟩, q4⟩, q5⟩, q6⟩, q7⟩, q8⟩, q9⟩, -⟩ := q
  exact ⟨q1, q2, ⟨q4, q5⟩, q6, q7, q8, tb_of q9 rfl⟩
theorem mOk_st {k : Nat} (h : k < NM) (hs : mS k = 1) : Cond.static (mY k) ∈ TB := by
  have q := mOk_all h
  unfold mOk at q
  rw [if_pos hs] at q
  simp only [Bool.and_eq_true, decide_eq_true_eq] at q
  exact tb_of q.2 rfl
theorem mOk_vi {k : Nat} (h : k < NM) (hs : mS k = 0) : Cond.instanceMethod (mY k) ∈ TB ∧ Cond.selects (mY k).cls (mY k) (mY k) ∈ TB ∧ mO k < 13 := by
  have q := mOk_all h
  unfold mOk at q
  rw [if_neg (by omega)] at q
  simp only [Bool.and_eq_true, decide_eq_true_eq] at q
  exact ⟨tb_of q.2.1.1 rfl, tb_of q.2.1.2 rfl, q.2.2⟩
theorem in_ini {o : Nat} (h : o < 16) : Cond.initialized (cn o) ∈ TB := tb_of (of_decide_eq_true (all_rg ipl_ok h)) rfl
theorem in_ml {own i k : Nat} (h : mlt.any (fun q => decide (q.1 = own ∧ q.2.1 = i ∧ q.2.2.1 = k)) = true) : Cond.methodLink (cn own) i (mY k) ∈ TB := by
  obtain ⟨q, hq, h2⟩ := List.any_eq_true.mp h
  obtain ⟨rfl, rfl, rfl⟩ := of_decide_eq_true h2
  exact tb_of (of_decide_eq_true (List.all_eq_true.mp mlt_ok q hq)) rfl
theorem wk_good {k : Nat} (h : k < NM) (h1 : k ≠ 53) (h2 : k ≠ 106) : GoodIn TB (wkK k) := by
  intro w hw
  rcases List.mem_cons.mp hw with rfl | hw
  · exact tb_good _ (mOk_spec h h1 h2).2.2.2.2.2.2
  · exact tb_good _ hw
theorem WB.blind {dC : Nat → ClassId} {dI : Nat → Nat → Nat} {cI cZ : ClassId} {ad : Nat → Nat} {sc : Nat × (Nat → Int32)} {σ : St} {av : List Value} : FrameBlind (va_Pc av (WB dC dI cI cZ ad sc σ)) := by
  intro a U g mk h
  obtain ⟨h0, h1, h2, h3, h4, h5, h6⟩ := h
  exact ⟨h0, h1, h2, va_K.moved (u := U) (U := U.calling g mk a) (Vm.Alike.refl U.vm) h3, h4.same rfl, fun j hj => va_Z.moved (u := U) (U := U.calling g mk a) (Vm.Alike.refl U.vm) (h5 j hj), fun c q hq => va_T.moved (u := U) (U := U.calling g mk a) (Vm.Alike.refl U.vm) (h6 c q hq)⟩
section CLL
variable {p : Program} {l : Launch} {e : Env} {R : Room} {s : State} {m : MethodId} {args : Array Value} {below : List Frame} {meth : Method} {c : Code} {own nL : Nat} {cc : ByteArray} {dC : Nat → ClassId} {dI : Nat → Nat → Nat} {cI cZ : ClassId} {ad : Nat → Nat} {sc : Nat × (Nat → Int32)} {A0 : Nat → Prop} {d cells slots : Nat} {C : CT} {QQ : State → Prop}
theorem pre_of (F : Frm p l R s m args c own nL cc dC dI cI cZ ad sc A0 d cells slots C) {H : Heap} {locs : List Loc} {σ : St} {av : List Value} (hP : va_P (dC, dI) cls (wW cI cZ ad σ) H) (hD : va_D A0 (wW cI cZ ad σ)) (hS : va_S A0 s.heap H locs) : ∀ U : State, U.heap = H → s.WarmedH U.vm → va_Pc av (WB dC dI cI cZ ad sc σ) av.toArray U := by
  obtain ⟨-, -, -, -, -, hC, hAA, -⟩ := F
  intro U hU hW
  refine ⟨rfl, by rw [hU]; exact hP, ⟨hD.1, fun k q hk => ?_⟩, hC.moved hW hS hAA hU⟩
  have hl : k < 85 := by
    have := (List.getElem?_eq_some_iff.mp hk).1
    simpa [wW] using this
  rw [wW_at hl] at hk
  cases hk
  exact ⟨k, hl, rfl⟩
theorem va_D.toA (hAA : ∀ q, ADA ad q → A0 q) {σ : St} (h : va_D (ADA ad) (wW cI cZ ad σ)) : va_D A0 (wW cI cZ ad σ) := h.weaken (fun _ _ _ z => hAA _ z)
/-- behind a call -/
theorem call_end (F : Frm p l R s m args c own nL cc dC dI cI cZ ad sc A0 d cells slots C) {k : Nat} {Q : Int32 → St → Prop} {pc : Nat} {ls : Array Slot} {st0 rest : List Value} {lv : LV} {H : Heap} {locs : List Loc} {av : Array Value}
    (hS : va_S A0 s.heap H locs) (hL : LH ad nL ls lv)
    (hr : va_Run p l e R s m args below meth c H locs cells slots 0 0 (F0 m pc ls st0) (rest.map (cv ad)) (QcK dC dI cI cZ ad sc k Q av) (ADA ad))
    (kk : ∀ r σ', Q r σ' → XW p l e R s m args below meth c dC dI cI cZ ad A0 cells slots QQ nL (pc + 3) lv (bif Nat.beq (mRk k) 0 then rest else .int r :: rest) σ') :
    W p l e R s m args below meth c H locs cells slots QQ (F0 m pc ls st0) := by
  obtain ⟨-, -, -, -, -, -, hAA, -⟩ := F
  unfold QcK at hr
  cases hv : Nat.beq (mRk k) 0 with
  | true =>
    rw [hv] at hr kk
    refine va_callv hr hS (fun q _ z => hAA q z) hAA (fun u t H1 locs1 ht hvm hw hB hz1 hk1 hS1 => ?_)
    obtain ⟨hP1, hD1, -⟩ := hB
    rw [ht] at hP1
    exact kk 0 u hw H1 locs1 ls hP1 (va_D.toA hAA hD1) hS1 hL
  | false =>
    rw [hv] at hr kk
    refine va_calli hr hS (fun q _ z => hAA q z) hAA (fun r u t H1 locs1 ht hvm hw hB hz1 hk1 hS1 => ?_)
    obtain ⟨hP1, hD1, -⟩ := hB
    rw [ht] at hP1
    exact kk r u hw H1 locs1 ls hP1 (va_D.toA hAA hD1) hS1 hL
set_option maxHeartbeats 1000000 in
theorem call_v (F : Frm p l R s m args c own nL cc dC dI cI cZ ad sc A0 d cells slots C) {k i : Nat} (hk : k < NM) (h53 : k ≠ 53) (h106 : k ≠ 106) (hs : mS k = 0) (hml : mlt.any (fun q => decide (q.1 = own ∧ q.2.1 = i ∧ q.2.2.1 = k)) = true)
    {pc : Nat} {ls : Array Slot} {lv : LV} {st : List Value} {σ : St} {H : Heap} {locs : List Loc} (hdg : decode cc pc = .ok (.invokevirtual i, 3))
    (hP : va_P (dC, dI) cls (wW cI cZ ad σ) H) (hD : va_D A0 (wW cI cZ ad σ)) (hS : va_S A0 s.heap H locs) (hL : LH ad nL ls lv)
    (h : p_call C (Nat.beq (mRk k) 0) k (mA k) (rcv (mO k)) (fun st σ => XW p l e R s m args below meth c dC dI cI cZ ad A0 cells slots QQ nL (pc + 3) lv st σ) st σ) :
    W p l e R s m args below meth c H locs cells slots QQ (F0 m pc ls (st.map (cv ad))) := by
  obtain ⟨hx, hb, hmx, hown, hts, hC, hAA, hR1, hR2, hc1, hc2, hM⟩ := id F
  unfold p_call at h
  split at h
  case h_2 => exact h.elim
  rename_i hcond
  simp only [Bool.and_eq_true] at hcond
  obtain ⟨⟨hlen, hcat⟩, hrc⟩ := hcond
  have hlen := Nat.le_of_ble_eq_true hlen
  have hcat := Nat.le_of_ble_eq_true hcat
  obtain ⟨ho, hmL, hy, hpar, hs1, hA, hcode⟩ := mOk_spec hk h53 h106
  obtain ⟨hin, hsel, ho13⟩ := mOk_vi hk hs
  have hst : st = (st.take (mA k)).reverse.reverse ++ st.drop (mA k) := by rw [List.reverse_reverse]; exact (List.take_append_drop _ _).symm
  have hal : (st.take (mA k)).reverse.length = mA k := by rw [List.length_reverse, List.length_take]; omega
  generalize st.drop (mA k) = rest at h hst hcat
  generalize (st.take (mA k)).reverse = as at h hst hal hrc
  unfold rcv at hrc
  split at hrc
  case h_2 => cases hrc
  rename_i r0 as'
  split at hrc
  case h_2 => cases hrc
  rename_i cj fs hlay
  have hcj : cj = mO k := Nat.eq_of_beq_eq_true hrc
  subst hcj
  have hMk := hM k hk h53 h106 _ σ _ h
  have hr0 := lay_lt hlay
  have hent : (wW cI cZ ad σ)[r0]? = some (ad r0, .inr (mO k, obF ad σ r0 fs)) := by rw [wW_at hr0]; simp only [ent, hlay]
  have hn : (as'.map (cv ad)).length + 1 = mA k := by rw [List.length_map]; simpa using hal
  have hpar2 : (parseMethodDescriptor (mY k).desc).map (fun d => d.parameters.length) = some ((as'.map (cv ad)).length) := by
    rw [hs] at hpar
    cases hpd : parseMethodDescriptor (mY k).desc with
    | none => rw [hpd] at hpar; cases hpar
    | some dd =>
      rw [hpd] at hpar
      simp only [Option.map_some, Option.some.injEq] at hpar ⊢
      omega
  have hT : GoodIn TB (wsV (cn own) i (cn (mO k)) (mY k) (wkK k)) := by
    intro w hw
    unfold wsV at hw
    rcases List.mem_append.mp hw with hw | hw
    · simp only [List.mem_cons, List.not_mem_nil, or_false] at hw
      rcases hw with rfl | rfl | rfl | rfl
      · exact tb_good _ (in_ml hml)
      · exact tb_good _ hin
      · exact tb_good _ hsel
      · exact tb_good _ (in_ini ho)
    · exact wk_good hk h53 h106 w hw
  have cw := cwV (R := R) (s := s) (args := args) (mc := 0) (ms := 0) (rm := rmD d) (as'.map (cv ad)).length hts hT rfl rfl rfl ⟨rfl, hy.1, hy.2, hpar2⟩ ⟨hR1, by show 8 + (mL k + 11) + 28 * d ≤ R.locals; omega⟩
  have hstk : st.map (cv ad) = (as'.map (cv ad)).reverse ++ .ref (ad r0) :: rest.map (cv ad) := by
    rw [hst, List.reverse_cons, List.map_append, List.map_append, List.map_reverse, List.append_assoc]
    rfl
  have hrun := va_runV (e := e) (below := below) (meth := meth) (locs := locs) (cells := cells) (slots := slots) (As := as'.map (cv ad)) (rest := rest.map (cv ad)) (b := ad r0) (g := F0 m pc ls (st.map (cv ad))) ⟨hx, hb, hmx, hown, hts⟩ hMk cw ⟨WB.blind, va_recv hC.1 hP (cls_at ho13) hent, pre_of F hP hD hS⟩ rfl rfl (hL.2.1) hstk (lv_room (by rw [cv_cats]; exact hcat)) hdg ⟨hc1, hc2⟩
  exact call_end F hS hL hrun (fun r σ' z => z)
set_option maxHeartbeats 1000000 in
theorem call_s (F : Frm p l R s m args c own nL cc dC dI cI cZ ad sc A0 d cells slots C) {k i : Nat} (hk : k < NM) (h53 : k ≠ 53) (h106 : k ≠ 106) (hs : mS k = 1) (hml : mlt.any (fun q => decide (q.1 = own ∧ q.2.1 = i ∧ q.2.2.1 = k)) = true ∨ ∃ host : String, va_Nw (.methodLinkNest (cn own) i (mY k) host) s)
    {pc : Nat} {ls : Array Slot} {lv : LV} {st : List Value} {σ : St} {H : Heap} {locs : List Loc} (hdg : decode cc pc = .ok (.invokestatic i, 3))
    (hP : va_P (dC, dI) cls (wW cI cZ ad σ) H) (hD : va_D A0 (wW cI cZ ad σ)) (hS : va_S A0 s.heap H locs) (hL : LH ad nL ls lv)
    (h : p_call C (Nat.beq (mRk k) 0) k (mA k) (fun _ => true) (fun st σ => XW p l e R s m args below meth c dC dI cI cZ ad A0 cells slots QQ nL (pc + 3) lv st σ) st σ) :
    W p l e R s m args below meth c H locs cells slots QQ (F0 m pc ls (st.map (cv ad))) := by
  obtain ⟨hx, hb, hmx, hown, hts, hC, hAA, hR1, hR2, hc1, hc2, hM⟩ := id F
  unfold p_call at h
  split at h
  case h_2 => exact h.elim
  rename_i hcond
  simp only [Bool.and_eq_true] at hcond
  obtain ⟨⟨hlen, hcat⟩, -⟩ := hcond
  have hlen := Nat.le_of_ble_eq_true hlen
  have hcat := Nat.le_of_ble_eq_true hcat
  obtain ⟨ho, hmL, hy, hpar, hs1, hA, hcode⟩ := mOk_spec hk h53 h106
  have hstt := mOk_st hk hs
  have hst : st = (st.take (mA k)).reverse.reverse ++ st.drop (mA k) := by rw [List.reverse_reverse]; exact (List.take_append_drop _ _).symm
  have hal : (st.take (mA k)).reverse.length = mA k := by rw [List.length_reverse, List.length_take]; omega
  generalize st.drop (mA k) = rest at h hst hcat
  generalize (st.take (mA k)).reverse = as at h hst hal
  have hMk := hM k hk h53 h106 _ σ _ h
  have hpar2 : (parseMethodDescriptor (mY k).desc).map (fun d => d.parameters.length) = some ((as.map (cv ad)).length) := by
    rw [hs] at hpar
    cases hpd : parseMethodDescriptor (mY k).desc with
    | none => rw [hpd] at hpar; cases hpar
    | some dd =>
      rw [hpd] at hpar
      simp only [Option.map_some, Option.some.injEq, List.length_map] at hpar ⊢
      omega
  have hstk : st.map (cv ad) = (as.map (cv ad)).reverse ++ rest.map (cv ad) := by
    rw [hst, List.map_append, List.map_reverse]
  rcases hml with hml | ⟨host, hnw⟩
  · have hT : GoodIn TB (va_wsS (cn own) i (mY k) (wkK k)) := by
      intro w hw
      unfold va_wsS at hw
      rcases List.mem_append.mp hw with hw | hw
      · simp only [List.mem_cons, List.not_mem_nil, or_false] at hw
        rcases hw with rfl | rfl | rfl
        · exact tb_good _ (in_ml hml)
        · exact tb_good _ hstt
        · exact tb_good _ (in_ini ho)
      · exact wk_good hk h53 h106 w hw
    have cw := va_cwS (R := R) (s := s) (args := args) (mc := 0) (ms := 0) (rm := rmD d) (as.map (cv ad)).length hts hT rfl rfl rfl ⟨hy.1, hy.2, hpar2⟩ ⟨hR1, by show 8 + (mL k + 11) + 28 * d ≤ R.locals; omega⟩
    have hrun := va_runS (e := e) (below := below) (meth := meth) (locs := locs) (cells := cells) (slots := slots) (As := as.map (cv ad)) (rest := rest.map (cv ad)) (g := F0 m pc ls (st.map (cv ad))) ⟨hx, hb, hmx, hown, hts⟩ hMk cw ⟨WB.blind, pre_of F hP hD hS⟩ rfl rfl (hL.2.1) hstk (lv_room (by rw [cv_cats]; exact hcat)) hdg ⟨hc1, hc2⟩
    exact call_end F hS hL hrun (fun r σ' z => z)
  · have cw := va_cnB (R := R) (s := s) (args := args) (mc := 0) (ms := 0) (rm := rmD d) (as.map (cv ad)).length hts (wk_good hk h53 h106) rfl rfl rfl hnw (hts _ (in_ini ho)) ⟨hy.1, hy.2, hpar2⟩ ⟨hR1, by show 8 + (mL k + 11) + 28 * d ≤ R.locals; omega⟩
    have hrun := va_runSN (e := e) (below := below) (meth := meth) (locs := locs) (cells := cells) (slots := slots) (As := as.map (cv ad)) (rest := rest.map (cv ad)) (g := F0 m pc ls (st.map (cv ad))) ⟨hx, hb, hmx, hown, hts⟩ hMk ⟨cw, hts _ hstt, trivial⟩ ⟨WB.blind, pre_of F hP hD hS⟩ rfl rfl (hL.2.1) hstk (lv_room (by rw [cv_cats]; exact hcat)) hdg ⟨hc1, hc2⟩
    exact call_end F hS hL hrun (fun r σ' z => z)
end CLL
end
section
/-! a step of the pure machine is a step of the machine -/
theorem in_kc {own i : Nat} {imm : Int32} (h : kct.any (fun q => decide (q.1 = own ∧ q.2.1 = i ∧ q.2.2.1 = imm)) = true) : Cond.constant (cn own) i imm ∈ TB := by
  obtain ⟨q, hq, h2⟩ := List.any_eq_true.mp h
  obtain ⟨rfl, rfl, rfl⟩ := of_decide_eq_true h2
  exact tb_of (of_decide_eq_true (List.all_eq_true.mp kct_ok q hq)) rfl
set_option maxRecDepth 100000 in
theorem kcl_ok : lw_tbl[1306]? = some (.constantLong (cn 12) 233 1000) := by decide +kernel
set_option maxRecDepth 100000 in
theorem most_ok : lw_tbl[827]? = some (.fieldLink (cn 10) 38 (sC 2) (sM 2) "[I") := by decide +kernel
theorem in_fl {own i a b d : Nat} (h : (match flt[d]? with | some q => decide (q.1 = own ∧ q.2.1 = i ∧ q.2.2.1 = a ∧ q.2.2.2.1 = b) | none => false) = true) : Cond.fieldLink (cn own) i (cn a) (FT a b).2.1 (FT a b).2.2.1 ∈ TB ∧ a < 13 ∧ b < NF a := by
  split at h
  · rename_i q hq
    obtain ⟨rfl, rfl, rfl, rfl⟩ := of_decide_eq_true h
    have h3 := List.all_eq_true.mp flt_ok q (List.mem_of_getElem? hq)
    simp only [Bool.and_eq_true, decide_eq_true_eq] at h3
    exact ⟨tb_of h3.1 rfl, h3.2.1, h3.2.2⟩
  · cases h
theorem nar_b {x : Int32} (h : x = 0 ∨ x = 1) : vp_nar .boolean x = x := by
  rcases h with rfl | rfl <;> rfl
theorem nar_b' {x : Int32} (h : x = 0 ∨ x = 1) : narrow .boolean (.int x) = .int x := by
  rcases h with rfl | rfl <;> rfl
theorem p_sw_at {K : Nat → Prop} {a : Nat} {x : Int32} : ∀ {sw : List (Int32 × Nat)} {j : Nat} {q : Int32 × Nat}, p_sw sw x K a → sw[j]? = some q → x = q.1 → (∀ i r, i < j → sw[i]? = some r → r.1 ≠ q.1) → K q.2
  | [], j, q, _, h, _, _ => by simp at h
  | r :: sw, 0, q, h, hj, hx, _ => by
    simp at hj
    subst hj
    exact h.1 hx
  | r :: sw, j + 1, q, h, hj, hx, hn => by
    have h0 : r.1 ≠ q.1 := hn 0 r (Nat.succ_pos j) rfl
    exact p_sw_at (h.2 (fun e => h0 (e.symm.trans hx))) (by simpa using hj) hx (fun i s hi hs => hn (i + 1) s (by omega) (by simpa using hs))
theorem p_sw_out {K : Nat → Prop} {a : Nat} {x : Int32} : ∀ {sw : List (Int32 × Nat)}, p_sw sw x K a → (∀ q ∈ sw, x ≠ q.1) → K a
  | [], h, _ => h
  | r :: sw, h, hn => p_sw_out (h.2 (hn r List.mem_cons_self)) (fun q hq => hn q (List.mem_cons_of_mem _ hq))
theorem mOk_code {k : Nat} (h : k < NM) : Cond.code (mY k) (mB k) (mL k) (mR k) ∈ TB := by
  have q := mOk_all h
  unfold mOk at q
  simp only [Bool.and_eq_true, decide_eq_true_eq] at q
  exact tb_of q.1.2 rfl
theorem mb53 : mB 53 = Lib.Math.abs.code := by decide +kernel
theorem mb106 : mB 106 = Lib.Math.max.code := by decide +kernel
theorem my53 : mY 53 = Lib.Math.abs.name := by decide +kernel
theorem my106 : mY 106 = Lib.Math.max.name := by decide +kernel
theorem mc53 : Cond.code Lib.Math.abs.name Lib.Math.abs.code 1 (some .int) ∈ TB := by
  have h := mOk_code (k := 53) (by decide)
  rw [mb53, my53] at h
  exact h
theorem mc106 : Cond.code Lib.Math.max.name Lib.Math.max.code 2 (some .int) ∈ TB := by
  have h := mOk_code (k := 106) (by decide)
  rw [mb106, my106] at h
  exact h
section SND
variable {p : Program} {l : Launch} {e : Env} {R : Room} {s : State} {m : MethodId} {args : Array Value} {below : List Frame} {meth : Method} {c : Code} {own nL : Nat} {cc : ByteArray} {dC : Nat → ClassId} {dI : Nat → Nat → Nat} {cI cZ : ClassId} {ad : Nat → Nat} {sc : Nat × (Nat → Int32)} {A0 : Nat → Prop} {d0 cells slots : Nat} {C : CT} {QQ : State → Prop}
/-- how a frame ends -/
def RetI (p : Program) (l : Launch) (e : Env) (R : Room) (s : State) (m : MethodId) (args : Array Value) (below : List Frame) (meth : Method) (c : Code) (cc : ByteArray) (dC : Nat → ClassId) (dI : Nat → Nat → Nat) (cI cZ : ClassId) (ad : Nat → Nat) (A0 : Nat → Prop) (cells slots : Nat) (QQ : State → Prop) (rk : Nat) (Q : Int32 → St → Prop) : Prop :=
  (∀ (pc : Nat) (x : Int32) (σ : St) (H : Heap) (locs : List Loc) (ls : Array Slot), rk ≠ 0 → (rk ≠ 1 → x = 0 ∨ x = 1) → Q x σ → va_P (dC, dI) cls (wW cI cZ ad σ) H → va_D A0 (wW cI cZ ad σ) → va_S A0 s.heap H locs → decode cc pc = .ok (.ireturn, 1) → W p l e R s m args below meth c H locs cells slots QQ (F0 m pc ls [.int x])) ∧
  ∀ (pc : Nat) (σ : St) (H : Heap) (locs : List Loc) (ls : Array Slot), rk = 0 → Q 0 σ → va_P (dC, dI) cls (wW cI cZ ad σ) H → va_D A0 (wW cI cZ ad σ) → va_S A0 s.heap H locs → decode cc pc = .ok (.return_, 1) → W p l e R s m args below meth c H locs cells slots QQ (F0 m pc ls [])
set_option maxHeartbeats 8000000 in
theorem snd1 (F : Frm p l R s m args c own nL cc dC dI cI cZ ad sc A0 d0 cells slots C) {rk : Nat} {Q : Int32 → St → Prop} (hret : RetI p l e R s m args below meth c cc dC dI cI cZ ad A0 cells slots QQ rk Q) {q : CE} (hok : okCE own nL cc q = true) {lv : LV} {st : List Value} {σ : St}
    (h : stp sc C rk Q (XW p l e R s m args below meth c dC dI cI cZ ad A0 cells slots QQ nL) q lv st σ) : XW p l e R s m args below meth c dC dI cI cZ ad A0 cells slots QQ nL q.1 lv st σ := by
  obtain ⟨hx, hb, hmx, hown, hts, hC, hAA, hR1, hR2, hc1, hc2, hM⟩ := id F
  obtain ⟨pc, len, ins, imm, a, b, d, sw⟩ := q
  unfold okCE at hok
  simp only [Bool.and_eq_true] at hok
  obtain ⟨hdg, hI⟩ := hok
  have hdg := of_decide_eq_true hdg
  intro H locs ls hP hD hS hL
  show W p l e R s m args below meth c H locs cells slots QQ (F0 m pc ls (st.map (cv ad)))
  unfold stp at h
  dsimp only at h
  unfold okI at hI
  cases ins with
  | iconst n =>
    dsimp only at h
    obtain ⟨rfl, hv⟩ := of_decide_eq_true hI
    exact lv_iconst hx hb hdg hv (h H locs ls hP hD hS hL)
  | bipush n =>
    dsimp only at h
    obtain ⟨rfl, hv⟩ := of_decide_eq_true hI
    exact lv_bipush hx hb hdg hv (h H locs ls hP hD hS hL)
  | sipush n =>
    dsimp only at h
    obtain ⟨rfl, hv⟩ := of_decide_eq_true hI
    exact lv_sipush hx hb hdg hv (h H locs ls hP hD hS hL)
  | ldc n =>
    dsimp only at h
    simp only [Bool.and_eq_true] at hI
    obtain ⟨h1, h2⟩ := hI
    obtain rfl := of_decide_eq_true h1
    exact lv_ldc hx hb hown (hts _ (in_kc h2)) hdg (h H locs ls hP hD hS hL)
  | ldc_w n =>
    dsimp only at h
    simp only [Bool.and_eq_true] at hI
    obtain ⟨h1, h2⟩ := hI
    obtain rfl := of_decide_eq_true h1
    exact lv_ldcw hx hb hown (hts _ (in_kc h2)) hdg (h H locs ls hP hD hS hL)
  | lconst n =>
    dsimp only at h
    obtain ⟨rfl, hv⟩ := of_decide_eq_true hI
    exact lv_lconst hx hb hdg hv (h H locs ls hP hD hS hL)
  | ldc2_w n =>
    dsimp only at h
    obtain ⟨rfl, rfl, rfl, rfl⟩ := of_decide_eq_true hI
    exact lv_ldc2 (v := 1000) hx hb hown (hts _ (tb_of kcl_ok rfl)) hdg (h H locs ls hP hD hS hL)
  | iload_n n =>
    dsimp only at h
    obtain ⟨rfl, hv⟩ := of_decide_eq_true hI
    unfold p_ldi at h
    split at h
    · rename_i x hlv
      exact lv_iload_n hx hb hdg hv (hL.at hlv) (h H locs ls hP hD hS hL)
    · exact h.elim
  | iload n =>
    dsimp only at h
    obtain ⟨rfl, rfl⟩ := of_decide_eq_true hI
    unfold p_ldi at h
    split at h
    · rename_i x hlv
      exact lv_iload hx hb hdg (hL.at hlv) (h H locs ls hP hD hS hL)
    · exact h.elim
  | aload_n n =>
    dsimp only at h
    obtain ⟨rfl, hv⟩ := of_decide_eq_true hI
    unfold p_lda at h
    split at h
    · rename_i x hlv
      exact lv_aload_n hx hb hdg hv (hL.at hlv) (h H locs ls hP hD hS hL)
    · exact h.elim
  | aload n =>
    dsimp only at h
    obtain ⟨rfl, rfl⟩ := of_decide_eq_true hI
    unfold p_lda at h
    split at h
    · rename_i x hlv
      exact lv_aload hx hb hdg (hL.at hlv) (h H locs ls hP hD hS hL)
    · exact h.elim
  | lload_n n =>
    dsimp only at h
    obtain ⟨rfl, hv⟩ := of_decide_eq_true hI
    unfold p_ldl at h
    split at h
    · rename_i x hlv
      exact lv_lload_n hx hb hdg hv (hL.at hlv) (h H locs ls hP hD hS hL)
    · exact h.elim
  | lload n =>
    dsimp only at h
    obtain ⟨rfl, rfl⟩ := of_decide_eq_true hI
    unfold p_ldl at h
    split at h
    · rename_i x hlv
      exact lv_lload hx hb hdg (hL.at hlv) (h H locs ls hP hD hS hL)
    · exact h.elim
  | istore_n n =>
    dsimp only at h
    obtain ⟨rfl, hv, ha⟩ := of_decide_eq_true hI
    unfold p_sti at h
    split at h
    · split at h
      · exact h.elim
      · rename_i hh
        exact lv_istore_n hx hb hdg hv hL.2 ha rfl (fun ls' hl' => h H locs ls' hP hD hS (hL.st1 hh hl'))
    · exact h.elim
  | istore n =>
    dsimp only at h
    obtain ⟨rfl, rfl, ha⟩ := of_decide_eq_true hI
    unfold p_sti at h
    split at h
    · split at h
      · exact h.elim
      · rename_i hh
        exact lv_istore hx hb hdg hL.2 ha rfl (fun ls' hl' => h H locs ls' hP hD hS (hL.st1 hh hl'))
    · exact h.elim
  | astore_n n =>
    dsimp only at h
    obtain ⟨rfl, hv, ha⟩ := of_decide_eq_true hI
    unfold p_sta at h
    split at h
    · split at h
      · exact h.elim
      · rename_i x r _ hh
        exact lv_astore_n hx hb hdg hv hL.2 ha rfl (fun ls' hl' => h H locs ls' hP hD hS (hL.st1 (v := .ref x) hh hl'))
    · exact h.elim
  | astore n =>
    dsimp only at h
    obtain ⟨rfl, rfl, ha⟩ := of_decide_eq_true hI
    unfold p_sta at h
    split at h
    · split at h
      · exact h.elim
      · rename_i x r _ hh
        exact lv_astore hx hb hdg hL.2 ha rfl (fun ls' hl' => h H locs ls' hP hD hS (hL.st1 (v := .ref x) hh hl'))
    · exact h.elim
  | lstore_n n =>
    dsimp only at h
    obtain ⟨rfl, hv, ha⟩ := of_decide_eq_true hI
    unfold p_stl at h
    split at h
    · split at h
      · exact h.elim
      · rename_i hh
        exact lv_lstore_n hx hb hdg hv hL.2 ha rfl (fun ls' hl' => h H locs ls' hP hD hS (hL.st2 hh hl'))
    · exact h.elim
  | lstore n =>
    dsimp only at h
    obtain ⟨rfl, rfl, ha⟩ := of_decide_eq_true hI
    unfold p_stl at h
    split at h
    · split at h
      · exact h.elim
      · rename_i hh
        exact lv_lstore hx hb hdg hL.2 ha rfl (fun ls' hl' => h H locs ls' hP hD hS (hL.st2 hh hl'))
    · exact h.elim
  | iinc i n =>
    dsimp only at h
    obtain ⟨rfl, rfl, ha, rfl⟩ := of_decide_eq_true hI
    unfold p_inc at h
    split at h
    · rename_i x hlv
      split at h
      · exact h.elim
      · rename_i hh
        obtain ⟨k, hk⟩ := List.getElem?_of_mem (prs_mem.mpr ⟨Value.int x, hlv, rfl⟩ : (i, cv ad (Value.int x)) ∈ prs ad lv)
        exact lv_iinc hx hb hdg hL.2 hk rfl ha rfl (fun ls' hl' => h H locs ls' hP hD hS (hL.st1 (v := .int (x + Int32.ofInt n)) hh hl'))
    · exact h.elim
  | iadd =>
    dsimp only at h
    obtain rfl := of_decide_eq_true hI
    unfold i_bin at h
    split at h
    · exact lv_iadd hx hb hdg (h H locs ls hP hD hS hL)
    · exact h.elim
  | isub =>
    dsimp only at h
    obtain rfl := of_decide_eq_true hI
    unfold i_bin at h
    split at h
    · exact lv_isub hx hb hdg (h H locs ls hP hD hS hL)
    · exact h.elim
  | imul =>
    dsimp only at h
    obtain rfl := of_decide_eq_true hI
    unfold i_bin at h
    split at h
    · exact lv_imul hx hb hdg (h H locs ls hP hD hS hL)
    · exact h.elim
  | iand =>
    dsimp only at h
    obtain rfl := of_decide_eq_true hI
    unfold i_bin at h
    split at h
    · exact lv_iand hx hb hdg (h H locs ls hP hD hS hL)
    · exact h.elim
  | ior =>
    dsimp only at h
    obtain rfl := of_decide_eq_true hI
    unfold i_bin at h
    split at h
    · exact lv_ior hx hb hdg (h H locs ls hP hD hS hL)
    · exact h.elim
  | ixor =>
    dsimp only at h
    obtain rfl := of_decide_eq_true hI
    unfold i_bin at h
    split at h
    · exact lv_ixor hx hb hdg (h H locs ls hP hD hS hL)
    · exact h.elim
  | ishl =>
    dsimp only at h
    obtain rfl := of_decide_eq_true hI
    unfold i_bin at h
    split at h
    · exact lv_ishl hx hb hdg (h H locs ls hP hD hS hL)
    · exact h.elim
  | ishr =>
    dsimp only at h
    obtain rfl := of_decide_eq_true hI
    unfold i_bin at h
    split at h
    · exact lv_ishr hx hb hdg (h H locs ls hP hD hS hL)
    · exact h.elim
  | iushr =>
    dsimp only at h
    obtain rfl := of_decide_eq_true hI
    unfold i_bin at h
    split at h
    · exact lv_iushr hx hb hdg rfl (h H locs ls hP hD hS hL)
    · exact h.elim
  | idiv =>
    dsimp only at h
    obtain rfl := of_decide_eq_true hI
    unfold i_div at h
    split at h
    · exact lv_idiv hx hb hdg h.1 (h.2 H locs ls hP hD hS hL)
    · exact h.elim
  | irem =>
    dsimp only at h
    obtain rfl := of_decide_eq_true hI
    unfold i_div at h
    split at h
    · exact lv_irem hx hb hdg h.1 (h.2 H locs ls hP hD hS hL)
    · exact h.elim
  | ineg =>
    dsimp only at h
    obtain rfl := of_decide_eq_true hI
    unfold i_un at h
    split at h
    · exact lv_ineg hx hb hdg (h H locs ls hP hD hS hL)
    · exact h.elim
  | lsub =>
    dsimp only at h
    obtain rfl := of_decide_eq_true hI
    unfold l_bin at h
    split at h
    · exact lv_lsub hx hb hdg (h H locs ls hP hD hS hL)
    · exact h.elim
  | lmul =>
    dsimp only at h
    obtain rfl := of_decide_eq_true hI
    unfold l_bin at h
    split at h
    · exact lv_lmul hx hb hdg (h H locs ls hP hD hS hL)
    · exact h.elim
  | ldiv =>
    dsimp only at h
    obtain rfl := of_decide_eq_true hI
    unfold l_div at h
    split at h
    · exact lv_ldiv hx hb hdg h.1 (h.2 H locs ls hP hD hS hL)
    · exact h.elim
  | lcmp =>
    dsimp only at h
    obtain rfl := of_decide_eq_true hI
    unfold l_cmp at h
    split at h
    · exact W.lcmp hx hb hdg (h H locs ls hP hD hS hL)
    · exact h.elim
  | i2l =>
    dsimp only at h
    obtain rfl := of_decide_eq_true hI
    unfold c_i2l at h
    split at h
    · exact lv_i2l hx hb hdg rfl (h H locs ls hP hD hS hL)
    · exact h.elim
  | l2i =>
    dsimp only at h
    obtain rfl := of_decide_eq_true hI
    unfold c_l2i at h
    split at h
    · exact lv_l2i hx hb hdg rfl (h H locs ls hP hD hS hL)
    · exact h.elim
  | dup =>
    dsimp only at h
    obtain rfl := of_decide_eq_true hI
    unfold p_dup at h
    split at h
    · split at h
      · rename_i hc
        exact lv_dup hx hb hdg (by rw [cv_cat]; exact Nat.eq_of_beq_eq_true hc) (h H locs ls hP hD hS hL)
      · exact h.elim
    · exact h.elim
  | dup2 =>
    dsimp only at h
    obtain rfl := of_decide_eq_true hI
    unfold p_dup2 at h
    split at h
    · split at h
      · rename_i hc
        simp only [Bool.and_eq_true] at hc
        exact lv_dup2_11 hx hb hdg (by rw [cv_cat]; exact Nat.eq_of_beq_eq_true hc.1) (by rw [cv_cat]; exact Nat.eq_of_beq_eq_true hc.2) (h H locs ls hP hD hS hL)
      · exact h.elim
    · exact h.elim
  | pop =>
    dsimp only at h
    obtain rfl := of_decide_eq_true hI
    unfold p_pop at h
    split at h
    · split at h
      · rename_i hc
        exact lv_pop hx hb hdg (by rw [cv_cat]; exact Nat.eq_of_beq_eq_true hc) (h H locs ls hP hD hS hL)
      · exact h.elim
    · exact h.elim
  | goto o =>
    dsimp only at h
    obtain ⟨rfl, ht⟩ := of_decide_eq_true hI
    exact lv_goto hx hb hdg ht (h H locs ls hP hD hS hL)
  | ifCond cd o =>
    obtain ⟨rfl, ht⟩ := of_decide_eq_true hI
    cases cd with
    | eq =>
      dsimp only [i_if] at h
      split at h
      · exact lv_if_eq hx hb hdg ht (fun z => h.1 z H locs ls hP hD hS hL) (fun z => h.2 z H locs ls hP hD hS hL)
      · exact h.elim
    | ne =>
      dsimp only [i_ne] at h
      split at h
      · exact lv_if_ne hx hb hdg ht (fun z => h.1 z H locs ls hP hD hS hL) (fun z => h.2 z H locs ls hP hD hS hL)
      · exact h.elim
    | lt =>
      dsimp only [i_if] at h
      split at h
      · exact lv_if_lt hx hb hdg ht (fun z => h.1 z H locs ls hP hD hS hL) (fun z => h.2 z H locs ls hP hD hS hL)
      · exact h.elim
    | ge =>
      dsimp only [i_if] at h
      split at h
      · exact lv_if_ge hx hb hdg ht (fun z => h.1 z H locs ls hP hD hS hL) (fun z => h.2 z H locs ls hP hD hS hL)
      · exact h.elim
    | gt =>
      dsimp only [i_if] at h
      split at h
      · exact lv_if_gt hx hb hdg ht (fun z => h.1 z H locs ls hP hD hS hL) (fun z => h.2 z H locs ls hP hD hS hL)
      · exact h.elim
    | le =>
      dsimp only [i_if] at h
      split at h
      · exact lv_if_le hx hb hdg ht (fun z => h.1 z H locs ls hP hD hS hL) (fun z => h.2 z H locs ls hP hD hS hL)
      · exact h.elim
  | if_icmp cd o =>
    obtain ⟨rfl, ht⟩ := of_decide_eq_true hI
    cases cd with
    | eq =>
      dsimp only [i_cmp] at h
      split at h
      · exact lv_icmp_eq hx hb hdg ht (fun z => h.1 z H locs ls hP hD hS hL) (fun z => h.2 z H locs ls hP hD hS hL)
      · exact h.elim
    | ne =>
      dsimp only [i_cne] at h
      split at h
      · exact lv_icmp_ne hx hb hdg ht (fun z => h.1 z H locs ls hP hD hS hL) (fun z => h.2 z H locs ls hP hD hS hL)
      · exact h.elim
    | lt =>
      dsimp only [i_cmp] at h
      split at h
      · exact lv_icmp_lt hx hb hdg ht (fun z => h.1 z H locs ls hP hD hS hL) (fun z => h.2 z H locs ls hP hD hS hL)
      · exact h.elim
    | ge =>
      dsimp only [i_cmp] at h
      split at h
      · exact lv_icmp_ge hx hb hdg ht (fun z => h.1 z H locs ls hP hD hS hL) (fun z => h.2 z H locs ls hP hD hS hL)
      · exact h.elim
    | gt =>
      dsimp only [i_cmp] at h
      split at h
      · exact lv_icmp_gt hx hb hdg ht (fun z => h.1 z H locs ls hP hD hS hL) (fun z => h.2 z H locs ls hP hD hS hL)
      · exact h.elim
    | le =>
      dsimp only [i_cmp] at h
      split at h
      · exact lv_icmp_le hx hb hdg ht (fun z => h.1 z H locs ls hP hD hS hL) (fun z => h.2 z H locs ls hP hD hS hL)
      · exact h.elim
  | tableswitch f lo hi os =>
    dsimp only at h
    simp only [Bool.and_eq_true] at hI
    obtain ⟨h1, h2⟩ := hI
    obtain ⟨ht, rfl, hhi, hsz, hsw⟩ := of_decide_eq_true h1
    unfold p_swi at h
    split at h
    · rename_i x r
      by_cases hr : x.toInt < 0 ∨ hi < x.toInt
      · refine lv_tableOut hx hb hdg hr ht ?_
        refine p_sw_out (K := fun t => W p l e R s m args below meth c H locs cells slots QQ (F0 m t ls (r.map (cv ad)))) (p_sw_mono (fun t z => z H locs ls hP hD hS hL) h) (fun q hq e => ?_)
        obtain ⟨j, hj⟩ := List.getElem?_of_mem hq
        have hjl : j < os.size := by rw [← hsw]; exact (List.getElem?_eq_some_iff.mp hj).1
        have h3 := of_decide_eq_true (all_rg h2 hjl)
        rw [List.getD_eq_getElem?_getD, hj] at h3
        have h4 : x = Int32.ofNat j := e.trans h3.1
        have h5 : x.toInt = (j : Int) := by rw [h4]; exact nI_toInt (by omega)
        omega
      · have hlt : x.toInt.toNat < os.size := by omega
        have h3 := of_decide_eq_true (all_rg h2 hlt)
        have hxj : x = Int32.ofNat x.toInt.toNat := by
          apply Int32.toInt_inj.mp
          have h6 : (nI x.toInt.toNat).toInt = (x.toInt.toNat : Int) := nI_toInt (by omega)
          show x.toInt = (nI x.toInt.toNat).toInt
          rw [h6]
          omega
        have hos : os[(x.toInt - 0).toNat]? = some (os.getD x.toInt.toNat 0) := by
          have : (x.toInt - 0).toNat = x.toInt.toNat := by omega
          rw [this]
          unfold Array.getD
          rw [dif_pos hlt]
          exact Array.getElem?_eq_getElem hlt
        have hsj : x.toInt.toNat < sw.length := by omega
        have hge : sw[x.toInt.toNat]? = some (sw.getD x.toInt.toNat (0, 0)) := by
          rw [List.getD_eq_getElem?_getD, List.getElem?_eq_getElem hsj]; rfl
        refine lv_tableIn hx hb hdg (fun z => hr (Or.inl z)) (fun z => hr (Or.inr z)) hos h3.2 ?_
        refine p_sw_at (K := fun t => W p l e R s m args below meth c H locs cells slots QQ (F0 m t ls (r.map (cv ad)))) (p_sw_mono (fun t z => z H locs ls hP hD hS hL) h) hge (by rw [h3.1]; exact hxj) (fun i q hi hq => ?_)
        have hil : i < os.size := by omega
        have h7 := of_decide_eq_true (all_rg h2 hil)
        rw [List.getD_eq_getElem?_getD, hq] at h7
        rw [h3.1]
        intro e
        have e2 : nI i = nI x.toInt.toNat := h7.1.symm.trans e
        have := (nI_eq (by omega) (by omega)).mp e2
        omega
    · exact h.elim
  | lookupswitch f ps =>
    dsimp only at h
    obtain ⟨ht, hp, hm⟩ := of_decide_eq_true hI
    unfold p_swi at h
    split at h
    · rename_i x r
      have key : ∀ (pl : List (Int × Int)) (sl : List (Int32 × Nat)), pl.map (fun q => (q.1, (pc : Int) + q.2)) = sl.map (fun q => (q.1.toInt, (q.2 : Int))) → p_sw sl x (fun t => XW p l e R s m args below meth c dC dI cI cZ ad A0 cells slots QQ nL t lv r σ) a → ∃ (off : Int) (tgt : Nat), Op.lookupswitch.offset pl f x.toInt = off ∧ (pc : Int) + off = (tgt : Int) ∧ XW p l e R s m args below meth c dC dI cI cZ ad A0 cells slots QQ nL tgt lv r σ := by
        intro pl
        induction pl with
        | nil =>
          intro sl hsl hsw
          cases sl with
          | nil => exact ⟨f, a, rfl, ht, hsw⟩
          | cons y ys => cases hsl
        | cons z zs ih =>
          intro sl hsl hsw
          cases sl with
          | nil => cases hsl
          | cons y ys =>
            simp only [List.map_cons, List.cons.injEq, Prod.mk.injEq] at hsl
            obtain ⟨⟨e1, e2⟩, e3⟩ := hsl
            by_cases hxy : x = y.1
            · refine ⟨z.2, y.2, ?_, e2, hsw.1 hxy⟩
              obtain ⟨z1, z2⟩ := z
              rw [Op.lookupswitch.offset_cons, if_pos]
              rw [hxy]; exact e1
            · obtain ⟨off, tgt, g1, g2, g3⟩ := ih ys e3 (hsw.2 hxy)
              refine ⟨off, tgt, ?_, g2, g3⟩
              obtain ⟨z1, z2⟩ := z
              rw [lv_osw hxy e1.symm]
              exact g1
      obtain ⟨off, tgt, g1, g2, g3⟩ := key _ _ hm h
      exact lv_lookup hx hb hdg hp g1 g2 (g3 H locs ls hP hD hS hL)
    · exact h.elim
  | iaload =>
    dsimp only at h
    obtain rfl := of_decide_eq_true hI
    unfold p_iald at h
    split at h
    · rename_i i cl r
      split at h
      · rename_i n fs hlay
        exact va_iald hx hb hC.1 hP cl 0 (by rw [wW_at (lay_lt hlay)]; simp only [ent, hlay]) rfl h.1 hdg (h.2 H locs ls hP hD hS hL)
      · exact h.elim
      · split at h
        · rename_i q hq
          exact va_ti hx hb (hC.2.2.2 _ _ hq) hS h.1 rfl hdg (h.2 H locs ls hP hD hS hL)
        · exact h.elim
    · exact h.elim
  | baload =>
    dsimp only at h
    obtain rfl := of_decide_eq_true hI
    unfold p_zald at h
    split at h
    · rename_i i cl r
      split at h
      · rename_i n fs hlay
        exact va_zald hx hb hC.1 hP cl 1 (by rw [wW_at (lay_lt hlay)]; simp only [ent, hlay]) rfl h.1 hdg (h.2 H locs ls hP hD hS hL)
      · exact h.elim
    · exact h.elim
  | iastore =>
    dsimp only at h
    obtain rfl := of_decide_eq_true hI
    unfold p_iast at h
    split at h
    · rename_i x i cl r
      split at h
      · rename_i n fs hlay
        refine va_iast (f := σ cl) (cA := cI) (n := n) hx hb hC.1 hP hD hS cl 0 (by rw [wW_at (lay_lt hlay)]; simp only [ent, hlay]) rfl h.1 hdg (fun H1 locs1 hP1 hD1 hS1 => ?_)
        rw [wW_set (i := i.toNatClampNeg) (v := x) (lay_lt hlay) (by simp only [ent, hlay, up_self])] at hP1 hD1
        exact h.2 H1 locs1 ls hP1 hD1 hS1 hL
      · exact h.elim
    · exact h.elim
  | bastore =>
    dsimp only at h
    obtain rfl := of_decide_eq_true hI
    unfold p_zast at h
    split at h
    · rename_i x i cl r
      split at h
      · rename_i n fs hlay
        refine va_zast (f := σ cl) (cA := cZ) (n := n) hx hb hC.1 hP hD hS cl 1 (by rw [wW_at (lay_lt hlay)]; simp only [ent, hlay]) rfl h.1 hdg (fun H1 locs1 hP1 hD1 hS1 => ?_)
        rw [nar_b h.2.1] at hP1 hD1
        rw [wW_set (i := i.toNatClampNeg) (v := x) (lay_lt hlay) (by simp only [ent, hlay, up_self])] at hP1 hD1
        exact h.2.2 H1 locs1 ls hP1 hD1 hS1 hL
      · exact h.elim
    · exact h.elim
  | arraylength =>
    dsimp only at h
    obtain rfl := of_decide_eq_true hI
    unfold p_len at h
    split at h
    · split at h
      · exact h.elim
      · split at h
        · rename_i q hq
          exact va_tlen hx hb (hC.2.2.2 _ _ hq) hS rfl hdg (h H locs ls hP hD hS hL)
        · exact h.elim
    · exact h.elim
  | getfield i =>
    dsimp only at h
    simp only [Bool.and_eq_true] at hI
    obtain ⟨h1, h2⟩ := hI
    obtain rfl := of_decide_eq_true h1
    obtain ⟨hw, ha, hbk⟩ := in_fl h2
    unfold p_get at h
    split at h
    · rename_i cl r
      split at h
      · rename_i cj fs hlay
        split at h
        · rename_i hcj
          have hcj := Nat.eq_of_beq_eq_true hcj
          subst hcj
          have hent : (wW cI cZ ad σ)[cl]? = some (ad cl, .inr (cj, obF ad σ cl fs)) := by rw [wW_at (lay_lt hlay)]; simp only [ent, hlay]
          split at h
          · rename_i q hf
            exact va_get (v := .ref (ad q)) (C := cn cj) (T := FT cj) (N := NF cj) hx hb hts (u_in ha) hown hC.1 hP cl hent (cls_at ha) b hbk (hts _ hw) (fun _ z => z) (obF_at hf) hdg (h H locs ls hP hD hS hL)
          · rename_i hf
            exact va_get (v := .int (σ cl b)) (C := cn cj) (T := FT cj) (N := NF cj) hx hb hts (u_in ha) hown hC.1 hP cl hent (cls_at ha) b hbk (hts _ hw) (fun _ z => z) (obF_at hf) hdg (h H locs ls hP hD hS hL)
          · exact h.elim
        · exact h.elim
      · exact h.elim
    · exact h.elim
  | putfield i =>
    dsimp only at h
    simp only [Bool.and_eq_true] at hI
    obtain ⟨h1, h2⟩ := hI
    obtain rfl := of_decide_eq_true h1
    have h2' : (match flt[d]? with | some q => decide (q.1 = own ∧ q.2.1 = i ∧ q.2.2.1 = a ∧ q.2.2.2.1 = b) | none => false) = true ∧ (FT a b).2.2.2 = false ∧ fty a b = .int := by
      revert h2
      cases flt[d]? with
      | none => intro z; cases z
      | some q =>
        intro z
        obtain ⟨z1, z2, z3, z4, z5, z6⟩ := of_decide_eq_true z
        exact ⟨decide_eq_true ⟨z1, z2, z3, z4⟩, z5, z6⟩
    obtain ⟨h3, hfin, hty⟩ := h2'
    obtain ⟨hw, ha, hbk⟩ := in_fl h3
    unfold p_put at h
    split at h
    · rename_i x cl r
      split at h
      · rename_i cj fs hlay
        split at h
        · rename_i hcj
          have hcj := Nat.eq_of_beq_eq_true hcj
          subst hcj
          have hent : (wW cI cZ ad σ)[cl]? = some (ad cl, .inr (cj, obF ad σ cl fs)) := by rw [wW_at (lay_lt hlay)]; simp only [ent, hlay]
          split at h
          · rename_i hf
            have hpd := ty_in ha b hbk
            rw [hty] at hpd
            refine va_put (v := .int x) (ty := .int) (C := cn cj) (T := FT cj) (N := NF cj) hx hb hts (u_in ha) (fty cj) (ty_in ha) (nm_in ha) hown hC.1 hP hD hS cl hent (cls_at ha) b hbk (hts _ hw) (fun _ z => z) hfin hpd rfl rfl (by rw [obF_len]; exact (List.getElem?_eq_some_iff.mp hf).1) hdg (fun H1 locs1 hP1 hD1 hS1 => ?_)
            rw [wW_set (i := b) (v := x) (lay_lt hlay) (by simp only [ent, hlay]; rw [obF_set hf])] at hP1 hD1
            exact h H1 locs1 ls hP1 hD1 hS1 hL
          · exact h.elim
        · exact h.elim
      · exact h.elim
    · exact h.elim
  | getstatic i =>
    dsimp only at h
    obtain ⟨rfl, hh⟩ := of_decide_eq_true hI
    rcases hh with ⟨rfl, rfl, rfl⟩ | ⟨rfl, rfl, rfl⟩ | ⟨rfl, rfl, rfl⟩
    · exact va_getsN hx hb (hC.2.2.1 0 (by omega)) hS hown (va_Nw.use rfl hC.2.1.1) (fun _ z => z) hdg (h H locs ls hP hD hS hL)
    · exact va_getsN hx hb (hC.2.2.1 1 (by omega)) hS hown (va_Nw.use rfl hC.2.1.2.1) (fun _ z => z) hdg (h H locs ls hP hD hS hL)
    · exact va_gets hx hb (hC.2.2.1 2 (by omega)) hS hown (hts _ (tb_of most_ok rfl)) (fun _ z => z) hdg (h H locs ls hP hD hS hL)
  | invokevirtual i =>
    dsimp only at h
    simp only [Bool.and_eq_true] at hI
    obtain ⟨h1, h2⟩ := hI
    obtain ⟨rfl, hk, hs, rfl, rfl, h53, h106⟩ := of_decide_eq_true h1
    exact call_v F hk h53 h106 hs h2 hdg hP hD hS hL h
  | invokestatic i =>
    dsimp only at h
    simp only [Bool.and_eq_true] at hI
    obtain ⟨h1, h2⟩ := hI
    obtain ⟨rfl, hk, hs, rfl, hh⟩ := of_decide_eq_true h1
    rcases hh with ⟨rfl, rfl, rfl, rfl⟩ | ⟨rfl, rfl, rfl, rfl⟩ | ⟨rfl, h53, h106⟩ | ⟨rfl, rfl, rfl, rfl⟩ | ⟨rfl, rfl, rfl, rfl⟩
    · have h : (match Nat.ble (cats st) 8 with | true => i_un absI (fun st => XW p l e R s m args below meth c dC dI cI cZ ad A0 cells slots QQ nL (pc + 3) lv st σ) st | false => False) := h
      split at h
      · rename_i hcat
        have hcat := Nat.le_of_ble_eq_true hcat
        have hlk : Cond.methodLink (cn 6) 67 (mY 53) ∈ TB := in_ml (by simpa using h2)
        have hstt := mOk_st hk hs
        rw [my53] at hlk hstt
        unfold i_un at h
        split at h
        · rename_i x r _ _
          have hcr : ((r.map (cv ad)).map fun v => v.category).sum ≤ 8 := by
            rw [cv_cats]
            have : cats (Value.int x :: r) = 1 + cats r := rfl
            omega
          exact va_mabs hx hb (hmx.trans hL.2.1.symm) hown (hts _ hlk) (hts _ hstt) (hts _ (in_ini (o := 15) (by omega))) (hts _ mc53) (by omega) (by omega) hc1 hc2 hdg (h H locs ls hP hD hS hL)
        · exact h.elim
      · exact h.elim
    · have h : (match Nat.ble (cats st) 8 with | true => i_bin maxI (fun st => XW p l e R s m args below meth c dC dI cI cZ ad A0 cells slots QQ nL (pc + 3) lv st σ) st | false => False) := h
      split at h
      · rename_i hcat
        have hcat := Nat.le_of_ble_eq_true hcat
        have hlk : Cond.methodLink (cn 11) 94 (mY 106) ∈ TB := in_ml (by simpa using h2)
        have hstt := mOk_st hk hs
        rw [my106] at hlk hstt
        unfold i_bin at h
        split at h
        · rename_i y x r _ _
          have hcr : ((r.map (cv ad)).map fun v => v.category).sum ≤ 8 := by
            rw [cv_cats]
            have : cats (Value.int y :: Value.int x :: r) = 1 + (1 + cats r) := rfl
            omega
          exact va_mmax hx hb (hmx.trans hL.2.1.symm) hown (hts _ hlk) (hts _ hstt) (hts _ (in_ini (o := 15) (by omega))) (hts _ mc106) (by omega) (by omega) hc1 hc2 hdg (h H locs ls hP hD hS hL)
        · exact h.elim
      · exact h.elim
    · refine call_s F hk h53 h106 hs (Or.inl ?_) hdg hP hD hS hL h
      simpa using h2
    · exact call_s F hk (by decide) (by decide) hs (Or.inr ⟨"TradeTests", hC.2.1.2.2.1⟩) hdg hP hD hS hL h
    · exact call_s F hk (by decide) (by decide) hs (Or.inr ⟨"TradeTests", hC.2.1.2.2.2⟩) hdg hP hD hS hL h
  | ireturn =>
    dsimp only at h
    obtain rfl := of_decide_eq_true hI
    unfold p_ret at h
    split at h
    · split at h
      · exact h.elim
      · exact hret.1 pc _ σ H locs ls (by omega) (fun z => absurd rfl z) h hP hD hS hdg
      · rename_i hz0 hz1
        exact hret.1 pc _ σ H locs ls hz0 (fun _ => h.1) h.2 hP hD hS hdg
    · exact h.elim
  | return_ =>
    dsimp only at h
    obtain rfl := of_decide_eq_true hI
    unfold p_rtv at h
    split at h
    · split at h
      · exact hret.2 pc σ H locs ls rfl h hP hD hS hdg
      · exact h.elim
    · exact h.elim
  | _ => exact h.elim
theorem fnd_spec : ∀ {cd : List CE} {pc : Nat} {q : CE}, fnd cd pc = some q → q ∈ cd ∧ q.1 = pc
  | [], _, _, h => by cases h
  | r :: cd, pc, q, h => by
    unfold fnd at h
    split at h
    · rename_i hq
      cases h
      exact ⟨List.mem_cons_self, Nat.eq_of_beq_eq_true hq⟩
    · obtain ⟨h1, h2⟩ := fnd_spec h
      exact ⟨List.mem_cons_of_mem _ h1, h2⟩
theorem fg_at : ∀ {m : List Bool} {lv : LV} {i : Nat} {v : Value}, (fg m lv)[i]? = some (some v) → lv[i]? = some (some v)
  | [], lv, i, v, h => by unfold fg at h; exact h
  | b :: m, [], i, v, h => by simp [fg] at h
  | b :: m, o :: l, 0, v, h => by
    cases b with
    | true => simpa [fg] using h
    | false => simp [fg] at h
  | b :: m, o :: l, i + 1, v, h => by
    have h2 : (fg m l)[i]? = some (some v) := by simpa [fg] using h
    simpa using fg_at h2
theorem fg_len : ∀ {m : List Bool} {lv : LV}, (fg m lv).length = lv.length
  | [], lv => by unfold fg; rfl
  | b :: m, [] => rfl
  | b :: m, o :: l => by simp [fg, fg_len]
theorem LH.fg {nL : Nat} {ls : Array Slot} {lv : LV} (h : LH ad nL ls lv) (m : List Bool) : LH ad nL ls (fg m lv) := by
  refine ⟨by rw [fg_len]; exact h.1, h.2.1, h.2.2.1, ?_⟩
  rintro ⟨i, w⟩ hq
  obtain ⟨v, h1, rfl⟩ := prs_mem.mp hq
  exact h.2.2.2 _ (prs_mem.mpr ⟨v, fg_at h1, rfl⟩)
/-- what the pure machine comes to, the machine comes to -/
theorem snd (F : Frm p l R s m args c own nL cc dC dI cI cZ ad sc A0 d0 cells slots C) {rk : Nat} {Q : Int32 → St → Prop} (hret : RetI p l e R s m args below meth c cc dC dI cI cZ ad A0 cells slots QQ rk Q) {cd : List CE} (hok : ∀ q ∈ cd, okCE own nL cc q = true) {pc : Nat} {lv : LV} {st : List Value} {σ : St}
    (h : Ex sc C rk cd Q pc lv st σ) : XW p l e R s m args below meth c dC dI cI cZ ad A0 cells slots QQ nL pc lv st σ := by
  refine h _ (fun pc lv st σ z => ?_) (fun pc m lv st σ z H locs ls hP hD hS hL => z H locs ls hP hD hS (hL.fg m))
  unfold stC at z
  split at z
  · rename_i q hq
    obtain ⟨h1, rfl⟩ := fnd_spec hq
    exact snd1 F hret (hok q h1) z
  · exact z.elim
end SND
end
section
/-! contracts of all methods out of the pure machine -/
def lv0 (k : Nat) (as : List Value) : LV := as.map some ++ List.replicate (mL k - as.length) none
theorem lg_sl1 : ∀ {vs : List Value}, (∀ v ∈ vs, v.category = 1) → (lg_sl vs).length = vs.length
  | [], _ => rfl
  | v :: vs, h => by
    have h1 := h v List.mem_cons_self
    have ih := lg_sl1 (vs := vs) (fun w hw => h w (List.mem_cons_of_mem _ hw))
    unfold lg_sl at ih ⊢
    rw [List.flatMap_cons, List.length_append, ih, if_neg (by omega)]
    simp; omega
theorem lv_args1 : ∀ {vs : List Value} {n i : Nat} {v : Value}, (∀ v ∈ vs, v.category = 1) → vs[i]? = some v → (n + i, v) ∈ lv_args n vs
  | [], n, i, v, _, h => by simp at h
  | w :: vs, n, 0, v, hc, h => by
    simp at h
    subst h
    exact List.mem_cons_self
  | w :: vs, n, i + 1, v, hc, h => by
    have h1 := hc w List.mem_cons_self
    have ih := lv_args1 (vs := vs) (n := n + 1) (i := i) (v := v) (fun z hz => hc z (List.mem_cons_of_mem _ hz)) (by simpa using h)
    unfold lv_args
    rw [if_neg (by omega)]
    refine List.mem_cons_of_mem _ ?_
    rw [show n + (i + 1) = n + 1 + i by omega]
    exact ih
theorem LH0 {ad : Nat → Nat} {k : Nat} {as : List Value} (hc : ∀ v ∈ as, v.category = 1) (hn : as.length ≤ mL k) : LH ad (mL k) ((lg_sl (as.map (cv ad)) ++ List.replicate (mL k - (lg_sl (as.map (cv ad))).length) Slot.unset).toArray) (lv0 k as) := by
  have hc' : ∀ v ∈ as.map (cv ad), v.category = 1 := by
    intro v hv
    obtain ⟨w, hw, rfl⟩ := List.mem_map.mp hv
    rw [cv_cat]; exact hc w hw
  have hl := lv_entry (as.map (cv ad)) (n := mL k) (by rw [lg_sl1 hc', List.length_map]; exact hn)
  refine ⟨by simp [lv0]; omega, hl.1, hl.2.1, ?_⟩
  rintro ⟨i, w⟩ hq
  obtain ⟨v, h1, rfl⟩ := prs_mem.mp hq
  have hi : as[i]? = some v := by
    unfold lv0 at h1
    rcases Nat.lt_or_ge i as.length with hlt | hge
    · rw [List.getElem?_append_left (by rw [List.length_map]; exact hlt), List.getElem?_map] at h1
      cases hz : as[i]? with
      | none => rw [hz] at h1; cases h1
      | some z => rw [hz] at h1; simp at h1; rw [h1]
    · rw [List.getElem?_append_right (by rw [List.length_map]; exact hge)] at h1
      have := List.eq_of_mem_replicate (List.mem_of_getElem? h1)
      cases this
  have h2 := lv_args1 (n := 0) (i := i) hc' (show (as.map (cv ad))[i]? = some (cv ad v) by rw [List.getElem?_map, hi]; rfl)
  rw [Nat.zero_add] at h2
  exact hl.2.2 _ h2
/-- only calls of methods below a depth -/
def CDd (C : CT) (dep : Nat → Nat) (d : Nat) : CT := fun k as σ Q => dep k ≤ d ∧ C k as σ Q
theorem CDd_mon {C : CT} (hC : MonC C) (dep : Nat → Nat) (d : Nat) : MonC (CDd C dep d) := fun k as σ Q Q' hQ h => ⟨h.1, hC k as σ Q Q' hQ h.2⟩
def dpOk (dep : Nat → Nat) (d : Nat) (q : CE) : Bool := match q with
  | (_, _, ins, _, a, _, b, _) => (match ins with
    | .invokevirtual _ => Nat.ble (dep a) d
    | .invokestatic _ => Nat.beq b 53 || Nat.beq b 106 || Nat.ble (dep a) d
    | _ => true)
theorem p_call_dep {C : CT} {dep : Nat → Nat} {d : Nat} {vd : Bool} {a b : Nat} (hd : dep a ≤ d) {ok : List Value → Bool} {K : List Value → St → Prop} {st : List Value} {σ : St} (h : p_call C vd a b ok K st σ) : p_call (CDd C dep d) vd a b ok K st σ := by
  unfold p_call at *
  split at h
  · exact ⟨hd, h⟩
  · exact h.elim
set_option maxHeartbeats 4000000 in
theorem stp_dep {sc : Nat × (Nat → Int32)} {C : CT} {dep : Nat → Nat} {d : Nat} {rk : Nat} {Q : Int32 → St → Prop} {K : KT} {q : CE} (hq : dpOk dep d q = true) {lv : LV} {st : List Value} {σ : St} (h : stp sc C rk Q K q lv st σ) : stp sc (CDd C dep d) rk Q K q lv st σ := by
  obtain ⟨pc, len, ins, imm, a, b, dd, sw⟩ := q
  cases ins with
  | invokevirtual i =>
    unfold stp at h ⊢
    dsimp only at h ⊢
    exact p_call_dep (Nat.le_of_ble_eq_true hq) h
  | invokestatic i =>
    unfold stp at h ⊢
    unfold dpOk at hq
    dsimp only at h hq ⊢
    split at h
    · exact h
    · exact h
    · rename_i h1 h2
      rw [h1, h2] at hq
      exact p_call_dep (Nat.le_of_ble_eq_true hq) h
  | ifCond cc o => cases cc <;> exact h
  | if_icmp cc o => cases cc <;> exact h
  | _ => exact h
theorem Ex_dep {sc : Nat × (Nat → Int32)} {C : CT} {dep : Nat → Nat} {d : Nat} {rk : Nat} {cd : List CE} (hcd : ∀ q ∈ cd, dpOk dep d q = true) {Q : Int32 → St → Prop} {pc : Nat} {lv : LV} {st : List Value} {σ : St} (h : Ex sc C rk cd Q pc lv st σ) : Ex sc (CDd C dep d) rk cd Q pc lv st σ := by
  intro X hX hF
  refine h X (fun pc lv st σ z => hX _ _ _ _ ?_) hF
  unfold stC at *
  split at z
  · rename_i q hq
    exact stp_dep (hcd q (fnd_spec hq).1) z
  · exact z.elim
theorem plain_k {k : Nat} (h : k < NM) (h1 : mO k ≠ 15) : plainName (mY k).cls = true := by
  have q := mOk_all h
  unfold mOk at q
  simp only [Bool.and_eq_true, decide_eq_true_eq] at q
  obtain ⟨⟨⟨⟨⟨⟨⟨⟨⟨q1, q2⟩, q3⟩, q4⟩, q5⟩, q6⟩, q7⟩, q8⟩, q9⟩, -⟩ := q
  exact q3.resolve_left h1
set_option maxRecDepth 100000 in
theorem mo15 : ((List.range NM).all fun k => decide (k = 53 ∨ k = 106 ∨ mO k ≠ 15)) = true := by decide +kernel
set_option maxHeartbeats 4000000 in
theorem met_one {l : Launch} {dC : Nat → ClassId} {dI : Nat → Nat → Nat} {cI cZ : ClassId} {ad : Nat → Nat} {sc : Nat × (Nat → Int32)} {C : CT} {d k : Nat} (hk : k < NM) (h53 : k ≠ 53) (h106 : k ≠ 106) (hM : ∀ k, k < NM → k ≠ 53 → k ≠ 106 → MetK l dC dI cI cZ ad sc C k d) {cd : List CE} (hcd : ∀ q ∈ cd, okCE (mO k) (mL k) (mB k) q = true) {as : List Value} (hc : ∀ v ∈ as, v.category = 1) (hn : as.length ≤ mL k) {σ : St} {Q : Int32 → St → Prop}
    (hE : Ex sc C (mRk k) cd Q 0 (lv0 k as) [] σ) : Met l (mY k) (wkK k) (rmD (d + 1)) (va_Pc (as.map (cv ad)) (WB dC dI cI cZ ad sc σ)) (QcK dC dI cI cZ ad sc k Q) 0 0 (ADA ad) := by
  have hpl : plainName (mY k).cls = true := plain_k hk (((of_decide_eq_true (all_rg mo15 hk)).resolve_left h53).resolve_left h106)
  refine Met.ofW (cc := mB k) (maxL := mL k) (ret := mR k) hpl rfl ?_
  intro p e s m args below meth c s₁ B hml hv
  obtain ⟨rfl, hP, hD, hCtx⟩ := hv
  have hts : ∀ w ∈ TB, w.before (as.map (cv ad)).toArray s = true := fun w hw => atoms_spec (ws := wkK k) B.pre w (List.mem_cons_of_mem _ hw)
  have hown : s.vm.findClass (cn (mO k)) = some m.cls := findClass_of_methodNamed B.named
  have hlocks := B.notSynchronized
  have hr := B.returns
  have F : Frm p l (headSpec (wkK k) (rmD (d + 1))).room s m (as.map (cv ad)).toArray c (mO k) (mL k) (mB k) dC dI cI cZ ad sc (ADA ad) d 0 0 C := ⟨B.exec, B.bytes, hml, hown, hts, hCtx, fun _ z => z, Nat.le_refl _, Nat.le_refl _, Nat.zero_le _, Nat.zero_le _, hM⟩
  have hret : RetI p l e (headSpec (wkK k) (rmD (d + 1))).room s m (as.map (cv ad)).toArray below meth c (mB k) dC dI cI cZ ad (ADA ad) 0 0 (MQ below (QcK dC dI cI cZ ad sc k Q) (as.map (cv ad)).toArray s 0 0 (ADA ad)) (mRk k) Q := by
    have hend : ∀ (t : State) (σ' : St) (H : Heap) (locs : List Loc), t.heap = H → s.WarmedH t.vm → va_P (dC, dI) cls (wW cI cZ ad σ') H → va_D (ADA ad) (wW cI cZ ad σ') → va_S (ADA ad) s.heap H locs → WB dC dI cI cZ ad sc σ' t ∧ va_F (ADA ad) s t := fun t σ' H locs ht hW hP' hD' hS' => ⟨⟨by rw [ht]; exact hP', hD', hCtx.moved hW hS' (fun _ z => z) ht⟩, hS'.F ht⟩
    refine ⟨fun pc x σ' H locs ls hz hbo hQ hP' hD' hS' hdg => ?_, fun pc σ' H locs ls hz hQ hP' hD' hS' hdg => ?_⟩
    · have hq : ∀ t : State, t.heap = H → s.WarmedH t.vm → QcK dC dI cI cZ ad sc k Q (as.map (cv ad)).toArray s (.returned (some (.int x))) t := by
        intro t ht hW
        unfold QcK
        have hb0 : Nat.beq (mRk k) 0 = false := by
          cases hbq : Nat.beq (mRk k) 0 with
          | false => rfl
          | true => exact absurd (Nat.eq_of_beq_eq_true hbq) hz
        rw [hb0]
        obtain ⟨g1, g2⟩ := hend t σ' H locs ht hW hP' hD' hS'
        exact ⟨⟨x, σ', rfl, hQ, g1⟩, g2⟩
      by_cases h1 : mRk k = 1
      · have hr1 : meth.sig.returnType = some .int := by rw [hr]; show rty (mRk k) = _; rw [h1]; rfl
        exact W.iret B.exec B.bytes hr1 hq hS'.2.2 hdg
      · have hr2 : meth.sig.returnType = some .boolean := by
          rw [hr]; show rty (mRk k) = _
          unfold rty
          split
          · omega
          · omega
          · rfl
        exact W.zret B.exec B.bytes hr2 (nar_b' (hbo h1)) hq hS'.2.2 hdg
    · have hq : ∀ t : State, t.heap = H → s.WarmedH t.vm → QcK dC dI cI cZ ad sc k Q (as.map (cv ad)).toArray s (.returned none) t := by
        intro t ht hW
        unfold QcK
        rw [hz]
        obtain ⟨g1, g2⟩ := hend t σ' H locs ht hW hP' hD' hS'
        exact ⟨⟨σ', rfl, hQ, g1⟩, g2⟩
      have hr0 : meth.sig.returnType = none := by rw [hr]; show rty (mRk k) = _; rw [hz]; rfl
      exact W.vret B.exec B.bytes hr0 hq hS'.2.2 hdg
  rw [lg_entry_eq]
  exact snd F hret hcd hE s.heap [] _ hP hD va_S.rf (LH0 hc hn)
/-- all contracts, by the depth of the calls -/
theorem all_met {l : Launch} {dC : Nat → ClassId} {dI : Nat → Nat → Nat} {cI cZ : ClassId} {ad : Nat → Nat} {sc : Nat × (Nat → Int32)} {C : CT} {dep : Nat → Nat} {cdf : Nat → List CE} (hargs : ∀ k as σ Q, C k as σ Q → as.length = mA k ∧ ∀ v ∈ as, v.category = 1)
    (hcd : ∀ k, k < NM → k ≠ 53 → k ≠ 106 → ∀ q ∈ cdf k, okCE (mO k) (mL k) (mB k) q = true ∧ ∀ d, dep k ≤ d + 1 → dpOk dep d q = true) (hdep : ∀ k, 0 < dep k)
    (hpure : ∀ k, k < NM → k ≠ 53 → k ≠ 106 → ∀ as σ Q, C k as σ Q → Ex sc C (mRk k) (cdf k) Q 0 (lv0 k as) [] σ) : ∀ d k, k < NM → k ≠ 53 → k ≠ 106 → MetK l dC dI cI cZ ad sc (CDd C dep d) k d
  | 0, k, _, _, _ => fun as σ Q h => absurd h.1 (by have := hdep k; omega)
  | d + 1, k, hk, h53, h106 => fun as σ Q h => by
    have ha := hargs k as σ Q h.2
    refine met_one hk h53 h106 (all_met hargs hcd hdep hpure d) (fun q hq => (hcd k hk h53 h106 q hq).1) ha.2 (by rw [ha.1]; exact (mOk_spec hk h53 h106).2.2.2.2.2.1) ?_
    exact Ex_dep (fun q hq => (hcd k hk h53 h106 q hq).2 d h.1) (hpure k hk h53 h106 as σ Q h.2)
end
section
/-! code tables 0 .. 64 (written by wip/whole/gen/code.py) -/
/-- TradeTests.vehicle -/
def cd_0 : List CE := [(0, 1, .iload_n 1, 0, 1, 0, 0, []), (1, 1, .iconst 4, 4, 0, 0, 0, []), (2, 3, .invokestatic 111, 0, 1, 2, 0, []), (5, 3, .ifCond .eq 21, 0, 26, 0, 0, []), (8, 1, .iload_n 2, 0, 2, 0, 0, []), (9, 1, .iconst 4, 4, 0, 0, 0, []), (10, 3, .invokestatic 111, 0, 1, 2, 0, []), (13, 3, .ifCond .eq 13, 0, 26, 0, 0, []), (16, 1, .iload_n 3, 0, 3, 0, 0, []), (17, 3, .sipush 10000, 10000, 0, 0, 0, []), (20, 3, .invokestatic 111, 0, 1, 2, 0, []), (23, 3, .ifCond .ne 9, 0, 32, 0, 0, []), (26, 1, .aload_n 0, 0, 0, 0, 0, []), (27, 1, .iconst 1, 1, 0, 0, 0, []), (28, 3, .invokevirtual 115, 0, 2, 2, 0, []), (31, 1, .ireturn, 0, 0, 0, 0, []), (32, 1, .aload_n 0, 0, 0, 0, 0, []), (33, 3, .getfield 10, 0, 0, 0, 131, []), (36, 3, .getfield 119, 0, 1, 3, 9, []), (39, 2, .bipush 24, 24, 0, 0, 0, []), (41, 3, .if_icmp .lt 9, 0, 50, 0, 0, []), (44, 1, .aload_n 0, 0, 0, 0, 0, []), (45, 1, .iconst 4, 4, 0, 0, 0, []), (46, 3, .invokevirtual 115, 0, 2, 2, 0, []), (49, 1, .ireturn, 0, 0, 0, 0, []), (50, 1, .aload_n 0, 0, 0, 0, 0, []), (51, 3, .getfield 10, 0, 0, 0, 131, []), (54, 1, .iload_n 1, 0, 1, 0, 0, []), (55, 1, .iload_n 2, 0, 2, 0, 0, []), (56, 1, .iload_n 3, 0, 3, 0, 0, []), (57, 3, .invokevirtual 122, 0, 3, 4, 1, []), (60, 1, .ireturn, 0, 0, 0, 0, [])]
set_option maxRecDepth 100000 in
theorem ck_0 : (cd_0.all (okCE 0 4 prog_1_method_2_code)) = true := by decide +kernel
/-- TradeTests.isBelow -/
def cd_1 : List CE := [(0, 1, .iload_n 0, 0, 0, 0, 0, []), (1, 3, .ifCond .lt 12, 0, 13, 0, 0, []), (4, 1, .iload_n 0, 0, 0, 0, 0, []), (5, 1, .iload_n 1, 0, 1, 0, 0, []), (6, 3, .if_icmp .ge 7, 0, 13, 0, 0, []), (9, 1, .iconst 1, 1, 0, 0, 0, []), (10, 3, .goto 4, 0, 14, 0, 0, []), (13, 1, .iconst 0, 0, 0, 0, 0, []), (14, 1, .ireturn, 0, 0, 0, 0, [])]
set_option maxRecDepth 100000 in
theorem ck_1 : (cd_1.all (okCE 0 2 prog_1_method_41_code)) = true := by decide +kernel
/-- TradeTests.finding -/
def cd_2 : List CE := [(0, 1, .aload_n 0, 0, 0, 0, 0, []), (1, 3, .getfield 108, 0, 0, 13, 144, []), (4, 1, .iload_n 1, 0, 1, 0, 0, []), (5, 1, .dup2, 0, 0, 0, 0, []), (6, 1, .iaload, 0, 0, 0, 0, []), (7, 1, .iconst 1, 1, 0, 0, 0, []), (8, 1, .iadd, 0, 0, 0, 0, []), (9, 1, .iastore, 0, 0, 0, 0, []), (10, 3, .ldc_w 303, (-1000000), 0, 0, 0, []), (13, 1, .iload_n 1, 0, 1, 0, 0, []), (14, 1, .isub, 0, 0, 0, 0, []), (15, 1, .ireturn, 0, 0, 0, 0, [])]
set_option maxRecDepth 100000 in
theorem ck_2 : (cd_2.all (okCE 0 2 prog_1_method_36_code)) = true := by decide +kernel
/-- TradeTests$Vehicles.add -/
def cd_3 : List CE := [(0, 1, .aload_n 0, 0, 0, 0, 0, []), (1, 3, .getfield 9, 0, 1, 0, 0, []), (4, 1, .aload_n 0, 0, 0, 0, 0, []), (5, 3, .getfield 21, 0, 1, 3, 8, []), (8, 1, .iload_n 1, 0, 1, 0, 0, []), (9, 1, .iastore, 0, 0, 0, 0, []), (10, 1, .aload_n 0, 0, 0, 0, 0, []), (11, 3, .getfield 15, 0, 1, 1, 4, []), (14, 1, .aload_n 0, 0, 0, 0, 0, []), (15, 3, .getfield 21, 0, 1, 3, 8, []), (18, 1, .iload_n 2, 0, 2, 0, 0, []), (19, 1, .iastore, 0, 0, 0, 0, []), (20, 1, .aload_n 0, 0, 0, 0, 0, []), (21, 3, .getfield 18, 0, 1, 2, 6, []), (24, 1, .aload_n 0, 0, 0, 0, 0, []), (25, 3, .getfield 21, 0, 1, 3, 8, []), (28, 1, .iload_n 3, 0, 3, 0, 0, []), (29, 1, .iastore, 0, 0, 0, 0, []), (30, 1, .aload_n 0, 0, 0, 0, 0, []), (31, 1, .dup, 0, 0, 0, 0, []), (32, 3, .getfield 21, 0, 1, 3, 8, []), (35, 1, .iconst 1, 1, 0, 0, 0, []), (36, 1, .iadd, 0, 0, 0, 0, []), (37, 3, .putfield 21, 0, 1, 3, 8, []), (40, 1, .aload_n 0, 0, 0, 0, 0, []), (41, 3, .getfield 21, 0, 1, 3, 8, []), (44, 1, .iconst 1, 1, 0, 0, 0, []), (45, 1, .isub, 0, 0, 0, 0, []), (46, 1, .ireturn, 0, 0, 0, 0, [])]
set_option maxRecDepth 100000 in
theorem ck_3 : (cd_3.all (okCE 1 4 prog_12_method_2_code)) = true := by decide +kernel
/-- TradeTests.as -/
def cd_4 : List CE := [(0, 1, .iload_n 1, 0, 1, 0, 0, []), (1, 1, .aload_n 0, 0, 0, 0, 0, []), (2, 3, .getfield 10, 0, 0, 0, 131, []), (5, 3, .getfield 119, 0, 1, 3, 9, []), (8, 3, .invokestatic 111, 0, 1, 2, 0, []), (11, 3, .ifCond .eq 11, 0, 22, 0, 0, []), (14, 1, .iload_n 2, 0, 2, 0, 0, []), (15, 1, .iconst 4, 4, 0, 0, 0, []), (16, 3, .invokestatic 111, 0, 1, 2, 0, []), (19, 3, .ifCond .ne 9, 0, 28, 0, 0, []), (22, 1, .aload_n 0, 0, 0, 0, 0, []), (23, 1, .iconst 1, 1, 0, 0, 0, []), (24, 3, .invokevirtual 115, 0, 2, 2, 0, []), (27, 1, .ireturn, 0, 0, 0, 0, []), (28, 1, .aload_n 0, 0, 0, 0, 0, []), (29, 3, .getfield 10, 0, 0, 0, 131, []), (32, 3, .getfield 126, 0, 1, 0, 2, []), (35, 1, .iload_n 1, 0, 1, 0, 0, []), (36, 1, .iaload, 0, 0, 0, 0, []), (37, 1, .iload_n 2, 0, 2, 0, 0, []), (38, 3, .invokestatic 129, 0, 5, 2, 0, []), (41, 3, .ifCond .ne 9, 0, 50, 0, 0, []), (44, 1, .aload_n 0, 0, 0, 0, 0, []), (45, 1, .iconst 5, 5, 0, 0, 0, []), (46, 3, .invokevirtual 115, 0, 2, 2, 0, []), (49, 1, .ireturn, 0, 0, 0, 0, []), (50, 1, .aload_n 0, 0, 0, 0, 0, []), (51, 3, .getfield 10, 0, 0, 0, 131, []), (54, 1, .iload_n 1, 0, 1, 0, 0, []), (55, 3, .invokevirtual 132, 0, 6, 2, 1, []), (58, 1, .ireturn, 0, 0, 0, 0, [])]
set_option maxRecDepth 100000 in
theorem ck_4 : (cd_4.all (okCE 0 3 prog_1_method_3_code)) = true := by decide +kernel
/-- TradeTests.isUnder -/
def cd_5 : List CE := [(0, 1, .iload_n 0, 0, 0, 0, 0, []), (1, 1, .iload_n 1, 0, 1, 0, 0, []), (2, 3, .if_icmp .eq 17, 0, 19, 0, 0, []), (5, 1, .iload_n 1, 0, 1, 0, 0, []), (6, 3, .ifCond .eq 13, 0, 19, 0, 0, []), (9, 1, .iload_n 1, 0, 1, 0, 0, []), (10, 1, .iconst 1, 1, 0, 0, 0, []), (11, 3, .if_icmp .ne 12, 0, 23, 0, 0, []), (14, 1, .iload_n 0, 0, 0, 0, 0, []), (15, 1, .iconst 2, 2, 0, 0, 0, []), (16, 3, .if_icmp .ne 7, 0, 23, 0, 0, []), (19, 1, .iconst 1, 1, 0, 0, 0, []), (20, 3, .goto 4, 0, 24, 0, 0, []), (23, 1, .iconst 0, 0, 0, 0, 0, []), (24, 1, .ireturn, 0, 0, 0, 0, [])]
set_option maxRecDepth 100000 in
theorem ck_5 : (cd_5.all (okCE 0 2 prog_1_method_42_code)) = true := by decide +kernel
/-- TradeTests$Vehicles.dueDays -/
def cd_6 : List CE := [(0, 3, .getstatic 25, 0, 0, 0, 0, []), (3, 1, .aload_n 0, 0, 0, 0, 0, []), (4, 3, .getfield 9, 0, 1, 0, 0, []), (7, 1, .iload_n 1, 0, 1, 0, 0, []), (8, 1, .iaload, 0, 0, 0, 0, []), (9, 1, .iaload, 0, 0, 0, 0, []), (10, 1, .ireturn, 0, 0, 0, 0, [])]
set_option maxRecDepth 100000 in
theorem ck_6 : (cd_6.all (okCE 1 2 prog_12_method_3_code)) = true := by decide +kernel
/-- TradeTests.garage -/
def cd_7 : List CE := [(0, 1, .iload_n 1, 0, 1, 0, 0, []), (1, 3, .sipush 1440, 1440, 0, 0, 0, []), (4, 3, .invokestatic 111, 0, 1, 2, 0, []), (7, 3, .ifCond .eq 15, 0, 22, 0, 0, []), (10, 1, .iload_n 2, 0, 2, 0, 0, []), (11, 1, .iload_n 1, 0, 1, 0, 0, []), (12, 3, .if_icmp .le 10, 0, 22, 0, 0, []), (15, 1, .iload_n 2, 0, 2, 0, 0, []), (16, 3, .sipush 1440, 1440, 0, 0, 0, []), (19, 3, .if_icmp .le 9, 0, 28, 0, 0, []), (22, 1, .aload_n 0, 0, 0, 0, 0, []), (23, 1, .iconst 1, 1, 0, 0, 0, []), (24, 3, .invokevirtual 115, 0, 2, 2, 0, []), (27, 1, .ireturn, 0, 0, 0, 0, []), (28, 1, .aload_n 0, 0, 0, 0, 0, []), (29, 3, .getfield 19, 0, 0, 1, 132, []), (32, 3, .getfield 135, 0, 2, 2, 15, []), (35, 2, .bipush 6, 6, 0, 0, 0, []), (37, 3, .if_icmp .lt 9, 0, 46, 0, 0, []), (40, 1, .aload_n 0, 0, 0, 0, 0, []), (41, 1, .iconst 4, 4, 0, 0, 0, []), (42, 3, .invokevirtual 115, 0, 2, 2, 0, []), (45, 1, .ireturn, 0, 0, 0, 0, []), (46, 1, .aload_n 0, 0, 0, 0, 0, []), (47, 3, .getfield 19, 0, 0, 1, 132, []), (50, 1, .iload_n 1, 0, 1, 0, 0, []), (51, 1, .iload_n 2, 0, 2, 0, 0, []), (52, 3, .invokevirtual 138, 0, 8, 3, 2, []), (55, 1, .ireturn, 0, 0, 0, 0, [])]
set_option maxRecDepth 100000 in
theorem ck_7 : (cd_7.all (okCE 0 3 prog_1_method_4_code)) = true := by decide +kernel
/-- TradeTests$Trade.addGarage -/
def cd_8 : List CE := [(0, 1, .aload_n 0, 0, 0, 0, 0, []), (1, 3, .getfield 9, 0, 2, 0, 10, []), (4, 1, .aload_n 0, 0, 0, 0, 0, []), (5, 3, .getfield 30, 0, 2, 2, 14, []), (8, 1, .iload_n 1, 0, 1, 0, 0, []), (9, 1, .iastore, 0, 0, 0, 0, []), (10, 1, .aload_n 0, 0, 0, 0, 0, []), (11, 3, .getfield 15, 0, 2, 1, 12, []), (14, 1, .aload_n 0, 0, 0, 0, 0, []), (15, 3, .getfield 30, 0, 2, 2, 14, []), (18, 1, .iload_n 2, 0, 2, 0, 0, []), (19, 1, .iastore, 0, 0, 0, 0, []), (20, 1, .aload_n 0, 0, 0, 0, 0, []), (21, 1, .dup, 0, 0, 0, 0, []), (22, 3, .getfield 30, 0, 2, 2, 14, []), (25, 1, .iconst 1, 1, 0, 0, 0, []), (26, 1, .iadd, 0, 0, 0, 0, []), (27, 3, .putfield 30, 0, 2, 2, 14, []), (30, 1, .aload_n 0, 0, 0, 0, 0, []), (31, 3, .getfield 30, 0, 2, 2, 14, []), (34, 1, .iconst 1, 1, 0, 0, 0, []), (35, 1, .isub, 0, 0, 0, 0, []), (36, 1, .ireturn, 0, 0, 0, 0, [])]
set_option maxRecDepth 100000 in
theorem ck_8 : (cd_8.all (okCE 2 3 prog_11_method_2_code)) = true := by decide +kernel
/-- TradeTests.tester -/
def cd_9 : List CE := [(0, 1, .iload_n 1, 0, 1, 0, 0, []), (1, 1, .aload_n 0, 0, 0, 0, 0, []), (2, 3, .getfield 19, 0, 0, 1, 132, []), (5, 3, .getfield 135, 0, 2, 2, 15, []), (8, 3, .invokestatic 111, 0, 1, 2, 0, []), (11, 3, .ifCond .ne 9, 0, 20, 0, 0, []), (14, 1, .aload_n 0, 0, 0, 0, 0, []), (15, 1, .iconst 1, 1, 0, 0, 0, []), (16, 3, .invokevirtual 115, 0, 2, 2, 0, []), (19, 1, .ireturn, 0, 0, 0, 0, []), (20, 1, .aload_n 0, 0, 0, 0, 0, []), (21, 3, .getfield 19, 0, 0, 1, 132, []), (24, 3, .getfield 142, 0, 2, 4, 19, []), (27, 2, .bipush 8, 8, 0, 0, 0, []), (29, 3, .if_icmp .lt 9, 0, 38, 0, 0, []), (32, 1, .aload_n 0, 0, 0, 0, 0, []), (33, 1, .iconst 4, 4, 0, 0, 0, []), (34, 3, .invokevirtual 115, 0, 2, 2, 0, []), (37, 1, .ireturn, 0, 0, 0, 0, []), (38, 1, .aload_n 0, 0, 0, 0, 0, []), (39, 3, .getfield 19, 0, 0, 1, 132, []), (42, 1, .iload_n 1, 0, 1, 0, 0, []), (43, 3, .invokevirtual 145, 0, 10, 2, 2, []), (46, 1, .ireturn, 0, 0, 0, 0, [])]
set_option maxRecDepth 100000 in
theorem ck_9 : (cd_9.all (okCE 0 2 prog_1_method_5_code)) = true := by decide +kernel
/-- TradeTests$Trade.addTester -/
def cd_10 : List CE := [(0, 1, .aload_n 0, 0, 0, 0, 0, []), (1, 3, .getfield 18, 0, 2, 3, 17, []), (4, 1, .aload_n 0, 0, 0, 0, 0, []), (5, 3, .getfield 34, 0, 2, 4, 18, []), (8, 1, .iload_n 1, 0, 1, 0, 0, []), (9, 1, .iastore, 0, 0, 0, 0, []), (10, 1, .aload_n 0, 0, 0, 0, 0, []), (11, 1, .dup, 0, 0, 0, 0, []), (12, 3, .getfield 34, 0, 2, 4, 18, []), (15, 1, .iconst 1, 1, 0, 0, 0, []), (16, 1, .iadd, 0, 0, 0, 0, []), (17, 3, .putfield 34, 0, 2, 4, 18, []), (20, 1, .aload_n 0, 0, 0, 0, 0, []), (21, 3, .getfield 34, 0, 2, 4, 18, []), (24, 1, .iconst 1, 1, 0, 0, 0, []), (25, 1, .isub, 0, 0, 0, 0, []), (26, 1, .ireturn, 0, 0, 0, 0, [])]
set_option maxRecDepth 100000 in
theorem ck_10 : (cd_10.all (okCE 2 2 prog_11_method_3_code)) = true := by decide +kernel
/-- TradeTests.move -/
def cd_11 : List CE := [(0, 1, .iload_n 1, 0, 1, 0, 0, []), (1, 1, .aload_n 0, 0, 0, 0, 0, []), (2, 3, .getfield 19, 0, 0, 1, 132, []), (5, 3, .getfield 142, 0, 2, 4, 19, []), (8, 3, .invokestatic 111, 0, 1, 2, 0, []), (11, 3, .ifCond .eq 27, 0, 38, 0, 0, []), (14, 1, .iload_n 2, 0, 2, 0, 0, []), (15, 1, .aload_n 0, 0, 0, 0, 0, []), (16, 3, .getfield 19, 0, 0, 1, 132, []), (19, 3, .getfield 135, 0, 2, 2, 15, []), (22, 3, .invokestatic 111, 0, 1, 2, 0, []), (25, 3, .ifCond .eq 13, 0, 38, 0, 0, []), (28, 1, .iload_n 3, 0, 3, 0, 0, []), (29, 3, .sipush 10000, 10000, 0, 0, 0, []), (32, 3, .invokestatic 111, 0, 1, 2, 0, []), (35, 3, .ifCond .ne 9, 0, 44, 0, 0, []), (38, 1, .aload_n 0, 0, 0, 0, 0, []), (39, 1, .iconst 1, 1, 0, 0, 0, []), (40, 3, .invokevirtual 115, 0, 2, 2, 0, []), (43, 1, .ireturn, 0, 0, 0, 0, []), (44, 1, .iload_n 3, 0, 3, 0, 0, []), (45, 1, .aload_n 0, 0, 0, 0, 0, []), (46, 3, .getfield 19, 0, 0, 1, 132, []), (49, 1, .iload_n 1, 0, 1, 0, 0, []), (50, 3, .invokevirtual 148, 0, 12, 2, 2, []), (53, 3, .if_icmp .ge 9, 0, 62, 0, 0, []), (56, 1, .aload_n 0, 0, 0, 0, 0, []), (57, 1, .iconst 1, 1, 0, 0, 0, []), (58, 3, .invokevirtual 115, 0, 2, 2, 0, []), (61, 1, .ireturn, 0, 0, 0, 0, []), (62, 1, .aload_n 0, 0, 0, 0, 0, []), (63, 3, .getfield 19, 0, 0, 1, 132, []), (66, 3, .getfield 151, 0, 2, 8, 24, []), (69, 2, .bipush 30, 30, 0, 0, 0, []), (71, 3, .if_icmp .lt 9, 0, 80, 0, 0, []), (74, 1, .aload_n 0, 0, 0, 0, 0, []), (75, 1, .iconst 4, 4, 0, 0, 0, []), (76, 3, .invokevirtual 115, 0, 2, 2, 0, []), (79, 1, .ireturn, 0, 0, 0, 0, []), (80, 1, .aload_n 0, 0, 0, 0, 0, []), (81, 3, .getfield 19, 0, 0, 1, 132, []), (84, 1, .iload_n 1, 0, 1, 0, 0, []), (85, 1, .iload_n 2, 0, 2, 0, 0, []), (86, 1, .iload_n 3, 0, 3, 0, 0, []), (87, 3, .invokevirtual 154, 0, 13, 4, 2, []), (90, 1, .aload_n 0, 0, 0, 0, 0, []), (91, 3, .getfield 19, 0, 0, 1, 132, []), (94, 1, .iload_n 1, 0, 1, 0, 0, []), (95, 1, .iload_n 3, 0, 3, 0, 0, []), (96, 1, .iconst 1, 1, 0, 0, 0, []), (97, 1, .isub, 0, 0, 0, 0, []), (98, 3, .invokevirtual 158, 0, 14, 3, 2, []), (101, 1, .ireturn, 0, 0, 0, 0, [])]
set_option maxRecDepth 100000 in
theorem ck_11 : (cd_11.all (okCE 0 4 prog_1_method_6_code)) = true := by decide +kernel
/-- TradeTests$Trade.lastMoveDay -/
def cd_12 : List CE := [(0, 1, .iconst 0, 0, 0, 0, 0, []), (1, 1, .istore_n 2, 0, 2, 0, 0, []), (2, 1, .iconst 0, 0, 0, 0, 0, []), (3, 1, .istore_n 3, 0, 3, 0, 0, []), (4, 1, .iload_n 3, 0, 3, 0, 0, []), (5, 1, .aload_n 0, 0, 0, 0, 0, []), (6, 3, .getfield 37, 0, 2, 8, 23, []), (9, 3, .if_icmp .ge 26, 0, 35, 0, 0, []), (12, 1, .aload_n 0, 0, 0, 0, 0, []), (13, 3, .getfield 21, 0, 2, 5, 20, []), (16, 1, .iload_n 3, 0, 3, 0, 0, []), (17, 1, .iaload, 0, 0, 0, 0, []), (18, 1, .iload_n 1, 0, 1, 0, 0, []), (19, 3, .if_icmp .ne 10, 0, 29, 0, 0, []), (22, 1, .aload_n 0, 0, 0, 0, 0, []), (23, 3, .getfield 27, 0, 2, 7, 22, []), (26, 1, .iload_n 3, 0, 3, 0, 0, []), (27, 1, .iaload, 0, 0, 0, 0, []), (28, 1, .istore_n 2, 0, 2, 0, 0, []), (29, 3, .iinc 3 1, 1, 3, 0, 0, []), (32, 3, .goto (-28), 0, 4, 0, 0, []), (35, 1, .iload_n 2, 0, 2, 0, 0, []), (36, 1, .ireturn, 0, 0, 0, 0, [])]
set_option maxRecDepth 100000 in
theorem ck_12 : (cd_12.all (okCE 2 4 prog_11_method_5_code)) = true := by decide +kernel
/-- TradeTests$Trade.addMove -/
def cd_13 : List CE := [(0, 1, .aload_n 0, 0, 0, 0, 0, []), (1, 3, .getfield 21, 0, 2, 5, 20, []), (4, 1, .aload_n 0, 0, 0, 0, 0, []), (5, 3, .getfield 37, 0, 2, 8, 23, []), (8, 1, .iload_n 1, 0, 1, 0, 0, []), (9, 1, .iastore, 0, 0, 0, 0, []), (10, 1, .aload_n 0, 0, 0, 0, 0, []), (11, 3, .getfield 24, 0, 2, 6, 21, []), (14, 1, .aload_n 0, 0, 0, 0, 0, []), (15, 3, .getfield 37, 0, 2, 8, 23, []), (18, 1, .iload_n 2, 0, 2, 0, 0, []), (19, 1, .iastore, 0, 0, 0, 0, []), (20, 1, .aload_n 0, 0, 0, 0, 0, []), (21, 3, .getfield 27, 0, 2, 7, 22, []), (24, 1, .aload_n 0, 0, 0, 0, 0, []), (25, 3, .getfield 37, 0, 2, 8, 23, []), (28, 1, .iload_n 3, 0, 3, 0, 0, []), (29, 1, .iastore, 0, 0, 0, 0, []), (30, 1, .aload_n 0, 0, 0, 0, 0, []), (31, 1, .dup, 0, 0, 0, 0, []), (32, 3, .getfield 37, 0, 2, 8, 23, []), (35, 1, .iconst 1, 1, 0, 0, 0, []), (36, 1, .iadd, 0, 0, 0, 0, []), (37, 3, .putfield 37, 0, 2, 8, 23, []), (40, 1, .return_, 0, 0, 0, 0, [])]
set_option maxRecDepth 100000 in
theorem ck_13 : (cd_13.all (okCE 2 4 prog_11_method_4_code)) = true := by decide +kernel
/-- TradeTests$Trade.garageOn -/
def cd_14 : List CE := [(0, 1, .aload_n 0, 0, 0, 0, 0, []), (1, 3, .getfield 18, 0, 2, 3, 17, []), (4, 1, .iload_n 1, 0, 1, 0, 0, []), (5, 1, .iaload, 0, 0, 0, 0, []), (6, 1, .istore_n 3, 0, 3, 0, 0, []), (7, 1, .iconst 0, 0, 0, 0, 0, []), (8, 2, .istore 4, 0, 4, 0, 0, []), (10, 2, .iload 4, 0, 4, 0, 0, []), (12, 1, .aload_n 0, 0, 0, 0, 0, []), (13, 3, .getfield 37, 0, 2, 8, 23, []), (16, 3, .if_icmp .ge 39, 0, 55, 0, 0, []), (19, 1, .aload_n 0, 0, 0, 0, 0, []), (20, 3, .getfield 21, 0, 2, 5, 20, []), (23, 2, .iload 4, 0, 4, 0, 0, []), (25, 1, .iaload, 0, 0, 0, 0, []), (26, 1, .iload_n 1, 0, 1, 0, 0, []), (27, 3, .if_icmp .ne 22, 0, 49, 0, 0, []), (30, 1, .aload_n 0, 0, 0, 0, 0, []), (31, 3, .getfield 27, 0, 2, 7, 22, []), (34, 2, .iload 4, 0, 4, 0, 0, []), (36, 1, .iaload, 0, 0, 0, 0, []), (37, 1, .iload_n 2, 0, 2, 0, 0, []), (38, 3, .if_icmp .gt 11, 0, 49, 0, 0, []), (41, 1, .aload_n 0, 0, 0, 0, 0, []), (42, 3, .getfield 24, 0, 2, 6, 21, []), (45, 2, .iload 4, 0, 4, 0, 0, []), (47, 1, .iaload, 0, 0, 0, 0, []), (48, 1, .istore_n 3, 0, 3, 0, 0, []), (49, 3, .iinc 4 1, 1, 4, 0, 0, []), (52, 3, .goto (-42), 0, 10, 0, 0, []), (55, 1, .iload_n 3, 0, 3, 0, 0, []), (56, 1, .ireturn, 0, 0, 0, 0, [])]
set_option maxRecDepth 100000 in
theorem ck_14 : (cd_14.all (okCE 2 5 prog_11_method_6_code)) = true := by decide +kernel
/-- TradeTests.at -/
def cd_15 : List CE := [(0, 1, .iload_n 1, 0, 1, 0, 0, []), (1, 1, .aload_n 0, 0, 0, 0, 0, []), (2, 3, .getfield 19, 0, 0, 1, 132, []), (5, 3, .getfield 142, 0, 2, 4, 19, []), (8, 3, .invokestatic 111, 0, 1, 2, 0, []), (11, 3, .ifCond .eq 13, 0, 24, 0, 0, []), (14, 1, .iload_n 2, 0, 2, 0, 0, []), (15, 3, .sipush 10000, 10000, 0, 0, 0, []), (18, 3, .invokestatic 111, 0, 1, 2, 0, []), (21, 3, .ifCond .ne 9, 0, 30, 0, 0, []), (24, 1, .aload_n 0, 0, 0, 0, 0, []), (25, 1, .iconst 1, 1, 0, 0, 0, []), (26, 3, .invokevirtual 115, 0, 2, 2, 0, []), (29, 1, .ireturn, 0, 0, 0, 0, []), (30, 1, .aload_n 0, 0, 0, 0, 0, []), (31, 3, .getfield 19, 0, 0, 1, 132, []), (34, 1, .iload_n 1, 0, 1, 0, 0, []), (35, 1, .iload_n 2, 0, 2, 0, 0, []), (36, 3, .invokevirtual 158, 0, 14, 3, 2, []), (39, 1, .ireturn, 0, 0, 0, 0, [])]
set_option maxRecDepth 100000 in
theorem ck_15 : (cd_15.all (okCE 0 3 prog_1_method_7_code)) = true := by decide +kernel
/-- TradeTests.test -/
def cd_16 : List CE := [(0, 1, .aload_n 0, 0, 0, 0, 0, []), (1, 1, .iload_n 1, 0, 1, 0, 0, []), (2, 3, .invokevirtual 161, 0, 17, 2, 0, []), (5, 3, .ifCond .eq 20, 0, 25, 0, 0, []), (8, 1, .aload_n 0, 0, 0, 0, 0, []), (9, 1, .iload_n 1, 0, 1, 0, 0, []), (10, 1, .iload_n 2, 0, 2, 0, 0, []), (11, 3, .invokevirtual 165, 0, 18, 3, 0, []), (14, 3, .ifCond .eq 11, 0, 25, 0, 0, []), (17, 1, .iload_n 2, 0, 2, 0, 0, []), (18, 1, .iload_n 3, 0, 3, 0, 0, []), (19, 3, .invokestatic 168, 0, 20, 2, 0, []), (22, 3, .ifCond .ne 9, 0, 31, 0, 0, []), (25, 1, .aload_n 0, 0, 0, 0, 0, []), (26, 1, .iconst 1, 1, 0, 0, 0, []), (27, 3, .invokevirtual 115, 0, 2, 2, 0, []), (30, 1, .ireturn, 0, 0, 0, 0, []), (31, 1, .aload_n 0, 0, 0, 0, 0, []), (32, 1, .iload_n 1, 0, 1, 0, 0, []), (33, 2, .iload 4, 0, 4, 0, 0, []), (35, 3, .invokevirtual 171, 0, 21, 3, 0, []), (38, 3, .ifCond .eq 13, 0, 51, 0, 0, []), (41, 2, .iload 5, 0, 5, 0, 0, []), (43, 2, .ldc 174, 1000000, 0, 0, 0, []), (45, 3, .invokestatic 111, 0, 1, 2, 0, []), (48, 3, .ifCond .ne 9, 0, 57, 0, 0, []), (51, 1, .aload_n 0, 0, 0, 0, 0, []), (52, 1, .iconst 1, 1, 0, 0, 0, []), (53, 3, .invokevirtual 115, 0, 2, 2, 0, []), (56, 1, .ireturn, 0, 0, 0, 0, []), (57, 1, .aload_n 0, 0, 0, 0, 0, []), (58, 3, .getfield 26, 0, 0, 2, 133, []), (61, 3, .getfield 175, 0, 3, 14, 74, []), (64, 2, .bipush 80, 80, 0, 0, 0, []), (66, 3, .if_icmp .lt 9, 0, 75, 0, 0, []), (69, 1, .aload_n 0, 0, 0, 0, 0, []), (70, 1, .iconst 4, 4, 0, 0, 0, []), (71, 3, .invokevirtual 115, 0, 2, 2, 0, []), (74, 1, .ireturn, 0, 0, 0, 0, []), (75, 1, .aload_n 0, 0, 0, 0, 0, []), (76, 3, .getfield 26, 0, 0, 2, 133, []), (79, 1, .iload_n 1, 0, 1, 0, 0, []), (80, 1, .iload_n 2, 0, 2, 0, 0, []), (81, 1, .iload_n 3, 0, 3, 0, 0, []), (82, 2, .iload 4, 0, 4, 0, 0, []), (84, 2, .iload 5, 0, 5, 0, 0, []), (86, 3, .invokevirtual 176, 0, 22, 6, 3, []), (89, 1, .ireturn, 0, 0, 0, 0, [])]
set_option maxRecDepth 100000 in
theorem ck_16 : (cd_16.all (okCE 0 6 prog_1_method_8_code)) = true := by decide +kernel
/-- TradeTests.isWho -/
def cd_17 : List CE := [(0, 1, .iload_n 1, 0, 1, 0, 0, []), (1, 3, .ifCond .lt 35, 0, 36, 0, 0, []), (4, 1, .iload_n 1, 0, 1, 0, 0, []), (5, 2, .bipush 100, 100, 0, 0, 0, []), (7, 1, .idiv, 0, 0, 0, 0, []), (8, 1, .aload_n 0, 0, 0, 0, 0, []), (9, 3, .getfield 10, 0, 0, 0, 131, []), (12, 3, .getfield 119, 0, 1, 3, 9, []), (15, 3, .if_icmp .ge 21, 0, 36, 0, 0, []), (18, 1, .iload_n 1, 0, 1, 0, 0, []), (19, 2, .bipush 100, 100, 0, 0, 0, []), (21, 1, .irem, 0, 0, 0, 0, []), (22, 1, .aload_n 0, 0, 0, 0, 0, []), (23, 3, .getfield 19, 0, 0, 1, 132, []), (26, 3, .getfield 142, 0, 2, 4, 19, []), (29, 3, .if_icmp .ge 7, 0, 36, 0, 0, []), (32, 1, .iconst 1, 1, 0, 0, 0, []), (33, 3, .goto 4, 0, 37, 0, 0, []), (36, 1, .iconst 0, 0, 0, 0, 0, []), (37, 1, .ireturn, 0, 0, 0, 0, [])]
set_option maxRecDepth 100000 in
theorem ck_17 : (cd_17.all (okCE 0 2 prog_1_method_37_code)) = true := by decide +kernel
/-- TradeTests.isWhen -/
def cd_18 : List CE := [(0, 1, .iload_n 2, 0, 2, 0, 0, []), (1, 3, .ifCond .lt 14, 0, 15, 0, 0, []), (4, 1, .iload_n 2, 0, 2, 0, 0, []), (5, 3, .sipush 10000, 10000, 0, 0, 0, []), (8, 1, .idiv, 0, 0, 0, 0, []), (9, 3, .sipush 1440, 1440, 0, 0, 0, []), (12, 3, .if_icmp .lt 5, 0, 17, 0, 0, []), (15, 1, .iconst 0, 0, 0, 0, 0, []), (16, 1, .ireturn, 0, 0, 0, 0, []), (17, 1, .iload_n 2, 0, 2, 0, 0, []), (18, 3, .sipush 10000, 10000, 0, 0, 0, []), (21, 1, .irem, 0, 0, 0, 0, []), (22, 1, .istore_n 3, 0, 3, 0, 0, []), (23, 1, .iload_n 3, 0, 3, 0, 0, []), (24, 1, .aload_n 0, 0, 0, 0, 0, []), (25, 3, .getfield 26, 0, 0, 2, 133, []), (28, 3, .invokevirtual 304, 0, 19, 1, 3, []), (31, 3, .if_icmp .lt 23, 0, 54, 0, 0, []), (34, 1, .iload_n 3, 0, 3, 0, 0, []), (35, 1, .aload_n 0, 0, 0, 0, 0, []), (36, 3, .getfield 10, 0, 0, 0, 131, []), (39, 3, .getfield 307, 0, 1, 2, 7, []), (42, 1, .iload_n 1, 0, 1, 0, 0, []), (43, 2, .bipush 100, 100, 0, 0, 0, []), (45, 1, .idiv, 0, 0, 0, 0, []), (46, 1, .iaload, 0, 0, 0, 0, []), (47, 3, .if_icmp .lt 7, 0, 54, 0, 0, []), (50, 1, .iconst 1, 1, 0, 0, 0, []), (51, 3, .goto 4, 0, 55, 0, 0, []), (54, 1, .iconst 0, 0, 0, 0, 0, []), (55, 1, .ireturn, 0, 0, 0, 0, [])]
set_option maxRecDepth 100000 in
theorem ck_18 : (cd_18.all (okCE 0 4 prog_1_method_38_code)) = true := by decide +kernel
/-- TradeTests$Tests.lastDay -/
def cd_19 : List CE := [(0, 1, .aload_n 0, 0, 0, 0, 0, []), (1, 3, .getfield 54, 0, 3, 14, 67, []), (4, 3, .ifCond .le 17, 0, 21, 0, 0, []), (7, 1, .aload_n 0, 0, 0, 0, 0, []), (8, 3, .getfield 18, 0, 3, 2, 35, []), (11, 1, .aload_n 0, 0, 0, 0, 0, []), (12, 3, .getfield 54, 0, 3, 14, 67, []), (15, 1, .iconst 1, 1, 0, 0, 0, []), (16, 1, .isub, 0, 0, 0, 0, []), (17, 1, .iaload, 0, 0, 0, 0, []), (18, 3, .goto 4, 0, 22, 0, 0, []), (21, 1, .iconst 0, 0, 0, 0, 0, []), (22, 1, .ireturn, 0, 0, 0, 0, [])]
set_option maxRecDepth 100000 in
theorem ck_19 : (cd_19.all (okCE 3 1 prog_9_method_3_code)) = true := by decide +kernel
/-- TradeTests.isHow -/
def cd_20 : List CE := [(0, 1, .iload_n 1, 0, 1, 0, 0, []), (1, 3, .ifCond .lt 14, 0, 15, 0, 0, []), (4, 1, .iload_n 1, 0, 1, 0, 0, []), (5, 3, .sipush 1000, 1000, 0, 0, 0, []), (8, 1, .irem, 0, 0, 0, 0, []), (9, 3, .sipush 512, 512, 0, 0, 0, []), (12, 3, .if_icmp .lt 5, 0, 17, 0, 0, []), (15, 1, .iconst 0, 0, 0, 0, 0, []), (16, 1, .ireturn, 0, 0, 0, 0, []), (17, 1, .iload_n 1, 0, 1, 0, 0, []), (18, 3, .sipush 1000, 1000, 0, 0, 0, []), (21, 1, .idiv, 0, 0, 0, 0, []), (22, 1, .istore_n 2, 0, 2, 0, 0, []), (23, 1, .iload_n 2, 0, 2, 0, 0, []), (24, 1, .iconst 1, 1, 0, 0, 0, []), (25, 3, .if_icmp .lt 27, 0, 52, 0, 0, []), (28, 1, .iload_n 2, 0, 2, 0, 0, []), (29, 3, .sipush 240, 240, 0, 0, 0, []), (32, 3, .if_icmp .gt 20, 0, 52, 0, 0, []), (35, 1, .iload_n 0, 0, 0, 0, 0, []), (36, 3, .sipush 10000, 10000, 0, 0, 0, []), (39, 1, .idiv, 0, 0, 0, 0, []), (40, 1, .iload_n 2, 0, 2, 0, 0, []), (41, 1, .iadd, 0, 0, 0, 0, []), (42, 3, .sipush 1440, 1440, 0, 0, 0, []), (45, 3, .if_icmp .gt 7, 0, 52, 0, 0, []), (48, 1, .iconst 1, 1, 0, 0, 0, []), (49, 3, .goto 4, 0, 53, 0, 0, []), (52, 1, .iconst 0, 0, 0, 0, 0, []), (53, 1, .ireturn, 0, 0, 0, 0, [])]
set_option maxRecDepth 100000 in
theorem ck_20 : (cd_20.all (okCE 0 3 prog_1_method_39_code)) = true := by decide +kernel
/-- TradeTests.isMiles -/
def cd_21 : List CE := [(0, 1, .aload_n 0, 0, 0, 0, 0, []), (1, 3, .getfield 10, 0, 0, 0, 131, []), (4, 3, .getfield 126, 0, 1, 0, 2, []), (7, 1, .iload_n 1, 0, 1, 0, 0, []), (8, 2, .bipush 100, 100, 0, 0, 0, []), (10, 1, .idiv, 0, 0, 0, 0, []), (11, 1, .iaload, 0, 0, 0, 0, []), (12, 1, .iconst 3, 3, 0, 0, 0, []), (13, 3, .if_icmp .ne 15, 0, 28, 0, 0, []), (16, 1, .iload_n 2, 0, 2, 0, 0, []), (17, 3, .ifCond .ne 7, 0, 24, 0, 0, []), (20, 1, .iconst 1, 1, 0, 0, 0, []), (21, 3, .goto 13, 0, 34, 0, 0, []), (24, 1, .iconst 0, 0, 0, 0, 0, []), (25, 3, .goto 9, 0, 34, 0, 0, []), (28, 1, .iload_n 2, 0, 2, 0, 0, []), (29, 2, .ldc 174, 1000000, 0, 0, 0, []), (31, 3, .invokestatic 111, 0, 1, 2, 0, []), (34, 1, .ireturn, 0, 0, 0, 0, [])]
set_option maxRecDepth 100000 in
theorem ck_21 : (cd_21.all (okCE 0 3 prog_1_method_40_code)) = true := by decide +kernel
/-- TradeTests$Tests.add -/
def cd_22 : List CE := [(0, 1, .aload_n 0, 0, 0, 0, 0, []), (1, 3, .getfield 9, 0, 3, 0, 25, []), (4, 1, .aload_n 0, 0, 0, 0, 0, []), (5, 3, .getfield 54, 0, 3, 14, 67, []), (8, 1, .iload_n 1, 0, 1, 0, 0, []), (9, 2, .bipush 100, 100, 0, 0, 0, []), (11, 1, .idiv, 0, 0, 0, 0, []), (12, 1, .iastore, 0, 0, 0, 0, []), (13, 1, .aload_n 0, 0, 0, 0, 0, []), (14, 3, .getfield 15, 0, 3, 1, 31, []), (17, 1, .aload_n 0, 0, 0, 0, 0, []), (18, 3, .getfield 54, 0, 3, 14, 67, []), (21, 1, .iload_n 1, 0, 1, 0, 0, []), (22, 2, .bipush 100, 100, 0, 0, 0, []), (24, 1, .irem, 0, 0, 0, 0, []), (25, 1, .iastore, 0, 0, 0, 0, []), (26, 1, .aload_n 0, 0, 0, 0, 0, []), (27, 3, .getfield 18, 0, 3, 2, 35, []), (30, 1, .aload_n 0, 0, 0, 0, 0, []), (31, 3, .getfield 54, 0, 3, 14, 67, []), (34, 1, .iload_n 2, 0, 2, 0, 0, []), (35, 3, .sipush 10000, 10000, 0, 0, 0, []), (38, 1, .irem, 0, 0, 0, 0, []), (39, 1, .iastore, 0, 0, 0, 0, []), (40, 1, .aload_n 0, 0, 0, 0, 0, []), (41, 3, .getfield 21, 0, 3, 3, 42, []), (44, 1, .aload_n 0, 0, 0, 0, 0, []), (45, 3, .getfield 54, 0, 3, 14, 67, []), (48, 1, .iload_n 2, 0, 2, 0, 0, []), (49, 3, .sipush 10000, 10000, 0, 0, 0, []), (52, 1, .idiv, 0, 0, 0, 0, []), (53, 1, .iastore, 0, 0, 0, 0, []), (54, 1, .aload_n 0, 0, 0, 0, 0, []), (55, 3, .getfield 24, 0, 3, 4, 44, []), (58, 1, .aload_n 0, 0, 0, 0, 0, []), (59, 3, .getfield 54, 0, 3, 14, 67, []), (62, 1, .iload_n 3, 0, 3, 0, 0, []), (63, 3, .sipush 1000, 1000, 0, 0, 0, []), (66, 1, .idiv, 0, 0, 0, 0, []), (67, 1, .iastore, 0, 0, 0, 0, []), (68, 1, .aload_n 0, 0, 0, 0, 0, []), (69, 3, .getfield 27, 0, 3, 5, 46, []), (72, 1, .aload_n 0, 0, 0, 0, 0, []), (73, 3, .getfield 54, 0, 3, 14, 67, []), (76, 2, .iload 4, 0, 4, 0, 0, []), (78, 1, .iastore, 0, 0, 0, 0, []), (79, 1, .aload_n 0, 0, 0, 0, 0, []), (80, 3, .getfield 30, 0, 3, 6, 48, []), (83, 1, .aload_n 0, 0, 0, 0, 0, []), (84, 3, .getfield 54, 0, 3, 14, 67, []), (87, 2, .iload 5, 0, 5, 0, 0, []), (89, 3, .sipush 1000, 1000, 0, 0, 0, []), (92, 1, .idiv, 0, 0, 0, 0, []), (93, 1, .iastore, 0, 0, 0, 0, []), (94, 1, .aload_n 0, 0, 0, 0, 0, []), (95, 3, .getfield 33, 0, 3, 7, 51, []), (98, 1, .aload_n 0, 0, 0, 0, 0, []), (99, 3, .getfield 54, 0, 3, 14, 67, []), (102, 2, .iload 5, 0, 5, 0, 0, []), (104, 3, .sipush 1000, 1000, 0, 0, 0, []), (107, 1, .irem, 0, 0, 0, 0, []), (108, 1, .iastore, 0, 0, 0, 0, []), (109, 1, .aload_n 0, 0, 0, 0, 0, []), (110, 3, .getfield 36, 0, 3, 8, 54, []), (113, 1, .aload_n 0, 0, 0, 0, 0, []), (114, 3, .getfield 54, 0, 3, 14, 67, []), (117, 1, .iload_n 3, 0, 3, 0, 0, []), (118, 3, .sipush 1000, 1000, 0, 0, 0, []), (121, 1, .irem, 0, 0, 0, 0, []), (122, 3, .sipush 256, 256, 0, 0, 0, []), (125, 1, .irem, 0, 0, 0, 0, []), (126, 1, .iastore, 0, 0, 0, 0, []), (127, 1, .aload_n 0, 0, 0, 0, 0, []), (128, 3, .getfield 39, 0, 3, 9, 57, []), (131, 1, .aload_n 0, 0, 0, 0, 0, []), (132, 3, .getfield 54, 0, 3, 14, 67, []), (135, 1, .iload_n 3, 0, 3, 0, 0, []), (136, 3, .sipush 1000, 1000, 0, 0, 0, []), (139, 1, .irem, 0, 0, 0, 0, []), (140, 3, .sipush 256, 256, 0, 0, 0, []), (143, 1, .idiv, 0, 0, 0, 0, []), (144, 1, .iastore, 0, 0, 0, 0, []), (145, 1, .aload_n 0, 0, 0, 0, 0, []), (146, 1, .dup, 0, 0, 0, 0, []), (147, 3, .getfield 54, 0, 3, 14, 67, []), (150, 1, .iconst 1, 1, 0, 0, 0, []), (151, 1, .iadd, 0, 0, 0, 0, []), (152, 3, .putfield 54, 0, 3, 14, 67, []), (155, 1, .aload_n 0, 0, 0, 0, 0, []), (156, 3, .getfield 54, 0, 3, 14, 67, []), (159, 1, .iconst 1, 1, 0, 0, 0, []), (160, 1, .isub, 0, 0, 0, 0, []), (161, 1, .ireturn, 0, 0, 0, 0, [])]
set_option maxRecDepth 100000 in
theorem ck_22 : (cd_22.all (okCE 3 6 prog_9_method_2_code)) = true := by decide +kernel
/-- TradeTests.of -/
def cd_23 : List CE := [(0, 1, .iload_n 1, 0, 1, 0, 0, []), (1, 1, .aload_n 0, 0, 0, 0, 0, []), (2, 3, .getfield 26, 0, 0, 2, 133, []), (5, 3, .getfield 175, 0, 3, 14, 74, []), (8, 3, .invokestatic 111, 0, 1, 2, 0, []), (11, 3, .ifCond .eq 12, 0, 23, 0, 0, []), (14, 1, .iload_n 2, 0, 2, 0, 0, []), (15, 2, .bipush 11, 11, 0, 0, 0, []), (17, 3, .invokestatic 111, 0, 1, 2, 0, []), (20, 3, .ifCond .ne 9, 0, 29, 0, 0, []), (23, 1, .aload_n 0, 0, 0, 0, 0, []), (24, 1, .iconst 1, 1, 0, 0, 0, []), (25, 3, .invokevirtual 115, 0, 2, 2, 0, []), (28, 1, .ireturn, 0, 0, 0, 0, []), (29, 1, .iload_n 2, 0, 2, 0, 0, []), (30, 2, .bipush 10, 10, 0, 0, 0, []), (32, 3, .if_icmp .ne 18, 0, 50, 0, 0, []), (35, 1, .aload_n 0, 0, 0, 0, 0, []), (36, 3, .getfield 19, 0, 0, 1, 132, []), (39, 1, .aload_n 0, 0, 0, 0, 0, []), (40, 3, .getfield 26, 0, 0, 2, 133, []), (43, 1, .iload_n 1, 0, 1, 0, 0, []), (44, 3, .invokevirtual 179, 0, 24, 3, 2, []), (47, 3, .goto 12, 0, 59, 0, 0, []), (50, 1, .aload_n 0, 0, 0, 0, 0, []), (51, 3, .getfield 26, 0, 0, 2, 133, []), (54, 1, .iload_n 1, 0, 1, 0, 0, []), (55, 1, .iload_n 2, 0, 2, 0, 0, []), (56, 3, .invokevirtual 183, 0, 25, 3, 3, []), (59, 1, .ireturn, 0, 0, 0, 0, [])]
set_option maxRecDepth 100000 in
theorem ck_23 : (cd_23.all (okCE 0 3 prog_1_method_9_code)) = true := by decide +kernel
/-- TradeTests$Trade.garageOf -/
def cd_24 : List CE := [(0, 1, .aload_n 0, 0, 0, 0, 0, []), (1, 1, .aload_n 1, 0, 1, 0, 0, []), (2, 3, .getfield 40, 0, 3, 1, 33, []), (5, 1, .iload_n 2, 0, 2, 0, 0, []), (6, 1, .iaload, 0, 0, 0, 0, []), (7, 1, .aload_n 1, 0, 1, 0, 0, []), (8, 3, .getfield 45, 0, 3, 2, 41, []), (11, 1, .iload_n 2, 0, 2, 0, 0, []), (12, 1, .iaload, 0, 0, 0, 0, []), (13, 3, .invokevirtual 48, 0, 14, 3, 2, []), (16, 1, .ireturn, 0, 0, 0, 0, [])]
set_option maxRecDepth 100000 in
theorem ck_24 : (cd_24.all (okCE 2 3 prog_11_method_7_code)) = true := by decide +kernel
/-- TradeTests$Tests.detail -/
def cd_25 : List CE := [(0, 1, .iload_n 2, 0, 2, 0, 0, []), (1, 51, .tableswitch 114 0 8 #[51, 58, 65, 72, 79, 86, 93, 100, 107], 0, 115, 0, 0, [(0, 52), (1, 59), (2, 66), (3, 73), (4, 80), (5, 87), (6, 94), (7, 101), (8, 108)]), (52, 1, .aload_n 0, 0, 0, 0, 0, []), (53, 3, .getfield 9, 0, 3, 0, 25, []), (56, 1, .iload_n 1, 0, 1, 0, 0, []), (57, 1, .iaload, 0, 0, 0, 0, []), (58, 1, .ireturn, 0, 0, 0, 0, []), (59, 1, .aload_n 0, 0, 0, 0, 0, []), (60, 3, .getfield 15, 0, 3, 1, 31, []), (63, 1, .iload_n 1, 0, 1, 0, 0, []), (64, 1, .iaload, 0, 0, 0, 0, []), (65, 1, .ireturn, 0, 0, 0, 0, []), (66, 1, .aload_n 0, 0, 0, 0, 0, []), (67, 3, .getfield 18, 0, 3, 2, 35, []), (70, 1, .iload_n 1, 0, 1, 0, 0, []), (71, 1, .iaload, 0, 0, 0, 0, []), (72, 1, .ireturn, 0, 0, 0, 0, []), (73, 1, .aload_n 0, 0, 0, 0, 0, []), (74, 3, .getfield 21, 0, 3, 3, 42, []), (77, 1, .iload_n 1, 0, 1, 0, 0, []), (78, 1, .iaload, 0, 0, 0, 0, []), (79, 1, .ireturn, 0, 0, 0, 0, []), (80, 1, .aload_n 0, 0, 0, 0, 0, []), (81, 3, .getfield 24, 0, 3, 4, 44, []), (84, 1, .iload_n 1, 0, 1, 0, 0, []), (85, 1, .iaload, 0, 0, 0, 0, []), (86, 1, .ireturn, 0, 0, 0, 0, []), (87, 1, .aload_n 0, 0, 0, 0, 0, []), (88, 3, .getfield 27, 0, 3, 5, 46, []), (91, 1, .iload_n 1, 0, 1, 0, 0, []), (92, 1, .iaload, 0, 0, 0, 0, []), (93, 1, .ireturn, 0, 0, 0, 0, []), (94, 1, .aload_n 0, 0, 0, 0, 0, []), (95, 3, .getfield 30, 0, 3, 6, 48, []), (98, 1, .iload_n 1, 0, 1, 0, 0, []), (99, 1, .iaload, 0, 0, 0, 0, []), (100, 1, .ireturn, 0, 0, 0, 0, []), (101, 1, .aload_n 0, 0, 0, 0, 0, []), (102, 3, .getfield 33, 0, 3, 7, 51, []), (105, 1, .iload_n 1, 0, 1, 0, 0, []), (106, 1, .iaload, 0, 0, 0, 0, []), (107, 1, .ireturn, 0, 0, 0, 0, []), (108, 1, .aload_n 0, 0, 0, 0, 0, []), (109, 3, .getfield 36, 0, 3, 8, 54, []), (112, 1, .iload_n 1, 0, 1, 0, 0, []), (113, 1, .iaload, 0, 0, 0, 0, []), (114, 1, .ireturn, 0, 0, 0, 0, []), (115, 1, .aload_n 0, 0, 0, 0, 0, []), (116, 3, .getfield 39, 0, 3, 9, 57, []), (119, 1, .iload_n 1, 0, 1, 0, 0, []), (120, 1, .iaload, 0, 0, 0, 0, []), (121, 1, .ireturn, 0, 0, 0, 0, [])]
set_option maxRecDepth 100000 in
theorem ck_25 : (cd_25.all (okCE 3 3 prog_9_method_4_code)) = true := by decide +kernel
/-- TradeTests.feed -/
def cd_26 : List CE := [(0, 1, .iload_n 1, 0, 1, 0, 0, []), (1, 3, .sipush 256, 256, 0, 0, 0, []), (4, 3, .invokestatic 111, 0, 1, 2, 0, []), (7, 3, .ifCond .ne 9, 0, 16, 0, 0, []), (10, 1, .aload_n 0, 0, 0, 0, 0, []), (11, 1, .iconst 1, 1, 0, 0, 0, []), (12, 3, .invokevirtual 115, 0, 2, 2, 0, []), (15, 1, .ireturn, 0, 0, 0, 0, []), (16, 1, .aload_n 0, 0, 0, 0, 0, []), (17, 3, .getfield 33, 0, 0, 3, 134, []), (20, 3, .getfield 186, 0, 4, 1, 79, []), (23, 2, .bipush 60, 60, 0, 0, 0, []), (25, 3, .if_icmp .lt 9, 0, 34, 0, 0, []), (28, 1, .aload_n 0, 0, 0, 0, 0, []), (29, 1, .iconst 4, 4, 0, 0, 0, []), (30, 3, .invokevirtual 115, 0, 2, 2, 0, []), (33, 1, .ireturn, 0, 0, 0, 0, []), (34, 1, .aload_n 0, 0, 0, 0, 0, []), (35, 3, .getfield 33, 0, 0, 3, 134, []), (38, 1, .iload_n 1, 0, 1, 0, 0, []), (39, 3, .invokevirtual 189, 0, 27, 2, 4, []), (42, 1, .ireturn, 0, 0, 0, 0, [])]
set_option maxRecDepth 100000 in
theorem ck_26 : (cd_26.all (okCE 0 2 prog_1_method_10_code)) = true := by decide +kernel
/-- TradeTests$Texts.addByte -/
def cd_27 : List CE := [(0, 1, .aload_n 0, 0, 0, 0, 0, []), (1, 3, .getfield 9, 0, 4, 0, 77, []), (4, 1, .aload_n 0, 0, 0, 0, 0, []), (5, 3, .getfield 27, 0, 4, 1, 78, []), (8, 1, .iload_n 1, 0, 1, 0, 0, []), (9, 1, .iastore, 0, 0, 0, 0, []), (10, 1, .aload_n 0, 0, 0, 0, 0, []), (11, 1, .dup, 0, 0, 0, 0, []), (12, 3, .getfield 27, 0, 4, 1, 78, []), (15, 1, .iconst 1, 1, 0, 0, 0, []), (16, 1, .iadd, 0, 0, 0, 0, []), (17, 3, .putfield 27, 0, 4, 1, 78, []), (20, 1, .aload_n 0, 0, 0, 0, 0, []), (21, 3, .getfield 27, 0, 4, 1, 78, []), (24, 1, .ireturn, 0, 0, 0, 0, [])]
set_option maxRecDepth 100000 in
theorem ck_27 : (cd_27.all (okCE 4 2 prog_10_method_2_code)) = true := by decide +kernel
/-- TradeTests.text -/
def cd_28 : List CE := [(0, 1, .iload_n 1, 0, 1, 0, 0, []), (1, 3, .sipush 10000, 10000, 0, 0, 0, []), (4, 3, .invokestatic 111, 0, 1, 2, 0, []), (7, 3, .ifCond .ne 9, 0, 16, 0, 0, []), (10, 1, .aload_n 0, 0, 0, 0, 0, []), (11, 1, .iconst 1, 1, 0, 0, 0, []), (12, 3, .invokevirtual 115, 0, 2, 2, 0, []), (15, 1, .ireturn, 0, 0, 0, 0, []), (16, 1, .aload_n 0, 0, 0, 0, 0, []), (17, 3, .getfield 33, 0, 0, 3, 134, []), (20, 3, .getfield 192, 0, 4, 7, 90, []), (23, 2, .bipush 6, 6, 0, 0, 0, []), (25, 3, .if_icmp .lt 9, 0, 34, 0, 0, []), (28, 1, .aload_n 0, 0, 0, 0, 0, []), (29, 1, .iconst 4, 4, 0, 0, 0, []), (30, 3, .invokevirtual 115, 0, 2, 2, 0, []), (33, 1, .ireturn, 0, 0, 0, 0, []), (34, 1, .aload_n 0, 0, 0, 0, 0, []), (35, 3, .getfield 33, 0, 0, 3, 134, []), (38, 1, .iload_n 1, 0, 1, 0, 0, []), (39, 3, .invokevirtual 193, 0, 29, 2, 4, []), (42, 1, .istore_n 2, 0, 2, 0, 0, []), (43, 1, .iload_n 2, 0, 2, 0, 0, []), (44, 3, .ifCond .ge 13, 0, 57, 0, 0, []), (47, 1, .aload_n 0, 0, 0, 0, 0, []), (48, 3, .getfield 33, 0, 0, 3, 134, []), (51, 3, .getfield 192, 0, 4, 7, 90, []), (54, 3, .goto 7, 0, 61, 0, 0, []), (57, 2, .bipush (-10), (-10), 0, 0, 0, []), (59, 1, .iload_n 2, 0, 2, 0, 0, []), (60, 1, .isub, 0, 0, 0, 0, []), (61, 1, .ireturn, 0, 0, 0, 0, [])]
set_option maxRecDepth 100000 in
theorem ck_28 : (cd_28.all (okCE 0 3 prog_1_method_11_code)) = true := by decide +kernel
/-- TradeTests$Texts.takeTape -/
def cd_29 : List CE := [(0, 1, .aload_n 0, 0, 0, 0, 0, []), (1, 3, .invokevirtual 31, 0, 30, 1, 4, []), (4, 1, .aload_n 0, 0, 0, 0, 0, []), (5, 3, .invokevirtual 34, 0, 31, 1, 4, []), (8, 1, .istore_n 2, 0, 2, 0, 0, []), (9, 1, .aload_n 0, 0, 0, 0, 0, []), (10, 1, .iconst 0, 0, 0, 0, 0, []), (11, 3, .putfield 27, 0, 4, 1, 78, []), (14, 1, .iload_n 2, 0, 2, 0, 0, []), (15, 3, .ifCond .ne 8, 0, 23, 0, 0, []), (18, 1, .aload_n 0, 0, 0, 0, 0, []), (19, 3, .getfield 38, 0, 4, 2, 80, []), (22, 1, .ireturn, 0, 0, 0, 0, []), (23, 1, .aload_n 0, 0, 0, 0, 0, []), (24, 3, .getfield 15, 0, 4, 3, 81, []), (27, 1, .aload_n 0, 0, 0, 0, 0, []), (28, 3, .getfield 41, 0, 4, 7, 89, []), (31, 1, .iload_n 1, 0, 1, 0, 0, []), (32, 1, .iastore, 0, 0, 0, 0, []), (33, 1, .aload_n 0, 0, 0, 0, 0, []), (34, 1, .dup, 0, 0, 0, 0, []), (35, 3, .getfield 41, 0, 4, 7, 89, []), (38, 1, .iconst 1, 1, 0, 0, 0, []), (39, 1, .iadd, 0, 0, 0, 0, []), (40, 3, .putfield 41, 0, 4, 7, 89, []), (43, 1, .iconst (-1), (-1), 0, 0, 0, []), (44, 1, .ireturn, 0, 0, 0, 0, [])]
set_option maxRecDepth 100000 in
theorem ck_29 : (cd_29.all (okCE 4 3 prog_10_method_3_code)) = true := by decide +kernel
/-- TradeTests$Texts.clearNext -/
def cd_30 : List CE := [(0, 1, .aload_n 0, 0, 0, 0, 0, []), (1, 3, .getfield 18, 0, 4, 4, 82, []), (4, 1, .aload_n 0, 0, 0, 0, 0, []), (5, 3, .getfield 41, 0, 4, 7, 89, []), (8, 1, .iconst 0, 0, 0, 0, 0, []), (9, 1, .iastore, 0, 0, 0, 0, []), (10, 1, .aload_n 0, 0, 0, 0, 0, []), (11, 3, .getfield 21, 0, 4, 5, 85, []), (14, 1, .aload_n 0, 0, 0, 0, 0, []), (15, 3, .getfield 41, 0, 4, 7, 89, []), (18, 2, .bipush 100, 100, 0, 0, 0, []), (20, 1, .iastore, 0, 0, 0, 0, []), (21, 1, .iconst 0, 0, 0, 0, 0, []), (22, 1, .istore_n 1, 0, 1, 0, 0, []), (23, 1, .iload_n 1, 0, 1, 0, 0, []), (24, 1, .iconst 4, 4, 0, 0, 0, []), (25, 3, .if_icmp .ge 23, 0, 48, 0, 0, []), (28, 1, .aload_n 0, 0, 0, 0, 0, []), (29, 3, .getfield 24, 0, 4, 6, 88, []), (32, 1, .aload_n 0, 0, 0, 0, 0, []), (33, 3, .getfield 41, 0, 4, 7, 89, []), (36, 1, .iconst 4, 4, 0, 0, 0, []), (37, 1, .imul, 0, 0, 0, 0, []), (38, 1, .iload_n 1, 0, 1, 0, 0, []), (39, 1, .iadd, 0, 0, 0, 0, []), (40, 1, .iconst 0, 0, 0, 0, 0, []), (41, 1, .iastore, 0, 0, 0, 0, []), (42, 3, .iinc 1 1, 1, 1, 0, 0, []), (45, 3, .goto (-22), 0, 23, 0, 0, []), (48, 1, .return_, 0, 0, 0, 0, [])]
set_option maxRecDepth 100000 in
theorem ck_30 : (cd_30.all (okCE 4 2 prog_10_method_6_code)) = true := by decide +kernel
/-- TradeTests$Texts.readRows -/
def cd_31 : List CE := [(0, 1, .aload_n 0, 0, 0, 0, 0, []), (1, 1, .iconst 0, 0, 0, 0, 0, []), (2, 3, .putfield 38, 0, 4, 2, 80, []), (5, 1, .iconst 0, 0, 0, 0, 0, []), (6, 1, .istore_n 1, 0, 1, 0, 0, []), (7, 1, .iload_n 1, 0, 1, 0, 0, []), (8, 2, .bipush 60, 60, 0, 0, 0, []), (10, 3, .if_icmp .ge 29, 0, 39, 0, 0, []), (13, 1, .aload_n 0, 0, 0, 0, 0, []), (14, 3, .getfield 38, 0, 4, 2, 80, []), (17, 1, .aload_n 0, 0, 0, 0, 0, []), (18, 3, .getfield 27, 0, 4, 1, 78, []), (21, 3, .if_icmp .ge 18, 0, 39, 0, 0, []), (24, 1, .aload_n 0, 0, 0, 0, 0, []), (25, 3, .invokevirtual 44, 0, 32, 1, 4, []), (28, 3, .ifCond .ne 5, 0, 33, 0, 0, []), (31, 1, .iconst 0, 0, 0, 0, 0, []), (32, 1, .ireturn, 0, 0, 0, 0, []), (33, 3, .iinc 1 1, 1, 1, 0, 0, []), (36, 3, .goto (-29), 0, 7, 0, 0, []), (39, 1, .iconst 1, 1, 0, 0, 0, []), (40, 1, .ireturn, 0, 0, 0, 0, [])]
set_option maxRecDepth 100000 in
theorem ck_31 : (cd_31.all (okCE 4 2 prog_10_method_7_code)) = true := by decide +kernel
/-- TradeTests$Texts.readRow -/
def cd_32 : List CE := [(0, 1, .aload_n 0, 0, 0, 0, 0, []), (1, 3, .invokevirtual 47, 0, 33, 1, 4, []), (4, 1, .istore_n 1, 0, 1, 0, 0, []), (5, 1, .iload_n 1, 0, 1, 0, 0, []), (6, 2, .bipush 98, 98, 0, 0, 0, []), (8, 3, .if_icmp .eq 17, 0, 25, 0, 0, []), (11, 1, .iload_n 1, 0, 1, 0, 0, []), (12, 2, .bipush 100, 100, 0, 0, 0, []), (14, 3, .if_icmp .eq 11, 0, 25, 0, 0, []), (17, 1, .iload_n 1, 0, 1, 0, 0, []), (18, 2, .bipush 102, 102, 0, 0, 0, []), (20, 3, .if_icmp .eq 5, 0, 25, 0, 0, []), (23, 1, .iconst 0, 0, 0, 0, 0, []), (24, 1, .ireturn, 0, 0, 0, 0, []), (25, 1, .aload_n 0, 0, 0, 0, 0, []), (26, 1, .dup, 0, 0, 0, 0, []), (27, 3, .getfield 38, 0, 4, 2, 80, []), (30, 1, .iconst 1, 1, 0, 0, 0, []), (31, 1, .iadd, 0, 0, 0, 0, []), (32, 3, .putfield 38, 0, 4, 2, 80, []), (35, 1, .iload_n 1, 0, 1, 0, 0, []), (36, 2, .bipush 102, 102, 0, 0, 0, []), (38, 3, .if_icmp .ne 8, 0, 46, 0, 0, []), (41, 1, .aload_n 0, 0, 0, 0, 0, []), (42, 3, .invokevirtual 51, 0, 34, 1, 4, []), (45, 1, .ireturn, 0, 0, 0, 0, []), (46, 1, .aload_n 0, 0, 0, 0, 0, []), (47, 1, .iload_n 1, 0, 1, 0, 0, []), (48, 2, .bipush 98, 98, 0, 0, 0, []), (50, 3, .if_icmp .ne 7, 0, 57, 0, 0, []), (53, 1, .iconst 3, 3, 0, 0, 0, []), (54, 3, .goto 4, 0, 58, 0, 0, []), (57, 1, .iconst 2, 2, 0, 0, 0, []), (58, 3, .invokevirtual 54, 0, 38, 2, 4, []), (61, 1, .istore_n 2, 0, 2, 0, 0, []), (62, 1, .iload_n 2, 0, 2, 0, 0, []), (63, 3, .ifCond .ge 5, 0, 68, 0, 0, []), (66, 1, .iconst 0, 0, 0, 0, 0, []), (67, 1, .ireturn, 0, 0, 0, 0, []), (68, 1, .iload_n 1, 0, 1, 0, 0, []), (69, 2, .bipush 98, 98, 0, 0, 0, []), (71, 3, .if_icmp .ne 16, 0, 87, 0, 0, []), (74, 1, .aload_n 0, 0, 0, 0, 0, []), (75, 3, .getfield 18, 0, 4, 4, 82, []), (78, 1, .aload_n 0, 0, 0, 0, 0, []), (79, 3, .getfield 41, 0, 4, 7, 89, []), (82, 1, .iload_n 2, 0, 2, 0, 0, []), (83, 1, .iastore, 0, 0, 0, 0, []), (84, 3, .goto 13, 0, 97, 0, 0, []), (87, 1, .aload_n 0, 0, 0, 0, 0, []), (88, 3, .getfield 21, 0, 4, 5, 85, []), (91, 1, .aload_n 0, 0, 0, 0, 0, []), (92, 3, .getfield 41, 0, 4, 7, 89, []), (95, 1, .iload_n 2, 0, 2, 0, 0, []), (96, 1, .iastore, 0, 0, 0, 0, []), (97, 1, .iconst 1, 1, 0, 0, 0, []), (98, 1, .ireturn, 0, 0, 0, 0, [])]
set_option maxRecDepth 100000 in
theorem ck_32 : (cd_32.all (okCE 4 3 prog_10_method_8_code)) = true := by decide +kernel
/-- TradeTests$Texts.next -/
def cd_33 : List CE := [(0, 1, .aload_n 0, 0, 0, 0, 0, []), (1, 3, .getfield 38, 0, 4, 2, 80, []), (4, 1, .aload_n 0, 0, 0, 0, 0, []), (5, 3, .getfield 27, 0, 4, 1, 78, []), (8, 3, .if_icmp .ge 15, 0, 23, 0, 0, []), (11, 1, .aload_n 0, 0, 0, 0, 0, []), (12, 3, .getfield 9, 0, 4, 0, 77, []), (15, 1, .aload_n 0, 0, 0, 0, 0, []), (16, 3, .getfield 38, 0, 4, 2, 80, []), (19, 1, .iaload, 0, 0, 0, 0, []), (20, 3, .goto 4, 0, 24, 0, 0, []), (23, 1, .iconst (-1), (-1), 0, 0, 0, []), (24, 1, .ireturn, 0, 0, 0, 0, [])]
set_option maxRecDepth 100000 in
theorem ck_33 : (cd_33.all (okCE 4 1 prog_10_method_12_code)) = true := by decide +kernel
/-- TradeTests$Texts.readFault -/
def cd_34 : List CE := [(0, 1, .aload_n 0, 0, 0, 0, 0, []), (1, 3, .invokevirtual 47, 0, 33, 1, 4, []), (4, 2, .bipush 55, 55, 0, 0, 0, []), (6, 3, .invokestatic 58, 0, 35, 2, 0, []), (9, 3, .ifCond .ne 5, 0, 14, 0, 0, []), (12, 1, .iconst 0, 0, 0, 0, 0, []), (13, 1, .ireturn, 0, 0, 0, 0, []), (14, 1, .iconst 1, 1, 0, 0, 0, []), (15, 1, .aload_n 0, 0, 0, 0, 0, []), (16, 3, .invokevirtual 47, 0, 33, 1, 4, []), (19, 2, .bipush 48, 48, 0, 0, 0, []), (21, 1, .isub, 0, 0, 0, 0, []), (22, 1, .ishl, 0, 0, 0, 0, []), (23, 1, .istore_n 1, 0, 1, 0, 0, []), (24, 1, .aload_n 0, 0, 0, 0, 0, []), (25, 1, .dup, 0, 0, 0, 0, []), (26, 3, .getfield 38, 0, 4, 2, 80, []), (29, 1, .iconst 1, 1, 0, 0, 0, []), (30, 1, .iadd, 0, 0, 0, 0, []), (31, 3, .putfield 38, 0, 4, 2, 80, []), (34, 1, .aload_n 0, 0, 0, 0, 0, []), (35, 3, .invokevirtual 47, 0, 33, 1, 4, []), (38, 3, .invokestatic 65, 0, 36, 1, 0, []), (41, 1, .istore_n 2, 0, 2, 0, 0, []), (42, 1, .iload_n 2, 0, 2, 0, 0, []), (43, 3, .ifCond .ge 5, 0, 48, 0, 0, []), (46, 1, .iconst 0, 0, 0, 0, 0, []), (47, 1, .ireturn, 0, 0, 0, 0, []), (48, 1, .aload_n 0, 0, 0, 0, 0, []), (49, 1, .dup, 0, 0, 0, 0, []), (50, 3, .getfield 38, 0, 4, 2, 80, []), (53, 1, .iconst 1, 1, 0, 0, 0, []), (54, 1, .iadd, 0, 0, 0, 0, []), (55, 3, .putfield 38, 0, 4, 2, 80, []), (58, 1, .aload_n 0, 0, 0, 0, 0, []), (59, 3, .invokevirtual 62, 0, 37, 1, 4, []), (62, 3, .ifCond .ne 5, 0, 67, 0, 0, []), (65, 1, .iconst 0, 0, 0, 0, 0, []), (66, 1, .ireturn, 0, 0, 0, 0, []), (67, 1, .iconst 0, 0, 0, 0, 0, []), (68, 1, .istore_n 3, 0, 3, 0, 0, []), (69, 1, .iload_n 3, 0, 3, 0, 0, []), (70, 1, .iconst 4, 4, 0, 0, 0, []), (71, 3, .if_icmp .ge 34, 0, 105, 0, 0, []), (74, 1, .iload_n 3, 0, 3, 0, 0, []), (75, 1, .iload_n 2, 0, 2, 0, 0, []), (76, 3, .invokestatic 68, 0, 5, 2, 1, []), (79, 3, .ifCond .eq 20, 0, 99, 0, 0, []), (82, 1, .aload_n 0, 0, 0, 0, 0, []), (83, 3, .getfield 24, 0, 4, 6, 88, []), (86, 1, .aload_n 0, 0, 0, 0, 0, []), (87, 3, .getfield 41, 0, 4, 7, 89, []), (90, 1, .iconst 4, 4, 0, 0, 0, []), (91, 1, .imul, 0, 0, 0, 0, []), (92, 1, .iload_n 3, 0, 3, 0, 0, []), (93, 1, .iadd, 0, 0, 0, 0, []), (94, 1, .dup2, 0, 0, 0, 0, []), (95, 1, .iaload, 0, 0, 0, 0, []), (96, 1, .iload_n 1, 0, 1, 0, 0, []), (97, 1, .ior, 0, 0, 0, 0, []), (98, 1, .iastore, 0, 0, 0, 0, []), (99, 3, .iinc 3 1, 1, 3, 0, 0, []), (102, 3, .goto (-33), 0, 69, 0, 0, []), (105, 1, .iconst 1, 1, 0, 0, 0, []), (106, 1, .ireturn, 0, 0, 0, 0, [])]
set_option maxRecDepth 100000 in
theorem ck_34 : (cd_34.all (okCE 4 4 prog_10_method_10_code)) = true := by decide +kernel
/-- TradeTests$Texts.isDigit -/
def cd_35 : List CE := [(0, 1, .iload_n 0, 0, 0, 0, 0, []), (1, 2, .bipush 48, 48, 0, 0, 0, []), (3, 3, .if_icmp .lt 12, 0, 15, 0, 0, []), (6, 1, .iload_n 0, 0, 0, 0, 0, []), (7, 1, .iload_n 1, 0, 1, 0, 0, []), (8, 3, .if_icmp .gt 7, 0, 15, 0, 0, []), (11, 1, .iconst 1, 1, 0, 0, 0, []), (12, 3, .goto 4, 0, 16, 0, 0, []), (15, 1, .iconst 0, 0, 0, 0, 0, []), (16, 1, .ireturn, 0, 0, 0, 0, [])]
set_option maxRecDepth 100000 in
theorem ck_35 : (cd_35.all (okCE 4 2 prog_10_method_13_code)) = true := by decide +kernel
/-- TradeTests$Texts.kindOf -/
def cd_36 : List CE := [(0, 1, .iload_n 0, 0, 0, 0, 0, []), (1, 43, .lookupswitch 51 #[(99, 45), (114, 49), (116, 47), (118, 43)], 0, 52, 0, 0, [(99, 46), (114, 50), (116, 48), (118, 44)]), (44, 1, .iconst 0, 0, 0, 0, 0, []), (45, 1, .ireturn, 0, 0, 0, 0, []), (46, 1, .iconst 1, 1, 0, 0, 0, []), (47, 1, .ireturn, 0, 0, 0, 0, []), (48, 1, .iconst 2, 2, 0, 0, 0, []), (49, 1, .ireturn, 0, 0, 0, 0, []), (50, 1, .iconst 3, 3, 0, 0, 0, []), (51, 1, .ireturn, 0, 0, 0, 0, []), (52, 1, .iconst (-1), (-1), 0, 0, 0, []), (53, 1, .ireturn, 0, 0, 0, 0, [])]
set_option maxRecDepth 100000 in
theorem ck_36 : (cd_36.all (okCE 4 1 prog_10_method_14_code)) = true := by decide +kernel
/-- TradeTests$Texts.readEnd -/
def cd_37 : List CE := [(0, 1, .aload_n 0, 0, 0, 0, 0, []), (1, 3, .invokevirtual 47, 0, 33, 1, 4, []), (4, 2, .bipush 59, 59, 0, 0, 0, []), (6, 3, .if_icmp .eq 5, 0, 11, 0, 0, []), (9, 1, .iconst 0, 0, 0, 0, 0, []), (10, 1, .ireturn, 0, 0, 0, 0, []), (11, 1, .aload_n 0, 0, 0, 0, 0, []), (12, 1, .dup, 0, 0, 0, 0, []), (13, 3, .getfield 38, 0, 4, 2, 80, []), (16, 1, .iconst 1, 1, 0, 0, 0, []), (17, 1, .iadd, 0, 0, 0, 0, []), (18, 3, .putfield 38, 0, 4, 2, 80, []), (21, 1, .iconst 1, 1, 0, 0, 0, []), (22, 1, .ireturn, 0, 0, 0, 0, [])]
set_option maxRecDepth 100000 in
theorem ck_37 : (cd_37.all (okCE 4 1 prog_10_method_11_code)) = true := by decide +kernel
/-- TradeTests$Texts.readNumber -/
def cd_38 : List CE := [(0, 1, .iconst 0, 0, 0, 0, 0, []), (1, 1, .istore_n 2, 0, 2, 0, 0, []), (2, 1, .iconst 0, 0, 0, 0, 0, []), (3, 1, .istore_n 3, 0, 3, 0, 0, []), (4, 1, .iload_n 3, 0, 3, 0, 0, []), (5, 1, .iload_n 1, 0, 1, 0, 0, []), (6, 3, .if_icmp .ge 44, 0, 50, 0, 0, []), (9, 1, .aload_n 0, 0, 0, 0, 0, []), (10, 3, .invokevirtual 47, 0, 33, 1, 4, []), (13, 2, .bipush 57, 57, 0, 0, 0, []), (15, 3, .invokestatic 58, 0, 35, 2, 0, []), (18, 3, .ifCond .eq 32, 0, 50, 0, 0, []), (21, 1, .iload_n 2, 0, 2, 0, 0, []), (22, 2, .bipush 10, 10, 0, 0, 0, []), (24, 1, .imul, 0, 0, 0, 0, []), (25, 1, .aload_n 0, 0, 0, 0, 0, []), (26, 3, .invokevirtual 47, 0, 33, 1, 4, []), (29, 1, .iadd, 0, 0, 0, 0, []), (30, 2, .bipush 48, 48, 0, 0, 0, []), (32, 1, .isub, 0, 0, 0, 0, []), (33, 1, .istore_n 2, 0, 2, 0, 0, []), (34, 1, .aload_n 0, 0, 0, 0, 0, []), (35, 1, .dup, 0, 0, 0, 0, []), (36, 3, .getfield 38, 0, 4, 2, 80, []), (39, 1, .iconst 1, 1, 0, 0, 0, []), (40, 1, .iadd, 0, 0, 0, 0, []), (41, 3, .putfield 38, 0, 4, 2, 80, []), (44, 3, .iinc 3 1, 1, 3, 0, 0, []), (47, 3, .goto (-43), 0, 4, 0, 0, []), (50, 1, .iload_n 3, 0, 3, 0, 0, []), (51, 3, .ifCond .le 14, 0, 65, 0, 0, []), (54, 1, .aload_n 0, 0, 0, 0, 0, []), (55, 3, .invokevirtual 62, 0, 37, 1, 4, []), (58, 3, .ifCond .eq 7, 0, 65, 0, 0, []), (61, 1, .iload_n 2, 0, 2, 0, 0, []), (62, 3, .goto 4, 0, 66, 0, 0, []), (65, 1, .iconst (-1), (-1), 0, 0, 0, []), (66, 1, .ireturn, 0, 0, 0, 0, [])]
set_option maxRecDepth 100000 in
theorem ck_38 : (cd_38.all (okCE 4 4 prog_10_method_9_code)) = true := by decide +kernel
/-- TradeTests.says -/
def cd_39 : List CE := [(0, 1, .iload_n 2, 0, 2, 0, 0, []), (1, 3, .ifCond .eq 20, 0, 21, 0, 0, []), (4, 1, .iload_n 2, 0, 2, 0, 0, []), (5, 1, .iconst 1, 1, 0, 0, 0, []), (6, 3, .if_icmp .eq 15, 0, 21, 0, 0, []), (9, 1, .iload_n 2, 0, 2, 0, 0, []), (10, 2, .bipush 10, 10, 0, 0, 0, []), (12, 3, .if_icmp .lt 13, 0, 25, 0, 0, []), (15, 1, .iload_n 2, 0, 2, 0, 0, []), (16, 2, .bipush 14, 14, 0, 0, 0, []), (18, 3, .if_icmp .ge 7, 0, 25, 0, 0, []), (21, 1, .iconst 1, 1, 0, 0, 0, []), (22, 3, .goto 4, 0, 26, 0, 0, []), (25, 1, .iconst 0, 0, 0, 0, 0, []), (26, 1, .istore_n 3, 0, 3, 0, 0, []), (27, 1, .iload_n 1, 0, 1, 0, 0, []), (28, 3, .sipush 10000, 10000, 0, 0, 0, []), (31, 3, .invokestatic 111, 0, 1, 2, 0, []), (34, 3, .ifCond .eq 7, 0, 41, 0, 0, []), (37, 1, .iload_n 3, 0, 3, 0, 0, []), (38, 3, .ifCond .ne 9, 0, 47, 0, 0, []), (41, 1, .aload_n 0, 0, 0, 0, 0, []), (42, 1, .iconst 1, 1, 0, 0, 0, []), (43, 3, .invokevirtual 115, 0, 2, 2, 0, []), (46, 1, .ireturn, 0, 0, 0, 0, []), (47, 1, .aload_n 0, 0, 0, 0, 0, []), (48, 3, .getfield 33, 0, 0, 3, 134, []), (51, 1, .iload_n 1, 0, 1, 0, 0, []), (52, 3, .invokevirtual 196, 0, 40, 2, 4, []), (55, 2, .istore 4, 0, 4, 0, 0, []), (57, 2, .iload 4, 0, 4, 0, 0, []), (59, 3, .ifCond .ge 9, 0, 68, 0, 0, []), (62, 1, .aload_n 0, 0, 0, 0, 0, []), (63, 1, .iconst 2, 2, 0, 0, 0, []), (64, 3, .invokevirtual 115, 0, 2, 2, 0, []), (67, 1, .ireturn, 0, 0, 0, 0, []), (68, 1, .iload_n 2, 0, 2, 0, 0, []), (69, 2, .bipush 10, 10, 0, 0, 0, []), (71, 3, .if_icmp .lt 17, 0, 88, 0, 0, []), (74, 1, .aload_n 0, 0, 0, 0, 0, []), (75, 3, .getfield 33, 0, 0, 3, 134, []), (78, 2, .iload 4, 0, 4, 0, 0, []), (80, 1, .iload_n 2, 0, 2, 0, 0, []), (81, 2, .bipush 10, 10, 0, 0, 0, []), (83, 1, .isub, 0, 0, 0, 0, []), (84, 3, .invokevirtual 199, 0, 41, 3, 4, []), (87, 1, .ireturn, 0, 0, 0, 0, []), (88, 1, .iload_n 2, 0, 2, 0, 0, []), (89, 3, .ifCond .ne 16, 0, 105, 0, 0, []), (92, 1, .aload_n 0, 0, 0, 0, 0, []), (93, 3, .getfield 33, 0, 0, 3, 134, []), (96, 3, .getfield 202, 0, 4, 4, 84, []), (99, 2, .iload 4, 0, 4, 0, 0, []), (101, 1, .iaload, 0, 0, 0, 0, []), (102, 3, .goto 13, 0, 115, 0, 0, []), (105, 1, .aload_n 0, 0, 0, 0, 0, []), (106, 3, .getfield 33, 0, 0, 3, 134, []), (109, 3, .getfield 205, 0, 4, 5, 87, []), (112, 2, .iload 4, 0, 4, 0, 0, []), (114, 1, .iaload, 0, 0, 0, 0, []), (115, 1, .ireturn, 0, 0, 0, 0, [])]
set_option maxRecDepth 100000 in
theorem ck_39 : (cd_39.all (okCE 0 5 prog_1_method_12_code)) = true := by decide +kernel
/-- TradeTests$Texts.inForce -/
def cd_40 : List CE := [(0, 1, .aload_n 0, 0, 0, 0, 0, []), (1, 3, .getfield 41, 0, 4, 7, 89, []), (4, 1, .iconst 1, 1, 0, 0, 0, []), (5, 1, .isub, 0, 0, 0, 0, []), (6, 1, .istore_n 2, 0, 2, 0, 0, []), (7, 1, .iload_n 2, 0, 2, 0, 0, []), (8, 3, .ifCond .lt 21, 0, 29, 0, 0, []), (11, 1, .aload_n 0, 0, 0, 0, 0, []), (12, 3, .getfield 15, 0, 4, 3, 81, []), (15, 1, .iload_n 2, 0, 2, 0, 0, []), (16, 1, .iaload, 0, 0, 0, 0, []), (17, 1, .iload_n 1, 0, 1, 0, 0, []), (18, 3, .if_icmp .gt 5, 0, 23, 0, 0, []), (21, 1, .iload_n 2, 0, 2, 0, 0, []), (22, 1, .ireturn, 0, 0, 0, 0, []), (23, 3, .iinc 2 (-1), (-1), 2, 0, 0, []), (26, 3, .goto (-19), 0, 7, 0, 0, []), (29, 1, .iconst (-1), (-1), 0, 0, 0, []), (30, 1, .ireturn, 0, 0, 0, 0, [])]
set_option maxRecDepth 100000 in
theorem ck_40 : (cd_40.all (okCE 4 3 prog_10_method_4_code)) = true := by decide +kernel
/-- TradeTests$Texts.failing -/
def cd_41 : List CE := [(0, 1, .aload_n 0, 0, 0, 0, 0, []), (1, 3, .getfield 24, 0, 4, 6, 88, []), (4, 1, .iload_n 1, 0, 1, 0, 0, []), (5, 1, .iconst 4, 4, 0, 0, 0, []), (6, 1, .imul, 0, 0, 0, 0, []), (7, 1, .iload_n 2, 0, 2, 0, 0, []), (8, 1, .iadd, 0, 0, 0, 0, []), (9, 1, .iaload, 0, 0, 0, 0, []), (10, 1, .ireturn, 0, 0, 0, 0, [])]
set_option maxRecDepth 100000 in
theorem ck_41 : (cd_41.all (okCE 4 3 prog_10_method_5_code)) = true := by decide +kernel
/-- TradeTests.verdict -/
def cd_42 : List CE := [(0, 1, .iload_n 1, 0, 1, 0, 0, []), (1, 1, .aload_n 0, 0, 0, 0, 0, []), (2, 3, .getfield 26, 0, 0, 2, 133, []), (5, 3, .getfield 175, 0, 3, 14, 74, []), (8, 3, .invokestatic 111, 0, 1, 2, 0, []), (11, 3, .ifCond .ne 9, 0, 20, 0, 0, []), (14, 1, .aload_n 0, 0, 0, 0, 0, []), (15, 1, .iconst 1, 1, 0, 0, 0, []), (16, 3, .invokevirtual 115, 0, 2, 2, 0, []), (19, 1, .ireturn, 0, 0, 0, 0, []), (20, 1, .aload_n 0, 0, 0, 0, 0, []), (21, 3, .getfield 42, 0, 0, 4, 135, []), (24, 1, .iload_n 1, 0, 1, 0, 0, []), (25, 3, .invokevirtual 208, 0, 43, 2, 5, []), (28, 3, .ifCond .eq 7, 0, 35, 0, 0, []), (31, 1, .iconst 1, 1, 0, 0, 0, []), (32, 3, .goto 4, 0, 36, 0, 0, []), (35, 1, .iconst 0, 0, 0, 0, 0, []), (36, 1, .ireturn, 0, 0, 0, 0, [])]
set_option maxRecDepth 100000 in
theorem ck_42 : (cd_42.all (okCE 0 2 prog_1_method_13_code)) = true := by decide +kernel
/-- TradeTests$Judge.passes -/
def cd_43 : List CE := [(0, 1, .aload_n 0, 0, 0, 0, 0, []), (1, 3, .getfield 19, 0, 5, 2, 93, []), (4, 1, .aload_n 0, 0, 0, 0, 0, []), (5, 3, .getfield 15, 0, 5, 1, 92, []), (8, 3, .getfield 23, 0, 3, 2, 36, []), (11, 1, .iload_n 1, 0, 1, 0, 0, []), (12, 1, .iaload, 0, 0, 0, 0, []), (13, 3, .invokevirtual 29, 0, 40, 2, 4, []), (16, 1, .istore_n 2, 0, 2, 0, 0, []), (17, 1, .iload_n 2, 0, 2, 0, 0, []), (18, 3, .ifCond .ge 5, 0, 23, 0, 0, []), (21, 1, .iconst 1, 1, 0, 0, 0, []), (22, 1, .ireturn, 0, 0, 0, 0, []), (23, 1, .aload_n 0, 0, 0, 0, 0, []), (24, 3, .getfield 9, 0, 5, 0, 91, []), (27, 3, .getfield 35, 0, 1, 0, 1, []), (30, 1, .aload_n 0, 0, 0, 0, 0, []), (31, 3, .getfield 15, 0, 5, 1, 92, []), (34, 3, .getfield 40, 0, 3, 0, 26, []), (37, 1, .iload_n 1, 0, 1, 0, 0, []), (38, 1, .iaload, 0, 0, 0, 0, []), (39, 1, .iaload, 0, 0, 0, 0, []), (40, 1, .istore_n 3, 0, 3, 0, 0, []), (41, 1, .aload_n 0, 0, 0, 0, 0, []), (42, 3, .getfield 19, 0, 5, 2, 93, []), (45, 1, .iload_n 2, 0, 2, 0, 0, []), (46, 1, .iload_n 3, 0, 3, 0, 0, []), (47, 3, .invokevirtual 43, 0, 41, 3, 4, []), (50, 1, .aload_n 0, 0, 0, 0, 0, []), (51, 3, .getfield 15, 0, 5, 1, 92, []), (54, 3, .getfield 47, 0, 3, 8, 55, []), (57, 1, .iload_n 1, 0, 1, 0, 0, []), (58, 1, .iaload, 0, 0, 0, 0, []), (59, 1, .iand, 0, 0, 0, 0, []), (60, 3, .ifCond .eq 5, 0, 65, 0, 0, []), (63, 1, .iconst 0, 0, 0, 0, 0, []), (64, 1, .ireturn, 0, 0, 0, 0, []), (65, 1, .iload_n 3, 0, 3, 0, 0, []), (66, 1, .iconst 3, 3, 0, 0, 0, []), (67, 3, .if_icmp .eq 29, 0, 96, 0, 0, []), (70, 1, .aload_n 0, 0, 0, 0, 0, []), (71, 1, .iload_n 2, 0, 2, 0, 0, []), (72, 1, .aload_n 0, 0, 0, 0, 0, []), (73, 3, .getfield 15, 0, 5, 1, 92, []), (76, 3, .getfield 50, 0, 3, 6, 49, []), (79, 1, .iload_n 1, 0, 1, 0, 0, []), (80, 1, .iaload, 0, 0, 0, 0, []), (81, 1, .aload_n 0, 0, 0, 0, 0, []), (82, 3, .getfield 15, 0, 5, 1, 92, []), (85, 3, .getfield 53, 0, 3, 7, 52, []), (88, 1, .iload_n 1, 0, 1, 0, 0, []), (89, 1, .iaload, 0, 0, 0, 0, []), (90, 3, .invokevirtual 56, 0, 44, 4, 5, []), (93, 3, .ifCond .eq 7, 0, 100, 0, 0, []), (96, 1, .iconst 1, 1, 0, 0, 0, []), (97, 3, .goto 4, 0, 101, 0, 0, []), (100, 1, .iconst 0, 0, 0, 0, 0, []), (101, 1, .ireturn, 0, 0, 0, 0, [])]
set_option maxRecDepth 100000 in
theorem ck_43 : (cd_43.all (okCE 5 4 prog_2_method_2_code)) = true := by decide +kernel
/-- TradeTests$Judge.brakesDo -/
def cd_44 : List CE := [(0, 1, .iload_n 2, 0, 2, 0, 0, []), (1, 1, .iload_n 3, 0, 3, 0, 0, []), (2, 3, .if_icmp .ge 7, 0, 9, 0, 0, []), (5, 1, .iload_n 2, 0, 2, 0, 0, []), (6, 3, .goto 4, 0, 10, 0, 0, []), (9, 1, .iload_n 3, 0, 3, 0, 0, []), (10, 2, .istore 4, 0, 4, 0, 0, []), (12, 1, .iload_n 2, 0, 2, 0, 0, []), (13, 1, .iload_n 3, 0, 3, 0, 0, []), (14, 3, .if_icmp .ge 7, 0, 21, 0, 0, []), (17, 1, .iload_n 3, 0, 3, 0, 0, []), (18, 3, .goto 4, 0, 22, 0, 0, []), (21, 1, .iload_n 2, 0, 2, 0, 0, []), (22, 2, .istore 5, 0, 5, 0, 0, []), (24, 2, .iload 4, 0, 4, 0, 0, []), (26, 1, .aload_n 0, 0, 0, 0, 0, []), (27, 3, .getfield 19, 0, 5, 2, 93, []), (30, 3, .getfield 60, 0, 4, 4, 83, []), (33, 1, .iload_n 1, 0, 1, 0, 0, []), (34, 1, .iaload, 0, 0, 0, 0, []), (35, 3, .if_icmp .lt 30, 0, 65, 0, 0, []), (38, 2, .iload 4, 0, 4, 0, 0, []), (40, 2, .bipush 100, 100, 0, 0, 0, []), (42, 1, .imul, 0, 0, 0, 0, []), (43, 2, .bipush 100, 100, 0, 0, 0, []), (45, 1, .aload_n 0, 0, 0, 0, 0, []), (46, 3, .getfield 19, 0, 5, 2, 93, []), (49, 3, .getfield 63, 0, 4, 5, 86, []), (52, 1, .iload_n 1, 0, 1, 0, 0, []), (53, 1, .iaload, 0, 0, 0, 0, []), (54, 1, .isub, 0, 0, 0, 0, []), (55, 2, .iload 5, 0, 5, 0, 0, []), (57, 1, .imul, 0, 0, 0, 0, []), (58, 3, .if_icmp .lt 7, 0, 65, 0, 0, []), (61, 1, .iconst 1, 1, 0, 0, 0, []), (62, 3, .goto 4, 0, 66, 0, 0, []), (65, 1, .iconst 0, 0, 0, 0, 0, []), (66, 1, .ireturn, 0, 0, 0, 0, [])]
set_option maxRecDepth 100000 in
theorem ck_44 : (cd_44.all (okCE 5 6 prog_2_method_3_code)) = true := by decide +kernel
/-- TradeTests.unlike -/
def cd_45 : List CE := [(0, 1, .iload_n 1, 0, 1, 0, 0, []), (1, 1, .aload_n 0, 0, 0, 0, 0, []), (2, 3, .getfield 26, 0, 0, 2, 133, []), (5, 3, .getfield 175, 0, 3, 14, 74, []), (8, 3, .invokestatic 111, 0, 1, 2, 0, []), (11, 3, .ifCond .ne 9, 0, 20, 0, 0, []), (14, 1, .aload_n 0, 0, 0, 0, 0, []), (15, 1, .iconst 1, 1, 0, 0, 0, []), (16, 3, .invokevirtual 115, 0, 2, 2, 0, []), (19, 1, .ireturn, 0, 0, 0, 0, []), (20, 1, .aload_n 0, 0, 0, 0, 0, []), (21, 3, .getfield 42, 0, 0, 4, 135, []), (24, 1, .iload_n 1, 0, 1, 0, 0, []), (25, 3, .invokevirtual 211, 0, 46, 2, 5, []), (28, 1, .ireturn, 0, 0, 0, 0, [])]
set_option maxRecDepth 100000 in
theorem ck_45 : (cd_45.all (okCE 0 2 prog_1_method_14_code)) = true := by decide +kernel
/-- TradeTests$Judge.unlikeness -/
def cd_46 : List CE := [(0, 1, .aload_n 0, 0, 0, 0, 0, []), (1, 3, .getfield 15, 0, 5, 1, 92, []), (4, 3, .getfield 66, 0, 3, 9, 58, []), (7, 1, .iload_n 1, 0, 1, 0, 0, []), (8, 1, .iaload, 0, 0, 0, 0, []), (9, 1, .iconst 1, 1, 0, 0, 0, []), (10, 3, .if_icmp .ne 7, 0, 17, 0, 0, []), (13, 1, .iconst 1, 1, 0, 0, 0, []), (14, 3, .goto 4, 0, 18, 0, 0, []), (17, 1, .iconst 0, 0, 0, 0, 0, []), (18, 1, .istore_n 2, 0, 2, 0, 0, []), (19, 1, .iload_n 2, 0, 2, 0, 0, []), (20, 1, .aload_n 0, 0, 0, 0, 0, []), (21, 1, .iload_n 1, 0, 1, 0, 0, []), (22, 3, .invokevirtual 69, 0, 43, 2, 5, []), (25, 3, .if_icmp .ne 5, 0, 30, 0, 0, []), (28, 1, .iconst 0, 0, 0, 0, 0, []), (29, 1, .ireturn, 0, 0, 0, 0, []), (30, 1, .iload_n 2, 0, 2, 0, 0, []), (31, 3, .ifCond .eq 7, 0, 38, 0, 0, []), (34, 1, .iconst 1, 1, 0, 0, 0, []), (35, 3, .goto 4, 0, 39, 0, 0, []), (38, 1, .iconst 2, 2, 0, 0, 0, []), (39, 1, .ireturn, 0, 0, 0, 0, [])]
set_option maxRecDepth 100000 in
theorem ck_46 : (cd_46.all (okCE 5 3 prog_2_method_4_code)) = true := by decide +kernel
/-- TradeTests.rate -/
def cd_47 : List CE := [(0, 1, .iload_n 1, 0, 1, 0, 0, []), (1, 1, .aload_n 0, 0, 0, 0, 0, []), (2, 3, .getfield 19, 0, 0, 1, 132, []), (5, 3, .getfield 135, 0, 2, 2, 15, []), (8, 3, .invokestatic 111, 0, 1, 2, 0, []), (11, 3, .ifCond .eq 12, 0, 23, 0, 0, []), (14, 1, .iload_n 2, 0, 2, 0, 0, []), (15, 2, .bipush 7, 7, 0, 0, 0, []), (17, 3, .invokestatic 111, 0, 1, 2, 0, []), (20, 3, .ifCond .ne 9, 0, 29, 0, 0, []), (23, 1, .aload_n 0, 0, 0, 0, 0, []), (24, 1, .iconst 1, 1, 0, 0, 0, []), (25, 3, .invokevirtual 115, 0, 2, 2, 0, []), (28, 1, .ireturn, 0, 0, 0, 0, []), (29, 1, .iload_n 2, 0, 2, 0, 0, []), (30, 2, .bipush 6, 6, 0, 0, 0, []), (32, 3, .if_icmp .ne 14, 0, 46, 0, 0, []), (35, 1, .aload_n 0, 0, 0, 0, 0, []), (36, 3, .getfield 96, 0, 0, 10, 141, []), (39, 1, .iload_n 1, 0, 1, 0, 0, []), (40, 3, .invokevirtual 214, 0, 48, 2, 11, []), (43, 3, .goto 12, 0, 55, 0, 0, []), (46, 1, .aload_n 0, 0, 0, 0, 0, []), (47, 3, .getfield 60, 0, 0, 6, 137, []), (50, 1, .iload_n 1, 0, 1, 0, 0, []), (51, 1, .iload_n 2, 0, 2, 0, 0, []), (52, 3, .invokevirtual 217, 0, 62, 3, 7, []), (55, 1, .ireturn, 0, 0, 0, 0, [])]
set_option maxRecDepth 100000 in
theorem ck_47 : (cd_47.all (okCE 0 3 prog_1_method_15_code)) = true := by decide +kernel
/-- TradeTests$Plan.riskOf -/
def cd_48 : List CE := [(0, 1, .aload_n 0, 0, 0, 0, 0, []), (1, 1, .iload_n 1, 0, 1, 0, 0, []), (2, 3, .invokevirtual 34, 0, 49, 2, 11, []), (5, 1, .aload_n 0, 0, 0, 0, 0, []), (6, 3, .getfield 38, 0, 11, 6, 129, []), (9, 1, .ireturn, 0, 0, 0, 0, [])]
set_option maxRecDepth 100000 in
theorem ck_48 : (cd_48.all (okCE 11 2 prog_5_method_2_code)) = true := by decide +kernel
/-- TradeTests$Plan.survey -/
def cd_49 : List CE := [(0, 1, .aload_n 0, 0, 0, 0, 0, []), (1, 1, .iconst 1, 1, 0, 0, 0, []), (2, 3, .putfield 38, 0, 11, 6, 129, []), (5, 1, .aload_n 0, 0, 0, 0, 0, []), (6, 1, .iconst 0, 0, 0, 0, 0, []), (7, 3, .putfield 46, 0, 11, 7, 130, []), (10, 1, .iconst 0, 0, 0, 0, 0, []), (11, 1, .istore_n 2, 0, 2, 0, 0, []), (12, 1, .iload_n 2, 0, 2, 0, 0, []), (13, 1, .aload_n 0, 0, 0, 0, 0, []), (14, 3, .getfield 22, 0, 11, 1, 124, []), (17, 3, .getfield 49, 0, 3, 14, 70, []), (20, 3, .if_icmp .ge 62, 0, 82, 0, 0, []), (23, 1, .aload_n 0, 0, 0, 0, 0, []), (24, 3, .getfield 18, 0, 11, 0, 123, []), (27, 1, .aload_n 0, 0, 0, 0, 0, []), (28, 3, .getfield 22, 0, 11, 1, 124, []), (31, 1, .iload_n 2, 0, 2, 0, 0, []), (32, 3, .invokevirtual 54, 0, 24, 3, 2, []), (35, 1, .iload_n 1, 0, 1, 0, 0, []), (36, 3, .if_icmp .ne 40, 0, 76, 0, 0, []), (39, 1, .aload_n 0, 0, 0, 0, 0, []), (40, 1, .dup, 0, 0, 0, 0, []), (41, 3, .getfield 38, 0, 11, 6, 129, []), (44, 1, .aload_n 0, 0, 0, 0, 0, []), (45, 3, .getfield 26, 0, 11, 2, 125, []), (48, 1, .iload_n 2, 0, 2, 0, 0, []), (49, 3, .invokevirtual 60, 0, 50, 2, 6, []), (52, 3, .invokestatic 65, 0, 59, 1, 0, []), (55, 1, .iadd, 0, 0, 0, 0, []), (56, 3, .putfield 38, 0, 11, 6, 129, []), (59, 1, .aload_n 0, 0, 0, 0, 0, []), (60, 1, .dup, 0, 0, 0, 0, []), (61, 3, .getfield 46, 0, 11, 7, 130, []), (64, 1, .aload_n 0, 0, 0, 0, 0, []), (65, 3, .getfield 30, 0, 11, 3, 126, []), (68, 1, .iload_n 2, 0, 2, 0, 0, []), (69, 3, .invokevirtual 70, 0, 60, 2, 9, []), (72, 1, .ior, 0, 0, 0, 0, []), (73, 3, .putfield 46, 0, 11, 7, 130, []), (76, 3, .iinc 2 1, 1, 2, 0, 0, []), (79, 3, .goto (-67), 0, 12, 0, 0, []), (82, 1, .return_, 0, 0, 0, 0, [])]
set_option maxRecDepth 100000 in
theorem ck_49 : (cd_49.all (okCE 11 3 prog_5_method_4_code)) = true := by decide +kernel
/-- TradeTests$Signals.bits -/
def cd_50 : List CE := [(0, 1, .aload_n 0, 0, 0, 0, 0, []), (1, 1, .iload_n 1, 0, 1, 0, 0, []), (2, 3, .invokevirtual 25, 0, 51, 2, 6, []), (5, 1, .iconst 2, 2, 0, 0, 0, []), (6, 3, .if_icmp .le 7, 0, 13, 0, 0, []), (9, 1, .iconst 1, 1, 0, 0, 0, []), (10, 3, .goto 4, 0, 14, 0, 0, []), (13, 1, .iconst 0, 0, 0, 0, 0, []), (14, 1, .aload_n 0, 0, 0, 0, 0, []), (15, 1, .iload_n 1, 0, 1, 0, 0, []), (16, 3, .invokevirtual 29, 0, 54, 2, 6, []), (19, 3, .ifCond .eq 7, 0, 26, 0, 0, []), (22, 1, .iconst 2, 2, 0, 0, 0, []), (23, 3, .goto 4, 0, 27, 0, 0, []), (26, 1, .iconst 0, 0, 0, 0, 0, []), (27, 1, .ior, 0, 0, 0, 0, []), (28, 1, .aload_n 0, 0, 0, 0, 0, []), (29, 1, .iload_n 1, 0, 1, 0, 0, []), (30, 3, .invokevirtual 33, 0, 55, 2, 6, []), (33, 3, .ifCond .eq 7, 0, 40, 0, 0, []), (36, 1, .iconst 4, 4, 0, 0, 0, []), (37, 3, .goto 4, 0, 41, 0, 0, []), (40, 1, .iconst 0, 0, 0, 0, 0, []), (41, 1, .ior, 0, 0, 0, 0, []), (42, 1, .aload_n 0, 0, 0, 0, 0, []), (43, 1, .iload_n 1, 0, 1, 0, 0, []), (44, 3, .invokevirtual 36, 0, 57, 2, 6, []), (47, 3, .ifCond .eq 8, 0, 55, 0, 0, []), (50, 2, .bipush 8, 8, 0, 0, 0, []), (52, 3, .goto 4, 0, 56, 0, 0, []), (55, 1, .iconst 0, 0, 0, 0, 0, []), (56, 1, .ior, 0, 0, 0, 0, []), (57, 1, .aload_n 0, 0, 0, 0, 0, []), (58, 3, .getfield 21, 0, 6, 3, 97, []), (61, 1, .iload_n 1, 0, 1, 0, 0, []), (62, 3, .invokevirtual 39, 0, 58, 2, 5, []), (65, 3, .ifCond .eq 8, 0, 73, 0, 0, []), (68, 2, .bipush 16, 16, 0, 0, 0, []), (70, 3, .goto 4, 0, 74, 0, 0, []), (73, 1, .iconst 0, 0, 0, 0, 0, []), (74, 1, .ior, 0, 0, 0, 0, []), (75, 1, .ireturn, 0, 0, 0, 0, [])]
set_option maxRecDepth 100000 in
theorem ck_50 : (cd_50.all (okCE 6 2 prog_8_method_2_code)) = true := by decide +kernel
/-- TradeTests$Signals.alikeTests -/
def cd_51 : List CE := [(0, 1, .iconst 0, 0, 0, 0, 0, []), (1, 1, .istore_n 2, 0, 2, 0, 0, []), (2, 1, .iconst 0, 0, 0, 0, 0, []), (3, 1, .istore_n 3, 0, 3, 0, 0, []), (4, 1, .iload_n 3, 0, 3, 0, 0, []), (5, 1, .aload_n 0, 0, 0, 0, 0, []), (6, 3, .getfield 17, 0, 6, 2, 96, []), (9, 3, .getfield 44, 0, 3, 14, 68, []), (12, 3, .if_icmp .ge 42, 0, 54, 0, 0, []), (15, 1, .aload_n 0, 0, 0, 0, 0, []), (16, 3, .getfield 17, 0, 6, 2, 96, []), (19, 3, .getfield 53, 0, 3, 1, 32, []), (22, 1, .iload_n 3, 0, 3, 0, 0, []), (23, 1, .iaload, 0, 0, 0, 0, []), (24, 1, .aload_n 0, 0, 0, 0, 0, []), (25, 3, .getfield 17, 0, 6, 2, 96, []), (28, 3, .getfield 53, 0, 3, 1, 32, []), (31, 1, .iload_n 1, 0, 1, 0, 0, []), (32, 1, .iaload, 0, 0, 0, 0, []), (33, 3, .if_icmp .ne 15, 0, 48, 0, 0, []), (36, 1, .aload_n 0, 0, 0, 0, 0, []), (37, 1, .iload_n 3, 0, 3, 0, 0, []), (38, 1, .iload_n 1, 0, 1, 0, 0, []), (39, 3, .invokevirtual 57, 0, 52, 3, 6, []), (42, 3, .ifCond .eq 6, 0, 48, 0, 0, []), (45, 3, .iinc 2 1, 1, 2, 0, 0, []), (48, 3, .iinc 3 1, 1, 3, 0, 0, []), (51, 3, .goto (-47), 0, 4, 0, 0, []), (54, 1, .iload_n 2, 0, 2, 0, 0, []), (55, 1, .ireturn, 0, 0, 0, 0, [])]
set_option maxRecDepth 100000 in
theorem ck_51 : (cd_51.all (okCE 6 4 prog_8_method_4_code)) = true := by decide +kernel
/-- TradeTests$Signals.isAlike -/
def cd_52 : List CE := [(0, 1, .aload_n 0, 0, 0, 0, 0, []), (1, 3, .getfield 17, 0, 6, 2, 96, []), (4, 3, .getfield 61, 0, 3, 0, 28, []), (7, 1, .iload_n 1, 0, 1, 0, 0, []), (8, 1, .iaload, 0, 0, 0, 0, []), (9, 1, .aload_n 0, 0, 0, 0, 0, []), (10, 3, .getfield 17, 0, 6, 2, 96, []), (13, 3, .getfield 61, 0, 3, 0, 28, []), (16, 1, .iload_n 2, 0, 2, 0, 0, []), (17, 1, .iaload, 0, 0, 0, 0, []), (18, 3, .if_icmp .eq 86, 0, 104, 0, 0, []), (21, 1, .aload_n 0, 0, 0, 0, 0, []), (22, 3, .getfield 17, 0, 6, 2, 96, []), (25, 3, .getfield 64, 0, 3, 2, 38, []), (28, 1, .iload_n 1, 0, 1, 0, 0, []), (29, 1, .iaload, 0, 0, 0, 0, []), (30, 1, .aload_n 0, 0, 0, 0, 0, []), (31, 3, .getfield 17, 0, 6, 2, 96, []), (34, 3, .getfield 64, 0, 3, 2, 38, []), (37, 1, .iload_n 2, 0, 2, 0, 0, []), (38, 1, .iaload, 0, 0, 0, 0, []), (39, 1, .isub, 0, 0, 0, 0, []), (40, 3, .invokestatic 67, 0, 53, 1, 53, []), (43, 2, .bipush 30, 30, 0, 0, 0, []), (45, 3, .if_icmp .gt 59, 0, 104, 0, 0, []), (48, 1, .aload_n 0, 0, 0, 0, 0, []), (49, 3, .getfield 17, 0, 6, 2, 96, []), (52, 3, .getfield 72, 0, 3, 6, 50, []), (55, 1, .iload_n 1, 0, 1, 0, 0, []), (56, 1, .iaload, 0, 0, 0, 0, []), (57, 1, .aload_n 0, 0, 0, 0, 0, []), (58, 3, .getfield 17, 0, 6, 2, 96, []), (61, 3, .getfield 72, 0, 3, 6, 50, []), (64, 1, .iload_n 2, 0, 2, 0, 0, []), (65, 1, .iaload, 0, 0, 0, 0, []), (66, 1, .isub, 0, 0, 0, 0, []), (67, 3, .invokestatic 67, 0, 53, 1, 53, []), (70, 1, .iconst 1, 1, 0, 0, 0, []), (71, 3, .if_icmp .gt 33, 0, 104, 0, 0, []), (74, 1, .aload_n 0, 0, 0, 0, 0, []), (75, 3, .getfield 17, 0, 6, 2, 96, []), (78, 3, .getfield 75, 0, 3, 7, 53, []), (81, 1, .iload_n 1, 0, 1, 0, 0, []), (82, 1, .iaload, 0, 0, 0, 0, []), (83, 1, .aload_n 0, 0, 0, 0, 0, []), (84, 3, .getfield 17, 0, 6, 2, 96, []), (87, 3, .getfield 75, 0, 3, 7, 53, []), (90, 1, .iload_n 2, 0, 2, 0, 0, []), (91, 1, .iaload, 0, 0, 0, 0, []), (92, 1, .isub, 0, 0, 0, 0, []), (93, 3, .invokestatic 67, 0, 53, 1, 53, []), (96, 1, .iconst 1, 1, 0, 0, 0, []), (97, 3, .if_icmp .gt 7, 0, 104, 0, 0, []), (100, 1, .iconst 1, 1, 0, 0, 0, []), (101, 3, .goto 4, 0, 105, 0, 0, []), (104, 1, .iconst 0, 0, 0, 0, 0, []), (105, 1, .ireturn, 0, 0, 0, 0, [])]
set_option maxRecDepth 100000 in
theorem ck_52 : (cd_52.all (okCE 6 3 prog_8_method_5_code)) = true := by decide +kernel
/-- TradeTests$Signals.isQuick -/
def cd_54 : List CE := [(0, 1, .aload_n 0, 0, 0, 0, 0, []), (1, 3, .getfield 17, 0, 6, 2, 96, []), (4, 3, .getfield 78, 0, 3, 4, 45, []), (7, 1, .iload_n 1, 0, 1, 0, 0, []), (8, 1, .iaload, 0, 0, 0, 0, []), (9, 3, .getstatic 81, 0, 1, 0, 0, []), (12, 1, .aload_n 0, 0, 0, 0, 0, []), (13, 3, .getfield 7, 0, 6, 0, 94, []), (16, 3, .getfield 86, 0, 1, 0, 3, []), (19, 1, .aload_n 0, 0, 0, 0, 0, []), (20, 3, .getfield 17, 0, 6, 2, 96, []), (23, 3, .getfield 61, 0, 3, 0, 28, []), (26, 1, .iload_n 1, 0, 1, 0, 0, []), (27, 1, .iaload, 0, 0, 0, 0, []), (28, 1, .iaload, 0, 0, 0, 0, []), (29, 1, .iaload, 0, 0, 0, 0, []), (30, 3, .if_icmp .ge 7, 0, 37, 0, 0, []), (33, 1, .iconst 1, 1, 0, 0, 0, []), (34, 3, .goto 4, 0, 38, 0, 0, []), (37, 1, .iconst 0, 0, 0, 0, 0, []), (38, 1, .ireturn, 0, 0, 0, 0, [])]
set_option maxRecDepth 100000 in
theorem ck_54 : (cd_54.all (okCE 6 2 prog_8_method_6_code)) = true := by decide +kernel
/-- TradeTests$Signals.isOverlapping -/
def cd_55 : List CE := [(0, 1, .iconst 0, 0, 0, 0, 0, []), (1, 1, .istore_n 2, 0, 2, 0, 0, []), (2, 1, .iload_n 2, 0, 2, 0, 0, []), (3, 1, .aload_n 0, 0, 0, 0, 0, []), (4, 3, .getfield 17, 0, 6, 2, 96, []), (7, 3, .getfield 44, 0, 3, 14, 68, []), (10, 3, .if_icmp .ge 46, 0, 56, 0, 0, []), (13, 1, .iload_n 2, 0, 2, 0, 0, []), (14, 1, .iload_n 1, 0, 1, 0, 0, []), (15, 3, .if_icmp .eq 35, 0, 50, 0, 0, []), (18, 1, .aload_n 0, 0, 0, 0, 0, []), (19, 3, .getfield 17, 0, 6, 2, 96, []), (22, 3, .getfield 53, 0, 3, 1, 32, []), (25, 1, .iload_n 2, 0, 2, 0, 0, []), (26, 1, .iaload, 0, 0, 0, 0, []), (27, 1, .aload_n 0, 0, 0, 0, 0, []), (28, 3, .getfield 17, 0, 6, 2, 96, []), (31, 3, .getfield 53, 0, 3, 1, 32, []), (34, 1, .iload_n 1, 0, 1, 0, 0, []), (35, 1, .iaload, 0, 0, 0, 0, []), (36, 3, .if_icmp .ne 14, 0, 50, 0, 0, []), (39, 1, .aload_n 0, 0, 0, 0, 0, []), (40, 1, .iload_n 2, 0, 2, 0, 0, []), (41, 1, .iload_n 1, 0, 1, 0, 0, []), (42, 3, .invokevirtual 91, 0, 56, 3, 6, []), (45, 3, .ifCond .eq 5, 0, 50, 0, 0, []), (48, 1, .iconst 1, 1, 0, 0, 0, []), (49, 1, .ireturn, 0, 0, 0, 0, []), (50, 3, .iinc 2 1, 1, 2, 0, 0, []), (53, 3, .goto (-51), 0, 2, 0, 0, []), (56, 1, .iconst 0, 0, 0, 0, 0, []), (57, 1, .ireturn, 0, 0, 0, 0, [])]
set_option maxRecDepth 100000 in
theorem ck_55 : (cd_55.all (okCE 6 3 prog_8_method_7_code)) = true := by decide +kernel
/-- TradeTests$Signals.isMeeting -/
def cd_56 : List CE := [(0, 1, .aload_n 0, 0, 0, 0, 0, []), (1, 3, .getfield 17, 0, 6, 2, 96, []), (4, 3, .getfield 64, 0, 3, 2, 38, []), (7, 1, .iload_n 1, 0, 1, 0, 0, []), (8, 1, .iaload, 0, 0, 0, 0, []), (9, 1, .aload_n 0, 0, 0, 0, 0, []), (10, 3, .getfield 17, 0, 6, 2, 96, []), (13, 3, .getfield 64, 0, 3, 2, 38, []), (16, 1, .iload_n 2, 0, 2, 0, 0, []), (17, 1, .iaload, 0, 0, 0, 0, []), (18, 3, .if_icmp .ne 69, 0, 87, 0, 0, []), (21, 1, .aload_n 0, 0, 0, 0, 0, []), (22, 3, .getfield 17, 0, 6, 2, 96, []), (25, 3, .getfield 94, 0, 3, 3, 43, []), (28, 1, .iload_n 1, 0, 1, 0, 0, []), (29, 1, .iaload, 0, 0, 0, 0, []), (30, 1, .aload_n 0, 0, 0, 0, 0, []), (31, 3, .getfield 17, 0, 6, 2, 96, []), (34, 3, .getfield 94, 0, 3, 3, 43, []), (37, 1, .iload_n 2, 0, 2, 0, 0, []), (38, 1, .iaload, 0, 0, 0, 0, []), (39, 1, .aload_n 0, 0, 0, 0, 0, []), (40, 3, .getfield 17, 0, 6, 2, 96, []), (43, 3, .getfield 78, 0, 3, 4, 45, []), (46, 1, .iload_n 2, 0, 2, 0, 0, []), (47, 1, .iaload, 0, 0, 0, 0, []), (48, 1, .iadd, 0, 0, 0, 0, []), (49, 3, .if_icmp .ge 38, 0, 87, 0, 0, []), (52, 1, .aload_n 0, 0, 0, 0, 0, []), (53, 3, .getfield 17, 0, 6, 2, 96, []), (56, 3, .getfield 94, 0, 3, 3, 43, []), (59, 1, .iload_n 2, 0, 2, 0, 0, []), (60, 1, .iaload, 0, 0, 0, 0, []), (61, 1, .aload_n 0, 0, 0, 0, 0, []), (62, 3, .getfield 17, 0, 6, 2, 96, []), (65, 3, .getfield 94, 0, 3, 3, 43, []), (68, 1, .iload_n 1, 0, 1, 0, 0, []), (69, 1, .iaload, 0, 0, 0, 0, []), (70, 1, .aload_n 0, 0, 0, 0, 0, []), (71, 3, .getfield 17, 0, 6, 2, 96, []), (74, 3, .getfield 78, 0, 3, 4, 45, []), (77, 1, .iload_n 1, 0, 1, 0, 0, []), (78, 1, .iaload, 0, 0, 0, 0, []), (79, 1, .iadd, 0, 0, 0, 0, []), (80, 3, .if_icmp .ge 7, 0, 87, 0, 0, []), (83, 1, .iconst 1, 1, 0, 0, 0, []), (84, 3, .goto 4, 0, 88, 0, 0, []), (87, 1, .iconst 0, 0, 0, 0, 0, []), (88, 1, .ireturn, 0, 0, 0, 0, [])]
set_option maxRecDepth 100000 in
theorem ck_56 : (cd_56.all (okCE 6 3 prog_8_method_8_code)) = true := by decide +kernel
/-- TradeTests$Signals.isShut -/
def cd_57 : List CE := [(0, 1, .aload_n 0, 0, 0, 0, 0, []), (1, 3, .getfield 13, 0, 6, 1, 95, []), (4, 1, .aload_n 0, 0, 0, 0, 0, []), (5, 3, .getfield 17, 0, 6, 2, 96, []), (8, 1, .iload_n 1, 0, 1, 0, 0, []), (9, 3, .invokevirtual 97, 0, 24, 3, 2, []), (12, 1, .istore_n 2, 0, 2, 0, 0, []), (13, 1, .aload_n 0, 0, 0, 0, 0, []), (14, 3, .getfield 17, 0, 6, 2, 96, []), (17, 3, .getfield 94, 0, 3, 3, 43, []), (20, 1, .iload_n 1, 0, 1, 0, 0, []), (21, 1, .iaload, 0, 0, 0, 0, []), (22, 1, .aload_n 0, 0, 0, 0, 0, []), (23, 3, .getfield 13, 0, 6, 1, 95, []), (26, 3, .getfield 103, 0, 2, 0, 11, []), (29, 1, .iload_n 2, 0, 2, 0, 0, []), (30, 1, .iaload, 0, 0, 0, 0, []), (31, 3, .if_icmp .lt 34, 0, 65, 0, 0, []), (34, 1, .aload_n 0, 0, 0, 0, 0, []), (35, 3, .getfield 17, 0, 6, 2, 96, []), (38, 3, .getfield 94, 0, 3, 3, 43, []), (41, 1, .iload_n 1, 0, 1, 0, 0, []), (42, 1, .iaload, 0, 0, 0, 0, []), (43, 1, .aload_n 0, 0, 0, 0, 0, []), (44, 3, .getfield 17, 0, 6, 2, 96, []), (47, 3, .getfield 78, 0, 3, 4, 45, []), (50, 1, .iload_n 1, 0, 1, 0, 0, []), (51, 1, .iaload, 0, 0, 0, 0, []), (52, 1, .iadd, 0, 0, 0, 0, []), (53, 1, .aload_n 0, 0, 0, 0, 0, []), (54, 3, .getfield 13, 0, 6, 1, 95, []), (57, 3, .getfield 106, 0, 2, 1, 13, []), (60, 1, .iload_n 2, 0, 2, 0, 0, []), (61, 1, .iaload, 0, 0, 0, 0, []), (62, 3, .if_icmp .le 7, 0, 69, 0, 0, []), (65, 1, .iconst 1, 1, 0, 0, 0, []), (66, 3, .goto 4, 0, 70, 0, 0, []), (69, 1, .iconst 0, 0, 0, 0, 0, []), (70, 1, .ireturn, 0, 0, 0, 0, [])]
set_option maxRecDepth 100000 in
theorem ck_57 : (cd_57.all (okCE 6 3 prog_8_method_9_code)) = true := by decide +kernel
/-- TradeTests$Judge.isFalsePass -/
def cd_58 : List CE := [(0, 1, .aload_n 0, 0, 0, 0, 0, []), (1, 3, .getfield 15, 0, 5, 1, 92, []), (4, 3, .getfield 66, 0, 3, 9, 58, []), (7, 1, .iload_n 1, 0, 1, 0, 0, []), (8, 1, .iaload, 0, 0, 0, 0, []), (9, 1, .iconst 1, 1, 0, 0, 0, []), (10, 3, .if_icmp .ne 15, 0, 25, 0, 0, []), (13, 1, .aload_n 0, 0, 0, 0, 0, []), (14, 1, .iload_n 1, 0, 1, 0, 0, []), (15, 3, .invokevirtual 69, 0, 43, 2, 5, []), (18, 3, .ifCond .ne 7, 0, 25, 0, 0, []), (21, 1, .iconst 1, 1, 0, 0, 0, []), (22, 3, .goto 4, 0, 26, 0, 0, []), (25, 1, .iconst 0, 0, 0, 0, 0, []), (26, 1, .ireturn, 0, 0, 0, 0, [])]
set_option maxRecDepth 100000 in
theorem ck_58 : (cd_58.all (okCE 5 2 prog_2_method_5_code)) = true := by decide +kernel
/-- java/lang/Integer.bitCount -/
def cd_59 : List CE := [(0, 1, .iload_n 0, 0, 0, 0, 0, []), (1, 1, .iload_n 0, 0, 0, 0, 0, []), (2, 1, .iconst 1, 1, 0, 0, 0, []), (3, 1, .iushr, 0, 0, 0, 0, []), (4, 3, .ldc_w 265, 1431655765, 0, 0, 0, []), (7, 1, .iand, 0, 0, 0, 0, []), (8, 1, .isub, 0, 0, 0, 0, []), (9, 1, .istore_n 0, 0, 0, 0, 0, []), (10, 1, .iload_n 0, 0, 0, 0, 0, []), (11, 3, .ldc_w 266, 858993459, 0, 0, 0, []), (14, 1, .iand, 0, 0, 0, 0, []), (15, 1, .iload_n 0, 0, 0, 0, 0, []), (16, 1, .iconst 2, 2, 0, 0, 0, []), (17, 1, .iushr, 0, 0, 0, 0, []), (18, 3, .ldc_w 266, 858993459, 0, 0, 0, []), (21, 1, .iand, 0, 0, 0, 0, []), (22, 1, .iadd, 0, 0, 0, 0, []), (23, 1, .istore_n 0, 0, 0, 0, 0, []), (24, 1, .iload_n 0, 0, 0, 0, 0, []), (25, 1, .iload_n 0, 0, 0, 0, 0, []), (26, 1, .iconst 4, 4, 0, 0, 0, []), (27, 1, .iushr, 0, 0, 0, 0, []), (28, 1, .iadd, 0, 0, 0, 0, []), (29, 3, .ldc_w 267, 252645135, 0, 0, 0, []), (32, 1, .iand, 0, 0, 0, 0, []), (33, 1, .istore_n 0, 0, 0, 0, 0, []), (34, 1, .iload_n 0, 0, 0, 0, 0, []), (35, 1, .iload_n 0, 0, 0, 0, 0, []), (36, 2, .bipush 8, 8, 0, 0, 0, []), (38, 1, .iushr, 0, 0, 0, 0, []), (39, 1, .iadd, 0, 0, 0, 0, []), (40, 1, .istore_n 0, 0, 0, 0, 0, []), (41, 1, .iload_n 0, 0, 0, 0, 0, []), (42, 1, .iload_n 0, 0, 0, 0, 0, []), (43, 2, .bipush 16, 16, 0, 0, 0, []), (45, 1, .iushr, 0, 0, 0, 0, []), (46, 1, .iadd, 0, 0, 0, 0, []), (47, 1, .istore_n 0, 0, 0, 0, 0, []), (48, 1, .iload_n 0, 0, 0, 0, 0, []), (49, 2, .bipush 63, 63, 0, 0, 0, []), (51, 1, .iand, 0, 0, 0, 0, []), (52, 1, .ireturn, 0, 0, 0, 0, [])]
set_option maxRecDepth 100000 in
theorem ck_59 : (cd_59.all (okCE 14 1 prog_15_method_49_code)) = true := by decide +kernel
/-- TradeTests$Secrets.knownIn -/
def cd_60 : List CE := [(0, 1, .aload_n 0, 0, 0, 0, 0, []), (1, 1, .iload_n 1, 0, 1, 0, 0, []), (2, 3, .invokevirtual 35, 0, 61, 2, 9, []), (5, 3, .ifCond .eq 22, 0, 27, 0, 0, []), (8, 1, .aload_n 0, 0, 0, 0, 0, []), (9, 3, .getfield 9, 0, 9, 2, 110, []), (12, 1, .aload_n 0, 0, 0, 0, 0, []), (13, 3, .getfield 15, 0, 9, 0, 108, []), (16, 3, .getfield 27, 0, 3, 11, 64, []), (19, 1, .iload_n 1, 0, 1, 0, 0, []), (20, 1, .iaload, 0, 0, 0, 0, []), (21, 1, .iconst 1, 1, 0, 0, 0, []), (22, 1, .isub, 0, 0, 0, 0, []), (23, 1, .iaload, 0, 0, 0, 0, []), (24, 3, .goto 4, 0, 28, 0, 0, []), (27, 1, .iconst 0, 0, 0, 0, 0, []), (28, 1, .ireturn, 0, 0, 0, 0, [])]
set_option maxRecDepth 100000 in
theorem ck_60 : (cd_60.all (okCE 9 2 prog_7_method_5_code)) = true := by decide +kernel
/-- TradeTests$Secrets.isVisited -/
def cd_61 : List CE := [(0, 1, .aload_n 0, 0, 0, 0, 0, []), (1, 3, .getfield 15, 0, 9, 0, 108, []), (4, 3, .getfield 27, 0, 3, 11, 64, []), (7, 1, .iload_n 1, 0, 1, 0, 0, []), (8, 1, .iaload, 0, 0, 0, 0, []), (9, 3, .ifCond .le 7, 0, 16, 0, 0, []), (12, 1, .iconst 1, 1, 0, 0, 0, []), (13, 3, .goto 4, 0, 17, 0, 0, []), (16, 1, .iconst 0, 0, 0, 0, 0, []), (17, 1, .ireturn, 0, 0, 0, 0, [])]
set_option maxRecDepth 100000 in
theorem ck_61 : (cd_61.all (okCE 9 2 prog_7_method_3_code)) = true := by decide +kernel
/-- TradeTests$Rates.figure -/
def cd_62 : List CE := [(0, 1, .aload_n 0, 0, 0, 0, 0, []), (1, 3, .invokevirtual 30, 0, 63, 1, 7, []), (4, 1, .aload_n 0, 0, 0, 0, 0, []), (5, 1, .iload_n 1, 0, 1, 0, 0, []), (6, 3, .invokevirtual 37, 0, 66, 2, 7, []), (9, 1, .iload_n 2, 0, 2, 0, 0, []), (10, 34, .tableswitch 59 0 4 #[34, 39, 44, 49, 54], 0, 69, 0, 0, [(0, 44), (1, 49), (2, 54), (3, 59), (4, 64)]), (44, 1, .aload_n 0, 0, 0, 0, 0, []), (45, 3, .getfield 41, 0, 7, 5, 103, []), (48, 1, .ireturn, 0, 0, 0, 0, []), (49, 1, .aload_n 0, 0, 0, 0, 0, []), (50, 3, .getfield 45, 0, 7, 6, 104, []), (53, 1, .ireturn, 0, 0, 0, 0, []), (54, 1, .aload_n 0, 0, 0, 0, 0, []), (55, 3, .getfield 48, 0, 7, 7, 105, []), (58, 1, .ireturn, 0, 0, 0, 0, []), (59, 1, .aload_n 0, 0, 0, 0, 0, []), (60, 3, .getfield 51, 0, 7, 8, 106, []), (63, 1, .ireturn, 0, 0, 0, 0, []), (64, 1, .aload_n 0, 0, 0, 0, 0, []), (65, 3, .invokevirtual 54, 0, 68, 1, 7, []), (68, 1, .ireturn, 0, 0, 0, 0, []), (69, 1, .aload_n 0, 0, 0, 0, 0, []), (70, 3, .invokevirtual 58, 0, 69, 1, 7, []), (73, 1, .ireturn, 0, 0, 0, 0, [])]
set_option maxRecDepth 100000 in
theorem ck_62 : (cd_62.all (okCE 7 3 prog_6_method_3_code)) = true := by decide +kernel
/-- TradeTests$Rates.fillCells -/
def cd_63 : List CE := [(0, 1, .iconst 0, 0, 0, 0, 0, []), (1, 1, .istore_n 1, 0, 1, 0, 0, []), (2, 1, .iload_n 1, 0, 1, 0, 0, []), (3, 2, .bipush 16, 16, 0, 0, 0, []), (5, 3, .if_icmp .ge 23, 0, 28, 0, 0, []), (8, 1, .aload_n 0, 0, 0, 0, 0, []), (9, 3, .getfield 9, 0, 7, 3, 101, []), (12, 1, .iload_n 1, 0, 1, 0, 0, []), (13, 1, .iconst 0, 0, 0, 0, 0, []), (14, 1, .iastore, 0, 0, 0, 0, []), (15, 1, .aload_n 0, 0, 0, 0, 0, []), (16, 3, .getfield 15, 0, 7, 4, 102, []), (19, 1, .iload_n 1, 0, 1, 0, 0, []), (20, 1, .iconst 0, 0, 0, 0, 0, []), (21, 1, .iastore, 0, 0, 0, 0, []), (22, 3, .iinc 1 1, 1, 1, 0, 0, []), (25, 3, .goto (-23), 0, 2, 0, 0, []), (28, 1, .iconst 0, 0, 0, 0, 0, []), (29, 1, .istore_n 1, 0, 1, 0, 0, []), (30, 1, .iload_n 1, 0, 1, 0, 0, []), (31, 1, .aload_n 0, 0, 0, 0, 0, []), (32, 3, .getfield 26, 0, 7, 2, 100, []), (35, 3, .getfield 61, 0, 3, 14, 71, []), (38, 3, .if_icmp .ge 43, 0, 81, 0, 0, []), (41, 1, .aload_n 0, 0, 0, 0, 0, []), (42, 1, .iload_n 1, 0, 1, 0, 0, []), (43, 3, .invokevirtual 66, 0, 64, 2, 7, []), (46, 1, .istore_n 2, 0, 2, 0, 0, []), (47, 1, .aload_n 0, 0, 0, 0, 0, []), (48, 3, .getfield 9, 0, 7, 3, 101, []), (51, 1, .iload_n 2, 0, 2, 0, 0, []), (52, 1, .dup2, 0, 0, 0, 0, []), (53, 1, .iaload, 0, 0, 0, 0, []), (54, 1, .iconst 1, 1, 0, 0, 0, []), (55, 1, .iadd, 0, 0, 0, 0, []), (56, 1, .iastore, 0, 0, 0, 0, []), (57, 1, .aload_n 0, 0, 0, 0, 0, []), (58, 3, .getfield 15, 0, 7, 4, 102, []), (61, 1, .iload_n 2, 0, 2, 0, 0, []), (62, 1, .dup2, 0, 0, 0, 0, []), (63, 1, .iaload, 0, 0, 0, 0, []), (64, 1, .aload_n 0, 0, 0, 0, 0, []), (65, 3, .getfield 26, 0, 7, 2, 100, []), (68, 3, .getfield 69, 0, 3, 9, 59, []), (71, 1, .iload_n 1, 0, 1, 0, 0, []), (72, 1, .iaload, 0, 0, 0, 0, []), (73, 1, .iadd, 0, 0, 0, 0, []), (74, 1, .iastore, 0, 0, 0, 0, []), (75, 3, .iinc 1 1, 1, 1, 0, 0, []), (78, 3, .goto (-48), 0, 30, 0, 0, []), (81, 1, .return_, 0, 0, 0, 0, [])]
set_option maxRecDepth 100000 in
theorem ck_63 : (cd_63.all (okCE 7 3 prog_6_method_4_code)) = true := by decide +kernel
/-- TradeTests$Rates.cellOf -/
def cd_64 : List CE := [(0, 1, .aload_n 0, 0, 0, 0, 0, []), (1, 3, .getfield 26, 0, 7, 2, 100, []), (4, 3, .getfield 71, 0, 3, 0, 29, []), (7, 1, .iload_n 1, 0, 1, 0, 0, []), (8, 1, .iaload, 0, 0, 0, 0, []), (9, 1, .istore_n 2, 0, 2, 0, 0, []), (10, 1, .aload_n 0, 0, 0, 0, 0, []), (11, 3, .getfield 18, 0, 7, 0, 98, []), (14, 1, .iload_n 2, 0, 2, 0, 0, []), (15, 1, .aload_n 0, 0, 0, 0, 0, []), (16, 3, .getfield 26, 0, 7, 2, 100, []), (19, 3, .getfield 74, 0, 3, 2, 37, []), (22, 1, .iload_n 1, 0, 1, 0, 0, []), (23, 1, .iaload, 0, 0, 0, 0, []), (24, 3, .invokevirtual 77, 0, 65, 3, 1, []), (27, 1, .iconst 4, 4, 0, 0, 0, []), (28, 1, .imul, 0, 0, 0, 0, []), (29, 1, .aload_n 0, 0, 0, 0, 0, []), (30, 3, .getfield 18, 0, 7, 0, 98, []), (33, 3, .getfield 83, 0, 1, 1, 5, []), (36, 1, .iload_n 2, 0, 2, 0, 0, []), (37, 1, .iaload, 0, 0, 0, 0, []), (38, 1, .iadd, 0, 0, 0, 0, []), (39, 1, .ireturn, 0, 0, 0, 0, [])]
set_option maxRecDepth 100000 in
theorem ck_64 : (cd_64.all (okCE 7 3 prog_6_method_5_code)) = true := by decide +kernel
end
section
/-! code tables 65 .. 129 (written by wip/whole/gen/code.py) -/
/-- TradeTests$Vehicles.ageClass -/
def cd_65 : List CE := [(0, 1, .iload_n 2, 0, 2, 0, 0, []), (1, 1, .aload_n 0, 0, 0, 0, 0, []), (2, 3, .getfield 18, 0, 1, 2, 6, []), (5, 1, .iload_n 1, 0, 1, 0, 0, []), (6, 1, .iaload, 0, 0, 0, 0, []), (7, 1, .isub, 0, 0, 0, 0, []), (8, 3, .sipush 365, 365, 0, 0, 0, []), (11, 1, .idiv, 0, 0, 0, 0, []), (12, 1, .istore_n 3, 0, 3, 0, 0, []), (13, 1, .iload_n 3, 0, 3, 0, 0, []), (14, 1, .iconst 3, 3, 0, 0, 0, []), (15, 3, .if_icmp .ge 5, 0, 20, 0, 0, []), (18, 1, .iconst 0, 0, 0, 0, 0, []), (19, 1, .ireturn, 0, 0, 0, 0, []), (20, 1, .iload_n 3, 0, 3, 0, 0, []), (21, 2, .bipush 6, 6, 0, 0, 0, []), (23, 3, .if_icmp .ge 5, 0, 28, 0, 0, []), (26, 1, .iconst 1, 1, 0, 0, 0, []), (27, 1, .ireturn, 0, 0, 0, 0, []), (28, 1, .iload_n 3, 0, 3, 0, 0, []), (29, 2, .bipush 10, 10, 0, 0, 0, []), (31, 3, .if_icmp .ge 7, 0, 38, 0, 0, []), (34, 1, .iconst 2, 2, 0, 0, 0, []), (35, 3, .goto 4, 0, 39, 0, 0, []), (38, 1, .iconst 3, 3, 0, 0, 0, []), (39, 1, .ireturn, 0, 0, 0, 0, [])]
set_option maxRecDepth 100000 in
theorem ck_65 : (cd_65.all (okCE 1 4 prog_12_method_4_code)) = true := by decide +kernel
/-- TradeTests$Rates.measure -/
def cd_66 : List CE := [(0, 1, .aload_n 0, 0, 0, 0, 0, []), (1, 1, .iconst 0, 0, 0, 0, 0, []), (2, 3, .putfield 41, 0, 7, 5, 103, []), (5, 1, .aload_n 0, 0, 0, 0, 0, []), (6, 1, .iconst 0, 0, 0, 0, 0, []), (7, 3, .putfield 45, 0, 7, 6, 104, []), (10, 1, .aload_n 0, 0, 0, 0, 0, []), (11, 1, .iconst 0, 0, 0, 0, 0, []), (12, 3, .putfield 48, 0, 7, 7, 105, []), (15, 1, .aload_n 0, 0, 0, 0, 0, []), (16, 1, .iconst 0, 0, 0, 0, 0, []), (17, 3, .putfield 51, 0, 7, 8, 106, []), (20, 1, .iconst 0, 0, 0, 0, 0, []), (21, 1, .istore_n 2, 0, 2, 0, 0, []), (22, 1, .iload_n 2, 0, 2, 0, 0, []), (23, 1, .aload_n 0, 0, 0, 0, 0, []), (24, 3, .getfield 26, 0, 7, 2, 100, []), (27, 3, .getfield 61, 0, 3, 14, 71, []), (30, 3, .if_icmp .ge 89, 0, 119, 0, 0, []), (33, 1, .aload_n 0, 0, 0, 0, 0, []), (34, 3, .getfield 22, 0, 7, 1, 99, []), (37, 1, .aload_n 0, 0, 0, 0, 0, []), (38, 3, .getfield 26, 0, 7, 2, 100, []), (41, 1, .iload_n 2, 0, 2, 0, 0, []), (42, 3, .invokevirtual 86, 0, 24, 3, 2, []), (45, 1, .iload_n 1, 0, 1, 0, 0, []), (46, 3, .if_icmp .ne 67, 0, 113, 0, 0, []), (49, 1, .aload_n 0, 0, 0, 0, 0, []), (50, 1, .aload_n 0, 0, 0, 0, 0, []), (51, 1, .iload_n 2, 0, 2, 0, 0, []), (52, 3, .invokevirtual 66, 0, 64, 2, 7, []), (55, 3, .invokevirtual 33, 0, 67, 2, 7, []), (58, 1, .istore_n 3, 0, 3, 0, 0, []), (59, 1, .aload_n 0, 0, 0, 0, 0, []), (60, 1, .dup, 0, 0, 0, 0, []), (61, 3, .getfield 41, 0, 7, 5, 103, []), (64, 1, .iconst 1, 1, 0, 0, 0, []), (65, 1, .iadd, 0, 0, 0, 0, []), (66, 3, .putfield 41, 0, 7, 5, 103, []), (69, 1, .aload_n 0, 0, 0, 0, 0, []), (70, 1, .dup, 0, 0, 0, 0, []), (71, 3, .getfield 45, 0, 7, 6, 104, []), (74, 1, .aload_n 0, 0, 0, 0, 0, []), (75, 3, .getfield 26, 0, 7, 2, 100, []), (78, 3, .getfield 69, 0, 3, 9, 59, []), (81, 1, .iload_n 2, 0, 2, 0, 0, []), (82, 1, .iaload, 0, 0, 0, 0, []), (83, 1, .iadd, 0, 0, 0, 0, []), (84, 3, .putfield 45, 0, 7, 6, 104, []), (87, 1, .aload_n 0, 0, 0, 0, 0, []), (88, 1, .dup, 0, 0, 0, 0, []), (89, 3, .getfield 48, 0, 7, 7, 105, []), (92, 1, .iload_n 3, 0, 3, 0, 0, []), (93, 1, .iadd, 0, 0, 0, 0, []), (94, 3, .putfield 48, 0, 7, 7, 105, []), (97, 1, .aload_n 0, 0, 0, 0, 0, []), (98, 1, .dup, 0, 0, 0, 0, []), (99, 3, .getfield 51, 0, 7, 8, 106, []), (102, 1, .iload_n 3, 0, 3, 0, 0, []), (103, 3, .sipush 1000, 1000, 0, 0, 0, []), (106, 1, .iload_n 3, 0, 3, 0, 0, []), (107, 1, .isub, 0, 0, 0, 0, []), (108, 1, .imul, 0, 0, 0, 0, []), (109, 1, .iadd, 0, 0, 0, 0, []), (110, 3, .putfield 51, 0, 7, 8, 106, []), (113, 3, .iinc 2 1, 1, 2, 0, 0, []), (116, 3, .goto (-94), 0, 22, 0, 0, []), (119, 1, .return_, 0, 0, 0, 0, [])]
set_option maxRecDepth 100000 in
theorem ck_66 : (cd_66.all (okCE 7 4 prog_6_method_7_code)) = true := by decide +kernel
/-- TradeTests$Rates.cellShare -/
def cd_67 : List CE := [(0, 1, .aload_n 0, 0, 0, 0, 0, []), (1, 3, .getfield 9, 0, 7, 3, 101, []), (4, 1, .iload_n 1, 0, 1, 0, 0, []), (5, 1, .iaload, 0, 0, 0, 0, []), (6, 3, .ifCond .le 23, 0, 29, 0, 0, []), (9, 3, .sipush 1000, 1000, 0, 0, 0, []), (12, 1, .aload_n 0, 0, 0, 0, 0, []), (13, 3, .getfield 15, 0, 7, 4, 102, []), (16, 1, .iload_n 1, 0, 1, 0, 0, []), (17, 1, .iaload, 0, 0, 0, 0, []), (18, 1, .imul, 0, 0, 0, 0, []), (19, 1, .aload_n 0, 0, 0, 0, 0, []), (20, 3, .getfield 9, 0, 7, 3, 101, []), (23, 1, .iload_n 1, 0, 1, 0, 0, []), (24, 1, .iaload, 0, 0, 0, 0, []), (25, 1, .idiv, 0, 0, 0, 0, []), (26, 3, .goto 4, 0, 30, 0, 0, []), (29, 1, .iconst (-1), (-1), 0, 0, 0, []), (30, 1, .ireturn, 0, 0, 0, 0, [])]
set_option maxRecDepth 100000 in
theorem ck_67 : (cd_67.all (okCE 7 2 prog_6_method_6_code)) = true := by decide +kernel
/-- TradeTests$Rates.more -/
def cd_68 : List CE := [(0, 3, .sipush 1000, 1000, 0, 0, 0, []), (3, 1, .aload_n 0, 0, 0, 0, 0, []), (4, 3, .getfield 45, 0, 7, 6, 104, []), (7, 1, .imul, 0, 0, 0, 0, []), (8, 1, .aload_n 0, 0, 0, 0, 0, []), (9, 3, .getfield 48, 0, 7, 7, 105, []), (12, 1, .isub, 0, 0, 0, 0, []), (13, 1, .ireturn, 0, 0, 0, 0, [])]
set_option maxRecDepth 100000 in
theorem ck_68 : (cd_68.all (okCE 7 1 prog_6_method_8_code)) = true := by decide +kernel
/-- TradeTests$Rates.beyondChance -/
def cd_69 : List CE := [(0, 1, .aload_n 0, 0, 0, 0, 0, []), (1, 3, .invokevirtual 54, 0, 68, 1, 7, []), (4, 1, .i2l, 0, 0, 0, 0, []), (5, 1, .lstore_n 1, 0, 1, 0, 0, []), (6, 1, .aload_n 0, 0, 0, 0, 0, []), (7, 3, .getfield 51, 0, 7, 8, 106, []), (10, 1, .i2l, 0, 0, 0, 0, []), (11, 1, .iconst 4, 4, 0, 0, 0, []), (12, 1, .aload_n 0, 0, 0, 0, 0, []), (13, 3, .invokevirtual 92, 0, 70, 1, 7, []), (16, 1, .iadd, 0, 0, 0, 0, []), (17, 1, .i2l, 0, 0, 0, 0, []), (18, 1, .lmul, 0, 0, 0, 0, []), (19, 1, .lstore_n 3, 0, 3, 0, 0, []), (20, 1, .lload_n 1, 0, 1, 0, 0, []), (21, 1, .lload_n 1, 0, 1, 0, 0, []), (22, 1, .lmul, 0, 0, 0, 0, []), (23, 1, .lload_n 3, 0, 3, 0, 0, []), (24, 1, .lcmp, 0, 0, 0, 0, []), (25, 3, .ifCond .gt 5, 0, 30, 0, 0, []), (28, 1, .iconst 0, 0, 0, 0, 0, []), (29, 1, .ireturn, 0, 0, 0, 0, []), (30, 1, .lload_n 1, 0, 1, 0, 0, []), (31, 1, .lconst 0, 0, 0, 0, 0, []), (32, 1, .lcmp, 0, 0, 0, 0, []), (33, 3, .ifCond .le 7, 0, 40, 0, 0, []), (36, 1, .iconst 1, 1, 0, 0, 0, []), (37, 3, .goto 4, 0, 41, 0, 0, []), (40, 1, .iconst 2, 2, 0, 0, 0, []), (41, 1, .ireturn, 0, 0, 0, 0, [])]
set_option maxRecDepth 100000 in
theorem ck_69 : (cd_69.all (okCE 7 5 prog_6_method_9_code)) = true := by decide +kernel
/-- TradeTests$Rates.garagesWithTests -/
def cd_70 : List CE := [(0, 1, .iconst 0, 0, 0, 0, 0, []), (1, 1, .istore_n 1, 0, 1, 0, 0, []), (2, 1, .iconst 0, 0, 0, 0, 0, []), (3, 1, .istore_n 2, 0, 2, 0, 0, []), (4, 1, .iload_n 2, 0, 2, 0, 0, []), (5, 1, .aload_n 0, 0, 0, 0, 0, []), (6, 3, .getfield 26, 0, 7, 2, 100, []), (9, 3, .getfield 61, 0, 3, 14, 71, []), (12, 3, .if_icmp .ge 26, 0, 38, 0, 0, []), (15, 1, .iload_n 1, 0, 1, 0, 0, []), (16, 1, .iconst 1, 1, 0, 0, 0, []), (17, 1, .aload_n 0, 0, 0, 0, 0, []), (18, 3, .getfield 22, 0, 7, 1, 99, []), (21, 1, .aload_n 0, 0, 0, 0, 0, []), (22, 3, .getfield 26, 0, 7, 2, 100, []), (25, 1, .iload_n 2, 0, 2, 0, 0, []), (26, 3, .invokevirtual 86, 0, 24, 3, 2, []), (29, 1, .ishl, 0, 0, 0, 0, []), (30, 1, .ior, 0, 0, 0, 0, []), (31, 1, .istore_n 1, 0, 1, 0, 0, []), (32, 3, .iinc 2 1, 1, 2, 0, 0, []), (35, 3, .goto (-31), 0, 4, 0, 0, []), (38, 1, .iload_n 1, 0, 1, 0, 0, []), (39, 3, .invokestatic 95, 0, 59, 1, 0, []), (42, 1, .ireturn, 0, 0, 0, 0, [])]
set_option maxRecDepth 100000 in
theorem ck_70 : (cd_70.all (okCE 7 3 prog_6_method_10_code)) = true := by decide +kernel
/-- TradeTests.share -/
def cd_71 : List CE := [(0, 1, .iload_n 1, 0, 1, 0, 0, []), (1, 1, .iconst 4, 4, 0, 0, 0, []), (2, 3, .invokestatic 111, 0, 1, 2, 0, []), (5, 3, .ifCond .eq 11, 0, 16, 0, 0, []), (8, 1, .iload_n 2, 0, 2, 0, 0, []), (9, 1, .iconst 4, 4, 0, 0, 0, []), (10, 3, .invokestatic 111, 0, 1, 2, 0, []), (13, 3, .ifCond .ne 9, 0, 22, 0, 0, []), (16, 1, .aload_n 0, 0, 0, 0, 0, []), (17, 1, .iconst 1, 1, 0, 0, 0, []), (18, 3, .invokevirtual 115, 0, 2, 2, 0, []), (21, 1, .ireturn, 0, 0, 0, 0, []), (22, 1, .aload_n 0, 0, 0, 0, 0, []), (23, 3, .getfield 60, 0, 0, 6, 137, []), (26, 1, .iload_n 1, 0, 1, 0, 0, []), (27, 1, .iload_n 2, 0, 2, 0, 0, []), (28, 3, .invokevirtual 220, 0, 72, 3, 7, []), (31, 1, .istore_n 3, 0, 3, 0, 0, []), (32, 1, .iload_n 3, 0, 3, 0, 0, []), (33, 3, .ifCond .ge 11, 0, 44, 0, 0, []), (36, 1, .aload_n 0, 0, 0, 0, 0, []), (37, 1, .iconst 2, 2, 0, 0, 0, []), (38, 3, .invokevirtual 115, 0, 2, 2, 0, []), (41, 3, .goto 4, 0, 45, 0, 0, []), (44, 1, .iload_n 3, 0, 3, 0, 0, []), (45, 1, .ireturn, 0, 0, 0, 0, [])]
set_option maxRecDepth 100000 in
theorem ck_71 : (cd_71.all (okCE 0 4 prog_1_method_16_code)) = true := by decide +kernel
/-- TradeTests$Rates.shareOf -/
def cd_72 : List CE := [(0, 1, .aload_n 0, 0, 0, 0, 0, []), (1, 3, .invokevirtual 30, 0, 63, 1, 7, []), (4, 1, .aload_n 0, 0, 0, 0, 0, []), (5, 1, .iload_n 1, 0, 1, 0, 0, []), (6, 1, .iconst 4, 4, 0, 0, 0, []), (7, 1, .imul, 0, 0, 0, 0, []), (8, 1, .iload_n 2, 0, 2, 0, 0, []), (9, 1, .iadd, 0, 0, 0, 0, []), (10, 3, .invokevirtual 33, 0, 67, 2, 7, []), (13, 1, .ireturn, 0, 0, 0, 0, [])]
set_option maxRecDepth 100000 in
theorem ck_72 : (cd_72.all (okCE 7 3 prog_6_method_2_code)) = true := by decide +kernel
/-- TradeTests.signs -/
def cd_73 : List CE := [(0, 1, .iload_n 1, 0, 1, 0, 0, []), (1, 1, .aload_n 0, 0, 0, 0, 0, []), (2, 3, .getfield 26, 0, 0, 2, 133, []), (5, 3, .getfield 175, 0, 3, 14, 74, []), (8, 3, .invokestatic 111, 0, 1, 2, 0, []), (11, 3, .ifCond .ne 9, 0, 20, 0, 0, []), (14, 1, .aload_n 0, 0, 0, 0, 0, []), (15, 1, .iconst 1, 1, 0, 0, 0, []), (16, 3, .invokevirtual 115, 0, 2, 2, 0, []), (19, 1, .ireturn, 0, 0, 0, 0, []), (20, 1, .aload_n 0, 0, 0, 0, 0, []), (21, 3, .getfield 51, 0, 0, 5, 136, []), (24, 1, .iload_n 1, 0, 1, 0, 0, []), (25, 3, .invokevirtual 223, 0, 50, 2, 6, []), (28, 1, .ireturn, 0, 0, 0, 0, [])]
set_option maxRecDepth 100000 in
theorem ck_73 : (cd_73.all (okCE 0 2 prog_1_method_17_code)) = true := by decide +kernel
/-- TradeTests.alike -/
def cd_74 : List CE := [(0, 1, .iload_n 1, 0, 1, 0, 0, []), (1, 1, .aload_n 0, 0, 0, 0, 0, []), (2, 3, .getfield 26, 0, 0, 2, 133, []), (5, 3, .getfield 175, 0, 3, 14, 74, []), (8, 3, .invokestatic 111, 0, 1, 2, 0, []), (11, 3, .ifCond .ne 9, 0, 20, 0, 0, []), (14, 1, .aload_n 0, 0, 0, 0, 0, []), (15, 1, .iconst 1, 1, 0, 0, 0, []), (16, 3, .invokevirtual 115, 0, 2, 2, 0, []), (19, 1, .ireturn, 0, 0, 0, 0, []), (20, 1, .aload_n 0, 0, 0, 0, 0, []), (21, 3, .getfield 51, 0, 0, 5, 136, []), (24, 1, .iload_n 1, 0, 1, 0, 0, []), (25, 3, .invokevirtual 226, 0, 51, 2, 6, []), (28, 1, .ireturn, 0, 0, 0, 0, [])]
set_option maxRecDepth 100000 in
theorem ck_74 : (cd_74.all (okCE 0 2 prog_1_method_18_code)) = true := by decide +kernel
/-- TradeTests.falls -/
def cd_75 : List CE := [(0, 1, .iload_n 1, 0, 1, 0, 0, []), (1, 1, .aload_n 0, 0, 0, 0, 0, []), (2, 3, .getfield 26, 0, 0, 2, 133, []), (5, 3, .getfield 175, 0, 3, 14, 74, []), (8, 3, .invokestatic 111, 0, 1, 2, 0, []), (11, 3, .ifCond .ne 9, 0, 20, 0, 0, []), (14, 1, .aload_n 0, 0, 0, 0, 0, []), (15, 1, .iconst 1, 1, 0, 0, 0, []), (16, 3, .invokevirtual 115, 0, 2, 2, 0, []), (19, 1, .ireturn, 0, 0, 0, 0, []), (20, 1, .aload_n 0, 0, 0, 0, 0, []), (21, 3, .getfield 10, 0, 0, 0, 131, []), (24, 3, .getfield 126, 0, 1, 0, 2, []), (27, 1, .aload_n 0, 0, 0, 0, 0, []), (28, 3, .getfield 26, 0, 0, 2, 133, []), (31, 3, .getfield 229, 0, 3, 0, 30, []), (34, 1, .iload_n 1, 0, 1, 0, 0, []), (35, 1, .iaload, 0, 0, 0, 0, []), (36, 1, .iaload, 0, 0, 0, 0, []), (37, 1, .iconst 3, 3, 0, 0, 0, []), (38, 3, .if_icmp .ne 9, 0, 47, 0, 0, []), (41, 1, .aload_n 0, 0, 0, 0, 0, []), (42, 1, .iconst 5, 5, 0, 0, 0, []), (43, 3, .invokevirtual 115, 0, 2, 2, 0, []), (46, 1, .ireturn, 0, 0, 0, 0, []), (47, 1, .aload_n 0, 0, 0, 0, 0, []), (48, 3, .getfield 69, 0, 0, 7, 138, []), (51, 1, .iload_n 1, 0, 1, 0, 0, []), (52, 3, .invokevirtual 232, 0, 76, 2, 8, []), (55, 1, .ireturn, 0, 0, 0, 0, [])]
set_option maxRecDepth 100000 in
theorem ck_75 : (cd_75.all (okCE 0 2 prog_1_method_19_code)) = true := by decide +kernel
/-- TradeTests$Odometer.fall -/
def cd_76 : List CE := [(0, 1, .aload_n 0, 0, 0, 0, 0, []), (1, 3, .getfield 9, 0, 8, 0, 107, []), (4, 3, .getfield 15, 0, 3, 5, 47, []), (7, 1, .iload_n 1, 0, 1, 0, 0, []), (8, 1, .iaload, 0, 0, 0, 0, []), (9, 1, .istore_n 2, 0, 2, 0, 0, []), (10, 1, .aload_n 0, 0, 0, 0, 0, []), (11, 1, .iload_n 1, 0, 1, 0, 0, []), (12, 3, .invokevirtual 21, 0, 77, 2, 8, []), (15, 1, .istore_n 3, 0, 3, 0, 0, []), (16, 1, .iload_n 2, 0, 2, 0, 0, []), (17, 1, .iload_n 3, 0, 3, 0, 0, []), (18, 3, .if_icmp .lt 5, 0, 23, 0, 0, []), (21, 1, .iconst 0, 0, 0, 0, 0, []), (22, 1, .ireturn, 0, 0, 0, 0, []), (23, 1, .iload_n 2, 0, 2, 0, 0, []), (24, 1, .iload_n 3, 0, 3, 0, 0, []), (25, 1, .aload_n 0, 0, 0, 0, 0, []), (26, 1, .iload_n 1, 0, 1, 0, 0, []), (27, 3, .invokevirtual 25, 0, 78, 2, 8, []), (30, 3, .invokestatic 28, 0, 79, 3, 0, []), (33, 3, .ifCond .eq 7, 0, 40, 0, 0, []), (36, 1, .iconst 1, 1, 0, 0, 0, []), (37, 3, .goto 4, 0, 41, 0, 0, []), (40, 1, .iconst 2, 2, 0, 0, 0, []), (41, 1, .ireturn, 0, 0, 0, 0, [])]
set_option maxRecDepth 100000 in
theorem ck_76 : (cd_76.all (okCE 8 4 prog_3_method_2_code)) = true := by decide +kernel
/-- TradeTests$Odometer.milesAhead -/
def cd_77 : List CE := [(0, 1, .iload_n 1, 0, 1, 0, 0, []), (1, 1, .iconst 1, 1, 0, 0, 0, []), (2, 1, .isub, 0, 0, 0, 0, []), (3, 1, .istore_n 2, 0, 2, 0, 0, []), (4, 1, .iload_n 2, 0, 2, 0, 0, []), (5, 3, .ifCond .lt 40, 0, 45, 0, 0, []), (8, 1, .aload_n 0, 0, 0, 0, 0, []), (9, 3, .getfield 9, 0, 8, 0, 107, []), (12, 3, .getfield 32, 0, 3, 0, 27, []), (15, 1, .iload_n 2, 0, 2, 0, 0, []), (16, 1, .iaload, 0, 0, 0, 0, []), (17, 1, .aload_n 0, 0, 0, 0, 0, []), (18, 3, .getfield 9, 0, 8, 0, 107, []), (21, 3, .getfield 32, 0, 3, 0, 27, []), (24, 1, .iload_n 1, 0, 1, 0, 0, []), (25, 1, .iaload, 0, 0, 0, 0, []), (26, 3, .if_icmp .ne 13, 0, 39, 0, 0, []), (29, 1, .aload_n 0, 0, 0, 0, 0, []), (30, 3, .getfield 9, 0, 8, 0, 107, []), (33, 3, .getfield 15, 0, 3, 5, 47, []), (36, 1, .iload_n 2, 0, 2, 0, 0, []), (37, 1, .iaload, 0, 0, 0, 0, []), (38, 1, .ireturn, 0, 0, 0, 0, []), (39, 3, .iinc 2 (-1), (-1), 2, 0, 0, []), (42, 3, .goto (-38), 0, 4, 0, 0, []), (45, 1, .iconst 0, 0, 0, 0, 0, []), (46, 1, .ireturn, 0, 0, 0, 0, [])]
set_option maxRecDepth 100000 in
theorem ck_77 : (cd_77.all (okCE 8 3 prog_3_method_3_code)) = true := by decide +kernel
/-- TradeTests$Odometer.milesBehind -/
def cd_78 : List CE := [(0, 1, .iload_n 1, 0, 1, 0, 0, []), (1, 1, .iconst 1, 1, 0, 0, 0, []), (2, 1, .iadd, 0, 0, 0, 0, []), (3, 1, .istore_n 2, 0, 2, 0, 0, []), (4, 1, .iload_n 2, 0, 2, 0, 0, []), (5, 1, .aload_n 0, 0, 0, 0, 0, []), (6, 3, .getfield 9, 0, 8, 0, 107, []), (9, 3, .getfield 35, 0, 3, 14, 69, []), (12, 3, .if_icmp .ge 40, 0, 52, 0, 0, []), (15, 1, .aload_n 0, 0, 0, 0, 0, []), (16, 3, .getfield 9, 0, 8, 0, 107, []), (19, 3, .getfield 32, 0, 3, 0, 27, []), (22, 1, .iload_n 2, 0, 2, 0, 0, []), (23, 1, .iaload, 0, 0, 0, 0, []), (24, 1, .aload_n 0, 0, 0, 0, 0, []), (25, 3, .getfield 9, 0, 8, 0, 107, []), (28, 3, .getfield 32, 0, 3, 0, 27, []), (31, 1, .iload_n 1, 0, 1, 0, 0, []), (32, 1, .iaload, 0, 0, 0, 0, []), (33, 3, .if_icmp .ne 13, 0, 46, 0, 0, []), (36, 1, .aload_n 0, 0, 0, 0, 0, []), (37, 3, .getfield 9, 0, 8, 0, 107, []), (40, 3, .getfield 15, 0, 3, 5, 47, []), (43, 1, .iload_n 2, 0, 2, 0, 0, []), (44, 1, .iaload, 0, 0, 0, 0, []), (45, 1, .ireturn, 0, 0, 0, 0, []), (46, 3, .iinc 2 1, 1, 2, 0, 0, []), (49, 3, .goto (-45), 0, 4, 0, 0, []), (52, 2, .ldc 39, 999999, 0, 0, 0, []), (54, 1, .ireturn, 0, 0, 0, 0, [])]
set_option maxRecDepth 100000 in
theorem ck_78 : (cd_78.all (okCE 8 3 prog_3_method_4_code)) = true := by decide +kernel
/-- TradeTests$Odometer.isTyped -/
def cd_79 : List CE := [(0, 1, .iconst 1, 1, 0, 0, 0, []), (1, 1, .istore_n 3, 0, 3, 0, 0, []), (2, 1, .iload_n 3, 0, 3, 0, 0, []), (3, 2, .ldc 40, 1000000, 0, 0, 0, []), (5, 3, .if_icmp .ge 67, 0, 72, 0, 0, []), (8, 1, .iload_n 3, 0, 3, 0, 0, []), (9, 1, .iconst 1, 1, 0, 0, 0, []), (10, 3, .if_icmp .eq 8, 0, 18, 0, 0, []), (13, 1, .iload_n 3, 0, 3, 0, 0, []), (14, 1, .iload_n 0, 0, 0, 0, 0, []), (15, 3, .if_icmp .gt 57, 0, 72, 0, 0, []), (18, 1, .iload_n 0, 0, 0, 0, 0, []), (19, 2, .istore 4, 0, 4, 0, 0, []), (21, 1, .iload_n 0, 0, 0, 0, 0, []), (22, 1, .iload_n 3, 0, 3, 0, 0, []), (23, 1, .idiv, 0, 0, 0, 0, []), (24, 2, .bipush 10, 10, 0, 0, 0, []), (26, 1, .irem, 0, 0, 0, 0, []), (27, 1, .iconst 1, 1, 0, 0, 0, []), (28, 1, .iadd, 0, 0, 0, 0, []), (29, 2, .istore 5, 0, 5, 0, 0, []), (31, 2, .iload 5, 0, 5, 0, 0, []), (33, 2, .bipush 10, 10, 0, 0, 0, []), (35, 3, .if_icmp .ge 29, 0, 64, 0, 0, []), (38, 2, .iload 4, 0, 4, 0, 0, []), (40, 1, .iload_n 3, 0, 3, 0, 0, []), (41, 1, .iadd, 0, 0, 0, 0, []), (42, 2, .istore 4, 0, 4, 0, 0, []), (44, 2, .iload 4, 0, 4, 0, 0, []), (46, 1, .iload_n 1, 0, 1, 0, 0, []), (47, 3, .if_icmp .lt 11, 0, 58, 0, 0, []), (50, 2, .iload 4, 0, 4, 0, 0, []), (52, 1, .iload_n 2, 0, 2, 0, 0, []), (53, 3, .if_icmp .gt 5, 0, 58, 0, 0, []), (56, 1, .iconst 1, 1, 0, 0, 0, []), (57, 1, .ireturn, 0, 0, 0, 0, []), (58, 3, .iinc 5 1, 1, 5, 0, 0, []), (61, 3, .goto (-30), 0, 31, 0, 0, []), (64, 1, .iload_n 3, 0, 3, 0, 0, []), (65, 2, .bipush 10, 10, 0, 0, 0, []), (67, 1, .imul, 0, 0, 0, 0, []), (68, 1, .istore_n 3, 0, 3, 0, 0, []), (69, 3, .goto (-67), 0, 2, 0, 0, []), (72, 1, .iconst 0, 0, 0, 0, 0, []), (73, 1, .ireturn, 0, 0, 0, 0, [])]
set_option maxRecDepth 100000 in
theorem ck_79 : (cd_79.all (okCE 8 6 prog_3_method_5_code)) = true := by decide +kernel
/-- TradeTests.rule -/
def cd_80 : List CE := [(0, 1, .aload_n 0, 0, 0, 0, 0, []), (1, 3, .getfield 87, 0, 0, 9, 140, []), (4, 1, .iload_n 1, 0, 1, 0, 0, []), (5, 1, .iload_n 2, 0, 2, 0, 0, []), (6, 3, .invokevirtual 235, 0, 81, 3, 10, []), (9, 3, .ifCond .ne 9, 0, 18, 0, 0, []), (12, 1, .aload_n 0, 0, 0, 0, 0, []), (13, 1, .iconst 1, 1, 0, 0, 0, []), (14, 3, .invokevirtual 115, 0, 2, 2, 0, []), (17, 1, .ireturn, 0, 0, 0, 0, []), (18, 1, .aload_n 0, 0, 0, 0, 0, []), (19, 3, .getfield 87, 0, 0, 9, 140, []), (22, 1, .iload_n 1, 0, 1, 0, 0, []), (23, 1, .iload_n 2, 0, 2, 0, 0, []), (24, 3, .invokevirtual 238, 0, 82, 3, 10, []), (27, 1, .ireturn, 0, 0, 0, 0, [])]
set_option maxRecDepth 100000 in
theorem ck_80 : (cd_80.all (okCE 0 3 prog_1_method_20_code)) = true := by decide +kernel
/-- TradeTests$Penalties.isRule -/
def cd_81 : List CE := [(0, 1, .iload_n 1, 0, 1, 0, 0, []), (1, 1, .iconst 3, 3, 0, 0, 0, []), (2, 3, .invokestatic 34, 0, 1, 2, 1, []), (5, 3, .ifCond .eq 21, 0, 26, 0, 0, []), (8, 1, .iload_n 2, 0, 2, 0, 0, []), (9, 1, .iconst 1, 1, 0, 0, 0, []), (10, 3, .if_icmp .lt 16, 0, 26, 0, 0, []), (13, 1, .iload_n 2, 0, 2, 0, 0, []), (14, 3, .getstatic 38, 0, 2, 0, 0, []), (17, 1, .iload_n 1, 0, 1, 0, 0, []), (18, 1, .iaload, 0, 0, 0, 0, []), (19, 3, .if_icmp .gt 7, 0, 26, 0, 0, []), (22, 1, .iconst 1, 1, 0, 0, 0, []), (23, 3, .goto 4, 0, 27, 0, 0, []), (26, 1, .iconst 0, 0, 0, 0, 0, []), (27, 1, .ireturn, 0, 0, 0, 0, [])]
set_option maxRecDepth 100000 in
theorem ck_81 : (cd_81.all (okCE 10 3 prog_4_method_2_code)) = true := by decide +kernel
/-- TradeTests$Penalties.setRule -/
def cd_82 : List CE := [(0, 1, .aload_n 0, 0, 0, 0, 0, []), (1, 3, .getfield 9, 0, 10, 4, 121, []), (4, 1, .iload_n 1, 0, 1, 0, 0, []), (5, 1, .iaload, 0, 0, 0, 0, []), (6, 1, .istore_n 3, 0, 3, 0, 0, []), (7, 1, .aload_n 0, 0, 0, 0, 0, []), (8, 3, .getfield 9, 0, 10, 4, 121, []), (11, 1, .iload_n 1, 0, 1, 0, 0, []), (12, 1, .iload_n 2, 0, 2, 0, 0, []), (13, 1, .iastore, 0, 0, 0, 0, []), (14, 1, .iload_n 3, 0, 3, 0, 0, []), (15, 1, .ireturn, 0, 0, 0, 0, [])]
set_option maxRecDepth 100000 in
theorem ck_82 : (cd_82.all (okCE 10 4 prog_4_method_3_code)) = true := by decide +kernel
/-- TradeTests.appeal -/
def cd_83 : List CE := [(0, 1, .iload_n 1, 0, 1, 0, 0, []), (1, 1, .aload_n 0, 0, 0, 0, 0, []), (2, 3, .getfield 26, 0, 0, 2, 133, []), (5, 3, .getfield 175, 0, 3, 14, 74, []), (8, 3, .invokestatic 111, 0, 1, 2, 0, []), (11, 3, .ifCond .eq 11, 0, 22, 0, 0, []), (14, 1, .iload_n 2, 0, 2, 0, 0, []), (15, 1, .iconst 2, 2, 0, 0, 0, []), (16, 3, .invokestatic 111, 0, 1, 2, 0, []), (19, 3, .ifCond .ne 9, 0, 28, 0, 0, []), (22, 1, .aload_n 0, 0, 0, 0, 0, []), (23, 1, .iconst 1, 1, 0, 0, 0, []), (24, 3, .invokevirtual 115, 0, 2, 2, 0, []), (27, 1, .ireturn, 0, 0, 0, 0, []), (28, 1, .aload_n 0, 0, 0, 0, 0, []), (29, 3, .getfield 26, 0, 0, 2, 133, []), (32, 3, .getfield 241, 0, 3, 10, 62, []), (35, 1, .iload_n 1, 0, 1, 0, 0, []), (36, 1, .iaload, 0, 0, 0, 0, []), (37, 1, .istore_n 3, 0, 3, 0, 0, []), (38, 1, .aload_n 0, 0, 0, 0, 0, []), (39, 3, .getfield 26, 0, 0, 2, 133, []), (42, 3, .getfield 241, 0, 3, 10, 62, []), (45, 1, .iload_n 1, 0, 1, 0, 0, []), (46, 1, .iload_n 2, 0, 2, 0, 0, []), (47, 1, .iastore, 0, 0, 0, 0, []), (48, 1, .iload_n 3, 0, 3, 0, 0, []), (49, 1, .ireturn, 0, 0, 0, 0, [])]
set_option maxRecDepth 100000 in
theorem ck_83 : (cd_83.all (okCE 0 4 prog_1_method_21_code)) = true := by decide +kernel
/-- TradeTests.points -/
def cd_84 : List CE := [(0, 1, .iload_n 1, 0, 1, 0, 0, []), (1, 1, .aload_n 0, 0, 0, 0, 0, []), (2, 3, .getfield 26, 0, 0, 2, 133, []), (5, 3, .getfield 175, 0, 3, 14, 74, []), (8, 3, .invokestatic 111, 0, 1, 2, 0, []), (11, 3, .ifCond .ne 9, 0, 20, 0, 0, []), (14, 1, .aload_n 0, 0, 0, 0, 0, []), (15, 1, .iconst 1, 1, 0, 0, 0, []), (16, 3, .invokevirtual 115, 0, 2, 2, 0, []), (19, 1, .ireturn, 0, 0, 0, 0, []), (20, 1, .aload_n 0, 0, 0, 0, 0, []), (21, 3, .getfield 87, 0, 0, 9, 140, []), (24, 1, .iload_n 1, 0, 1, 0, 0, []), (25, 3, .invokevirtual 244, 0, 85, 2, 10, []), (28, 1, .ireturn, 0, 0, 0, 0, [])]
set_option maxRecDepth 100000 in
theorem ck_84 : (cd_84.all (okCE 0 2 prog_1_method_22_code)) = true := by decide +kernel
/-- TradeTests$Penalties.ofTest -/
def cd_85 : List CE := [(0, 2, .bipush 10, 10, 0, 0, 0, []), (2, 1, .aload_n 0, 0, 0, 0, 0, []), (3, 3, .getfield 30, 0, 10, 3, 120, []), (6, 1, .iload_n 1, 0, 1, 0, 0, []), (7, 3, .invokevirtual 41, 0, 86, 2, 9, []), (10, 3, .invokestatic 47, 0, 59, 1, 0, []), (13, 1, .imul, 0, 0, 0, 0, []), (14, 1, .istore_n 2, 0, 2, 0, 0, []), (15, 1, .aload_n 0, 0, 0, 0, 0, []), (16, 3, .getfield 18, 0, 10, 0, 117, []), (19, 3, .getfield 52, 0, 3, 10, 61, []), (22, 1, .iload_n 1, 0, 1, 0, 0, []), (23, 1, .iaload, 0, 0, 0, 0, []), (24, 1, .iconst 1, 1, 0, 0, 0, []), (25, 3, .if_icmp .ne 5, 0, 30, 0, 0, []), (28, 1, .iload_n 2, 0, 2, 0, 0, []), (29, 1, .ireturn, 0, 0, 0, 0, []), (30, 1, .iload_n 2, 0, 2, 0, 0, []), (31, 1, .aload_n 0, 0, 0, 0, 0, []), (32, 3, .getfield 22, 0, 10, 1, 118, []), (35, 1, .iload_n 1, 0, 1, 0, 0, []), (36, 3, .invokevirtual 57, 0, 58, 2, 5, []), (39, 3, .ifCond .eq 8, 0, 47, 0, 0, []), (42, 2, .bipush 6, 6, 0, 0, 0, []), (44, 3, .goto 4, 0, 48, 0, 0, []), (47, 1, .iconst 0, 0, 0, 0, 0, []), (48, 1, .iadd, 0, 0, 0, 0, []), (49, 1, .aload_n 0, 0, 0, 0, 0, []), (50, 3, .getfield 26, 0, 10, 2, 119, []), (53, 1, .iload_n 1, 0, 1, 0, 0, []), (54, 3, .invokevirtual 63, 0, 54, 2, 6, []), (57, 3, .ifCond .eq 7, 0, 64, 0, 0, []), (60, 1, .iconst 2, 2, 0, 0, 0, []), (61, 3, .goto 4, 0, 65, 0, 0, []), (64, 1, .iconst 0, 0, 0, 0, 0, []), (65, 1, .iadd, 0, 0, 0, 0, []), (66, 1, .aload_n 0, 0, 0, 0, 0, []), (67, 3, .getfield 26, 0, 10, 2, 119, []), (70, 1, .iload_n 1, 0, 1, 0, 0, []), (71, 3, .invokevirtual 68, 0, 55, 2, 6, []), (74, 3, .ifCond .eq 7, 0, 81, 0, 0, []), (77, 1, .iconst 4, 4, 0, 0, 0, []), (78, 3, .goto 4, 0, 82, 0, 0, []), (81, 1, .iconst 0, 0, 0, 0, 0, []), (82, 1, .iadd, 0, 0, 0, 0, []), (83, 1, .aload_n 0, 0, 0, 0, 0, []), (84, 3, .getfield 26, 0, 10, 2, 119, []), (87, 1, .iload_n 1, 0, 1, 0, 0, []), (88, 3, .invokevirtual 71, 0, 57, 2, 6, []), (91, 3, .ifCond .eq 7, 0, 98, 0, 0, []), (94, 1, .iconst 1, 1, 0, 0, 0, []), (95, 3, .goto 4, 0, 99, 0, 0, []), (98, 1, .iconst 0, 0, 0, 0, 0, []), (99, 1, .iadd, 0, 0, 0, 0, []), (100, 1, .ireturn, 0, 0, 0, 0, [])]
set_option maxRecDepth 100000 in
theorem ck_85 : (cd_85.all (okCE 10 3 prog_4_method_4_code)) = true := by decide +kernel
/-- TradeTests$Secrets.missed -/
def cd_86 : List CE := [(0, 1, .aload_n 0, 0, 0, 0, 0, []), (1, 3, .getfield 19, 0, 9, 1, 109, []), (4, 1, .aload_n 0, 0, 0, 0, 0, []), (5, 3, .getfield 15, 0, 9, 0, 108, []), (8, 3, .getfield 39, 0, 3, 2, 39, []), (11, 1, .iload_n 1, 0, 1, 0, 0, []), (12, 1, .iaload, 0, 0, 0, 0, []), (13, 3, .invokevirtual 42, 0, 40, 2, 4, []), (16, 1, .istore_n 2, 0, 2, 0, 0, []), (17, 1, .iload_n 2, 0, 2, 0, 0, []), (18, 3, .ifCond .ge 5, 0, 23, 0, 0, []), (21, 1, .iconst 0, 0, 0, 0, 0, []), (22, 1, .ireturn, 0, 0, 0, 0, []), (23, 1, .aload_n 0, 0, 0, 0, 0, []), (24, 1, .iload_n 1, 0, 1, 0, 0, []), (25, 3, .invokevirtual 48, 0, 60, 2, 9, []), (28, 1, .aload_n 0, 0, 0, 0, 0, []), (29, 3, .getfield 15, 0, 9, 0, 108, []), (32, 3, .getfield 51, 0, 3, 8, 56, []), (35, 1, .iload_n 1, 0, 1, 0, 0, []), (36, 1, .iaload, 0, 0, 0, 0, []), (37, 1, .iconst (-1), (-1), 0, 0, 0, []), (38, 1, .ixor, 0, 0, 0, 0, []), (39, 1, .iand, 0, 0, 0, 0, []), (40, 1, .aload_n 0, 0, 0, 0, 0, []), (41, 3, .getfield 19, 0, 9, 1, 109, []), (44, 1, .iload_n 2, 0, 2, 0, 0, []), (45, 1, .iconst 1, 1, 0, 0, 0, []), (46, 3, .invokevirtual 54, 0, 41, 3, 4, []), (49, 1, .iand, 0, 0, 0, 0, []), (50, 1, .ireturn, 0, 0, 0, 0, [])]
set_option maxRecDepth 100000 in
theorem ck_86 : (cd_86.all (okCE 9 3 prog_7_method_6_code)) = true := by decide +kernel
/-- TradeTests.sum -/
def cd_87 : List CE := [(0, 1, .iload_n 1, 0, 1, 0, 0, []), (1, 1, .aload_n 0, 0, 0, 0, 0, []), (2, 3, .getfield 19, 0, 0, 1, 132, []), (5, 3, .getfield 142, 0, 2, 4, 19, []), (8, 3, .invokestatic 111, 0, 1, 2, 0, []), (11, 3, .ifCond .eq 13, 0, 24, 0, 0, []), (14, 1, .iload_n 2, 0, 2, 0, 0, []), (15, 3, .sipush 10000, 10000, 0, 0, 0, []), (18, 3, .invokestatic 111, 0, 1, 2, 0, []), (21, 3, .ifCond .ne 9, 0, 30, 0, 0, []), (24, 1, .aload_n 0, 0, 0, 0, 0, []), (25, 1, .iconst 1, 1, 0, 0, 0, []), (26, 3, .invokevirtual 115, 0, 2, 2, 0, []), (29, 1, .ireturn, 0, 0, 0, 0, []), (30, 1, .aload_n 0, 0, 0, 0, 0, []), (31, 3, .getfield 87, 0, 0, 9, 140, []), (34, 1, .iload_n 1, 0, 1, 0, 0, []), (35, 1, .iload_n 2, 0, 2, 0, 0, []), (36, 3, .invokevirtual 247, 0, 88, 3, 10, []), (39, 1, .ireturn, 0, 0, 0, 0, [])]
set_option maxRecDepth 100000 in
theorem ck_87 : (cd_87.all (okCE 0 3 prog_1_method_23_code)) = true := by decide +kernel
/-- TradeTests$Penalties.ofTester -/
def cd_88 : List CE := [(0, 1, .aload_n 0, 0, 0, 0, 0, []), (1, 1, .iload_n 1, 0, 1, 0, 0, []), (2, 3, .invokevirtual 74, 0, 89, 2, 10, []), (5, 1, .aload_n 0, 0, 0, 0, 0, []), (6, 1, .iload_n 2, 0, 2, 0, 0, []), (7, 3, .invokevirtual 78, 0, 90, 2, 10, []), (10, 1, .ireturn, 0, 0, 0, 0, [])]
set_option maxRecDepth 100000 in
theorem ck_88 : (cd_88.all (okCE 10 3 prog_4_method_5_code)) = true := by decide +kernel
/-- TradeTests$Penalties.fillPoints -/
def cd_89 : List CE := [(0, 1, .iconst 0, 0, 0, 0, 0, []), (1, 1, .istore_n 2, 0, 2, 0, 0, []), (2, 1, .iload_n 2, 0, 2, 0, 0, []), (3, 1, .aload_n 0, 0, 0, 0, 0, []), (4, 3, .getfield 18, 0, 10, 0, 117, []), (7, 3, .getfield 81, 0, 3, 14, 73, []), (10, 3, .if_icmp .ge 37, 0, 47, 0, 0, []), (13, 1, .aload_n 0, 0, 0, 0, 0, []), (14, 3, .getfield 15, 0, 10, 5, 122, []), (17, 1, .iload_n 2, 0, 2, 0, 0, []), (18, 1, .aload_n 0, 0, 0, 0, 0, []), (19, 3, .getfield 18, 0, 10, 0, 117, []), (22, 3, .getfield 88, 0, 3, 1, 34, []), (25, 1, .iload_n 2, 0, 2, 0, 0, []), (26, 1, .iaload, 0, 0, 0, 0, []), (27, 1, .iload_n 1, 0, 1, 0, 0, []), (28, 3, .if_icmp .ne 11, 0, 39, 0, 0, []), (31, 1, .aload_n 0, 0, 0, 0, 0, []), (32, 1, .iload_n 2, 0, 2, 0, 0, []), (33, 3, .invokevirtual 91, 0, 85, 2, 10, []), (36, 3, .goto 4, 0, 40, 0, 0, []), (39, 1, .iconst 0, 0, 0, 0, 0, []), (40, 1, .iastore, 0, 0, 0, 0, []), (41, 3, .iinc 2 1, 1, 2, 0, 0, []), (44, 3, .goto (-42), 0, 2, 0, 0, []), (47, 1, .return_, 0, 0, 0, 0, [])]
set_option maxRecDepth 100000 in
theorem ck_89 : (cd_89.all (okCE 10 3 prog_4_method_7_code)) = true := by decide +kernel
/-- TradeTests$Penalties.rowSum -/
def cd_90 : List CE := [(0, 1, .iconst 0, 0, 0, 0, 0, []), (1, 1, .istore_n 2, 0, 2, 0, 0, []), (2, 1, .iconst 0, 0, 0, 0, 0, []), (3, 1, .istore_n 3, 0, 3, 0, 0, []), (4, 1, .iload_n 3, 0, 3, 0, 0, []), (5, 1, .aload_n 0, 0, 0, 0, 0, []), (6, 3, .getfield 18, 0, 10, 0, 117, []), (9, 3, .getfield 81, 0, 3, 14, 73, []), (12, 3, .if_icmp .ge 51, 0, 63, 0, 0, []), (15, 1, .aload_n 0, 0, 0, 0, 0, []), (16, 3, .getfield 18, 0, 10, 0, 117, []), (19, 3, .getfield 85, 0, 3, 2, 40, []), (22, 1, .iload_n 3, 0, 3, 0, 0, []), (23, 1, .iaload, 0, 0, 0, 0, []), (24, 1, .iload_n 1, 0, 1, 0, 0, []), (25, 3, .if_icmp .gt 32, 0, 57, 0, 0, []), (28, 1, .aload_n 0, 0, 0, 0, 0, []), (29, 3, .getfield 18, 0, 10, 0, 117, []), (32, 3, .getfield 85, 0, 3, 2, 40, []), (35, 1, .iload_n 3, 0, 3, 0, 0, []), (36, 1, .iaload, 0, 0, 0, 0, []), (37, 1, .iload_n 1, 0, 1, 0, 0, []), (38, 1, .aload_n 0, 0, 0, 0, 0, []), (39, 3, .getfield 9, 0, 10, 4, 121, []), (42, 1, .iconst 0, 0, 0, 0, 0, []), (43, 1, .iaload, 0, 0, 0, 0, []), (44, 1, .isub, 0, 0, 0, 0, []), (45, 3, .if_icmp .le 12, 0, 57, 0, 0, []), (48, 1, .iload_n 2, 0, 2, 0, 0, []), (49, 1, .aload_n 0, 0, 0, 0, 0, []), (50, 3, .getfield 15, 0, 10, 5, 122, []), (53, 1, .iload_n 3, 0, 3, 0, 0, []), (54, 1, .iaload, 0, 0, 0, 0, []), (55, 1, .iadd, 0, 0, 0, 0, []), (56, 1, .istore_n 2, 0, 2, 0, 0, []), (57, 3, .iinc 3 1, 1, 3, 0, 0, []), (60, 3, .goto (-56), 0, 4, 0, 0, []), (63, 1, .iload_n 2, 0, 2, 0, 0, []), (64, 1, .ireturn, 0, 0, 0, 0, [])]
set_option maxRecDepth 100000 in
theorem ck_90 : (cd_90.all (okCE 10 4 prog_4_method_8_code)) = true := by decide +kernel
/-- TradeTests.banned -/
def cd_91 : List CE := [(0, 1, .iload_n 1, 0, 1, 0, 0, []), (1, 1, .aload_n 0, 0, 0, 0, 0, []), (2, 3, .getfield 19, 0, 0, 1, 132, []), (5, 3, .getfield 142, 0, 2, 4, 19, []), (8, 3, .invokestatic 111, 0, 1, 2, 0, []), (11, 3, .ifCond .eq 13, 0, 24, 0, 0, []), (14, 1, .iload_n 2, 0, 2, 0, 0, []), (15, 3, .sipush 10000, 10000, 0, 0, 0, []), (18, 3, .invokestatic 111, 0, 1, 2, 0, []), (21, 3, .ifCond .ne 9, 0, 30, 0, 0, []), (24, 1, .aload_n 0, 0, 0, 0, 0, []), (25, 1, .iconst 1, 1, 0, 0, 0, []), (26, 3, .invokevirtual 115, 0, 2, 2, 0, []), (29, 1, .ireturn, 0, 0, 0, 0, []), (30, 1, .aload_n 0, 0, 0, 0, 0, []), (31, 3, .getfield 87, 0, 0, 9, 140, []), (34, 1, .iload_n 1, 0, 1, 0, 0, []), (35, 1, .iload_n 2, 0, 2, 0, 0, []), (36, 3, .invokevirtual 250, 0, 92, 3, 10, []), (39, 3, .ifCond .eq 7, 0, 46, 0, 0, []), (42, 1, .iconst 1, 1, 0, 0, 0, []), (43, 3, .goto 4, 0, 47, 0, 0, []), (46, 1, .iconst 0, 0, 0, 0, 0, []), (47, 1, .ireturn, 0, 0, 0, 0, [])]
set_option maxRecDepth 100000 in
theorem ck_91 : (cd_91.all (okCE 0 3 prog_1_method_24_code)) = true := by decide +kernel
/-- TradeTests$Penalties.isBanned -/
def cd_92 : List CE := [(0, 1, .aload_n 0, 0, 0, 0, 0, []), (1, 1, .iload_n 1, 0, 1, 0, 0, []), (2, 3, .invokevirtual 74, 0, 89, 2, 10, []), (5, 1, .iload_n 2, 0, 2, 0, 0, []), (6, 1, .aload_n 0, 0, 0, 0, 0, []), (7, 3, .getfield 9, 0, 10, 4, 121, []), (10, 1, .iconst 1, 1, 0, 0, 0, []), (11, 1, .iaload, 0, 0, 0, 0, []), (12, 1, .isub, 0, 0, 0, 0, []), (13, 1, .iconst 1, 1, 0, 0, 0, []), (14, 1, .iadd, 0, 0, 0, 0, []), (15, 1, .istore_n 3, 0, 3, 0, 0, []), (16, 1, .aload_n 0, 0, 0, 0, 0, []), (17, 1, .iload_n 3, 0, 3, 0, 0, []), (18, 3, .invokevirtual 78, 0, 90, 2, 10, []), (21, 1, .aload_n 0, 0, 0, 0, 0, []), (22, 3, .getfield 9, 0, 10, 4, 121, []), (25, 1, .iconst 2, 2, 0, 0, 0, []), (26, 1, .iaload, 0, 0, 0, 0, []), (27, 3, .if_icmp .lt 5, 0, 32, 0, 0, []), (30, 1, .iconst 1, 1, 0, 0, 0, []), (31, 1, .ireturn, 0, 0, 0, 0, []), (32, 1, .iconst 0, 0, 0, 0, 0, []), (33, 2, .istore 4, 0, 4, 0, 0, []), (35, 2, .iload 4, 0, 4, 0, 0, []), (37, 1, .aload_n 0, 0, 0, 0, 0, []), (38, 3, .getfield 18, 0, 10, 0, 117, []), (41, 3, .getfield 81, 0, 3, 14, 73, []), (44, 3, .if_icmp .ge 84, 0, 128, 0, 0, []), (47, 1, .aload_n 0, 0, 0, 0, 0, []), (48, 3, .getfield 18, 0, 10, 0, 117, []), (51, 3, .getfield 85, 0, 3, 2, 40, []), (54, 2, .iload 4, 0, 4, 0, 0, []), (56, 1, .iaload, 0, 0, 0, 0, []), (57, 1, .iload_n 3, 0, 3, 0, 0, []), (58, 3, .if_icmp .le 21, 0, 79, 0, 0, []), (61, 1, .aload_n 0, 0, 0, 0, 0, []), (62, 3, .getfield 18, 0, 10, 0, 117, []), (65, 3, .getfield 85, 0, 3, 2, 40, []), (68, 2, .iload 4, 0, 4, 0, 0, []), (70, 1, .iaload, 0, 0, 0, 0, []), (71, 1, .iload_n 2, 0, 2, 0, 0, []), (72, 3, .if_icmp .gt 7, 0, 79, 0, 0, []), (75, 1, .iconst 1, 1, 0, 0, 0, []), (76, 3, .goto 4, 0, 80, 0, 0, []), (79, 1, .iconst 0, 0, 0, 0, 0, []), (80, 2, .istore 5, 0, 5, 0, 0, []), (82, 2, .iload 5, 0, 5, 0, 0, []), (84, 3, .ifCond .eq 38, 0, 122, 0, 0, []), (87, 1, .aload_n 0, 0, 0, 0, 0, []), (88, 3, .getfield 15, 0, 10, 5, 122, []), (91, 2, .iload 4, 0, 4, 0, 0, []), (93, 1, .iaload, 0, 0, 0, 0, []), (94, 3, .ifCond .le 28, 0, 122, 0, 0, []), (97, 1, .aload_n 0, 0, 0, 0, 0, []), (98, 1, .aload_n 0, 0, 0, 0, 0, []), (99, 3, .getfield 18, 0, 10, 0, 117, []), (102, 3, .getfield 85, 0, 3, 2, 40, []), (105, 2, .iload 4, 0, 4, 0, 0, []), (107, 1, .iaload, 0, 0, 0, 0, []), (108, 3, .invokevirtual 78, 0, 90, 2, 10, []), (111, 1, .aload_n 0, 0, 0, 0, 0, []), (112, 3, .getfield 9, 0, 10, 4, 121, []), (115, 1, .iconst 2, 2, 0, 0, 0, []), (116, 1, .iaload, 0, 0, 0, 0, []), (117, 3, .if_icmp .lt 5, 0, 122, 0, 0, []), (120, 1, .iconst 1, 1, 0, 0, 0, []), (121, 1, .ireturn, 0, 0, 0, 0, []), (122, 3, .iinc 4 1, 1, 4, 0, 0, []), (125, 3, .goto (-90), 0, 35, 0, 0, []), (128, 1, .iconst 0, 0, 0, 0, 0, []), (129, 1, .ireturn, 0, 0, 0, 0, [])]
set_option maxRecDepth 100000 in
theorem ck_92 : (cd_92.all (okCE 10 6 prog_4_method_6_code)) = true := by decide +kernel
/-- TradeTests.secret -/
def cd_93 : List CE := [(0, 1, .iload_n 1, 0, 1, 0, 0, []), (1, 1, .iconst 1, 1, 0, 0, 0, []), (2, 3, .if_icmp .lt 10, 0, 12, 0, 0, []), (5, 1, .iload_n 1, 0, 1, 0, 0, []), (6, 3, .sipush 256, 256, 0, 0, 0, []), (9, 3, .if_icmp .lt 9, 0, 18, 0, 0, []), (12, 1, .aload_n 0, 0, 0, 0, 0, []), (13, 1, .iconst 1, 1, 0, 0, 0, []), (14, 3, .invokevirtual 115, 0, 2, 2, 0, []), (17, 1, .ireturn, 0, 0, 0, 0, []), (18, 1, .aload_n 0, 0, 0, 0, 0, []), (19, 3, .getfield 78, 0, 0, 8, 139, []), (22, 3, .getfield 253, 0, 9, 3, 114, []), (25, 2, .bipush 6, 6, 0, 0, 0, []), (27, 3, .if_icmp .lt 9, 0, 36, 0, 0, []), (30, 1, .aload_n 0, 0, 0, 0, 0, []), (31, 1, .iconst 4, 4, 0, 0, 0, []), (32, 3, .invokevirtual 115, 0, 2, 2, 0, []), (35, 1, .ireturn, 0, 0, 0, 0, []), (36, 1, .aload_n 0, 0, 0, 0, 0, []), (37, 3, .getfield 78, 0, 0, 8, 139, []), (40, 1, .iload_n 1, 0, 1, 0, 0, []), (41, 3, .invokevirtual 254, 0, 94, 2, 9, []), (44, 1, .ireturn, 0, 0, 0, 0, [])]
set_option maxRecDepth 100000 in
theorem ck_93 : (cd_93.all (okCE 0 2 prog_1_method_25_code)) = true := by decide +kernel
/-- TradeTests$Secrets.add -/
def cd_94 : List CE := [(0, 1, .aload_n 0, 0, 0, 0, 0, []), (1, 3, .getfield 9, 0, 9, 2, 110, []), (4, 1, .aload_n 0, 0, 0, 0, 0, []), (5, 3, .getfield 23, 0, 9, 3, 112, []), (8, 1, .iload_n 1, 0, 1, 0, 0, []), (9, 1, .iastore, 0, 0, 0, 0, []), (10, 1, .aload_n 0, 0, 0, 0, 0, []), (11, 1, .dup, 0, 0, 0, 0, []), (12, 3, .getfield 23, 0, 9, 3, 112, []), (15, 1, .iconst 1, 1, 0, 0, 0, []), (16, 1, .iadd, 0, 0, 0, 0, []), (17, 3, .putfield 23, 0, 9, 3, 112, []), (20, 1, .aload_n 0, 0, 0, 0, 0, []), (21, 3, .getfield 23, 0, 9, 3, 112, []), (24, 1, .iconst 1, 1, 0, 0, 0, []), (25, 1, .isub, 0, 0, 0, 0, []), (26, 1, .ireturn, 0, 0, 0, 0, [])]
set_option maxRecDepth 100000 in
theorem ck_94 : (cd_94.all (okCE 9 2 prog_7_method_2_code)) = true := by decide +kernel
/-- TradeTests.visit -/
def cd_95 : List CE := [(0, 1, .iload_n 1, 0, 1, 0, 0, []), (1, 1, .aload_n 0, 0, 0, 0, 0, []), (2, 3, .getfield 78, 0, 0, 8, 139, []), (5, 3, .getfield 253, 0, 9, 3, 114, []), (8, 3, .invokestatic 111, 0, 1, 2, 0, []), (11, 3, .ifCond .eq 17, 0, 28, 0, 0, []), (14, 1, .iload_n 2, 0, 2, 0, 0, []), (15, 1, .aload_n 0, 0, 0, 0, 0, []), (16, 3, .getfield 26, 0, 0, 2, 133, []), (19, 3, .getfield 175, 0, 3, 14, 74, []), (22, 3, .invokestatic 111, 0, 1, 2, 0, []), (25, 3, .ifCond .ne 9, 0, 34, 0, 0, []), (28, 1, .aload_n 0, 0, 0, 0, 0, []), (29, 1, .iconst 1, 1, 0, 0, 0, []), (30, 3, .invokevirtual 115, 0, 2, 2, 0, []), (33, 1, .ireturn, 0, 0, 0, 0, []), (34, 1, .aload_n 0, 0, 0, 0, 0, []), (35, 3, .getfield 78, 0, 0, 8, 139, []), (38, 1, .iload_n 2, 0, 2, 0, 0, []), (39, 3, .invokevirtual 256, 0, 61, 2, 9, []), (42, 3, .ifCond .eq 9, 0, 51, 0, 0, []), (45, 1, .aload_n 0, 0, 0, 0, 0, []), (46, 1, .iconst 3, 3, 0, 0, 0, []), (47, 3, .invokevirtual 115, 0, 2, 2, 0, []), (50, 1, .ireturn, 0, 0, 0, 0, []), (51, 1, .aload_n 0, 0, 0, 0, 0, []), (52, 3, .getfield 78, 0, 0, 8, 139, []), (55, 1, .iload_n 1, 0, 1, 0, 0, []), (56, 1, .iload_n 2, 0, 2, 0, 0, []), (57, 3, .invokevirtual 259, 0, 96, 3, 9, []), (60, 1, .aload_n 0, 0, 0, 0, 0, []), (61, 3, .getfield 78, 0, 0, 8, 139, []), (64, 1, .iload_n 2, 0, 2, 0, 0, []), (65, 3, .invokevirtual 263, 0, 86, 2, 9, []), (68, 1, .ireturn, 0, 0, 0, 0, [])]
set_option maxRecDepth 100000 in
theorem ck_95 : (cd_95.all (okCE 0 3 prog_1_method_26_code)) = true := by decide +kernel
/-- TradeTests$Secrets.send -/
def cd_96 : List CE := [(0, 1, .aload_n 0, 0, 0, 0, 0, []), (1, 3, .getfield 15, 0, 9, 0, 108, []), (4, 3, .getfield 27, 0, 3, 11, 64, []), (7, 1, .iload_n 2, 0, 2, 0, 0, []), (8, 1, .iconst 1, 1, 0, 0, 0, []), (9, 1, .iload_n 1, 0, 1, 0, 0, []), (10, 1, .iadd, 0, 0, 0, 0, []), (11, 1, .iastore, 0, 0, 0, 0, []), (12, 1, .aload_n 0, 0, 0, 0, 0, []), (13, 1, .dup, 0, 0, 0, 0, []), (14, 3, .getfield 32, 0, 9, 4, 115, []), (17, 1, .iconst 1, 1, 0, 0, 0, []), (18, 1, .iadd, 0, 0, 0, 0, []), (19, 3, .putfield 32, 0, 9, 4, 115, []), (22, 1, .return_, 0, 0, 0, 0, [])]
set_option maxRecDepth 100000 in
theorem ck_96 : (cd_96.all (okCE 9 3 prog_7_method_4_code)) = true := by decide +kernel
/-- TradeTests.worth -/
def cd_97 : List CE := [(0, 1, .iload_n 1, 0, 1, 0, 0, []), (1, 1, .aload_n 0, 0, 0, 0, 0, []), (2, 3, .getfield 78, 0, 0, 8, 139, []), (5, 3, .getfield 253, 0, 9, 3, 114, []), (8, 3, .invokestatic 111, 0, 1, 2, 0, []), (11, 3, .ifCond .eq 17, 0, 28, 0, 0, []), (14, 1, .iload_n 2, 0, 2, 0, 0, []), (15, 1, .aload_n 0, 0, 0, 0, 0, []), (16, 3, .getfield 19, 0, 0, 1, 132, []), (19, 3, .getfield 135, 0, 2, 2, 15, []), (22, 3, .invokestatic 111, 0, 1, 2, 0, []), (25, 3, .ifCond .ne 9, 0, 34, 0, 0, []), (28, 1, .aload_n 0, 0, 0, 0, 0, []), (29, 1, .iconst 1, 1, 0, 0, 0, []), (30, 3, .invokevirtual 115, 0, 2, 2, 0, []), (33, 1, .ireturn, 0, 0, 0, 0, []), (34, 1, .aload_n 0, 0, 0, 0, 0, []), (35, 3, .getfield 96, 0, 0, 10, 141, []), (38, 1, .iload_n 1, 0, 1, 0, 0, []), (39, 1, .iload_n 2, 0, 2, 0, 0, []), (40, 3, .invokevirtual 266, 0, 98, 3, 11, []), (43, 1, .ireturn, 0, 0, 0, 0, [])]
set_option maxRecDepth 100000 in
theorem ck_97 : (cd_97.all (okCE 0 3 prog_1_method_27_code)) = true := by decide +kernel
/-- TradeTests$Plan.worthOf -/
def cd_98 : List CE := [(0, 1, .aload_n 0, 0, 0, 0, 0, []), (1, 1, .iload_n 2, 0, 2, 0, 0, []), (2, 3, .invokevirtual 34, 0, 49, 2, 11, []), (5, 1, .aload_n 0, 0, 0, 0, 0, []), (6, 3, .getfield 38, 0, 11, 6, 129, []), (9, 1, .aload_n 0, 0, 0, 0, 0, []), (10, 1, .iload_n 1, 0, 1, 0, 0, []), (11, 3, .invokevirtual 42, 0, 99, 2, 11, []), (14, 1, .imul, 0, 0, 0, 0, []), (15, 1, .ireturn, 0, 0, 0, 0, [])]
set_option maxRecDepth 100000 in
theorem ck_98 : (cd_98.all (okCE 11 3 prog_5_method_3_code)) = true := by decide +kernel
/-- TradeTests$Plan.newFaults -/
def cd_99 : List CE := [(0, 1, .aload_n 0, 0, 0, 0, 0, []), (1, 3, .getfield 30, 0, 11, 3, 126, []), (4, 3, .getfield 75, 0, 9, 2, 111, []), (7, 1, .iload_n 1, 0, 1, 0, 0, []), (8, 1, .iaload, 0, 0, 0, 0, []), (9, 1, .aload_n 0, 0, 0, 0, 0, []), (10, 3, .getfield 46, 0, 11, 7, 130, []), (13, 1, .iconst (-1), (-1), 0, 0, 0, []), (14, 1, .ixor, 0, 0, 0, 0, []), (15, 1, .iand, 0, 0, 0, 0, []), (16, 3, .invokestatic 65, 0, 59, 1, 0, []), (19, 1, .ireturn, 0, 0, 0, 0, [])]
set_option maxRecDepth 100000 in
theorem ck_99 : (cd_99.all (okCE 11 2 prog_5_method_5_code)) = true := by decide +kernel
/-- TradeTests.plan -/
def cd_100 : List CE := [(0, 1, .iload_n 1, 0, 1, 0, 0, []), (1, 1, .iconst (-1), (-1), 0, 0, 0, []), (2, 3, .if_icmp .lt 14, 0, 16, 0, 0, []), (5, 1, .iload_n 1, 0, 1, 0, 0, []), (6, 1, .aload_n 0, 0, 0, 0, 0, []), (7, 3, .getfield 78, 0, 0, 8, 139, []), (10, 3, .getfield 253, 0, 9, 3, 114, []), (13, 3, .if_icmp .lt 9, 0, 22, 0, 0, []), (16, 1, .aload_n 0, 0, 0, 0, 0, []), (17, 1, .iconst 1, 1, 0, 0, 0, []), (18, 3, .invokevirtual 115, 0, 2, 2, 0, []), (21, 1, .ireturn, 0, 0, 0, 0, []), (22, 1, .aload_n 0, 0, 0, 0, 0, []), (23, 3, .getfield 96, 0, 0, 10, 141, []), (26, 3, .invokevirtual 269, 0, 101, 1, 11, []), (29, 1, .aload_n 0, 0, 0, 0, 0, []), (30, 3, .getfield 96, 0, 0, 10, 141, []), (33, 3, .invokevirtual 272, 0, 102, 1, 11, []), (36, 1, .iload_n 1, 0, 1, 0, 0, []), (37, 1, .iconst (-1), (-1), 0, 0, 0, []), (38, 3, .if_icmp .ne 11, 0, 49, 0, 0, []), (41, 1, .aload_n 0, 0, 0, 0, 0, []), (42, 3, .getfield 96, 0, 0, 10, 141, []), (45, 3, .invokevirtual 275, 0, 107, 1, 11, []), (48, 1, .ireturn, 0, 0, 0, 0, []), (49, 1, .aload_n 0, 0, 0, 0, 0, []), (50, 3, .getfield 96, 0, 0, 10, 141, []), (53, 1, .iload_n 1, 0, 1, 0, 0, []), (54, 3, .invokevirtual 279, 0, 108, 2, 11, []), (57, 1, .istore_n 2, 0, 2, 0, 0, []), (58, 1, .iload_n 2, 0, 2, 0, 0, []), (59, 3, .ifCond .ge 11, 0, 70, 0, 0, []), (62, 1, .aload_n 0, 0, 0, 0, 0, []), (63, 1, .iconst 2, 2, 0, 0, 0, []), (64, 3, .invokevirtual 115, 0, 2, 2, 0, []), (67, 3, .goto 4, 0, 71, 0, 0, []), (70, 1, .iload_n 2, 0, 2, 0, 0, []), (71, 1, .ireturn, 0, 0, 0, 0, [])]
set_option maxRecDepth 100000 in
theorem ck_100 : (cd_100.all (okCE 0 3 prog_1_method_28_code)) = true := by decide +kernel
/-- TradeTests$Plan.fillWorths -/
def cd_101 : List CE := [(0, 1, .iconst 0, 0, 0, 0, 0, []), (1, 1, .istore_n 1, 0, 1, 0, 0, []), (2, 1, .iload_n 1, 0, 1, 0, 0, []), (3, 1, .aload_n 0, 0, 0, 0, 0, []), (4, 3, .getfield 18, 0, 11, 0, 123, []), (7, 3, .getfield 78, 0, 2, 2, 16, []), (10, 3, .if_icmp .ge 54, 0, 64, 0, 0, []), (13, 1, .aload_n 0, 0, 0, 0, 0, []), (14, 1, .iload_n 1, 0, 1, 0, 0, []), (15, 3, .invokevirtual 34, 0, 49, 2, 11, []), (18, 1, .iconst 0, 0, 0, 0, 0, []), (19, 1, .istore_n 2, 0, 2, 0, 0, []), (20, 1, .iload_n 2, 0, 2, 0, 0, []), (21, 1, .aload_n 0, 0, 0, 0, 0, []), (22, 3, .getfield 30, 0, 11, 3, 126, []), (25, 3, .getfield 81, 0, 9, 3, 113, []), (28, 3, .if_icmp .ge 30, 0, 58, 0, 0, []), (31, 1, .aload_n 0, 0, 0, 0, 0, []), (32, 3, .getfield 9, 0, 11, 4, 127, []), (35, 1, .iload_n 2, 0, 2, 0, 0, []), (36, 2, .bipush 6, 6, 0, 0, 0, []), (38, 1, .imul, 0, 0, 0, 0, []), (39, 1, .iload_n 1, 0, 1, 0, 0, []), (40, 1, .iadd, 0, 0, 0, 0, []), (41, 1, .aload_n 0, 0, 0, 0, 0, []), (42, 3, .getfield 38, 0, 11, 6, 129, []), (45, 1, .aload_n 0, 0, 0, 0, 0, []), (46, 1, .iload_n 2, 0, 2, 0, 0, []), (47, 3, .invokevirtual 42, 0, 99, 2, 11, []), (50, 1, .imul, 0, 0, 0, 0, []), (51, 1, .iastore, 0, 0, 0, 0, []), (52, 3, .iinc 2 1, 1, 2, 0, 0, []), (55, 3, .goto (-35), 0, 20, 0, 0, []), (58, 3, .iinc 1 1, 1, 1, 0, 0, []), (61, 3, .goto (-59), 0, 2, 0, 0, []), (64, 1, .return_, 0, 0, 0, 0, [])]
set_option maxRecDepth 100000 in
theorem ck_101 : (cd_101.all (okCE 11 3 prog_5_method_6_code)) = true := by decide +kernel
/-- TradeTests$Plan.fillBest -/
def cd_102 : List CE := [(0, 1, .aload_n 0, 0, 0, 0, 0, []), (1, 3, .getfield 30, 0, 11, 3, 126, []), (4, 3, .getfield 81, 0, 9, 3, 113, []), (7, 1, .iconst 1, 1, 0, 0, 0, []), (8, 1, .isub, 0, 0, 0, 0, []), (9, 1, .istore_n 1, 0, 1, 0, 0, []), (10, 1, .iload_n 1, 0, 1, 0, 0, []), (11, 3, .ifCond .lt 40, 0, 51, 0, 0, []), (14, 1, .iconst 0, 0, 0, 0, 0, []), (15, 1, .istore_n 2, 0, 2, 0, 0, []), (16, 1, .iload_n 2, 0, 2, 0, 0, []), (17, 2, .bipush 64, 64, 0, 0, 0, []), (19, 3, .if_icmp .ge 26, 0, 45, 0, 0, []), (22, 1, .aload_n 0, 0, 0, 0, 0, []), (23, 3, .getfield 15, 0, 11, 5, 128, []), (26, 1, .iload_n 1, 0, 1, 0, 0, []), (27, 2, .bipush 64, 64, 0, 0, 0, []), (29, 1, .imul, 0, 0, 0, 0, []), (30, 1, .iload_n 2, 0, 2, 0, 0, []), (31, 1, .iadd, 0, 0, 0, 0, []), (32, 1, .aload_n 0, 0, 0, 0, 0, []), (33, 1, .iload_n 1, 0, 1, 0, 0, []), (34, 1, .iload_n 2, 0, 2, 0, 0, []), (35, 3, .invokevirtual 82, 0, 103, 3, 11, []), (38, 1, .iastore, 0, 0, 0, 0, []), (39, 3, .iinc 2 1, 1, 2, 0, 0, []), (42, 3, .goto (-26), 0, 16, 0, 0, []), (45, 3, .iinc 1 (-1), (-1), 1, 0, 0, []), (48, 3, .goto (-38), 0, 10, 0, 0, []), (51, 1, .return_, 0, 0, 0, 0, [])]
set_option maxRecDepth 100000 in
theorem ck_102 : (cd_102.all (okCE 11 3 prog_5_method_7_code)) = true := by decide +kernel
/-- TradeTests$Plan.mostFrom -/
def cd_103 : List CE := [(0, 1, .aload_n 0, 0, 0, 0, 0, []), (1, 3, .getfield 15, 0, 11, 5, 128, []), (4, 1, .iload_n 1, 0, 1, 0, 0, []), (5, 1, .iconst 1, 1, 0, 0, 0, []), (6, 1, .iadd, 0, 0, 0, 0, []), (7, 2, .bipush 64, 64, 0, 0, 0, []), (9, 1, .imul, 0, 0, 0, 0, []), (10, 1, .iload_n 2, 0, 2, 0, 0, []), (11, 1, .iadd, 0, 0, 0, 0, []), (12, 1, .iaload, 0, 0, 0, 0, []), (13, 1, .istore_n 3, 0, 3, 0, 0, []), (14, 1, .iconst 0, 0, 0, 0, 0, []), (15, 2, .istore 4, 0, 4, 0, 0, []), (17, 2, .iload 4, 0, 4, 0, 0, []), (19, 1, .aload_n 0, 0, 0, 0, 0, []), (20, 3, .getfield 18, 0, 11, 0, 123, []), (23, 3, .getfield 78, 0, 2, 2, 16, []), (26, 3, .if_icmp .ge 31, 0, 57, 0, 0, []), (29, 1, .iload_n 2, 0, 2, 0, 0, []), (30, 2, .iload 4, 0, 4, 0, 0, []), (32, 3, .invokestatic 86, 0, 104, 2, 0, []), (35, 3, .ifCond .eq 16, 0, 51, 0, 0, []), (38, 1, .iload_n 3, 0, 3, 0, 0, []), (39, 1, .aload_n 0, 0, 0, 0, 0, []), (40, 1, .iload_n 1, 0, 1, 0, 0, []), (41, 2, .iload 4, 0, 4, 0, 0, []), (43, 1, .iload_n 2, 0, 2, 0, 0, []), (44, 3, .invokevirtual 90, 0, 105, 4, 11, []), (47, 3, .invokestatic 94, 0, 106, 2, 106, []), (50, 1, .istore_n 3, 0, 3, 0, 0, []), (51, 3, .iinc 4 1, 1, 4, 0, 0, []), (54, 3, .goto (-37), 0, 17, 0, 0, []), (57, 1, .iload_n 3, 0, 3, 0, 0, []), (58, 1, .ireturn, 0, 0, 0, 0, [])]
set_option maxRecDepth 100000 in
theorem ck_103 : (cd_103.all (okCE 11 5 prog_5_method_8_code)) = true := by decide +kernel
/-- TradeTests$Plan.isFree -/
def cd_104 : List CE := [(0, 1, .iload_n 0, 0, 0, 0, 0, []), (1, 1, .iload_n 1, 0, 1, 0, 0, []), (2, 1, .ishr, 0, 0, 0, 0, []), (3, 1, .iconst 1, 1, 0, 0, 0, []), (4, 1, .iand, 0, 0, 0, 0, []), (5, 3, .ifCond .ne 7, 0, 12, 0, 0, []), (8, 1, .iconst 1, 1, 0, 0, 0, []), (9, 3, .goto 4, 0, 13, 0, 0, []), (12, 1, .iconst 0, 0, 0, 0, 0, []), (13, 1, .ireturn, 0, 0, 0, 0, [])]
set_option maxRecDepth 100000 in
theorem ck_104 : (cd_104.all (okCE 11 2 prog_5_method_10_code)) = true := by decide +kernel
/-- TradeTests$Plan.mostWith -/
def cd_105 : List CE := [(0, 1, .aload_n 0, 0, 0, 0, 0, []), (1, 3, .getfield 9, 0, 11, 4, 127, []), (4, 1, .iload_n 1, 0, 1, 0, 0, []), (5, 2, .bipush 6, 6, 0, 0, 0, []), (7, 1, .imul, 0, 0, 0, 0, []), (8, 1, .iload_n 2, 0, 2, 0, 0, []), (9, 1, .iadd, 0, 0, 0, 0, []), (10, 1, .iaload, 0, 0, 0, 0, []), (11, 1, .aload_n 0, 0, 0, 0, 0, []), (12, 3, .getfield 15, 0, 11, 5, 128, []), (15, 1, .iload_n 1, 0, 1, 0, 0, []), (16, 1, .iconst 1, 1, 0, 0, 0, []), (17, 1, .iadd, 0, 0, 0, 0, []), (18, 2, .bipush 64, 64, 0, 0, 0, []), (20, 1, .imul, 0, 0, 0, 0, []), (21, 1, .iload_n 3, 0, 3, 0, 0, []), (22, 1, .iconst 1, 1, 0, 0, 0, []), (23, 1, .iload_n 2, 0, 2, 0, 0, []), (24, 1, .ishl, 0, 0, 0, 0, []), (25, 1, .ior, 0, 0, 0, 0, []), (26, 1, .iadd, 0, 0, 0, 0, []), (27, 1, .iaload, 0, 0, 0, 0, []), (28, 1, .iadd, 0, 0, 0, 0, []), (29, 1, .ireturn, 0, 0, 0, 0, [])]
set_option maxRecDepth 100000 in
theorem ck_105 : (cd_105.all (okCE 11 4 prog_5_method_9_code)) = true := by decide +kernel
/-- TradeTests$Plan.most -/
def cd_107 : List CE := [(0, 1, .aload_n 0, 0, 0, 0, 0, []), (1, 3, .getfield 15, 0, 11, 5, 128, []), (4, 1, .iconst 0, 0, 0, 0, 0, []), (5, 1, .iaload, 0, 0, 0, 0, []), (6, 1, .ireturn, 0, 0, 0, 0, [])]
set_option maxRecDepth 100000 in
theorem ck_107 : (cd_107.all (okCE 11 1 prog_5_method_11_code)) = true := by decide +kernel
/-- TradeTests$Plan.garageFor -/
def cd_108 : List CE := [(0, 1, .iconst 0, 0, 0, 0, 0, []), (1, 1, .istore_n 2, 0, 2, 0, 0, []), (2, 1, .iconst (-1), (-1), 0, 0, 0, []), (3, 1, .istore_n 3, 0, 3, 0, 0, []), (4, 1, .iconst 0, 0, 0, 0, 0, []), (5, 2, .istore 4, 0, 4, 0, 0, []), (7, 2, .iload 4, 0, 4, 0, 0, []), (9, 1, .iload_n 1, 0, 1, 0, 0, []), (10, 3, .if_icmp .gt 31, 0, 41, 0, 0, []), (13, 1, .aload_n 0, 0, 0, 0, 0, []), (14, 2, .iload 4, 0, 4, 0, 0, []), (16, 1, .iload_n 2, 0, 2, 0, 0, []), (17, 3, .invokevirtual 99, 0, 109, 3, 11, []), (20, 1, .istore_n 3, 0, 3, 0, 0, []), (21, 1, .iload_n 3, 0, 3, 0, 0, []), (22, 3, .ifCond .ge 7, 0, 29, 0, 0, []), (25, 1, .iload_n 2, 0, 2, 0, 0, []), (26, 3, .goto 8, 0, 34, 0, 0, []), (29, 1, .iload_n 2, 0, 2, 0, 0, []), (30, 1, .iconst 1, 1, 0, 0, 0, []), (31, 1, .iload_n 3, 0, 3, 0, 0, []), (32, 1, .ishl, 0, 0, 0, 0, []), (33, 1, .ior, 0, 0, 0, 0, []), (34, 1, .istore_n 2, 0, 2, 0, 0, []), (35, 3, .iinc 4 1, 1, 4, 0, 0, []), (38, 3, .goto (-31), 0, 7, 0, 0, []), (41, 1, .iload_n 3, 0, 3, 0, 0, []), (42, 1, .ireturn, 0, 0, 0, 0, [])]
set_option maxRecDepth 100000 in
theorem ck_108 : (cd_108.all (okCE 11 5 prog_5_method_12_code)) = true := by decide +kernel
/-- TradeTests$Plan.leastGarage -/
def cd_109 : List CE := [(0, 1, .iconst 0, 0, 0, 0, 0, []), (1, 1, .istore_n 3, 0, 3, 0, 0, []), (2, 1, .iload_n 3, 0, 3, 0, 0, []), (3, 1, .aload_n 0, 0, 0, 0, 0, []), (4, 3, .getfield 18, 0, 11, 0, 123, []), (7, 3, .getfield 78, 0, 2, 2, 16, []), (10, 3, .if_icmp .ge 40, 0, 50, 0, 0, []), (13, 1, .iload_n 2, 0, 2, 0, 0, []), (14, 1, .iload_n 3, 0, 3, 0, 0, []), (15, 3, .invokestatic 86, 0, 104, 2, 0, []), (18, 3, .ifCond .eq 26, 0, 44, 0, 0, []), (21, 1, .aload_n 0, 0, 0, 0, 0, []), (22, 1, .iload_n 1, 0, 1, 0, 0, []), (23, 1, .iload_n 3, 0, 3, 0, 0, []), (24, 1, .iload_n 2, 0, 2, 0, 0, []), (25, 3, .invokevirtual 90, 0, 105, 4, 11, []), (28, 1, .aload_n 0, 0, 0, 0, 0, []), (29, 3, .getfield 15, 0, 11, 5, 128, []), (32, 1, .iload_n 1, 0, 1, 0, 0, []), (33, 2, .bipush 64, 64, 0, 0, 0, []), (35, 1, .imul, 0, 0, 0, 0, []), (36, 1, .iload_n 2, 0, 2, 0, 0, []), (37, 1, .iadd, 0, 0, 0, 0, []), (38, 1, .iaload, 0, 0, 0, 0, []), (39, 3, .if_icmp .ne 5, 0, 44, 0, 0, []), (42, 1, .iload_n 3, 0, 3, 0, 0, []), (43, 1, .ireturn, 0, 0, 0, 0, []), (44, 3, .iinc 3 1, 1, 3, 0, 0, []), (47, 3, .goto (-45), 0, 2, 0, 0, []), (50, 1, .iconst (-1), (-1), 0, 0, 0, []), (51, 1, .ireturn, 0, 0, 0, 0, [])]
set_option maxRecDepth 100000 in
theorem ck_109 : (cd_109.all (okCE 11 4 prog_5_method_13_code)) = true := by decide +kernel
/-- TradeTests.draw -/
def cd_110 : List CE := [(0, 1, .iload_n 1, 0, 1, 0, 0, []), (1, 1, .aload_n 0, 0, 0, 0, 0, []), (2, 3, .getfield 26, 0, 0, 2, 133, []), (5, 3, .getfield 175, 0, 3, 14, 74, []), (8, 3, .invokestatic 111, 0, 1, 2, 0, []), (11, 3, .ifCond .eq 22, 0, 33, 0, 0, []), (14, 1, .iload_n 2, 0, 2, 0, 0, []), (15, 1, .iconst 1, 1, 0, 0, 0, []), (16, 3, .if_icmp .lt 17, 0, 33, 0, 0, []), (19, 1, .iload_n 2, 0, 2, 0, 0, []), (20, 2, .bipush 100, 100, 0, 0, 0, []), (22, 3, .if_icmp .gt 11, 0, 33, 0, 0, []), (25, 1, .iload_n 3, 0, 3, 0, 0, []), (26, 1, .iconst 2, 2, 0, 0, 0, []), (27, 3, .invokestatic 111, 0, 1, 2, 0, []), (30, 3, .ifCond .ne 9, 0, 39, 0, 0, []), (33, 1, .aload_n 0, 0, 0, 0, 0, []), (34, 1, .iconst 1, 1, 0, 0, 0, []), (35, 3, .invokevirtual 115, 0, 2, 2, 0, []), (38, 1, .ireturn, 0, 0, 0, 0, []), (39, 1, .aload_n 0, 0, 0, 0, 0, []), (40, 3, .getfield 26, 0, 0, 2, 133, []), (43, 1, .iload_n 1, 0, 1, 0, 0, []), (44, 3, .invokevirtual 282, 0, 111, 2, 3, []), (47, 3, .ifCond .eq 9, 0, 56, 0, 0, []), (50, 1, .aload_n 0, 0, 0, 0, 0, []), (51, 1, .iconst 3, 3, 0, 0, 0, []), (52, 3, .invokevirtual 115, 0, 2, 2, 0, []), (55, 1, .ireturn, 0, 0, 0, 0, []), (56, 1, .aload_n 0, 0, 0, 0, 0, []), (57, 3, .getfield 26, 0, 0, 2, 133, []), (60, 1, .iload_n 1, 0, 1, 0, 0, []), (61, 1, .iload_n 2, 0, 2, 0, 0, []), (62, 1, .iload_n 3, 0, 3, 0, 0, []), (63, 3, .invokevirtual 285, 0, 112, 4, 3, []), (66, 1, .ireturn, 0, 0, 0, 0, [])]
set_option maxRecDepth 100000 in
theorem ck_110 : (cd_110.all (okCE 0 4 prog_1_method_29_code)) = true := by decide +kernel
/-- TradeTests$Tests.isDrawn -/
def cd_111 : List CE := [(0, 1, .aload_n 0, 0, 0, 0, 0, []), (1, 3, .getfield 48, 0, 3, 12, 65, []), (4, 1, .iload_n 1, 0, 1, 0, 0, []), (5, 1, .iaload, 0, 0, 0, 0, []), (6, 3, .ifCond .le 7, 0, 13, 0, 0, []), (9, 1, .iconst 1, 1, 0, 0, 0, []), (10, 3, .goto 4, 0, 14, 0, 0, []), (13, 1, .iconst 0, 0, 0, 0, 0, []), (14, 1, .ireturn, 0, 0, 0, 0, [])]
set_option maxRecDepth 100000 in
theorem ck_111 : (cd_111.all (okCE 3 2 prog_9_method_5_code)) = true := by decide +kernel
/-- TradeTests$Tests.addDraw -/
def cd_112 : List CE := [(0, 1, .aload_n 0, 0, 0, 0, 0, []), (1, 3, .getfield 48, 0, 3, 12, 65, []), (4, 1, .iload_n 1, 0, 1, 0, 0, []), (5, 1, .iload_n 2, 0, 2, 0, 0, []), (6, 1, .iastore, 0, 0, 0, 0, []), (7, 1, .aload_n 0, 0, 0, 0, 0, []), (8, 3, .getfield 51, 0, 3, 13, 66, []), (11, 1, .iload_n 1, 0, 1, 0, 0, []), (12, 1, .iload_n 3, 0, 3, 0, 0, []), (13, 1, .iastore, 0, 0, 0, 0, []), (14, 1, .aload_n 0, 0, 0, 0, 0, []), (15, 1, .dup, 0, 0, 0, 0, []), (16, 3, .getfield 58, 0, 3, 15, 75, []), (19, 1, .iconst 1, 1, 0, 0, 0, []), (20, 1, .iadd, 0, 0, 0, 0, []), (21, 3, .putfield 58, 0, 3, 15, 75, []), (24, 1, .aload_n 0, 0, 0, 0, 0, []), (25, 3, .getfield 58, 0, 3, 15, 75, []), (28, 1, .ireturn, 0, 0, 0, 0, [])]
set_option maxRecDepth 100000 in
theorem ck_112 : (cd_112.all (okCE 3 4 prog_9_method_6_code)) = true := by decide +kernel
/-- TradeTests.error -/
def cd_113 : List CE := [(0, 1, .aload_n 0, 0, 0, 0, 0, []), (1, 3, .getfield 26, 0, 0, 2, 133, []), (4, 3, .invokevirtual 288, 0, 114, 1, 3, []), (7, 1, .istore_n 1, 0, 1, 0, 0, []), (8, 1, .iload_n 1, 0, 1, 0, 0, []), (9, 3, .ifCond .ge 11, 0, 20, 0, 0, []), (12, 1, .aload_n 0, 0, 0, 0, 0, []), (13, 1, .iconst 2, 2, 0, 0, 0, []), (14, 3, .invokevirtual 115, 0, 2, 2, 0, []), (17, 3, .goto 4, 0, 21, 0, 0, []), (20, 1, .iload_n 1, 0, 1, 0, 0, []), (21, 1, .ireturn, 0, 0, 0, 0, [])]
set_option maxRecDepth 100000 in
theorem ck_113 : (cd_113.all (okCE 0 2 prog_1_method_30_code)) = true := by decide +kernel
/-- TradeTests$Tests.drawnError -/
def cd_114 : List CE := [(0, 1, .iconst 0, 0, 0, 0, 0, []), (1, 1, .istore_n 1, 0, 1, 0, 0, []), (2, 1, .iconst 0, 0, 0, 0, 0, []), (3, 1, .istore_n 2, 0, 2, 0, 0, []), (4, 1, .iconst 0, 0, 0, 0, 0, []), (5, 1, .istore_n 3, 0, 3, 0, 0, []), (6, 1, .iload_n 3, 0, 3, 0, 0, []), (7, 1, .aload_n 0, 0, 0, 0, 0, []), (8, 3, .getfield 54, 0, 3, 14, 67, []), (11, 3, .if_icmp .ge 47, 0, 58, 0, 0, []), (14, 1, .aload_n 0, 0, 0, 0, 0, []), (15, 3, .getfield 48, 0, 3, 12, 65, []), (18, 1, .iload_n 3, 0, 3, 0, 0, []), (19, 1, .iaload, 0, 0, 0, 0, []), (20, 3, .ifCond .le 32, 0, 52, 0, 0, []), (23, 3, .sipush 10000, 10000, 0, 0, 0, []), (26, 1, .aload_n 0, 0, 0, 0, 0, []), (27, 3, .getfield 48, 0, 3, 12, 65, []), (30, 1, .iload_n 3, 0, 3, 0, 0, []), (31, 1, .iaload, 0, 0, 0, 0, []), (32, 1, .idiv, 0, 0, 0, 0, []), (33, 2, .istore 4, 0, 4, 0, 0, []), (35, 1, .iload_n 1, 0, 1, 0, 0, []), (36, 2, .iload 4, 0, 4, 0, 0, []), (38, 1, .iadd, 0, 0, 0, 0, []), (39, 1, .istore_n 1, 0, 1, 0, 0, []), (40, 1, .iload_n 2, 0, 2, 0, 0, []), (41, 1, .aload_n 0, 0, 0, 0, 0, []), (42, 3, .getfield 51, 0, 3, 13, 66, []), (45, 1, .iload_n 3, 0, 3, 0, 0, []), (46, 1, .iaload, 0, 0, 0, 0, []), (47, 2, .iload 4, 0, 4, 0, 0, []), (49, 1, .imul, 0, 0, 0, 0, []), (50, 1, .iadd, 0, 0, 0, 0, []), (51, 1, .istore_n 2, 0, 2, 0, 0, []), (52, 3, .iinc 3 1, 1, 3, 0, 0, []), (55, 3, .goto (-49), 0, 6, 0, 0, []), (58, 1, .iload_n 1, 0, 1, 0, 0, []), (59, 3, .ifCond .le 13, 0, 72, 0, 0, []), (62, 1, .iload_n 2, 0, 2, 0, 0, []), (63, 3, .sipush 1000, 1000, 0, 0, 0, []), (66, 1, .imul, 0, 0, 0, 0, []), (67, 1, .iload_n 1, 0, 1, 0, 0, []), (68, 1, .idiv, 0, 0, 0, 0, []), (69, 3, .goto 4, 0, 73, 0, 0, []), (72, 1, .iconst (-1), (-1), 0, 0, 0, []), (73, 1, .ireturn, 0, 0, 0, 0, [])]
set_option maxRecDepth 100000 in
theorem ck_114 : (cd_114.all (okCE 3 5 prog_9_method_7_code)) = true := by decide +kernel
/-- TradeTests.leans -/
def cd_115 : List CE := [(0, 1, .iload_n 1, 0, 1, 0, 0, []), (1, 1, .iconst (-1), (-1), 0, 0, 0, []), (2, 3, .if_icmp .lt 24, 0, 26, 0, 0, []), (5, 1, .iload_n 1, 0, 1, 0, 0, []), (6, 1, .aload_n 0, 0, 0, 0, 0, []), (7, 3, .getfield 10, 0, 0, 0, 131, []), (10, 3, .getfield 119, 0, 1, 3, 9, []), (13, 3, .if_icmp .ge 13, 0, 26, 0, 0, []), (16, 1, .iload_n 2, 0, 2, 0, 0, []), (17, 3, .sipush 10000, 10000, 0, 0, 0, []), (20, 3, .invokestatic 111, 0, 1, 2, 0, []), (23, 3, .ifCond .ne 9, 0, 32, 0, 0, []), (26, 1, .aload_n 0, 0, 0, 0, 0, []), (27, 1, .iconst 1, 1, 0, 0, 0, []), (28, 3, .invokevirtual 115, 0, 2, 2, 0, []), (31, 1, .ireturn, 0, 0, 0, 0, []), (32, 1, .iload_n 1, 0, 1, 0, 0, []), (33, 3, .ifCond .lt 21, 0, 54, 0, 0, []), (36, 1, .aload_n 0, 0, 0, 0, 0, []), (37, 3, .getfield 42, 0, 0, 4, 135, []), (40, 1, .iload_n 1, 0, 1, 0, 0, []), (41, 1, .iload_n 2, 0, 2, 0, 0, []), (42, 3, .invokevirtual 291, 0, 116, 3, 5, []), (45, 3, .ifCond .eq 7, 0, 52, 0, 0, []), (48, 1, .iconst 1, 1, 0, 0, 0, []), (49, 3, .goto 4, 0, 53, 0, 0, []), (52, 1, .iconst 0, 0, 0, 0, 0, []), (53, 1, .ireturn, 0, 0, 0, 0, []), (54, 1, .iconst 0, 0, 0, 0, 0, []), (55, 1, .istore_n 3, 0, 3, 0, 0, []), (56, 1, .iconst 0, 0, 0, 0, 0, []), (57, 2, .istore 4, 0, 4, 0, 0, []), (59, 2, .iload 4, 0, 4, 0, 0, []), (61, 1, .aload_n 0, 0, 0, 0, 0, []), (62, 3, .getfield 10, 0, 0, 0, 131, []), (65, 3, .getfield 119, 0, 1, 3, 9, []), (68, 3, .if_icmp .ge 25, 0, 93, 0, 0, []), (71, 1, .aload_n 0, 0, 0, 0, 0, []), (72, 3, .getfield 42, 0, 0, 4, 135, []), (75, 2, .iload 4, 0, 4, 0, 0, []), (77, 1, .iload_n 2, 0, 2, 0, 0, []), (78, 3, .invokevirtual 291, 0, 116, 3, 5, []), (81, 3, .ifCond .eq 6, 0, 87, 0, 0, []), (84, 3, .iinc 3 1, 1, 3, 0, 0, []), (87, 3, .iinc 4 1, 1, 4, 0, 0, []), (90, 3, .goto (-31), 0, 59, 0, 0, []), (93, 1, .iload_n 3, 0, 3, 0, 0, []), (94, 1, .ireturn, 0, 0, 0, 0, [])]
set_option maxRecDepth 100000 in
theorem ck_115 : (cd_115.all (okCE 0 5 prog_1_method_31_code)) = true := by decide +kernel
/-- TradeTests$Judge.isLeaning -/
def cd_116 : List CE := [(0, 1, .iconst (-1), (-1), 0, 0, 0, []), (1, 1, .istore_n 3, 0, 3, 0, 0, []), (2, 1, .iconst 0, 0, 0, 0, 0, []), (3, 2, .istore 4, 0, 4, 0, 0, []), (5, 2, .iload 4, 0, 4, 0, 0, []), (7, 1, .aload_n 0, 0, 0, 0, 0, []), (8, 3, .getfield 15, 0, 5, 1, 92, []), (11, 3, .getfield 73, 0, 3, 14, 72, []), (14, 3, .if_icmp .ge 40, 0, 54, 0, 0, []), (17, 1, .aload_n 0, 0, 0, 0, 0, []), (18, 3, .getfield 15, 0, 5, 1, 92, []), (21, 3, .getfield 40, 0, 3, 0, 26, []), (24, 2, .iload 4, 0, 4, 0, 0, []), (26, 1, .iaload, 0, 0, 0, 0, []), (27, 1, .iload_n 1, 0, 1, 0, 0, []), (28, 3, .if_icmp .ne 20, 0, 48, 0, 0, []), (31, 1, .aload_n 0, 0, 0, 0, 0, []), (32, 3, .getfield 15, 0, 5, 1, 92, []), (35, 3, .getfield 23, 0, 3, 2, 36, []), (38, 2, .iload 4, 0, 4, 0, 0, []), (40, 1, .iaload, 0, 0, 0, 0, []), (41, 1, .iload_n 2, 0, 2, 0, 0, []), (42, 3, .if_icmp .gt 6, 0, 48, 0, 0, []), (45, 2, .iload 4, 0, 4, 0, 0, []), (47, 1, .istore_n 3, 0, 3, 0, 0, []), (48, 3, .iinc 4 1, 1, 4, 0, 0, []), (51, 3, .goto (-46), 0, 5, 0, 0, []), (54, 1, .iload_n 3, 0, 3, 0, 0, []), (55, 3, .ifCond .lt 37, 0, 92, 0, 0, []), (58, 1, .aload_n 0, 0, 0, 0, 0, []), (59, 1, .iload_n 3, 0, 3, 0, 0, []), (60, 3, .invokevirtual 77, 0, 58, 2, 5, []), (63, 3, .ifCond .eq 29, 0, 92, 0, 0, []), (66, 1, .aload_n 0, 0, 0, 0, 0, []), (67, 3, .getfield 15, 0, 5, 1, 92, []), (70, 3, .getfield 23, 0, 3, 2, 36, []), (73, 1, .iload_n 3, 0, 3, 0, 0, []), (74, 1, .iaload, 0, 0, 0, 0, []), (75, 1, .aload_n 0, 0, 0, 0, 0, []), (76, 3, .getfield 9, 0, 5, 0, 91, []), (79, 1, .iload_n 1, 0, 1, 0, 0, []), (80, 3, .invokevirtual 80, 0, 6, 2, 1, []), (83, 1, .iadd, 0, 0, 0, 0, []), (84, 1, .iload_n 2, 0, 2, 0, 0, []), (85, 3, .if_icmp .lt 7, 0, 92, 0, 0, []), (88, 1, .iconst 1, 1, 0, 0, 0, []), (89, 3, .goto 4, 0, 93, 0, 0, []), (92, 1, .iconst 0, 0, 0, 0, 0, []), (93, 1, .ireturn, 0, 0, 0, 0, [])]
set_option maxRecDepth 100000 in
theorem ck_116 : (cd_116.all (okCE 5 5 prog_2_method_6_code)) = true := by decide +kernel
/-- TradeTests.tell -/
def cd_117 : List CE := [(0, 1, .aload_n 0, 0, 0, 0, 0, []), (1, 3, .getfield 104, 0, 0, 12, 143, []), (4, 2, .bipush 8, 8, 0, 0, 0, []), (6, 3, .if_icmp .lt 9, 0, 15, 0, 0, []), (9, 1, .aload_n 0, 0, 0, 0, 0, []), (10, 1, .iconst 4, 4, 0, 0, 0, []), (11, 3, .invokevirtual 115, 0, 2, 2, 0, []), (14, 1, .ireturn, 0, 0, 0, 0, []), (15, 1, .aload_n 0, 0, 0, 0, 0, []), (16, 3, .getfield 100, 0, 0, 11, 142, []), (19, 1, .aload_n 0, 0, 0, 0, 0, []), (20, 3, .getfield 104, 0, 0, 12, 143, []), (23, 1, .iload_n 1, 0, 1, 0, 0, []), (24, 1, .iastore, 0, 0, 0, 0, []), (25, 1, .aload_n 0, 0, 0, 0, 0, []), (26, 1, .dup, 0, 0, 0, 0, []), (27, 3, .getfield 104, 0, 0, 12, 143, []), (30, 1, .iconst 1, 1, 0, 0, 0, []), (31, 1, .iadd, 0, 0, 0, 0, []), (32, 3, .putfield 104, 0, 0, 12, 143, []), (35, 1, .aload_n 0, 0, 0, 0, 0, []), (36, 3, .getfield 104, 0, 0, 12, 143, []), (39, 1, .ireturn, 0, 0, 0, 0, [])]
set_option maxRecDepth 100000 in
theorem ck_117 : (cd_117.all (okCE 0 2 prog_1_method_32_code)) = true := by decide +kernel
/-- TradeTests.check -/
def cd_118 : List CE := [(0, 1, .aload_n 0, 0, 0, 0, 0, []), (1, 3, .getfield 104, 0, 0, 12, 143, []), (4, 1, .istore_n 2, 0, 2, 0, 0, []), (5, 1, .aload_n 0, 0, 0, 0, 0, []), (6, 1, .iconst 0, 0, 0, 0, 0, []), (7, 3, .putfield 104, 0, 0, 12, 143, []), (10, 1, .iload_n 1, 0, 1, 0, 0, []), (11, 3, .sipush 10000, 10000, 0, 0, 0, []), (14, 3, .invokestatic 111, 0, 1, 2, 0, []), (17, 3, .ifCond .ne 9, 0, 26, 0, 0, []), (20, 1, .aload_n 0, 0, 0, 0, 0, []), (21, 1, .iconst 1, 1, 0, 0, 0, []), (22, 3, .invokevirtual 115, 0, 2, 2, 0, []), (25, 1, .ireturn, 0, 0, 0, 0, []), (26, 1, .iconst 0, 0, 0, 0, 0, []), (27, 1, .istore_n 3, 0, 3, 0, 0, []), (28, 1, .iload_n 3, 0, 3, 0, 0, []), (29, 1, .iload_n 2, 0, 2, 0, 0, []), (30, 3, .if_icmp .ge 42, 0, 72, 0, 0, []), (33, 1, .iload_n 3, 0, 3, 0, 0, []), (34, 1, .aload_n 0, 0, 0, 0, 0, []), (35, 3, .getfield 19, 0, 0, 1, 132, []), (38, 3, .getfield 142, 0, 2, 4, 19, []), (41, 3, .if_icmp .ge 21, 0, 62, 0, 0, []), (44, 1, .aload_n 0, 0, 0, 0, 0, []), (45, 3, .getfield 100, 0, 0, 11, 142, []), (48, 1, .iload_n 3, 0, 3, 0, 0, []), (49, 1, .iaload, 0, 0, 0, 0, []), (50, 1, .aload_n 0, 0, 0, 0, 0, []), (51, 3, .getfield 87, 0, 0, 9, 140, []), (54, 1, .iload_n 3, 0, 3, 0, 0, []), (55, 1, .iload_n 1, 0, 1, 0, 0, []), (56, 3, .invokevirtual 247, 0, 88, 3, 10, []), (59, 3, .if_icmp .eq 7, 0, 66, 0, 0, []), (62, 1, .iconst 1, 1, 0, 0, 0, []), (63, 1, .iload_n 3, 0, 3, 0, 0, []), (64, 1, .iadd, 0, 0, 0, 0, []), (65, 1, .ireturn, 0, 0, 0, 0, []), (66, 3, .iinc 3 1, 1, 3, 0, 0, []), (69, 3, .goto (-41), 0, 28, 0, 0, []), (72, 1, .iconst 0, 0, 0, 0, 0, []), (73, 1, .ireturn, 0, 0, 0, 0, [])]
set_option maxRecDepth 100000 in
theorem ck_118 : (cd_118.all (okCE 0 4 prog_1_method_33_code)) = true := by decide +kernel
/-- TradeTests.count -/
def cd_119 : List CE := [(0, 1, .iload_n 1, 0, 1, 0, 0, []), (1, 59, .tableswitch 144 0 10 #[59, 67, 75, 83, 91, 99, 107, 115, 123, 131, 136], 0, 145, 0, 0, [(0, 60), (1, 68), (2, 76), (3, 84), (4, 92), (5, 100), (6, 108), (7, 116), (8, 124), (9, 132), (10, 137)]), (60, 1, .aload_n 0, 0, 0, 0, 0, []), (61, 3, .getfield 10, 0, 0, 0, 131, []), (64, 3, .getfield 119, 0, 1, 3, 9, []), (67, 1, .ireturn, 0, 0, 0, 0, []), (68, 1, .aload_n 0, 0, 0, 0, 0, []), (69, 3, .getfield 19, 0, 0, 1, 132, []), (72, 3, .getfield 135, 0, 2, 2, 15, []), (75, 1, .ireturn, 0, 0, 0, 0, []), (76, 1, .aload_n 0, 0, 0, 0, 0, []), (77, 3, .getfield 19, 0, 0, 1, 132, []), (80, 3, .getfield 142, 0, 2, 4, 19, []), (83, 1, .ireturn, 0, 0, 0, 0, []), (84, 1, .aload_n 0, 0, 0, 0, 0, []), (85, 3, .getfield 26, 0, 0, 2, 133, []), (88, 3, .getfield 175, 0, 3, 14, 74, []), (91, 1, .ireturn, 0, 0, 0, 0, []), (92, 1, .aload_n 0, 0, 0, 0, 0, []), (93, 3, .getfield 33, 0, 0, 3, 134, []), (96, 3, .getfield 192, 0, 4, 7, 90, []), (99, 1, .ireturn, 0, 0, 0, 0, []), (100, 1, .aload_n 0, 0, 0, 0, 0, []), (101, 3, .getfield 78, 0, 0, 8, 139, []), (104, 3, .getfield 253, 0, 9, 3, 114, []), (107, 1, .ireturn, 0, 0, 0, 0, []), (108, 1, .aload_n 0, 0, 0, 0, 0, []), (109, 3, .getfield 78, 0, 0, 8, 139, []), (112, 3, .getfield 294, 0, 9, 4, 116, []), (115, 1, .ireturn, 0, 0, 0, 0, []), (116, 1, .aload_n 0, 0, 0, 0, 0, []), (117, 3, .getfield 26, 0, 0, 2, 133, []), (120, 3, .getfield 297, 0, 3, 15, 76, []), (123, 1, .ireturn, 0, 0, 0, 0, []), (124, 1, .aload_n 0, 0, 0, 0, 0, []), (125, 3, .getfield 33, 0, 0, 3, 134, []), (128, 3, .getfield 186, 0, 4, 1, 79, []), (131, 1, .ireturn, 0, 0, 0, 0, []), (132, 1, .aload_n 0, 0, 0, 0, 0, []), (133, 3, .getfield 104, 0, 0, 12, 143, []), (136, 1, .ireturn, 0, 0, 0, 0, []), (137, 1, .aload_n 0, 0, 0, 0, 0, []), (138, 3, .getfield 51, 0, 0, 5, 136, []), (141, 3, .invokevirtual 300, 0, 120, 1, 6, []), (144, 1, .ireturn, 0, 0, 0, 0, []), (145, 1, .aload_n 0, 0, 0, 0, 0, []), (146, 1, .iconst 1, 1, 0, 0, 0, []), (147, 3, .invokevirtual 115, 0, 2, 2, 0, []), (150, 1, .ireturn, 0, 0, 0, 0, [])]
set_option maxRecDepth 100000 in
theorem ck_119 : (cd_119.all (okCE 0 2 prog_1_method_34_code)) = true := by decide +kernel
/-- TradeTests$Signals.testsWithSigns -/
def cd_120 : List CE := [(0, 1, .iconst 0, 0, 0, 0, 0, []), (1, 1, .istore_n 1, 0, 1, 0, 0, []), (2, 1, .iconst 0, 0, 0, 0, 0, []), (3, 1, .istore_n 2, 0, 2, 0, 0, []), (4, 1, .iload_n 2, 0, 2, 0, 0, []), (5, 1, .aload_n 0, 0, 0, 0, 0, []), (6, 3, .getfield 17, 0, 6, 2, 96, []), (9, 3, .getfield 44, 0, 3, 14, 68, []), (12, 3, .if_icmp .ge 20, 0, 32, 0, 0, []), (15, 1, .aload_n 0, 0, 0, 0, 0, []), (16, 1, .iload_n 2, 0, 2, 0, 0, []), (17, 3, .invokevirtual 50, 0, 50, 2, 6, []), (20, 3, .ifCond .eq 6, 0, 26, 0, 0, []), (23, 3, .iinc 1 1, 1, 1, 0, 0, []), (26, 3, .iinc 2 1, 1, 2, 0, 0, []), (29, 3, .goto (-25), 0, 4, 0, 0, []), (32, 1, .iload_n 1, 0, 1, 0, 0, []), (33, 1, .ireturn, 0, 0, 0, 0, [])]
set_option maxRecDepth 100000 in
theorem ck_120 : (cd_120.all (okCE 6 3 prog_8_method_3_code)) = true := by decide +kernel
/-- TradeTests.found -/
def cd_121 : List CE := [(0, 1, .iload_n 1, 0, 1, 0, 0, []), (1, 1, .iconst 1, 1, 0, 0, 0, []), (2, 3, .if_icmp .lt 8, 0, 10, 0, 0, []), (5, 1, .iload_n 1, 0, 1, 0, 0, []), (6, 1, .iconst 5, 5, 0, 0, 0, []), (7, 3, .if_icmp .le 9, 0, 16, 0, 0, []), (10, 1, .aload_n 0, 0, 0, 0, 0, []), (11, 1, .iconst 1, 1, 0, 0, 0, []), (12, 3, .invokevirtual 115, 0, 2, 2, 0, []), (15, 1, .ireturn, 0, 0, 0, 0, []), (16, 1, .aload_n 0, 0, 0, 0, 0, []), (17, 3, .getfield 108, 0, 0, 13, 144, []), (20, 1, .iload_n 1, 0, 1, 0, 0, []), (21, 1, .iaload, 0, 0, 0, 0, []), (22, 1, .ireturn, 0, 0, 0, 0, [])]
set_option maxRecDepth 100000 in
theorem ck_121 : (cd_121.all (okCE 0 2 prog_1_method_35_code)) = true := by decide +kernel
/-- TradeTestsModel.vehicle -/
def cd_122 : List CE := [(0, 1, .iload_n 1, 0, 1, 0, 0, []), (1, 1, .iconst 0, 0, 0, 0, 0, []), (2, 1, .iconst 3, 3, 0, 0, 0, []), (3, 3, .invokestatic 127, 0, 123, 3, 0, []), (6, 3, .ifCond .eq 19, 0, 25, 0, 0, []), (9, 1, .iload_n 2, 0, 2, 0, 0, []), (10, 1, .iconst 0, 0, 0, 0, 0, []), (11, 1, .iconst 3, 3, 0, 0, 0, []), (12, 3, .invokestatic 127, 0, 123, 3, 0, []), (15, 3, .ifCond .eq 10, 0, 25, 0, 0, []), (18, 1, .iload_n 3, 0, 3, 0, 0, []), (19, 3, .invokestatic 143, 0, 124, 1, 0, []), (22, 3, .ifCond .ne 9, 0, 31, 0, 0, []), (25, 1, .aload_n 0, 0, 0, 0, 0, []), (26, 1, .iconst 1, 1, 0, 0, 0, []), (27, 3, .invokevirtual 147, 0, 125, 2, 12, []), (30, 1, .ireturn, 0, 0, 0, 0, []), (31, 1, .aload_n 0, 0, 0, 0, 0, []), (32, 3, .getfield 131, 0, 12, 0, 145, []), (35, 2, .bipush 24, 24, 0, 0, 0, []), (37, 3, .if_icmp .ne 9, 0, 46, 0, 0, []), (40, 1, .aload_n 0, 0, 0, 0, 0, []), (41, 1, .iconst 4, 4, 0, 0, 0, []), (42, 3, .invokevirtual 147, 0, 125, 2, 12, []), (45, 1, .ireturn, 0, 0, 0, 0, []), (46, 1, .aload_n 0, 0, 0, 0, 0, []), (47, 3, .getfield 19, 0, 12, 14, 159, []), (50, 1, .aload_n 0, 0, 0, 0, 0, []), (51, 3, .getfield 131, 0, 12, 0, 145, []), (54, 1, .iload_n 1, 0, 1, 0, 0, []), (55, 1, .iastore, 0, 0, 0, 0, []), (56, 1, .aload_n 0, 0, 0, 0, 0, []), (57, 3, .getfield 23, 0, 12, 15, 160, []), (60, 1, .aload_n 0, 0, 0, 0, 0, []), (61, 3, .getfield 131, 0, 12, 0, 145, []), (64, 1, .iload_n 2, 0, 2, 0, 0, []), (65, 1, .iastore, 0, 0, 0, 0, []), (66, 1, .aload_n 0, 0, 0, 0, 0, []), (67, 3, .getfield 26, 0, 12, 16, 161, []), (70, 1, .aload_n 0, 0, 0, 0, 0, []), (71, 3, .getfield 131, 0, 12, 0, 145, []), (74, 1, .iload_n 3, 0, 3, 0, 0, []), (75, 1, .iastore, 0, 0, 0, 0, []), (76, 1, .aload_n 0, 0, 0, 0, 0, []), (77, 1, .dup, 0, 0, 0, 0, []), (78, 3, .getfield 131, 0, 12, 0, 145, []), (81, 1, .iconst 1, 1, 0, 0, 0, []), (82, 1, .iadd, 0, 0, 0, 0, []), (83, 3, .putfield 131, 0, 12, 0, 145, []), (86, 1, .aload_n 0, 0, 0, 0, 0, []), (87, 3, .getfield 131, 0, 12, 0, 145, []), (90, 1, .iconst 1, 1, 0, 0, 0, []), (91, 1, .isub, 0, 0, 0, 0, []), (92, 1, .ireturn, 0, 0, 0, 0, [])]
set_option maxRecDepth 100000 in
theorem ck_122 : (cd_122.all (okCE 12 4 prog_14_method_10_code)) = true := by decide +kernel
/-- TradeTestsModel.in -/
def cd_123 : List CE := [(0, 1, .iload_n 0, 0, 0, 0, 0, []), (1, 1, .iload_n 1, 0, 1, 0, 0, []), (2, 3, .if_icmp .lt 12, 0, 14, 0, 0, []), (5, 1, .iload_n 0, 0, 0, 0, 0, []), (6, 1, .iload_n 2, 0, 2, 0, 0, []), (7, 3, .if_icmp .gt 7, 0, 14, 0, 0, []), (10, 1, .iconst 1, 1, 0, 0, 0, []), (11, 3, .goto 4, 0, 15, 0, 0, []), (14, 1, .iconst 0, 0, 0, 0, 0, []), (15, 1, .ireturn, 0, 0, 0, 0, [])]
set_option maxRecDepth 100000 in
theorem ck_123 : (cd_123.all (okCE 12 3 prog_14_method_3_code)) = true := by decide +kernel
/-- TradeTestsModel.isDay -/
def cd_124 : List CE := [(0, 1, .iload_n 0, 0, 0, 0, 0, []), (1, 1, .iconst 0, 0, 0, 0, 0, []), (2, 3, .sipush 9999, 9999, 0, 0, 0, []), (5, 3, .invokestatic 127, 0, 123, 3, 0, []), (8, 1, .ireturn, 0, 0, 0, 0, [])]
set_option maxRecDepth 100000 in
theorem ck_124 : (cd_124.all (okCE 12 1 prog_14_method_5_code)) = true := by decide +kernel
/-- TradeTestsModel.finds -/
def cd_125 : List CE := [(0, 1, .aload_n 0, 0, 0, 0, 0, []), (1, 3, .getfield 111, 0, 12, 44, 189, []), (4, 1, .iload_n 1, 0, 1, 0, 0, []), (5, 1, .dup2, 0, 0, 0, 0, []), (6, 1, .iaload, 0, 0, 0, 0, []), (7, 1, .iconst 1, 1, 0, 0, 0, []), (8, 1, .iadd, 0, 0, 0, 0, []), (9, 1, .iastore, 0, 0, 0, 0, []), (10, 2, .ldc 126, (-1000000), 0, 0, 0, []), (12, 1, .iload_n 1, 0, 1, 0, 0, []), (13, 1, .isub, 0, 0, 0, 0, []), (14, 1, .ireturn, 0, 0, 0, 0, [])]
set_option maxRecDepth 100000 in
theorem ck_125 : (cd_125.all (okCE 12 2 prog_14_method_4_code)) = true := by decide +kernel
/-- TradeTestsModel.as -/
def cd_126 : List CE := [(0, 1, .aload_n 0, 0, 0, 0, 0, []), (1, 1, .iload_n 1, 0, 1, 0, 0, []), (2, 3, .invokevirtual 151, 0, 127, 2, 12, []), (5, 3, .ifCond .eq 12, 0, 17, 0, 0, []), (8, 1, .iload_n 2, 0, 2, 0, 0, []), (9, 1, .iconst 0, 0, 0, 0, 0, []), (10, 1, .iconst 3, 3, 0, 0, 0, []), (11, 3, .invokestatic 127, 0, 123, 3, 0, []), (14, 3, .ifCond .ne 9, 0, 23, 0, 0, []), (17, 1, .aload_n 0, 0, 0, 0, 0, []), (18, 1, .iconst 1, 1, 0, 0, 0, []), (19, 3, .invokevirtual 147, 0, 125, 2, 12, []), (22, 1, .ireturn, 0, 0, 0, 0, []), (23, 1, .aload_n 0, 0, 0, 0, 0, []), (24, 3, .getfield 19, 0, 12, 14, 159, []), (27, 1, .iload_n 1, 0, 1, 0, 0, []), (28, 1, .iaload, 0, 0, 0, 0, []), (29, 1, .iload_n 2, 0, 2, 0, 0, []), (30, 3, .invokestatic 154, 0, 128, 2, 0, []), (33, 3, .ifCond .eq 11, 0, 44, 0, 0, []), (36, 1, .aload_n 0, 0, 0, 0, 0, []), (37, 1, .iload_n 1, 0, 1, 0, 0, []), (38, 3, .invokevirtual 158, 0, 129, 2, 12, []), (41, 3, .goto 8, 0, 49, 0, 0, []), (44, 1, .aload_n 0, 0, 0, 0, 0, []), (45, 1, .iconst 5, 5, 0, 0, 0, []), (46, 3, .invokevirtual 147, 0, 125, 2, 12, []), (49, 1, .ireturn, 0, 0, 0, 0, [])]
set_option maxRecDepth 100000 in
theorem ck_126 : (cd_126.all (okCE 12 3 prog_14_method_13_code)) = true := by decide +kernel
/-- TradeTestsModel.isVehicle -/
def cd_127 : List CE := [(0, 1, .iload_n 1, 0, 1, 0, 0, []), (1, 1, .iconst 0, 0, 0, 0, 0, []), (2, 1, .aload_n 0, 0, 0, 0, 0, []), (3, 3, .getfield 131, 0, 12, 0, 145, []), (6, 1, .iconst 1, 1, 0, 0, 0, []), (7, 1, .isub, 0, 0, 0, 0, []), (8, 3, .invokestatic 127, 0, 123, 3, 0, []), (11, 1, .ireturn, 0, 0, 0, 0, [])]
set_option maxRecDepth 100000 in
theorem ck_127 : (cd_127.all (okCE 12 2 prog_14_method_6_code)) = true := by decide +kernel
/-- TradeTestsModel.isUnder -/
def cd_128 : List CE := [(0, 1, .iload_n 1, 0, 1, 0, 0, []), (1, 3, .ifCond .eq 18, 0, 19, 0, 0, []), (4, 1, .iload_n 0, 0, 0, 0, 0, []), (5, 1, .iload_n 1, 0, 1, 0, 0, []), (6, 3, .if_icmp .eq 13, 0, 19, 0, 0, []), (9, 1, .iload_n 1, 0, 1, 0, 0, []), (10, 1, .iconst 1, 1, 0, 0, 0, []), (11, 3, .if_icmp .ne 12, 0, 23, 0, 0, []), (14, 1, .iload_n 0, 0, 0, 0, 0, []), (15, 1, .iconst 2, 2, 0, 0, 0, []), (16, 3, .if_icmp .ne 7, 0, 23, 0, 0, []), (19, 1, .iconst 1, 1, 0, 0, 0, []), (20, 3, .goto 4, 0, 24, 0, 0, []), (23, 1, .iconst 0, 0, 0, 0, 0, []), (24, 1, .ireturn, 0, 0, 0, 0, [])]
set_option maxRecDepth 100000 in
theorem ck_128 : (cd_128.all (okCE 12 2 prog_14_method_12_code)) = true := by decide +kernel
/-- TradeTestsModel.dueOf -/
def cd_129 : List CE := [(0, 1, .aload_n 0, 0, 0, 0, 0, []), (1, 3, .getfield 19, 0, 12, 14, 159, []), (4, 1, .iload_n 1, 0, 1, 0, 0, []), (5, 1, .iaload, 0, 0, 0, 0, []), (6, 1, .iconst 2, 2, 0, 0, 0, []), (7, 3, .if_icmp .ne 9, 0, 16, 0, 0, []), (10, 3, .sipush 182, 182, 0, 0, 0, []), (13, 3, .goto 22, 0, 35, 0, 0, []), (16, 1, .aload_n 0, 0, 0, 0, 0, []), (17, 3, .getfield 19, 0, 12, 14, 159, []), (20, 1, .iload_n 1, 0, 1, 0, 0, []), (21, 1, .iaload, 0, 0, 0, 0, []), (22, 1, .iconst 3, 3, 0, 0, 0, []), (23, 3, .if_icmp .ne 9, 0, 32, 0, 0, []), (26, 3, .sipush 730, 730, 0, 0, 0, []), (29, 3, .goto 6, 0, 35, 0, 0, []), (32, 3, .sipush 365, 365, 0, 0, 0, []), (35, 1, .ireturn, 0, 0, 0, 0, [])]
set_option maxRecDepth 100000 in
theorem ck_129 : (cd_129.all (okCE 12 2 prog_14_method_11_code)) = true := by decide +kernel
end
section
/-! code tables 130 .. 194 (written by wip/whole/gen/code.py) -/
/-- TradeTestsModel.garage -/
def cd_130 : List CE := [(0, 1, .iload_n 1, 0, 1, 0, 0, []), (1, 1, .iconst 0, 0, 0, 0, 0, []), (2, 3, .sipush 1439, 1439, 0, 0, 0, []), (5, 3, .invokestatic 127, 0, 123, 3, 0, []), (8, 3, .ifCond .eq 16, 0, 24, 0, 0, []), (11, 1, .iload_n 2, 0, 2, 0, 0, []), (12, 1, .iload_n 1, 0, 1, 0, 0, []), (13, 1, .iconst 1, 1, 0, 0, 0, []), (14, 1, .iadd, 0, 0, 0, 0, []), (15, 3, .sipush 1440, 1440, 0, 0, 0, []), (18, 3, .invokestatic 127, 0, 123, 3, 0, []), (21, 3, .ifCond .ne 9, 0, 30, 0, 0, []), (24, 1, .aload_n 0, 0, 0, 0, 0, []), (25, 1, .iconst 1, 1, 0, 0, 0, []), (26, 3, .invokevirtual 147, 0, 125, 2, 12, []), (29, 1, .ireturn, 0, 0, 0, 0, []), (30, 1, .aload_n 0, 0, 0, 0, 0, []), (31, 3, .getfield 134, 0, 12, 1, 146, []), (34, 2, .bipush 6, 6, 0, 0, 0, []), (36, 3, .if_icmp .ne 9, 0, 45, 0, 0, []), (39, 1, .aload_n 0, 0, 0, 0, 0, []), (40, 1, .iconst 4, 4, 0, 0, 0, []), (41, 3, .invokevirtual 147, 0, 125, 2, 12, []), (44, 1, .ireturn, 0, 0, 0, 0, []), (45, 1, .aload_n 0, 0, 0, 0, 0, []), (46, 3, .getfield 29, 0, 12, 17, 162, []), (49, 1, .aload_n 0, 0, 0, 0, 0, []), (50, 3, .getfield 134, 0, 12, 1, 146, []), (53, 1, .iload_n 1, 0, 1, 0, 0, []), (54, 1, .iastore, 0, 0, 0, 0, []), (55, 1, .aload_n 0, 0, 0, 0, 0, []), (56, 3, .getfield 32, 0, 12, 18, 163, []), (59, 1, .aload_n 0, 0, 0, 0, 0, []), (60, 3, .getfield 134, 0, 12, 1, 146, []), (63, 1, .iload_n 2, 0, 2, 0, 0, []), (64, 1, .iastore, 0, 0, 0, 0, []), (65, 1, .aload_n 0, 0, 0, 0, 0, []), (66, 1, .dup, 0, 0, 0, 0, []), (67, 3, .getfield 134, 0, 12, 1, 146, []), (70, 1, .iconst 1, 1, 0, 0, 0, []), (71, 1, .iadd, 0, 0, 0, 0, []), (72, 3, .putfield 134, 0, 12, 1, 146, []), (75, 1, .aload_n 0, 0, 0, 0, 0, []), (76, 3, .getfield 134, 0, 12, 1, 146, []), (79, 1, .iconst 1, 1, 0, 0, 0, []), (80, 1, .isub, 0, 0, 0, 0, []), (81, 1, .ireturn, 0, 0, 0, 0, [])]
set_option maxRecDepth 100000 in
theorem ck_130 : (cd_130.all (okCE 12 3 prog_14_method_14_code)) = true := by decide +kernel
/-- TradeTestsModel.tester -/
def cd_131 : List CE := [(0, 1, .aload_n 0, 0, 0, 0, 0, []), (1, 1, .iload_n 1, 0, 1, 0, 0, []), (2, 3, .invokevirtual 161, 0, 132, 2, 12, []), (5, 3, .ifCond .ne 9, 0, 14, 0, 0, []), (8, 1, .aload_n 0, 0, 0, 0, 0, []), (9, 1, .iconst 1, 1, 0, 0, 0, []), (10, 3, .invokevirtual 147, 0, 125, 2, 12, []), (13, 1, .ireturn, 0, 0, 0, 0, []), (14, 1, .aload_n 0, 0, 0, 0, 0, []), (15, 3, .getfield 137, 0, 12, 2, 147, []), (18, 2, .bipush 8, 8, 0, 0, 0, []), (20, 3, .if_icmp .ne 9, 0, 29, 0, 0, []), (23, 1, .aload_n 0, 0, 0, 0, 0, []), (24, 1, .iconst 4, 4, 0, 0, 0, []), (25, 3, .invokevirtual 147, 0, 125, 2, 12, []), (28, 1, .ireturn, 0, 0, 0, 0, []), (29, 1, .aload_n 0, 0, 0, 0, 0, []), (30, 3, .getfield 35, 0, 12, 19, 164, []), (33, 1, .aload_n 0, 0, 0, 0, 0, []), (34, 3, .getfield 137, 0, 12, 2, 147, []), (37, 1, .iload_n 1, 0, 1, 0, 0, []), (38, 1, .iastore, 0, 0, 0, 0, []), (39, 1, .aload_n 0, 0, 0, 0, 0, []), (40, 1, .dup, 0, 0, 0, 0, []), (41, 3, .getfield 137, 0, 12, 2, 147, []), (44, 1, .iconst 1, 1, 0, 0, 0, []), (45, 1, .iadd, 0, 0, 0, 0, []), (46, 3, .putfield 137, 0, 12, 2, 147, []), (49, 1, .aload_n 0, 0, 0, 0, 0, []), (50, 3, .getfield 137, 0, 12, 2, 147, []), (53, 1, .iconst 1, 1, 0, 0, 0, []), (54, 1, .isub, 0, 0, 0, 0, []), (55, 1, .ireturn, 0, 0, 0, 0, [])]
set_option maxRecDepth 100000 in
theorem ck_131 : (cd_131.all (okCE 12 2 prog_14_method_15_code)) = true := by decide +kernel
/-- TradeTestsModel.isGarage -/
def cd_132 : List CE := [(0, 1, .iload_n 1, 0, 1, 0, 0, []), (1, 1, .iconst 0, 0, 0, 0, 0, []), (2, 1, .aload_n 0, 0, 0, 0, 0, []), (3, 3, .getfield 134, 0, 12, 1, 146, []), (6, 1, .iconst 1, 1, 0, 0, 0, []), (7, 1, .isub, 0, 0, 0, 0, []), (8, 3, .invokestatic 127, 0, 123, 3, 0, []), (11, 1, .ireturn, 0, 0, 0, 0, [])]
set_option maxRecDepth 100000 in
theorem ck_132 : (cd_132.all (okCE 12 2 prog_14_method_7_code)) = true := by decide +kernel
/-- TradeTestsModel.move -/
def cd_133 : List CE := [(0, 1, .aload_n 0, 0, 0, 0, 0, []), (1, 1, .iload_n 1, 0, 1, 0, 0, []), (2, 3, .invokevirtual 167, 0, 134, 2, 12, []), (5, 3, .ifCond .eq 18, 0, 23, 0, 0, []), (8, 1, .aload_n 0, 0, 0, 0, 0, []), (9, 1, .iload_n 2, 0, 2, 0, 0, []), (10, 3, .invokevirtual 161, 0, 132, 2, 12, []), (13, 3, .ifCond .eq 10, 0, 23, 0, 0, []), (16, 1, .iload_n 3, 0, 3, 0, 0, []), (17, 3, .invokestatic 143, 0, 124, 1, 0, []), (20, 3, .ifCond .ne 9, 0, 29, 0, 0, []), (23, 1, .aload_n 0, 0, 0, 0, 0, []), (24, 1, .iconst 1, 1, 0, 0, 0, []), (25, 3, .invokevirtual 147, 0, 125, 2, 12, []), (28, 1, .ireturn, 0, 0, 0, 0, []), (29, 1, .iconst 0, 0, 0, 0, 0, []), (30, 2, .istore 4, 0, 4, 0, 0, []), (32, 2, .iload 4, 0, 4, 0, 0, []), (34, 1, .aload_n 0, 0, 0, 0, 0, []), (35, 3, .getfield 164, 0, 12, 3, 148, []), (38, 3, .if_icmp .ge 37, 0, 75, 0, 0, []), (41, 1, .aload_n 0, 0, 0, 0, 0, []), (42, 3, .getfield 38, 0, 12, 20, 165, []), (45, 2, .iload 4, 0, 4, 0, 0, []), (47, 1, .iaload, 0, 0, 0, 0, []), (48, 1, .iload_n 1, 0, 1, 0, 0, []), (49, 3, .if_icmp .ne 20, 0, 69, 0, 0, []), (52, 1, .aload_n 0, 0, 0, 0, 0, []), (53, 3, .getfield 44, 0, 12, 22, 167, []), (56, 2, .iload 4, 0, 4, 0, 0, []), (58, 1, .iaload, 0, 0, 0, 0, []), (59, 1, .iload_n 3, 0, 3, 0, 0, []), (60, 3, .if_icmp .le 9, 0, 69, 0, 0, []), (63, 1, .aload_n 0, 0, 0, 0, 0, []), (64, 1, .iconst 1, 1, 0, 0, 0, []), (65, 3, .invokevirtual 147, 0, 125, 2, 12, []), (68, 1, .ireturn, 0, 0, 0, 0, []), (69, 3, .iinc 4 1, 1, 4, 0, 0, []), (72, 3, .goto (-40), 0, 32, 0, 0, []), (75, 1, .aload_n 0, 0, 0, 0, 0, []), (76, 3, .getfield 164, 0, 12, 3, 148, []), (79, 2, .bipush 30, 30, 0, 0, 0, []), (81, 3, .if_icmp .ne 9, 0, 90, 0, 0, []), (84, 1, .aload_n 0, 0, 0, 0, 0, []), (85, 1, .iconst 4, 4, 0, 0, 0, []), (86, 3, .invokevirtual 147, 0, 125, 2, 12, []), (89, 1, .ireturn, 0, 0, 0, 0, []), (90, 1, .aload_n 0, 0, 0, 0, 0, []), (91, 1, .iload_n 1, 0, 1, 0, 0, []), (92, 1, .iload_n 3, 0, 3, 0, 0, []), (93, 1, .iconst 1, 1, 0, 0, 0, []), (94, 1, .isub, 0, 0, 0, 0, []), (95, 3, .invokevirtual 170, 0, 135, 3, 12, []), (98, 2, .istore 4, 0, 4, 0, 0, []), (100, 1, .aload_n 0, 0, 0, 0, 0, []), (101, 3, .getfield 38, 0, 12, 20, 165, []), (104, 1, .aload_n 0, 0, 0, 0, 0, []), (105, 3, .getfield 164, 0, 12, 3, 148, []), (108, 1, .iload_n 1, 0, 1, 0, 0, []), (109, 1, .iastore, 0, 0, 0, 0, []), (110, 1, .aload_n 0, 0, 0, 0, 0, []), (111, 3, .getfield 41, 0, 12, 21, 166, []), (114, 1, .aload_n 0, 0, 0, 0, 0, []), (115, 3, .getfield 164, 0, 12, 3, 148, []), (118, 1, .iload_n 2, 0, 2, 0, 0, []), (119, 1, .iastore, 0, 0, 0, 0, []), (120, 1, .aload_n 0, 0, 0, 0, 0, []), (121, 3, .getfield 44, 0, 12, 22, 167, []), (124, 1, .aload_n 0, 0, 0, 0, 0, []), (125, 3, .getfield 164, 0, 12, 3, 148, []), (128, 1, .iload_n 3, 0, 3, 0, 0, []), (129, 1, .iastore, 0, 0, 0, 0, []), (130, 1, .aload_n 0, 0, 0, 0, 0, []), (131, 1, .dup, 0, 0, 0, 0, []), (132, 3, .getfield 164, 0, 12, 3, 148, []), (135, 1, .iconst 1, 1, 0, 0, 0, []), (136, 1, .iadd, 0, 0, 0, 0, []), (137, 3, .putfield 164, 0, 12, 3, 148, []), (140, 2, .iload 4, 0, 4, 0, 0, []), (142, 1, .ireturn, 0, 0, 0, 0, [])]
set_option maxRecDepth 100000 in
theorem ck_133 : (cd_133.all (okCE 12 5 prog_14_method_17_code)) = true := by decide +kernel
/-- TradeTestsModel.isTester -/
def cd_134 : List CE := [(0, 1, .iload_n 1, 0, 1, 0, 0, []), (1, 1, .iconst 0, 0, 0, 0, 0, []), (2, 1, .aload_n 0, 0, 0, 0, 0, []), (3, 3, .getfield 137, 0, 12, 2, 147, []), (6, 1, .iconst 1, 1, 0, 0, 0, []), (7, 1, .isub, 0, 0, 0, 0, []), (8, 3, .invokestatic 127, 0, 123, 3, 0, []), (11, 1, .ireturn, 0, 0, 0, 0, [])]
set_option maxRecDepth 100000 in
theorem ck_134 : (cd_134.all (okCE 12 2 prog_14_method_8_code)) = true := by decide +kernel
/-- TradeTestsModel.placeOf -/
def cd_135 : List CE := [(0, 1, .aload_n 0, 0, 0, 0, 0, []), (1, 3, .getfield 35, 0, 12, 19, 164, []), (4, 1, .iload_n 1, 0, 1, 0, 0, []), (5, 1, .iaload, 0, 0, 0, 0, []), (6, 1, .istore_n 3, 0, 3, 0, 0, []), (7, 1, .iconst 0, 0, 0, 0, 0, []), (8, 2, .istore 4, 0, 4, 0, 0, []), (10, 2, .iload 4, 0, 4, 0, 0, []), (12, 1, .aload_n 0, 0, 0, 0, 0, []), (13, 3, .getfield 164, 0, 12, 3, 148, []), (16, 3, .if_icmp .ge 43, 0, 59, 0, 0, []), (19, 1, .aload_n 0, 0, 0, 0, 0, []), (20, 3, .getfield 38, 0, 12, 20, 165, []), (23, 2, .iload 4, 0, 4, 0, 0, []), (25, 1, .iaload, 0, 0, 0, 0, []), (26, 1, .iload_n 1, 0, 1, 0, 0, []), (27, 3, .if_icmp .ne 24, 0, 51, 0, 0, []), (30, 1, .aload_n 0, 0, 0, 0, 0, []), (31, 3, .getfield 44, 0, 12, 22, 167, []), (34, 2, .iload 4, 0, 4, 0, 0, []), (36, 1, .iaload, 0, 0, 0, 0, []), (37, 1, .iload_n 2, 0, 2, 0, 0, []), (38, 3, .if_icmp .gt 13, 0, 51, 0, 0, []), (41, 1, .aload_n 0, 0, 0, 0, 0, []), (42, 3, .getfield 41, 0, 12, 21, 166, []), (45, 2, .iload 4, 0, 4, 0, 0, []), (47, 1, .iaload, 0, 0, 0, 0, []), (48, 3, .goto 4, 0, 52, 0, 0, []), (51, 1, .iload_n 3, 0, 3, 0, 0, []), (52, 1, .istore_n 3, 0, 3, 0, 0, []), (53, 3, .iinc 4 1, 1, 4, 0, 0, []), (56, 3, .goto (-46), 0, 10, 0, 0, []), (59, 1, .iload_n 3, 0, 3, 0, 0, []), (60, 1, .ireturn, 0, 0, 0, 0, [])]
set_option maxRecDepth 100000 in
theorem ck_135 : (cd_135.all (okCE 12 5 prog_14_method_16_code)) = true := by decide +kernel
/-- TradeTestsModel.at -/
def cd_136 : List CE := [(0, 1, .aload_n 0, 0, 0, 0, 0, []), (1, 1, .iload_n 1, 0, 1, 0, 0, []), (2, 3, .invokevirtual 167, 0, 134, 2, 12, []), (5, 3, .ifCond .eq 19, 0, 24, 0, 0, []), (8, 1, .iload_n 2, 0, 2, 0, 0, []), (9, 3, .invokestatic 143, 0, 124, 1, 0, []), (12, 3, .ifCond .eq 12, 0, 24, 0, 0, []), (15, 1, .aload_n 0, 0, 0, 0, 0, []), (16, 1, .iload_n 1, 0, 1, 0, 0, []), (17, 1, .iload_n 2, 0, 2, 0, 0, []), (18, 3, .invokevirtual 170, 0, 135, 3, 12, []), (21, 3, .goto 8, 0, 29, 0, 0, []), (24, 1, .aload_n 0, 0, 0, 0, 0, []), (25, 1, .iconst 1, 1, 0, 0, 0, []), (26, 3, .invokevirtual 147, 0, 125, 2, 12, []), (29, 1, .ireturn, 0, 0, 0, 0, [])]
set_option maxRecDepth 100000 in
theorem ck_136 : (cd_136.all (okCE 12 3 prog_14_method_18_code)) = true := by decide +kernel
/-- TradeTestsModel.test -/
def cd_137 : List CE := [(0, 1, .aload_n 0, 0, 0, 0, 0, []), (1, 1, .iload_n 1, 0, 1, 0, 0, []), (2, 1, .iload_n 2, 0, 2, 0, 0, []), (3, 1, .iload_n 3, 0, 3, 0, 0, []), (4, 2, .iload 4, 0, 4, 0, 0, []), (6, 2, .iload 5, 0, 5, 0, 0, []), (8, 3, .invokevirtual 176, 0, 138, 6, 12, []), (11, 3, .ifCond .ne 9, 0, 20, 0, 0, []), (14, 1, .aload_n 0, 0, 0, 0, 0, []), (15, 1, .iconst 1, 1, 0, 0, 0, []), (16, 3, .invokevirtual 147, 0, 125, 2, 12, []), (19, 1, .ireturn, 0, 0, 0, 0, []), (20, 1, .aload_n 0, 0, 0, 0, 0, []), (21, 3, .getfield 140, 0, 12, 4, 149, []), (24, 2, .bipush 80, 80, 0, 0, 0, []), (26, 3, .if_icmp .ne 9, 0, 35, 0, 0, []), (29, 1, .aload_n 0, 0, 0, 0, 0, []), (30, 1, .iconst 4, 4, 0, 0, 0, []), (31, 3, .invokevirtual 147, 0, 125, 2, 12, []), (34, 1, .ireturn, 0, 0, 0, 0, []), (35, 1, .aload_n 0, 0, 0, 0, 0, []), (36, 3, .getfield 47, 0, 12, 23, 168, []), (39, 1, .aload_n 0, 0, 0, 0, 0, []), (40, 3, .getfield 140, 0, 12, 4, 149, []), (43, 1, .iload_n 1, 0, 1, 0, 0, []), (44, 2, .bipush 100, 100, 0, 0, 0, []), (46, 1, .idiv, 0, 0, 0, 0, []), (47, 1, .iastore, 0, 0, 0, 0, []), (48, 1, .aload_n 0, 0, 0, 0, 0, []), (49, 3, .getfield 50, 0, 12, 24, 169, []), (52, 1, .aload_n 0, 0, 0, 0, 0, []), (53, 3, .getfield 140, 0, 12, 4, 149, []), (56, 1, .iload_n 1, 0, 1, 0, 0, []), (57, 2, .bipush 100, 100, 0, 0, 0, []), (59, 1, .irem, 0, 0, 0, 0, []), (60, 1, .iastore, 0, 0, 0, 0, []), (61, 1, .aload_n 0, 0, 0, 0, 0, []), (62, 3, .getfield 53, 0, 12, 25, 170, []), (65, 1, .aload_n 0, 0, 0, 0, 0, []), (66, 3, .getfield 140, 0, 12, 4, 149, []), (69, 1, .iload_n 2, 0, 2, 0, 0, []), (70, 3, .sipush 10000, 10000, 0, 0, 0, []), (73, 1, .irem, 0, 0, 0, 0, []), (74, 1, .iastore, 0, 0, 0, 0, []), (75, 1, .aload_n 0, 0, 0, 0, 0, []), (76, 3, .getfield 56, 0, 12, 26, 171, []), (79, 1, .aload_n 0, 0, 0, 0, 0, []), (80, 3, .getfield 140, 0, 12, 4, 149, []), (83, 1, .iload_n 2, 0, 2, 0, 0, []), (84, 3, .sipush 10000, 10000, 0, 0, 0, []), (87, 1, .idiv, 0, 0, 0, 0, []), (88, 1, .iastore, 0, 0, 0, 0, []), (89, 1, .aload_n 0, 0, 0, 0, 0, []), (90, 3, .getfield 59, 0, 12, 27, 172, []), (93, 1, .aload_n 0, 0, 0, 0, 0, []), (94, 3, .getfield 140, 0, 12, 4, 149, []), (97, 1, .iload_n 3, 0, 3, 0, 0, []), (98, 3, .sipush 1000, 1000, 0, 0, 0, []), (101, 1, .idiv, 0, 0, 0, 0, []), (102, 1, .iastore, 0, 0, 0, 0, []), (103, 1, .aload_n 0, 0, 0, 0, 0, []), (104, 3, .getfield 80, 0, 12, 34, 179, []), (107, 1, .aload_n 0, 0, 0, 0, 0, []), (108, 3, .getfield 140, 0, 12, 4, 149, []), (111, 1, .iload_n 3, 0, 3, 0, 0, []), (112, 3, .sipush 1000, 1000, 0, 0, 0, []), (115, 1, .irem, 0, 0, 0, 0, []), (116, 3, .sipush 255, 255, 0, 0, 0, []), (119, 3, .if_icmp .le 7, 0, 126, 0, 0, []), (122, 1, .iconst 1, 1, 0, 0, 0, []), (123, 3, .goto 4, 0, 127, 0, 0, []), (126, 1, .iconst 0, 0, 0, 0, 0, []), (127, 1, .bastore, 0, 0, 0, 0, []), (128, 1, .aload_n 0, 0, 0, 0, 0, []), (129, 3, .getfield 71, 0, 12, 31, 176, []), (132, 1, .aload_n 0, 0, 0, 0, 0, []), (133, 3, .getfield 140, 0, 12, 4, 149, []), (136, 1, .iload_n 3, 0, 3, 0, 0, []), (137, 3, .sipush 1000, 1000, 0, 0, 0, []), (140, 1, .irem, 0, 0, 0, 0, []), (141, 3, .sipush 256, 256, 0, 0, 0, []), (144, 1, .irem, 0, 0, 0, 0, []), (145, 1, .iastore, 0, 0, 0, 0, []), (146, 1, .aload_n 0, 0, 0, 0, 0, []), (147, 3, .getfield 62, 0, 12, 28, 173, []), (150, 1, .aload_n 0, 0, 0, 0, 0, []), (151, 3, .getfield 140, 0, 12, 4, 149, []), (154, 2, .iload 4, 0, 4, 0, 0, []), (156, 1, .iastore, 0, 0, 0, 0, []), (157, 1, .aload_n 0, 0, 0, 0, 0, []), (158, 3, .getfield 65, 0, 12, 29, 174, []), (161, 1, .aload_n 0, 0, 0, 0, 0, []), (162, 3, .getfield 140, 0, 12, 4, 149, []), (165, 2, .iload 5, 0, 5, 0, 0, []), (167, 3, .sipush 1000, 1000, 0, 0, 0, []), (170, 1, .idiv, 0, 0, 0, 0, []), (171, 1, .iastore, 0, 0, 0, 0, []), (172, 1, .aload_n 0, 0, 0, 0, 0, []), (173, 3, .getfield 68, 0, 12, 30, 175, []), (176, 1, .aload_n 0, 0, 0, 0, 0, []), (177, 3, .getfield 140, 0, 12, 4, 149, []), (180, 2, .iload 5, 0, 5, 0, 0, []), (182, 3, .sipush 1000, 1000, 0, 0, 0, []), (185, 1, .irem, 0, 0, 0, 0, []), (186, 1, .iastore, 0, 0, 0, 0, []), (187, 1, .aload_n 0, 0, 0, 0, 0, []), (188, 3, .getfield 74, 0, 12, 32, 177, []), (191, 1, .aload_n 0, 0, 0, 0, 0, []), (192, 3, .getfield 140, 0, 12, 4, 149, []), (195, 1, .iconst (-1), (-1), 0, 0, 0, []), (196, 1, .iastore, 0, 0, 0, 0, []), (197, 1, .aload_n 0, 0, 0, 0, 0, []), (198, 3, .getfield 77, 0, 12, 33, 178, []), (201, 1, .aload_n 0, 0, 0, 0, 0, []), (202, 3, .getfield 140, 0, 12, 4, 149, []), (205, 1, .iconst 0, 0, 0, 0, 0, []), (206, 1, .iastore, 0, 0, 0, 0, []), (207, 1, .aload_n 0, 0, 0, 0, 0, []), (208, 3, .getfield 84, 0, 12, 35, 180, []), (211, 1, .aload_n 0, 0, 0, 0, 0, []), (212, 3, .getfield 140, 0, 12, 4, 149, []), (215, 1, .iconst 0, 0, 0, 0, 0, []), (216, 1, .bastore, 0, 0, 0, 0, []), (217, 1, .aload_n 0, 0, 0, 0, 0, []), (218, 1, .dup, 0, 0, 0, 0, []), (219, 3, .getfield 140, 0, 12, 4, 149, []), (222, 1, .iconst 1, 1, 0, 0, 0, []), (223, 1, .iadd, 0, 0, 0, 0, []), (224, 3, .putfield 140, 0, 12, 4, 149, []), (227, 1, .aload_n 0, 0, 0, 0, 0, []), (228, 3, .getfield 140, 0, 12, 4, 149, []), (231, 1, .iconst 1, 1, 0, 0, 0, []), (232, 1, .isub, 0, 0, 0, 0, []), (233, 1, .ireturn, 0, 0, 0, 0, [])]
set_option maxRecDepth 100000 in
theorem ck_137 : (cd_137.all (okCE 12 6 prog_14_method_20_code)) = true := by decide +kernel
/-- TradeTestsModel.isTold -/
def cd_138 : List CE := [(0, 1, .iload_n 1, 0, 1, 0, 0, []), (1, 3, .ifCond .lt 38, 0, 39, 0, 0, []), (4, 1, .iload_n 2, 0, 2, 0, 0, []), (5, 3, .ifCond .lt 34, 0, 39, 0, 0, []), (8, 1, .iload_n 3, 0, 3, 0, 0, []), (9, 3, .ifCond .lt 30, 0, 39, 0, 0, []), (12, 2, .iload 5, 0, 5, 0, 0, []), (14, 3, .ifCond .lt 25, 0, 39, 0, 0, []), (17, 1, .aload_n 0, 0, 0, 0, 0, []), (18, 1, .iload_n 1, 0, 1, 0, 0, []), (19, 2, .bipush 100, 100, 0, 0, 0, []), (21, 1, .idiv, 0, 0, 0, 0, []), (22, 3, .invokevirtual 151, 0, 127, 2, 12, []), (25, 3, .ifCond .eq 14, 0, 39, 0, 0, []), (28, 1, .aload_n 0, 0, 0, 0, 0, []), (29, 1, .iload_n 1, 0, 1, 0, 0, []), (30, 2, .bipush 100, 100, 0, 0, 0, []), (32, 1, .irem, 0, 0, 0, 0, []), (33, 3, .invokevirtual 167, 0, 134, 2, 12, []), (36, 3, .ifCond .ne 5, 0, 41, 0, 0, []), (39, 1, .iconst 0, 0, 0, 0, 0, []), (40, 1, .ireturn, 0, 0, 0, 0, []), (41, 1, .iload_n 2, 0, 2, 0, 0, []), (42, 3, .sipush 10000, 10000, 0, 0, 0, []), (45, 1, .irem, 0, 0, 0, 0, []), (46, 2, .istore 6, 0, 6, 0, 0, []), (48, 2, .iload 6, 0, 6, 0, 0, []), (50, 1, .aload_n 0, 0, 0, 0, 0, []), (51, 3, .getfield 26, 0, 12, 16, 161, []), (54, 1, .iload_n 1, 0, 1, 0, 0, []), (55, 2, .bipush 100, 100, 0, 0, 0, []), (57, 1, .idiv, 0, 0, 0, 0, []), (58, 1, .iaload, 0, 0, 0, 0, []), (59, 3, .if_icmp .lt 26, 0, 85, 0, 0, []), (62, 1, .aload_n 0, 0, 0, 0, 0, []), (63, 3, .getfield 140, 0, 12, 4, 149, []), (66, 3, .ifCond .le 21, 0, 87, 0, 0, []), (69, 2, .iload 6, 0, 6, 0, 0, []), (71, 1, .aload_n 0, 0, 0, 0, 0, []), (72, 3, .getfield 53, 0, 12, 25, 170, []), (75, 1, .aload_n 0, 0, 0, 0, 0, []), (76, 3, .getfield 140, 0, 12, 4, 149, []), (79, 1, .iconst 1, 1, 0, 0, 0, []), (80, 1, .isub, 0, 0, 0, 0, []), (81, 1, .iaload, 0, 0, 0, 0, []), (82, 3, .if_icmp .ge 5, 0, 87, 0, 0, []), (85, 1, .iconst 0, 0, 0, 0, 0, []), (86, 1, .ireturn, 0, 0, 0, 0, []), (87, 1, .iload_n 2, 0, 2, 0, 0, []), (88, 3, .sipush 10000, 10000, 0, 0, 0, []), (91, 1, .idiv, 0, 0, 0, 0, []), (92, 3, .sipush 1439, 1439, 0, 0, 0, []), (95, 3, .if_icmp .gt 46, 0, 141, 0, 0, []), (98, 1, .iload_n 3, 0, 3, 0, 0, []), (99, 3, .sipush 1000, 1000, 0, 0, 0, []), (102, 1, .idiv, 0, 0, 0, 0, []), (103, 1, .iconst 1, 1, 0, 0, 0, []), (104, 3, .sipush 240, 240, 0, 0, 0, []), (107, 3, .invokestatic 127, 0, 123, 3, 0, []), (110, 3, .ifCond .eq 31, 0, 141, 0, 0, []), (113, 1, .iload_n 3, 0, 3, 0, 0, []), (114, 3, .sipush 1000, 1000, 0, 0, 0, []), (117, 1, .irem, 0, 0, 0, 0, []), (118, 3, .sipush 511, 511, 0, 0, 0, []), (121, 3, .if_icmp .gt 20, 0, 141, 0, 0, []), (124, 1, .iload_n 2, 0, 2, 0, 0, []), (125, 3, .sipush 10000, 10000, 0, 0, 0, []), (128, 1, .idiv, 0, 0, 0, 0, []), (129, 1, .iload_n 3, 0, 3, 0, 0, []), (130, 3, .sipush 1000, 1000, 0, 0, 0, []), (133, 1, .idiv, 0, 0, 0, 0, []), (134, 1, .iadd, 0, 0, 0, 0, []), (135, 3, .sipush 1440, 1440, 0, 0, 0, []), (138, 3, .if_icmp .le 5, 0, 143, 0, 0, []), (141, 1, .iconst 0, 0, 0, 0, 0, []), (142, 1, .ireturn, 0, 0, 0, 0, []), (143, 2, .iload 4, 0, 4, 0, 0, []), (145, 1, .iconst 0, 0, 0, 0, 0, []), (146, 1, .aload_n 0, 0, 0, 0, 0, []), (147, 3, .getfield 19, 0, 12, 14, 159, []), (150, 1, .iload_n 1, 0, 1, 0, 0, []), (151, 2, .bipush 100, 100, 0, 0, 0, []), (153, 1, .idiv, 0, 0, 0, 0, []), (154, 1, .iaload, 0, 0, 0, 0, []), (155, 1, .iconst 3, 3, 0, 0, 0, []), (156, 3, .if_icmp .ne 7, 0, 163, 0, 0, []), (159, 1, .iconst 0, 0, 0, 0, 0, []), (160, 3, .goto 5, 0, 165, 0, 0, []), (163, 2, .ldc 174, 999999, 0, 0, 0, []), (165, 3, .invokestatic 127, 0, 123, 3, 0, []), (168, 3, .ifCond .eq 14, 0, 182, 0, 0, []), (171, 2, .iload 5, 0, 5, 0, 0, []), (173, 2, .ldc 175, 1000000, 0, 0, 0, []), (175, 3, .if_icmp .ge 7, 0, 182, 0, 0, []), (178, 1, .iconst 1, 1, 0, 0, 0, []), (179, 3, .goto 4, 0, 183, 0, 0, []), (182, 1, .iconst 0, 0, 0, 0, 0, []), (183, 1, .ireturn, 0, 0, 0, 0, [])]
set_option maxRecDepth 100000 in
theorem ck_138 : (cd_138.all (okCE 12 7 prog_14_method_19_code)) = true := by decide +kernel
/-- TradeTestsModel.of -/
def cd_139 : List CE := [(0, 1, .aload_n 0, 0, 0, 0, 0, []), (1, 1, .iload_n 1, 0, 1, 0, 0, []), (2, 3, .invokevirtual 180, 0, 140, 2, 12, []), (5, 3, .ifCond .ne 9, 0, 14, 0, 0, []), (8, 1, .aload_n 0, 0, 0, 0, 0, []), (9, 1, .iconst 1, 1, 0, 0, 0, []), (10, 3, .invokevirtual 147, 0, 125, 2, 12, []), (13, 1, .ireturn, 0, 0, 0, 0, []), (14, 1, .iload_n 2, 0, 2, 0, 0, []), (15, 57, .tableswitch 141 0 10 #[57, 64, 71, 78, 85, 92, 99, 106, 113, 120, 135], 0, 156, 0, 0, [(0, 72), (1, 79), (2, 86), (3, 93), (4, 100), (5, 107), (6, 114), (7, 121), (8, 128), (9, 135), (10, 150)]), (72, 1, .aload_n 0, 0, 0, 0, 0, []), (73, 3, .getfield 47, 0, 12, 23, 168, []), (76, 1, .iload_n 1, 0, 1, 0, 0, []), (77, 1, .iaload, 0, 0, 0, 0, []), (78, 1, .ireturn, 0, 0, 0, 0, []), (79, 1, .aload_n 0, 0, 0, 0, 0, []), (80, 3, .getfield 50, 0, 12, 24, 169, []), (83, 1, .iload_n 1, 0, 1, 0, 0, []), (84, 1, .iaload, 0, 0, 0, 0, []), (85, 1, .ireturn, 0, 0, 0, 0, []), (86, 1, .aload_n 0, 0, 0, 0, 0, []), (87, 3, .getfield 53, 0, 12, 25, 170, []), (90, 1, .iload_n 1, 0, 1, 0, 0, []), (91, 1, .iaload, 0, 0, 0, 0, []), (92, 1, .ireturn, 0, 0, 0, 0, []), (93, 1, .aload_n 0, 0, 0, 0, 0, []), (94, 3, .getfield 56, 0, 12, 26, 171, []), (97, 1, .iload_n 1, 0, 1, 0, 0, []), (98, 1, .iaload, 0, 0, 0, 0, []), (99, 1, .ireturn, 0, 0, 0, 0, []), (100, 1, .aload_n 0, 0, 0, 0, 0, []), (101, 3, .getfield 59, 0, 12, 27, 172, []), (104, 1, .iload_n 1, 0, 1, 0, 0, []), (105, 1, .iaload, 0, 0, 0, 0, []), (106, 1, .ireturn, 0, 0, 0, 0, []), (107, 1, .aload_n 0, 0, 0, 0, 0, []), (108, 3, .getfield 62, 0, 12, 28, 173, []), (111, 1, .iload_n 1, 0, 1, 0, 0, []), (112, 1, .iaload, 0, 0, 0, 0, []), (113, 1, .ireturn, 0, 0, 0, 0, []), (114, 1, .aload_n 0, 0, 0, 0, 0, []), (115, 3, .getfield 65, 0, 12, 29, 174, []), (118, 1, .iload_n 1, 0, 1, 0, 0, []), (119, 1, .iaload, 0, 0, 0, 0, []), (120, 1, .ireturn, 0, 0, 0, 0, []), (121, 1, .aload_n 0, 0, 0, 0, 0, []), (122, 3, .getfield 68, 0, 12, 30, 175, []), (125, 1, .iload_n 1, 0, 1, 0, 0, []), (126, 1, .iaload, 0, 0, 0, 0, []), (127, 1, .ireturn, 0, 0, 0, 0, []), (128, 1, .aload_n 0, 0, 0, 0, 0, []), (129, 3, .getfield 71, 0, 12, 31, 176, []), (132, 1, .iload_n 1, 0, 1, 0, 0, []), (133, 1, .iaload, 0, 0, 0, 0, []), (134, 1, .ireturn, 0, 0, 0, 0, []), (135, 1, .aload_n 0, 0, 0, 0, 0, []), (136, 3, .getfield 80, 0, 12, 34, 179, []), (139, 1, .iload_n 1, 0, 1, 0, 0, []), (140, 1, .baload, 0, 0, 0, 0, []), (141, 3, .ifCond .eq 7, 0, 148, 0, 0, []), (144, 1, .iconst 1, 1, 0, 0, 0, []), (145, 3, .goto 4, 0, 149, 0, 0, []), (148, 1, .iconst 0, 0, 0, 0, 0, []), (149, 1, .ireturn, 0, 0, 0, 0, []), (150, 1, .aload_n 0, 0, 0, 0, 0, []), (151, 1, .iload_n 1, 0, 1, 0, 0, []), (152, 3, .invokevirtual 183, 0, 141, 2, 12, []), (155, 1, .ireturn, 0, 0, 0, 0, []), (156, 1, .aload_n 0, 0, 0, 0, 0, []), (157, 1, .iconst 1, 1, 0, 0, 0, []), (158, 3, .invokevirtual 147, 0, 125, 2, 12, []), (161, 1, .ireturn, 0, 0, 0, 0, [])]
set_option maxRecDepth 100000 in
theorem ck_139 : (cd_139.all (okCE 12 3 prog_14_method_22_code)) = true := by decide +kernel
/-- TradeTestsModel.isTest -/
def cd_140 : List CE := [(0, 1, .iload_n 1, 0, 1, 0, 0, []), (1, 1, .iconst 0, 0, 0, 0, 0, []), (2, 1, .aload_n 0, 0, 0, 0, 0, []), (3, 3, .getfield 140, 0, 12, 4, 149, []), (6, 1, .iconst 1, 1, 0, 0, 0, []), (7, 1, .isub, 0, 0, 0, 0, []), (8, 3, .invokestatic 127, 0, 123, 3, 0, []), (11, 1, .ireturn, 0, 0, 0, 0, [])]
set_option maxRecDepth 100000 in
theorem ck_140 : (cd_140.all (okCE 12 2 prog_14_method_9_code)) = true := by decide +kernel
/-- TradeTestsModel.garageOf -/
def cd_141 : List CE := [(0, 1, .aload_n 0, 0, 0, 0, 0, []), (1, 1, .aload_n 0, 0, 0, 0, 0, []), (2, 3, .getfield 50, 0, 12, 24, 169, []), (5, 1, .iload_n 1, 0, 1, 0, 0, []), (6, 1, .iaload, 0, 0, 0, 0, []), (7, 1, .aload_n 0, 0, 0, 0, 0, []), (8, 3, .getfield 53, 0, 12, 25, 170, []), (11, 1, .iload_n 1, 0, 1, 0, 0, []), (12, 1, .iaload, 0, 0, 0, 0, []), (13, 3, .invokevirtual 170, 0, 135, 3, 12, []), (16, 1, .ireturn, 0, 0, 0, 0, [])]
set_option maxRecDepth 100000 in
theorem ck_141 : (cd_141.all (okCE 12 2 prog_14_method_21_code)) = true := by decide +kernel
/-- TradeTestsModel.feed -/
def cd_142 : List CE := [(0, 1, .iload_n 1, 0, 1, 0, 0, []), (1, 1, .iconst 0, 0, 0, 0, 0, []), (2, 3, .sipush 255, 255, 0, 0, 0, []), (5, 3, .invokestatic 127, 0, 123, 3, 0, []), (8, 3, .ifCond .ne 9, 0, 17, 0, 0, []), (11, 1, .aload_n 0, 0, 0, 0, 0, []), (12, 1, .iconst 1, 1, 0, 0, 0, []), (13, 3, .invokevirtual 147, 0, 125, 2, 12, []), (16, 1, .ireturn, 0, 0, 0, 0, []), (17, 1, .aload_n 0, 0, 0, 0, 0, []), (18, 3, .getfield 186, 0, 12, 9, 154, []), (21, 2, .bipush 60, 60, 0, 0, 0, []), (23, 3, .if_icmp .ne 9, 0, 32, 0, 0, []), (26, 1, .aload_n 0, 0, 0, 0, 0, []), (27, 1, .iconst 4, 4, 0, 0, 0, []), (28, 3, .invokevirtual 147, 0, 125, 2, 12, []), (31, 1, .ireturn, 0, 0, 0, 0, []), (32, 1, .aload_n 0, 0, 0, 0, 0, []), (33, 3, .getfield 105, 0, 12, 42, 187, []), (36, 1, .aload_n 0, 0, 0, 0, 0, []), (37, 3, .getfield 186, 0, 12, 9, 154, []), (40, 1, .iload_n 1, 0, 1, 0, 0, []), (41, 1, .iastore, 0, 0, 0, 0, []), (42, 1, .aload_n 0, 0, 0, 0, 0, []), (43, 1, .dup, 0, 0, 0, 0, []), (44, 3, .getfield 186, 0, 12, 9, 154, []), (47, 1, .iconst 1, 1, 0, 0, 0, []), (48, 1, .iadd, 0, 0, 0, 0, []), (49, 3, .putfield 186, 0, 12, 9, 154, []), (52, 1, .aload_n 0, 0, 0, 0, 0, []), (53, 3, .getfield 186, 0, 12, 9, 154, []), (56, 1, .ireturn, 0, 0, 0, 0, [])]
set_option maxRecDepth 100000 in
theorem ck_142 : (cd_142.all (okCE 12 2 prog_14_method_23_code)) = true := by decide +kernel
/-- TradeTestsModel.text -/
def cd_143 : List CE := [(0, 1, .iload_n 1, 0, 1, 0, 0, []), (1, 3, .invokestatic 143, 0, 124, 1, 0, []), (4, 3, .ifCond .ne 9, 0, 13, 0, 0, []), (7, 1, .aload_n 0, 0, 0, 0, 0, []), (8, 1, .iconst 1, 1, 0, 0, 0, []), (9, 3, .invokevirtual 147, 0, 125, 2, 12, []), (12, 1, .ireturn, 0, 0, 0, 0, []), (13, 1, .aload_n 0, 0, 0, 0, 0, []), (14, 3, .getfield 199, 0, 12, 5, 150, []), (17, 2, .bipush 6, 6, 0, 0, 0, []), (19, 3, .if_icmp .ne 9, 0, 28, 0, 0, []), (22, 1, .aload_n 0, 0, 0, 0, 0, []), (23, 1, .iconst 4, 4, 0, 0, 0, []), (24, 3, .invokevirtual 147, 0, 125, 2, 12, []), (27, 1, .ireturn, 0, 0, 0, 0, []), (28, 1, .aload_n 0, 0, 0, 0, 0, []), (29, 3, .invokevirtual 208, 0, 144, 1, 12, []), (32, 1, .istore_n 2, 0, 2, 0, 0, []), (33, 1, .aload_n 0, 0, 0, 0, 0, []), (34, 1, .iconst 0, 0, 0, 0, 0, []), (35, 3, .putfield 186, 0, 12, 9, 154, []), (38, 1, .iload_n 2, 0, 2, 0, 0, []), (39, 3, .ifCond .ne 11, 0, 50, 0, 0, []), (42, 2, .bipush (-10), (-10), 0, 0, 0, []), (44, 1, .aload_n 0, 0, 0, 0, 0, []), (45, 3, .getfield 189, 0, 12, 45, 190, []), (48, 1, .isub, 0, 0, 0, 0, []), (49, 1, .ireturn, 0, 0, 0, 0, []), (50, 1, .aload_n 0, 0, 0, 0, 0, []), (51, 3, .getfield 90, 0, 12, 37, 182, []), (54, 1, .aload_n 0, 0, 0, 0, 0, []), (55, 3, .getfield 199, 0, 12, 5, 150, []), (58, 1, .iload_n 1, 0, 1, 0, 0, []), (59, 1, .iastore, 0, 0, 0, 0, []), (60, 1, .aload_n 0, 0, 0, 0, 0, []), (61, 1, .dup, 0, 0, 0, 0, []), (62, 3, .getfield 199, 0, 12, 5, 150, []), (65, 1, .iconst 1, 1, 0, 0, 0, []), (66, 1, .iadd, 0, 0, 0, 0, []), (67, 3, .putfield 199, 0, 12, 5, 150, []), (70, 1, .aload_n 0, 0, 0, 0, 0, []), (71, 3, .getfield 199, 0, 12, 5, 150, []), (74, 1, .ireturn, 0, 0, 0, 0, [])]
set_option maxRecDepth 100000 in
theorem ck_143 : (cd_143.all (okCE 12 3 prog_14_method_29_code)) = true := by decide +kernel
/-- TradeTestsModel.reads -/
def cd_144 : List CE := [(0, 1, .aload_n 0, 0, 0, 0, 0, []), (1, 3, .getfield 199, 0, 12, 5, 150, []), (4, 1, .istore_n 1, 0, 1, 0, 0, []), (5, 1, .aload_n 0, 0, 0, 0, 0, []), (6, 3, .getfield 93, 0, 12, 38, 183, []), (9, 1, .iload_n 1, 0, 1, 0, 0, []), (10, 1, .iconst 0, 0, 0, 0, 0, []), (11, 1, .iastore, 0, 0, 0, 0, []), (12, 1, .aload_n 0, 0, 0, 0, 0, []), (13, 3, .getfield 96, 0, 12, 39, 184, []), (16, 1, .iload_n 1, 0, 1, 0, 0, []), (17, 2, .bipush 100, 100, 0, 0, 0, []), (19, 1, .iastore, 0, 0, 0, 0, []), (20, 1, .iconst 0, 0, 0, 0, 0, []), (21, 1, .istore_n 2, 0, 2, 0, 0, []), (22, 1, .iload_n 2, 0, 2, 0, 0, []), (23, 1, .iconst 4, 4, 0, 0, 0, []), (24, 3, .if_icmp .ge 20, 0, 44, 0, 0, []), (27, 1, .aload_n 0, 0, 0, 0, 0, []), (28, 3, .getfield 99, 0, 12, 40, 185, []), (31, 1, .iconst 4, 4, 0, 0, 0, []), (32, 1, .iload_n 1, 0, 1, 0, 0, []), (33, 1, .imul, 0, 0, 0, 0, []), (34, 1, .iload_n 2, 0, 2, 0, 0, []), (35, 1, .iadd, 0, 0, 0, 0, []), (36, 1, .iconst 0, 0, 0, 0, 0, []), (37, 1, .iastore, 0, 0, 0, 0, []), (38, 3, .iinc 2 1, 1, 2, 0, 0, []), (41, 3, .goto (-19), 0, 22, 0, 0, []), (44, 1, .aload_n 0, 0, 0, 0, 0, []), (45, 1, .iconst 0, 0, 0, 0, 0, []), (46, 3, .putfield 189, 0, 12, 45, 190, []), (49, 1, .aload_n 0, 0, 0, 0, 0, []), (50, 3, .getfield 189, 0, 12, 45, 190, []), (53, 1, .aload_n 0, 0, 0, 0, 0, []), (54, 3, .getfield 186, 0, 12, 9, 154, []), (57, 3, .if_icmp .ge 123, 0, 180, 0, 0, []), (60, 1, .aload_n 0, 0, 0, 0, 0, []), (61, 3, .invokevirtual 192, 0, 145, 1, 12, []), (64, 1, .istore_n 2, 0, 2, 0, 0, []), (65, 1, .iload_n 2, 0, 2, 0, 0, []), (66, 2, .bipush 98, 98, 0, 0, 0, []), (68, 3, .if_icmp .eq 17, 0, 85, 0, 0, []), (71, 1, .iload_n 2, 0, 2, 0, 0, []), (72, 2, .bipush 100, 100, 0, 0, 0, []), (74, 3, .if_icmp .eq 11, 0, 85, 0, 0, []), (77, 1, .iload_n 2, 0, 2, 0, 0, []), (78, 2, .bipush 102, 102, 0, 0, 0, []), (80, 3, .if_icmp .eq 5, 0, 85, 0, 0, []), (83, 1, .iconst 0, 0, 0, 0, 0, []), (84, 1, .ireturn, 0, 0, 0, 0, []), (85, 1, .aload_n 0, 0, 0, 0, 0, []), (86, 1, .dup, 0, 0, 0, 0, []), (87, 3, .getfield 189, 0, 12, 45, 190, []), (90, 1, .iconst 1, 1, 0, 0, 0, []), (91, 1, .iadd, 0, 0, 0, 0, []), (92, 3, .putfield 189, 0, 12, 45, 190, []), (95, 1, .iload_n 2, 0, 2, 0, 0, []), (96, 2, .bipush 102, 102, 0, 0, 0, []), (98, 3, .if_icmp .ne 13, 0, 111, 0, 0, []), (101, 1, .aload_n 0, 0, 0, 0, 0, []), (102, 1, .iload_n 1, 0, 1, 0, 0, []), (103, 3, .invokevirtual 202, 0, 146, 2, 12, []), (106, 3, .ifCond .ne (-57), 0, 49, 0, 0, []), (109, 1, .iconst 0, 0, 0, 0, 0, []), (110, 1, .ireturn, 0, 0, 0, 0, []), (111, 1, .aload_n 0, 0, 0, 0, 0, []), (112, 1, .iload_n 2, 0, 2, 0, 0, []), (113, 2, .bipush 98, 98, 0, 0, 0, []), (115, 3, .if_icmp .ne 7, 0, 122, 0, 0, []), (118, 1, .iconst 3, 3, 0, 0, 0, []), (119, 3, .goto 4, 0, 123, 0, 0, []), (122, 1, .iconst 2, 2, 0, 0, 0, []), (123, 3, .invokevirtual 205, 0, 147, 2, 12, []), (126, 1, .istore_n 3, 0, 3, 0, 0, []), (127, 1, .iload_n 3, 0, 3, 0, 0, []), (128, 3, .ifCond .ge 5, 0, 133, 0, 0, []), (131, 1, .iconst 0, 0, 0, 0, 0, []), (132, 1, .ireturn, 0, 0, 0, 0, []), (133, 1, .aload_n 0, 0, 0, 0, 0, []), (134, 3, .getfield 93, 0, 12, 38, 183, []), (137, 1, .iload_n 1, 0, 1, 0, 0, []), (138, 1, .iload_n 2, 0, 2, 0, 0, []), (139, 2, .bipush 98, 98, 0, 0, 0, []), (141, 3, .if_icmp .ne 7, 0, 148, 0, 0, []), (144, 1, .iload_n 3, 0, 3, 0, 0, []), (145, 3, .goto 9, 0, 154, 0, 0, []), (148, 1, .aload_n 0, 0, 0, 0, 0, []), (149, 3, .getfield 93, 0, 12, 38, 183, []), (152, 1, .iload_n 1, 0, 1, 0, 0, []), (153, 1, .iaload, 0, 0, 0, 0, []), (154, 1, .iastore, 0, 0, 0, 0, []), (155, 1, .aload_n 0, 0, 0, 0, 0, []), (156, 3, .getfield 96, 0, 12, 39, 184, []), (159, 1, .iload_n 1, 0, 1, 0, 0, []), (160, 1, .iload_n 2, 0, 2, 0, 0, []), (161, 2, .bipush 100, 100, 0, 0, 0, []), (163, 3, .if_icmp .ne 7, 0, 170, 0, 0, []), (166, 1, .iload_n 3, 0, 3, 0, 0, []), (167, 3, .goto 9, 0, 176, 0, 0, []), (170, 1, .aload_n 0, 0, 0, 0, 0, []), (171, 3, .getfield 96, 0, 12, 39, 184, []), (174, 1, .iload_n 1, 0, 1, 0, 0, []), (175, 1, .iaload, 0, 0, 0, 0, []), (176, 1, .iastore, 0, 0, 0, 0, []), (177, 3, .goto (-128), 0, 49, 0, 0, []), (180, 1, .iconst 1, 1, 0, 0, 0, []), (181, 1, .ireturn, 0, 0, 0, 0, [])]
set_option maxRecDepth 100000 in
theorem ck_144 : (cd_144.all (okCE 12 4 prog_14_method_28_code)) = true := by decide +kernel
/-- TradeTestsModel.here -/
def cd_145 : List CE := [(0, 1, .aload_n 0, 0, 0, 0, 0, []), (1, 3, .getfield 189, 0, 12, 45, 190, []), (4, 1, .aload_n 0, 0, 0, 0, 0, []), (5, 3, .getfield 186, 0, 12, 9, 154, []), (8, 3, .if_icmp .ge 15, 0, 23, 0, 0, []), (11, 1, .aload_n 0, 0, 0, 0, 0, []), (12, 3, .getfield 105, 0, 12, 42, 187, []), (15, 1, .aload_n 0, 0, 0, 0, 0, []), (16, 3, .getfield 189, 0, 12, 45, 190, []), (19, 1, .iaload, 0, 0, 0, 0, []), (20, 3, .goto 4, 0, 24, 0, 0, []), (23, 1, .iconst (-1), (-1), 0, 0, 0, []), (24, 1, .ireturn, 0, 0, 0, 0, [])]
set_option maxRecDepth 100000 in
theorem ck_145 : (cd_145.all (okCE 12 1 prog_14_method_24_code)) = true := by decide +kernel
/-- TradeTestsModel.readsFault -/
def cd_146 : List CE := [(0, 1, .aload_n 0, 0, 0, 0, 0, []), (1, 3, .invokevirtual 192, 0, 145, 1, 12, []), (4, 2, .bipush 48, 48, 0, 0, 0, []), (6, 1, .isub, 0, 0, 0, 0, []), (7, 1, .istore_n 2, 0, 2, 0, 0, []), (8, 1, .iload_n 2, 0, 2, 0, 0, []), (9, 1, .iconst 0, 0, 0, 0, 0, []), (10, 2, .bipush 7, 7, 0, 0, 0, []), (12, 3, .invokestatic 127, 0, 123, 3, 0, []), (15, 3, .ifCond .ne 5, 0, 20, 0, 0, []), (18, 1, .iconst 0, 0, 0, 0, 0, []), (19, 1, .ireturn, 0, 0, 0, 0, []), (20, 1, .aload_n 0, 0, 0, 0, 0, []), (21, 1, .dup, 0, 0, 0, 0, []), (22, 3, .getfield 189, 0, 12, 45, 190, []), (25, 1, .iconst 1, 1, 0, 0, 0, []), (26, 1, .iadd, 0, 0, 0, 0, []), (27, 3, .putfield 189, 0, 12, 45, 190, []), (30, 1, .aload_n 0, 0, 0, 0, 0, []), (31, 3, .invokevirtual 192, 0, 145, 1, 12, []), (34, 2, .bipush 118, 118, 0, 0, 0, []), (36, 3, .if_icmp .ne 7, 0, 43, 0, 0, []), (39, 1, .iconst 0, 0, 0, 0, 0, []), (40, 3, .goto 43, 0, 83, 0, 0, []), (43, 1, .aload_n 0, 0, 0, 0, 0, []), (44, 3, .invokevirtual 192, 0, 145, 1, 12, []), (47, 2, .bipush 99, 99, 0, 0, 0, []), (49, 3, .if_icmp .ne 7, 0, 56, 0, 0, []), (52, 1, .iconst 1, 1, 0, 0, 0, []), (53, 3, .goto 30, 0, 83, 0, 0, []), (56, 1, .aload_n 0, 0, 0, 0, 0, []), (57, 3, .invokevirtual 192, 0, 145, 1, 12, []), (60, 2, .bipush 116, 116, 0, 0, 0, []), (62, 3, .if_icmp .ne 7, 0, 69, 0, 0, []), (65, 1, .iconst 2, 2, 0, 0, 0, []), (66, 3, .goto 17, 0, 83, 0, 0, []), (69, 1, .aload_n 0, 0, 0, 0, 0, []), (70, 3, .invokevirtual 192, 0, 145, 1, 12, []), (73, 2, .bipush 114, 114, 0, 0, 0, []), (75, 3, .if_icmp .ne 7, 0, 82, 0, 0, []), (78, 1, .iconst 3, 3, 0, 0, 0, []), (79, 3, .goto 4, 0, 83, 0, 0, []), (82, 1, .iconst (-1), (-1), 0, 0, 0, []), (83, 1, .istore_n 3, 0, 3, 0, 0, []), (84, 1, .iload_n 3, 0, 3, 0, 0, []), (85, 3, .ifCond .ge 5, 0, 90, 0, 0, []), (88, 1, .iconst 0, 0, 0, 0, 0, []), (89, 1, .ireturn, 0, 0, 0, 0, []), (90, 1, .aload_n 0, 0, 0, 0, 0, []), (91, 1, .dup, 0, 0, 0, 0, []), (92, 3, .getfield 189, 0, 12, 45, 190, []), (95, 1, .iconst 1, 1, 0, 0, 0, []), (96, 1, .iadd, 0, 0, 0, 0, []), (97, 3, .putfield 189, 0, 12, 45, 190, []), (100, 1, .aload_n 0, 0, 0, 0, 0, []), (101, 3, .invokevirtual 192, 0, 145, 1, 12, []), (104, 2, .bipush 59, 59, 0, 0, 0, []), (106, 3, .if_icmp .eq 5, 0, 111, 0, 0, []), (109, 1, .iconst 0, 0, 0, 0, 0, []), (110, 1, .ireturn, 0, 0, 0, 0, []), (111, 1, .aload_n 0, 0, 0, 0, 0, []), (112, 1, .dup, 0, 0, 0, 0, []), (113, 3, .getfield 189, 0, 12, 45, 190, []), (116, 1, .iconst 1, 1, 0, 0, 0, []), (117, 1, .iadd, 0, 0, 0, 0, []), (118, 3, .putfield 189, 0, 12, 45, 190, []), (121, 1, .iconst 0, 0, 0, 0, 0, []), (122, 2, .istore 4, 0, 4, 0, 0, []), (124, 2, .iload 4, 0, 4, 0, 0, []), (126, 1, .iconst 4, 4, 0, 0, 0, []), (127, 3, .if_icmp .ge 39, 0, 166, 0, 0, []), (130, 1, .aload_n 0, 0, 0, 0, 0, []), (131, 3, .getfield 99, 0, 12, 40, 185, []), (134, 1, .iconst 4, 4, 0, 0, 0, []), (135, 1, .iload_n 1, 0, 1, 0, 0, []), (136, 1, .imul, 0, 0, 0, 0, []), (137, 2, .iload 4, 0, 4, 0, 0, []), (139, 1, .iadd, 0, 0, 0, 0, []), (140, 1, .dup2, 0, 0, 0, 0, []), (141, 1, .iaload, 0, 0, 0, 0, []), (142, 2, .iload 4, 0, 4, 0, 0, []), (144, 1, .iload_n 3, 0, 3, 0, 0, []), (145, 3, .invokestatic 154, 0, 128, 2, 0, []), (148, 3, .ifCond .eq 9, 0, 157, 0, 0, []), (151, 1, .iconst 1, 1, 0, 0, 0, []), (152, 1, .iload_n 2, 0, 2, 0, 0, []), (153, 1, .ishl, 0, 0, 0, 0, []), (154, 3, .goto 4, 0, 158, 0, 0, []), (157, 1, .iconst 0, 0, 0, 0, 0, []), (158, 1, .ior, 0, 0, 0, 0, []), (159, 1, .iastore, 0, 0, 0, 0, []), (160, 3, .iinc 4 1, 1, 4, 0, 0, []), (163, 3, .goto (-39), 0, 124, 0, 0, []), (166, 1, .iconst 1, 1, 0, 0, 0, []), (167, 1, .ireturn, 0, 0, 0, 0, [])]
set_option maxRecDepth 100000 in
theorem ck_146 : (cd_146.all (okCE 12 5 prog_14_method_27_code)) = true := by decide +kernel
/-- TradeTestsModel.readsNumber -/
def cd_147 : List CE := [(0, 1, .iconst 0, 0, 0, 0, 0, []), (1, 1, .istore_n 2, 0, 2, 0, 0, []), (2, 1, .iconst 0, 0, 0, 0, 0, []), (3, 1, .istore_n 3, 0, 3, 0, 0, []), (4, 1, .iload_n 3, 0, 3, 0, 0, []), (5, 1, .iload_n 1, 0, 1, 0, 0, []), (6, 3, .if_icmp .ge 42, 0, 48, 0, 0, []), (9, 1, .aload_n 0, 0, 0, 0, 0, []), (10, 3, .invokevirtual 192, 0, 145, 1, 12, []), (13, 3, .invokestatic 196, 0, 148, 1, 0, []), (16, 3, .ifCond .eq 32, 0, 48, 0, 0, []), (19, 2, .bipush 10, 10, 0, 0, 0, []), (21, 1, .iload_n 2, 0, 2, 0, 0, []), (22, 1, .imul, 0, 0, 0, 0, []), (23, 1, .aload_n 0, 0, 0, 0, 0, []), (24, 3, .invokevirtual 192, 0, 145, 1, 12, []), (27, 1, .iadd, 0, 0, 0, 0, []), (28, 2, .bipush 48, 48, 0, 0, 0, []), (30, 1, .isub, 0, 0, 0, 0, []), (31, 1, .istore_n 2, 0, 2, 0, 0, []), (32, 3, .iinc 3 1, 1, 3, 0, 0, []), (35, 1, .aload_n 0, 0, 0, 0, 0, []), (36, 1, .dup, 0, 0, 0, 0, []), (37, 3, .getfield 189, 0, 12, 45, 190, []), (40, 1, .iconst 1, 1, 0, 0, 0, []), (41, 1, .iadd, 0, 0, 0, 0, []), (42, 3, .putfield 189, 0, 12, 45, 190, []), (45, 3, .goto (-41), 0, 4, 0, 0, []), (48, 1, .iload_n 3, 0, 3, 0, 0, []), (49, 3, .ifCond .eq 12, 0, 61, 0, 0, []), (52, 1, .aload_n 0, 0, 0, 0, 0, []), (53, 3, .invokevirtual 192, 0, 145, 1, 12, []), (56, 2, .bipush 59, 59, 0, 0, 0, []), (58, 3, .if_icmp .eq 5, 0, 63, 0, 0, []), (61, 1, .iconst (-1), (-1), 0, 0, 0, []), (62, 1, .ireturn, 0, 0, 0, 0, []), (63, 1, .aload_n 0, 0, 0, 0, 0, []), (64, 1, .dup, 0, 0, 0, 0, []), (65, 3, .getfield 189, 0, 12, 45, 190, []), (68, 1, .iconst 1, 1, 0, 0, 0, []), (69, 1, .iadd, 0, 0, 0, 0, []), (70, 3, .putfield 189, 0, 12, 45, 190, []), (73, 1, .iload_n 2, 0, 2, 0, 0, []), (74, 1, .ireturn, 0, 0, 0, 0, [])]
set_option maxRecDepth 100000 in
theorem ck_147 : (cd_147.all (okCE 12 4 prog_14_method_26_code)) = true := by decide +kernel
/-- TradeTestsModel.isDigit -/
def cd_148 : List CE := [(0, 1, .iload_n 0, 0, 0, 0, 0, []), (1, 2, .bipush 48, 48, 0, 0, 0, []), (3, 3, .if_icmp .lt 13, 0, 16, 0, 0, []), (6, 1, .iload_n 0, 0, 0, 0, 0, []), (7, 2, .bipush 57, 57, 0, 0, 0, []), (9, 3, .if_icmp .gt 7, 0, 16, 0, 0, []), (12, 1, .iconst 1, 1, 0, 0, 0, []), (13, 3, .goto 4, 0, 17, 0, 0, []), (16, 1, .iconst 0, 0, 0, 0, 0, []), (17, 1, .ireturn, 0, 0, 0, 0, [])]
set_option maxRecDepth 100000 in
theorem ck_148 : (cd_148.all (okCE 12 1 prog_14_method_25_code)) = true := by decide +kernel
/-- TradeTestsModel.says -/
def cd_149 : List CE := [(0, 1, .iload_n 1, 0, 1, 0, 0, []), (1, 3, .invokestatic 143, 0, 124, 1, 0, []), (4, 3, .ifCond .eq 23, 0, 27, 0, 0, []), (7, 1, .iload_n 2, 0, 2, 0, 0, []), (8, 1, .iconst 0, 0, 0, 0, 0, []), (9, 1, .iconst 1, 1, 0, 0, 0, []), (10, 3, .invokestatic 127, 0, 123, 3, 0, []), (13, 3, .ifCond .ne 20, 0, 33, 0, 0, []), (16, 1, .iload_n 2, 0, 2, 0, 0, []), (17, 2, .bipush 10, 10, 0, 0, 0, []), (19, 2, .bipush 13, 13, 0, 0, 0, []), (21, 3, .invokestatic 127, 0, 123, 3, 0, []), (24, 3, .ifCond .ne 9, 0, 33, 0, 0, []), (27, 1, .aload_n 0, 0, 0, 0, 0, []), (28, 1, .iconst 1, 1, 0, 0, 0, []), (29, 3, .invokevirtual 147, 0, 125, 2, 12, []), (32, 1, .ireturn, 0, 0, 0, 0, []), (33, 1, .aload_n 0, 0, 0, 0, 0, []), (34, 1, .iload_n 1, 0, 1, 0, 0, []), (35, 3, .invokevirtual 212, 0, 150, 2, 12, []), (38, 1, .istore_n 3, 0, 3, 0, 0, []), (39, 1, .iload_n 3, 0, 3, 0, 0, []), (40, 3, .ifCond .ge 9, 0, 49, 0, 0, []), (43, 1, .aload_n 0, 0, 0, 0, 0, []), (44, 1, .iconst 2, 2, 0, 0, 0, []), (45, 3, .invokevirtual 147, 0, 125, 2, 12, []), (48, 1, .ireturn, 0, 0, 0, 0, []), (49, 1, .iload_n 2, 0, 2, 0, 0, []), (50, 3, .ifCond .ne 12, 0, 62, 0, 0, []), (53, 1, .aload_n 0, 0, 0, 0, 0, []), (54, 3, .getfield 93, 0, 12, 38, 183, []), (57, 1, .iload_n 3, 0, 3, 0, 0, []), (58, 1, .iaload, 0, 0, 0, 0, []), (59, 3, .goto 30, 0, 89, 0, 0, []), (62, 1, .iload_n 2, 0, 2, 0, 0, []), (63, 1, .iconst 1, 1, 0, 0, 0, []), (64, 3, .if_icmp .ne 12, 0, 76, 0, 0, []), (67, 1, .aload_n 0, 0, 0, 0, 0, []), (68, 3, .getfield 96, 0, 12, 39, 184, []), (71, 1, .iload_n 3, 0, 3, 0, 0, []), (72, 1, .iaload, 0, 0, 0, 0, []), (73, 3, .goto 16, 0, 89, 0, 0, []), (76, 1, .aload_n 0, 0, 0, 0, 0, []), (77, 3, .getfield 99, 0, 12, 40, 185, []), (80, 1, .iconst 4, 4, 0, 0, 0, []), (81, 1, .iload_n 3, 0, 3, 0, 0, []), (82, 1, .imul, 0, 0, 0, 0, []), (83, 1, .iload_n 2, 0, 2, 0, 0, []), (84, 1, .iadd, 0, 0, 0, 0, []), (85, 2, .bipush 10, 10, 0, 0, 0, []), (87, 1, .isub, 0, 0, 0, 0, []), (88, 1, .iaload, 0, 0, 0, 0, []), (89, 1, .ireturn, 0, 0, 0, 0, [])]
set_option maxRecDepth 100000 in
theorem ck_149 : (cd_149.all (okCE 12 4 prog_14_method_31_code)) = true := by decide +kernel
/-- TradeTestsModel.textOn -/
def cd_150 : List CE := [(0, 1, .iconst (-1), (-1), 0, 0, 0, []), (1, 1, .istore_n 2, 0, 2, 0, 0, []), (2, 1, .iconst 0, 0, 0, 0, 0, []), (3, 1, .istore_n 3, 0, 3, 0, 0, []), (4, 1, .iload_n 3, 0, 3, 0, 0, []), (5, 1, .aload_n 0, 0, 0, 0, 0, []), (6, 3, .getfield 199, 0, 12, 5, 150, []), (9, 3, .if_icmp .ge 25, 0, 34, 0, 0, []), (12, 1, .aload_n 0, 0, 0, 0, 0, []), (13, 3, .getfield 90, 0, 12, 37, 182, []), (16, 1, .iload_n 3, 0, 3, 0, 0, []), (17, 1, .iaload, 0, 0, 0, 0, []), (18, 1, .iload_n 1, 0, 1, 0, 0, []), (19, 3, .if_icmp .gt 7, 0, 26, 0, 0, []), (22, 1, .iload_n 3, 0, 3, 0, 0, []), (23, 3, .goto 4, 0, 27, 0, 0, []), (26, 1, .iload_n 2, 0, 2, 0, 0, []), (27, 1, .istore_n 2, 0, 2, 0, 0, []), (28, 3, .iinc 3 1, 1, 3, 0, 0, []), (31, 3, .goto (-27), 0, 4, 0, 0, []), (34, 1, .iload_n 2, 0, 2, 0, 0, []), (35, 1, .ireturn, 0, 0, 0, 0, [])]
set_option maxRecDepth 100000 in
theorem ck_150 : (cd_150.all (okCE 12 4 prog_14_method_30_code)) = true := by decide +kernel
/-- TradeTestsModel.verdict -/
def cd_151 : List CE := [(0, 1, .aload_n 0, 0, 0, 0, 0, []), (1, 1, .iload_n 1, 0, 1, 0, 0, []), (2, 3, .invokevirtual 180, 0, 140, 2, 12, []), (5, 3, .ifCond .ne 9, 0, 14, 0, 0, []), (8, 1, .aload_n 0, 0, 0, 0, 0, []), (9, 1, .iconst 1, 1, 0, 0, 0, []), (10, 3, .invokevirtual 147, 0, 125, 2, 12, []), (13, 1, .ireturn, 0, 0, 0, 0, []), (14, 1, .aload_n 0, 0, 0, 0, 0, []), (15, 1, .iload_n 1, 0, 1, 0, 0, []), (16, 3, .invokevirtual 215, 0, 152, 2, 12, []), (19, 3, .ifCond .eq 7, 0, 26, 0, 0, []), (22, 1, .iconst 1, 1, 0, 0, 0, []), (23, 3, .goto 4, 0, 27, 0, 0, []), (26, 1, .iconst 0, 0, 0, 0, 0, []), (27, 1, .ireturn, 0, 0, 0, 0, [])]
set_option maxRecDepth 100000 in
theorem ck_151 : (cd_151.all (okCE 12 2 prog_14_method_33_code)) = true := by decide +kernel
/-- TradeTestsModel.isPass -/
def cd_152 : List CE := [(0, 1, .aload_n 0, 0, 0, 0, 0, []), (1, 1, .aload_n 0, 0, 0, 0, 0, []), (2, 3, .getfield 53, 0, 12, 25, 170, []), (5, 1, .iload_n 1, 0, 1, 0, 0, []), (6, 1, .iaload, 0, 0, 0, 0, []), (7, 3, .invokevirtual 212, 0, 150, 2, 12, []), (10, 1, .istore_n 2, 0, 2, 0, 0, []), (11, 1, .aload_n 0, 0, 0, 0, 0, []), (12, 3, .getfield 19, 0, 12, 14, 159, []), (15, 1, .aload_n 0, 0, 0, 0, 0, []), (16, 3, .getfield 47, 0, 12, 23, 168, []), (19, 1, .iload_n 1, 0, 1, 0, 0, []), (20, 1, .iaload, 0, 0, 0, 0, []), (21, 1, .iaload, 0, 0, 0, 0, []), (22, 1, .istore_n 3, 0, 3, 0, 0, []), (23, 1, .iload_n 2, 0, 2, 0, 0, []), (24, 3, .ifCond .ge 5, 0, 29, 0, 0, []), (27, 1, .iconst 1, 1, 0, 0, 0, []), (28, 1, .ireturn, 0, 0, 0, 0, []), (29, 1, .aload_n 0, 0, 0, 0, 0, []), (30, 3, .getfield 71, 0, 12, 31, 176, []), (33, 1, .iload_n 1, 0, 1, 0, 0, []), (34, 1, .iaload, 0, 0, 0, 0, []), (35, 1, .aload_n 0, 0, 0, 0, 0, []), (36, 3, .getfield 99, 0, 12, 40, 185, []), (39, 1, .iconst 4, 4, 0, 0, 0, []), (40, 1, .iload_n 2, 0, 2, 0, 0, []), (41, 1, .imul, 0, 0, 0, 0, []), (42, 1, .iload_n 3, 0, 3, 0, 0, []), (43, 1, .iadd, 0, 0, 0, 0, []), (44, 1, .iaload, 0, 0, 0, 0, []), (45, 1, .iand, 0, 0, 0, 0, []), (46, 3, .ifCond .eq 5, 0, 51, 0, 0, []), (49, 1, .iconst 0, 0, 0, 0, 0, []), (50, 1, .ireturn, 0, 0, 0, 0, []), (51, 1, .iload_n 3, 0, 3, 0, 0, []), (52, 1, .iconst 3, 3, 0, 0, 0, []), (53, 3, .if_icmp .ne 5, 0, 58, 0, 0, []), (56, 1, .iconst 1, 1, 0, 0, 0, []), (57, 1, .ireturn, 0, 0, 0, 0, []), (58, 1, .aload_n 0, 0, 0, 0, 0, []), (59, 3, .getfield 65, 0, 12, 29, 174, []), (62, 1, .iload_n 1, 0, 1, 0, 0, []), (63, 1, .iaload, 0, 0, 0, 0, []), (64, 1, .aload_n 0, 0, 0, 0, 0, []), (65, 3, .getfield 68, 0, 12, 30, 175, []), (68, 1, .iload_n 1, 0, 1, 0, 0, []), (69, 1, .iaload, 0, 0, 0, 0, []), (70, 3, .if_icmp .ge 12, 0, 82, 0, 0, []), (73, 1, .aload_n 0, 0, 0, 0, 0, []), (74, 3, .getfield 65, 0, 12, 29, 174, []), (77, 1, .iload_n 1, 0, 1, 0, 0, []), (78, 1, .iaload, 0, 0, 0, 0, []), (79, 3, .goto 9, 0, 88, 0, 0, []), (82, 1, .aload_n 0, 0, 0, 0, 0, []), (83, 3, .getfield 68, 0, 12, 30, 175, []), (86, 1, .iload_n 1, 0, 1, 0, 0, []), (87, 1, .iaload, 0, 0, 0, 0, []), (88, 2, .istore 4, 0, 4, 0, 0, []), (90, 1, .aload_n 0, 0, 0, 0, 0, []), (91, 3, .getfield 65, 0, 12, 29, 174, []), (94, 1, .iload_n 1, 0, 1, 0, 0, []), (95, 1, .iaload, 0, 0, 0, 0, []), (96, 1, .aload_n 0, 0, 0, 0, 0, []), (97, 3, .getfield 68, 0, 12, 30, 175, []), (100, 1, .iload_n 1, 0, 1, 0, 0, []), (101, 1, .iaload, 0, 0, 0, 0, []), (102, 3, .if_icmp .ge 12, 0, 114, 0, 0, []), (105, 1, .aload_n 0, 0, 0, 0, 0, []), (106, 3, .getfield 68, 0, 12, 30, 175, []), (109, 1, .iload_n 1, 0, 1, 0, 0, []), (110, 1, .iaload, 0, 0, 0, 0, []), (111, 3, .goto 9, 0, 120, 0, 0, []), (114, 1, .aload_n 0, 0, 0, 0, 0, []), (115, 3, .getfield 65, 0, 12, 29, 174, []), (118, 1, .iload_n 1, 0, 1, 0, 0, []), (119, 1, .iaload, 0, 0, 0, 0, []), (120, 2, .istore 5, 0, 5, 0, 0, []), (122, 2, .iload 4, 0, 4, 0, 0, []), (124, 1, .aload_n 0, 0, 0, 0, 0, []), (125, 3, .getfield 93, 0, 12, 38, 183, []), (128, 1, .iload_n 2, 0, 2, 0, 0, []), (129, 1, .iaload, 0, 0, 0, 0, []), (130, 3, .if_icmp .lt 27, 0, 157, 0, 0, []), (133, 2, .bipush 100, 100, 0, 0, 0, []), (135, 2, .iload 4, 0, 4, 0, 0, []), (137, 1, .imul, 0, 0, 0, 0, []), (138, 2, .bipush 100, 100, 0, 0, 0, []), (140, 1, .aload_n 0, 0, 0, 0, 0, []), (141, 3, .getfield 96, 0, 12, 39, 184, []), (144, 1, .iload_n 2, 0, 2, 0, 0, []), (145, 1, .iaload, 0, 0, 0, 0, []), (146, 1, .isub, 0, 0, 0, 0, []), (147, 2, .iload 5, 0, 5, 0, 0, []), (149, 1, .imul, 0, 0, 0, 0, []), (150, 3, .if_icmp .lt 7, 0, 157, 0, 0, []), (153, 1, .iconst 1, 1, 0, 0, 0, []), (154, 3, .goto 4, 0, 158, 0, 0, []), (157, 1, .iconst 0, 0, 0, 0, 0, []), (158, 1, .ireturn, 0, 0, 0, 0, [])]
set_option maxRecDepth 100000 in
theorem ck_152 : (cd_152.all (okCE 12 6 prog_14_method_32_code)) = true := by decide +kernel
/-- TradeTestsModel.unlike -/
def cd_153 : List CE := [(0, 1, .aload_n 0, 0, 0, 0, 0, []), (1, 1, .iload_n 1, 0, 1, 0, 0, []), (2, 3, .invokevirtual 180, 0, 140, 2, 12, []), (5, 3, .ifCond .eq 11, 0, 16, 0, 0, []), (8, 1, .aload_n 0, 0, 0, 0, 0, []), (9, 1, .iload_n 1, 0, 1, 0, 0, []), (10, 3, .invokevirtual 218, 0, 154, 2, 12, []), (13, 3, .goto 8, 0, 21, 0, 0, []), (16, 1, .aload_n 0, 0, 0, 0, 0, []), (17, 1, .iconst 1, 1, 0, 0, 0, []), (18, 3, .invokevirtual 147, 0, 125, 2, 12, []), (21, 1, .ireturn, 0, 0, 0, 0, [])]
set_option maxRecDepth 100000 in
theorem ck_153 : (cd_153.all (okCE 12 2 prog_14_method_35_code)) = true := by decide +kernel
/-- TradeTestsModel.unlikeOf -/
def cd_154 : List CE := [(0, 1, .aload_n 0, 0, 0, 0, 0, []), (1, 3, .getfield 80, 0, 12, 34, 179, []), (4, 1, .iload_n 1, 0, 1, 0, 0, []), (5, 1, .baload, 0, 0, 0, 0, []), (6, 1, .aload_n 0, 0, 0, 0, 0, []), (7, 1, .iload_n 1, 0, 1, 0, 0, []), (8, 3, .invokevirtual 215, 0, 152, 2, 12, []), (11, 3, .if_icmp .ne 7, 0, 18, 0, 0, []), (14, 1, .iconst 0, 0, 0, 0, 0, []), (15, 3, .goto 17, 0, 32, 0, 0, []), (18, 1, .aload_n 0, 0, 0, 0, 0, []), (19, 3, .getfield 80, 0, 12, 34, 179, []), (22, 1, .iload_n 1, 0, 1, 0, 0, []), (23, 1, .baload, 0, 0, 0, 0, []), (24, 3, .ifCond .eq 7, 0, 31, 0, 0, []), (27, 1, .iconst 1, 1, 0, 0, 0, []), (28, 3, .goto 4, 0, 32, 0, 0, []), (31, 1, .iconst 2, 2, 0, 0, 0, []), (32, 1, .ireturn, 0, 0, 0, 0, [])]
set_option maxRecDepth 100000 in
theorem ck_154 : (cd_154.all (okCE 12 2 prog_14_method_34_code)) = true := by decide +kernel
/-- TradeTestsModel.share -/
def cd_155 : List CE := [(0, 1, .iload_n 1, 0, 1, 0, 0, []), (1, 1, .iconst 0, 0, 0, 0, 0, []), (2, 1, .iconst 3, 3, 0, 0, 0, []), (3, 3, .invokestatic 127, 0, 123, 3, 0, []), (6, 3, .ifCond .eq 12, 0, 18, 0, 0, []), (9, 1, .iload_n 2, 0, 2, 0, 0, []), (10, 1, .iconst 0, 0, 0, 0, 0, []), (11, 1, .iconst 3, 3, 0, 0, 0, []), (12, 3, .invokestatic 127, 0, 123, 3, 0, []), (15, 3, .ifCond .ne 9, 0, 24, 0, 0, []), (18, 1, .aload_n 0, 0, 0, 0, 0, []), (19, 1, .iconst 1, 1, 0, 0, 0, []), (20, 3, .invokevirtual 147, 0, 125, 2, 12, []), (23, 1, .ireturn, 0, 0, 0, 0, []), (24, 1, .aload_n 0, 0, 0, 0, 0, []), (25, 1, .iconst 4, 4, 0, 0, 0, []), (26, 1, .iload_n 1, 0, 1, 0, 0, []), (27, 1, .imul, 0, 0, 0, 0, []), (28, 1, .iload_n 2, 0, 2, 0, 0, []), (29, 1, .iadd, 0, 0, 0, 0, []), (30, 3, .invokevirtual 224, 0, 156, 2, 12, []), (33, 1, .istore_n 3, 0, 3, 0, 0, []), (34, 1, .iload_n 3, 0, 3, 0, 0, []), (35, 3, .ifCond .ge 11, 0, 46, 0, 0, []), (38, 1, .aload_n 0, 0, 0, 0, 0, []), (39, 1, .iconst 2, 2, 0, 0, 0, []), (40, 3, .invokevirtual 147, 0, 125, 2, 12, []), (43, 3, .goto 4, 0, 47, 0, 0, []), (46, 1, .iload_n 3, 0, 3, 0, 0, []), (47, 1, .ireturn, 0, 0, 0, 0, [])]
set_option maxRecDepth 100000 in
theorem ck_155 : (cd_155.all (okCE 12 4 prog_14_method_38_code)) = true := by decide +kernel
/-- TradeTestsModel.shareOf -/
def cd_156 : List CE := [(0, 1, .iconst 0, 0, 0, 0, 0, []), (1, 1, .istore_n 2, 0, 2, 0, 0, []), (2, 1, .iconst 0, 0, 0, 0, 0, []), (3, 1, .istore_n 3, 0, 3, 0, 0, []), (4, 1, .iconst 0, 0, 0, 0, 0, []), (5, 2, .istore 4, 0, 4, 0, 0, []), (7, 2, .iload 4, 0, 4, 0, 0, []), (9, 1, .aload_n 0, 0, 0, 0, 0, []), (10, 3, .getfield 140, 0, 12, 4, 149, []), (13, 3, .if_icmp .ge 43, 0, 56, 0, 0, []), (16, 1, .aload_n 0, 0, 0, 0, 0, []), (17, 2, .iload 4, 0, 4, 0, 0, []), (19, 3, .invokevirtual 221, 0, 157, 2, 12, []), (22, 1, .iload_n 1, 0, 1, 0, 0, []), (23, 3, .if_icmp .eq 6, 0, 29, 0, 0, []), (26, 3, .goto 24, 0, 50, 0, 0, []), (29, 3, .iinc 2 1, 1, 2, 0, 0, []), (32, 1, .iload_n 3, 0, 3, 0, 0, []), (33, 1, .aload_n 0, 0, 0, 0, 0, []), (34, 3, .getfield 80, 0, 12, 34, 179, []), (37, 2, .iload 4, 0, 4, 0, 0, []), (39, 1, .baload, 0, 0, 0, 0, []), (40, 3, .ifCond .eq 7, 0, 47, 0, 0, []), (43, 1, .iconst 1, 1, 0, 0, 0, []), (44, 3, .goto 4, 0, 48, 0, 0, []), (47, 1, .iconst 0, 0, 0, 0, 0, []), (48, 1, .iadd, 0, 0, 0, 0, []), (49, 1, .istore_n 3, 0, 3, 0, 0, []), (50, 3, .iinc 4 1, 1, 4, 0, 0, []), (53, 3, .goto (-46), 0, 7, 0, 0, []), (56, 1, .iload_n 2, 0, 2, 0, 0, []), (57, 3, .ifCond .ne 7, 0, 64, 0, 0, []), (60, 1, .iconst (-1), (-1), 0, 0, 0, []), (61, 3, .goto 10, 0, 71, 0, 0, []), (64, 3, .sipush 1000, 1000, 0, 0, 0, []), (67, 1, .iload_n 3, 0, 3, 0, 0, []), (68, 1, .imul, 0, 0, 0, 0, []), (69, 1, .iload_n 2, 0, 2, 0, 0, []), (70, 1, .idiv, 0, 0, 0, 0, []), (71, 1, .ireturn, 0, 0, 0, 0, [])]
set_option maxRecDepth 100000 in
theorem ck_156 : (cd_156.all (okCE 12 5 prog_14_method_37_code)) = true := by decide +kernel
/-- TradeTestsModel.cellOf -/
def cd_157 : List CE := [(0, 1, .aload_n 0, 0, 0, 0, 0, []), (1, 3, .getfield 53, 0, 12, 25, 170, []), (4, 1, .iload_n 1, 0, 1, 0, 0, []), (5, 1, .iaload, 0, 0, 0, 0, []), (6, 1, .aload_n 0, 0, 0, 0, 0, []), (7, 3, .getfield 26, 0, 12, 16, 161, []), (10, 1, .aload_n 0, 0, 0, 0, 0, []), (11, 3, .getfield 47, 0, 12, 23, 168, []), (14, 1, .iload_n 1, 0, 1, 0, 0, []), (15, 1, .iaload, 0, 0, 0, 0, []), (16, 1, .iaload, 0, 0, 0, 0, []), (17, 1, .isub, 0, 0, 0, 0, []), (18, 3, .sipush 365, 365, 0, 0, 0, []), (21, 1, .idiv, 0, 0, 0, 0, []), (22, 1, .istore_n 2, 0, 2, 0, 0, []), (23, 1, .iconst 4, 4, 0, 0, 0, []), (24, 1, .iload_n 2, 0, 2, 0, 0, []), (25, 1, .iconst 3, 3, 0, 0, 0, []), (26, 3, .if_icmp .ge 7, 0, 33, 0, 0, []), (29, 1, .iconst 0, 0, 0, 0, 0, []), (30, 3, .goto 24, 0, 54, 0, 0, []), (33, 1, .iload_n 2, 0, 2, 0, 0, []), (34, 2, .bipush 6, 6, 0, 0, 0, []), (36, 3, .if_icmp .ge 7, 0, 43, 0, 0, []), (39, 1, .iconst 1, 1, 0, 0, 0, []), (40, 3, .goto 14, 0, 54, 0, 0, []), (43, 1, .iload_n 2, 0, 2, 0, 0, []), (44, 2, .bipush 10, 10, 0, 0, 0, []), (46, 3, .if_icmp .ge 7, 0, 53, 0, 0, []), (49, 1, .iconst 2, 2, 0, 0, 0, []), (50, 3, .goto 4, 0, 54, 0, 0, []), (53, 1, .iconst 3, 3, 0, 0, 0, []), (54, 1, .imul, 0, 0, 0, 0, []), (55, 1, .aload_n 0, 0, 0, 0, 0, []), (56, 3, .getfield 23, 0, 12, 15, 160, []), (59, 1, .aload_n 0, 0, 0, 0, 0, []), (60, 3, .getfield 47, 0, 12, 23, 168, []), (63, 1, .iload_n 1, 0, 1, 0, 0, []), (64, 1, .iaload, 0, 0, 0, 0, []), (65, 1, .iaload, 0, 0, 0, 0, []), (66, 1, .iadd, 0, 0, 0, 0, []), (67, 1, .ireturn, 0, 0, 0, 0, [])]
set_option maxRecDepth 100000 in
theorem ck_157 : (cd_157.all (okCE 12 3 prog_14_method_36_code)) = true := by decide +kernel
/-- TradeTestsModel.rate -/
def cd_158 : List CE := [(0, 1, .aload_n 0, 0, 0, 0, 0, []), (1, 1, .iload_n 1, 0, 1, 0, 0, []), (2, 3, .invokevirtual 161, 0, 132, 2, 12, []), (5, 3, .ifCond .eq 13, 0, 18, 0, 0, []), (8, 1, .iload_n 2, 0, 2, 0, 0, []), (9, 1, .iconst 0, 0, 0, 0, 0, []), (10, 2, .bipush 6, 6, 0, 0, 0, []), (12, 3, .invokestatic 127, 0, 123, 3, 0, []), (15, 3, .ifCond .ne 9, 0, 24, 0, 0, []), (18, 1, .aload_n 0, 0, 0, 0, 0, []), (19, 1, .iconst 1, 1, 0, 0, 0, []), (20, 3, .invokevirtual 147, 0, 125, 2, 12, []), (23, 1, .ireturn, 0, 0, 0, 0, []), (24, 1, .iconst 0, 0, 0, 0, 0, []), (25, 1, .istore_n 3, 0, 3, 0, 0, []), (26, 1, .iconst 0, 0, 0, 0, 0, []), (27, 2, .istore 4, 0, 4, 0, 0, []), (29, 1, .iconst 0, 0, 0, 0, 0, []), (30, 2, .istore 5, 0, 5, 0, 0, []), (32, 1, .iconst 0, 0, 0, 0, 0, []), (33, 2, .istore 6, 0, 6, 0, 0, []), (35, 1, .iconst 0, 0, 0, 0, 0, []), (36, 2, .istore 7, 0, 7, 0, 0, []), (38, 2, .iload 7, 0, 7, 0, 0, []), (40, 1, .aload_n 0, 0, 0, 0, 0, []), (41, 3, .getfield 140, 0, 12, 4, 149, []), (44, 3, .if_icmp .ge 78, 0, 122, 0, 0, []), (47, 1, .aload_n 0, 0, 0, 0, 0, []), (48, 2, .iload 7, 0, 7, 0, 0, []), (50, 3, .invokevirtual 183, 0, 141, 2, 12, []), (53, 1, .iload_n 1, 0, 1, 0, 0, []), (54, 3, .if_icmp .eq 6, 0, 60, 0, 0, []), (57, 3, .goto 59, 0, 116, 0, 0, []), (60, 1, .aload_n 0, 0, 0, 0, 0, []), (61, 1, .aload_n 0, 0, 0, 0, 0, []), (62, 2, .iload 7, 0, 7, 0, 0, []), (64, 3, .invokevirtual 221, 0, 157, 2, 12, []), (67, 3, .invokevirtual 224, 0, 156, 2, 12, []), (70, 2, .istore 8, 0, 8, 0, 0, []), (72, 3, .iinc 3 1, 1, 3, 0, 0, []), (75, 2, .iload 4, 0, 4, 0, 0, []), (77, 1, .aload_n 0, 0, 0, 0, 0, []), (78, 3, .getfield 80, 0, 12, 34, 179, []), (81, 2, .iload 7, 0, 7, 0, 0, []), (83, 1, .baload, 0, 0, 0, 0, []), (84, 3, .ifCond .eq 7, 0, 91, 0, 0, []), (87, 1, .iconst 1, 1, 0, 0, 0, []), (88, 3, .goto 4, 0, 92, 0, 0, []), (91, 1, .iconst 0, 0, 0, 0, 0, []), (92, 1, .iadd, 0, 0, 0, 0, []), (93, 2, .istore 4, 0, 4, 0, 0, []), (95, 2, .iload 5, 0, 5, 0, 0, []), (97, 2, .iload 8, 0, 8, 0, 0, []), (99, 1, .iadd, 0, 0, 0, 0, []), (100, 2, .istore 5, 0, 5, 0, 0, []), (102, 2, .iload 6, 0, 6, 0, 0, []), (104, 2, .iload 8, 0, 8, 0, 0, []), (106, 3, .sipush 1000, 1000, 0, 0, 0, []), (109, 2, .iload 8, 0, 8, 0, 0, []), (111, 1, .isub, 0, 0, 0, 0, []), (112, 1, .imul, 0, 0, 0, 0, []), (113, 1, .iadd, 0, 0, 0, 0, []), (114, 2, .istore 6, 0, 6, 0, 0, []), (116, 3, .iinc 7 1, 1, 7, 0, 0, []), (119, 3, .goto (-81), 0, 38, 0, 0, []), (122, 3, .ldc2_w 233, 1000, 0, 0, 0, []), (125, 2, .iload 4, 0, 4, 0, 0, []), (127, 1, .i2l, 0, 0, 0, 0, []), (128, 1, .lmul, 0, 0, 0, 0, []), (129, 2, .iload 5, 0, 5, 0, 0, []), (131, 1, .i2l, 0, 0, 0, 0, []), (132, 1, .lsub, 0, 0, 0, 0, []), (133, 2, .lstore 7, 0, 7, 0, 0, []), (135, 1, .iload_n 2, 0, 2, 0, 0, []), (136, 40, .tableswitch 92 0 5 #[40, 42, 45, 48, 51, 55], 0, 228, 0, 0, [(0, 176), (1, 178), (2, 181), (3, 184), (4, 187), (5, 191)]), (176, 1, .iload_n 3, 0, 3, 0, 0, []), (177, 1, .ireturn, 0, 0, 0, 0, []), (178, 2, .iload 4, 0, 4, 0, 0, []), (180, 1, .ireturn, 0, 0, 0, 0, []), (181, 2, .iload 5, 0, 5, 0, 0, []), (183, 1, .ireturn, 0, 0, 0, 0, []), (184, 2, .iload 6, 0, 6, 0, 0, []), (186, 1, .ireturn, 0, 0, 0, 0, []), (187, 2, .lload 7, 0, 7, 0, 0, []), (189, 1, .l2i, 0, 0, 0, 0, []), (190, 1, .ireturn, 0, 0, 0, 0, []), (191, 2, .lload 7, 0, 7, 0, 0, []), (193, 2, .lload 7, 0, 7, 0, 0, []), (195, 1, .lmul, 0, 0, 0, 0, []), (196, 2, .iload 6, 0, 6, 0, 0, []), (198, 1, .i2l, 0, 0, 0, 0, []), (199, 1, .iconst 4, 4, 0, 0, 0, []), (200, 1, .aload_n 0, 0, 0, 0, 0, []), (201, 3, .invokevirtual 235, 0, 159, 1, 12, []), (204, 1, .iadd, 0, 0, 0, 0, []), (205, 1, .i2l, 0, 0, 0, 0, []), (206, 1, .lmul, 0, 0, 0, 0, []), (207, 1, .lcmp, 0, 0, 0, 0, []), (208, 3, .ifCond .gt 7, 0, 215, 0, 0, []), (211, 1, .iconst 0, 0, 0, 0, 0, []), (212, 3, .goto 15, 0, 227, 0, 0, []), (215, 2, .lload 7, 0, 7, 0, 0, []), (217, 1, .lconst 0, 0, 0, 0, 0, []), (218, 1, .lcmp, 0, 0, 0, 0, []), (219, 3, .ifCond .le 7, 0, 226, 0, 0, []), (222, 1, .iconst 1, 1, 0, 0, 0, []), (223, 3, .goto 4, 0, 227, 0, 0, []), (226, 1, .iconst 2, 2, 0, 0, 0, []), (227, 1, .ireturn, 0, 0, 0, 0, []), (228, 1, .aload_n 0, 0, 0, 0, 0, []), (229, 1, .iload_n 1, 0, 1, 0, 0, []), (230, 3, .invokevirtual 238, 0, 161, 2, 12, []), (233, 1, .ireturn, 0, 0, 0, 0, [])]
set_option maxRecDepth 100000 in
theorem ck_158 : (cd_158.all (okCE 12 9 prog_14_method_42_code)) = true := by decide +kernel
/-- TradeTestsModel.looked -/
def cd_159 : List CE := [(0, 1, .iconst 0, 0, 0, 0, 0, []), (1, 1, .istore_n 1, 0, 1, 0, 0, []), (2, 1, .iconst 0, 0, 0, 0, 0, []), (3, 1, .istore_n 2, 0, 2, 0, 0, []), (4, 1, .iload_n 2, 0, 2, 0, 0, []), (5, 1, .aload_n 0, 0, 0, 0, 0, []), (6, 3, .getfield 140, 0, 12, 4, 149, []), (9, 3, .if_icmp .ge 19, 0, 28, 0, 0, []), (12, 1, .iload_n 1, 0, 1, 0, 0, []), (13, 1, .iconst 1, 1, 0, 0, 0, []), (14, 1, .aload_n 0, 0, 0, 0, 0, []), (15, 1, .iload_n 2, 0, 2, 0, 0, []), (16, 3, .invokevirtual 183, 0, 141, 2, 12, []), (19, 1, .ishl, 0, 0, 0, 0, []), (20, 1, .ior, 0, 0, 0, 0, []), (21, 1, .istore_n 1, 0, 1, 0, 0, []), (22, 3, .iinc 2 1, 1, 2, 0, 0, []), (25, 3, .goto (-21), 0, 4, 0, 0, []), (28, 1, .iload_n 1, 0, 1, 0, 0, []), (29, 3, .invokestatic 230, 0, 160, 1, 0, []), (32, 1, .ireturn, 0, 0, 0, 0, [])]
set_option maxRecDepth 100000 in
theorem ck_159 : (cd_159.all (okCE 12 3 prog_14_method_41_code)) = true := by decide +kernel
/-- TradeTestsModel.ones -/
def cd_160 : List CE := [(0, 1, .iconst 0, 0, 0, 0, 0, []), (1, 1, .istore_n 1, 0, 1, 0, 0, []), (2, 1, .iload_n 0, 0, 0, 0, 0, []), (3, 1, .istore_n 2, 0, 2, 0, 0, []), (4, 1, .iload_n 2, 0, 2, 0, 0, []), (5, 3, .ifCond .eq 15, 0, 20, 0, 0, []), (8, 3, .iinc 1 1, 1, 1, 0, 0, []), (11, 1, .iload_n 2, 0, 2, 0, 0, []), (12, 1, .iload_n 2, 0, 2, 0, 0, []), (13, 1, .iconst 1, 1, 0, 0, 0, []), (14, 1, .isub, 0, 0, 0, 0, []), (15, 1, .iand, 0, 0, 0, 0, []), (16, 1, .istore_n 2, 0, 2, 0, 0, []), (17, 3, .goto (-13), 0, 4, 0, 0, []), (20, 1, .iload_n 1, 0, 1, 0, 0, []), (21, 1, .ireturn, 0, 0, 0, 0, [])]
set_option maxRecDepth 100000 in
theorem ck_160 : (cd_160.all (okCE 12 3 prog_14_method_39_code)) = true := by decide +kernel
/-- TradeTestsModel.riskOf -/
def cd_161 : List CE := [(0, 1, .iconst 1, 1, 0, 0, 0, []), (1, 1, .istore_n 2, 0, 2, 0, 0, []), (2, 1, .iconst 0, 0, 0, 0, 0, []), (3, 1, .istore_n 3, 0, 3, 0, 0, []), (4, 1, .iload_n 3, 0, 3, 0, 0, []), (5, 1, .aload_n 0, 0, 0, 0, 0, []), (6, 3, .getfield 140, 0, 12, 4, 149, []), (9, 3, .if_icmp .ge 33, 0, 42, 0, 0, []), (12, 1, .iload_n 2, 0, 2, 0, 0, []), (13, 1, .aload_n 0, 0, 0, 0, 0, []), (14, 1, .iload_n 3, 0, 3, 0, 0, []), (15, 3, .invokevirtual 183, 0, 141, 2, 12, []), (18, 1, .iload_n 1, 0, 1, 0, 0, []), (19, 3, .if_icmp .ne 14, 0, 33, 0, 0, []), (22, 1, .aload_n 0, 0, 0, 0, 0, []), (23, 1, .iload_n 3, 0, 3, 0, 0, []), (24, 3, .invokevirtual 227, 0, 162, 2, 12, []), (27, 3, .invokestatic 230, 0, 160, 1, 0, []), (30, 3, .goto 4, 0, 34, 0, 0, []), (33, 1, .iconst 0, 0, 0, 0, 0, []), (34, 1, .iadd, 0, 0, 0, 0, []), (35, 1, .istore_n 2, 0, 2, 0, 0, []), (36, 3, .iinc 3 1, 1, 3, 0, 0, []), (39, 3, .goto (-35), 0, 4, 0, 0, []), (42, 1, .iload_n 2, 0, 2, 0, 0, []), (43, 1, .ireturn, 0, 0, 0, 0, [])]
set_option maxRecDepth 100000 in
theorem ck_161 : (cd_161.all (okCE 12 4 prog_14_method_40_code)) = true := by decide +kernel
/-- TradeTestsModel.signsOf -/
def cd_162 : List CE := [(0, 1, .aload_n 0, 0, 0, 0, 0, []), (1, 1, .iload_n 1, 0, 1, 0, 0, []), (2, 3, .invokevirtual 244, 0, 163, 2, 12, []), (5, 1, .iconst 2, 2, 0, 0, 0, []), (6, 3, .if_icmp .le 7, 0, 13, 0, 0, []), (9, 1, .iconst 1, 1, 0, 0, 0, []), (10, 3, .goto 4, 0, 14, 0, 0, []), (13, 1, .iconst 0, 0, 0, 0, 0, []), (14, 1, .aload_n 0, 0, 0, 0, 0, []), (15, 1, .iload_n 1, 0, 1, 0, 0, []), (16, 3, .invokevirtual 247, 0, 165, 2, 12, []), (19, 3, .ifCond .eq 7, 0, 26, 0, 0, []), (22, 1, .iconst 2, 2, 0, 0, 0, []), (23, 3, .goto 4, 0, 27, 0, 0, []), (26, 1, .iconst 0, 0, 0, 0, 0, []), (27, 1, .iadd, 0, 0, 0, 0, []), (28, 1, .aload_n 0, 0, 0, 0, 0, []), (29, 1, .iload_n 1, 0, 1, 0, 0, []), (30, 3, .invokevirtual 250, 0, 166, 2, 12, []), (33, 3, .ifCond .eq 7, 0, 40, 0, 0, []), (36, 1, .iconst 4, 4, 0, 0, 0, []), (37, 3, .goto 4, 0, 41, 0, 0, []), (40, 1, .iconst 0, 0, 0, 0, 0, []), (41, 1, .iadd, 0, 0, 0, 0, []), (42, 1, .aload_n 0, 0, 0, 0, 0, []), (43, 1, .iload_n 1, 0, 1, 0, 0, []), (44, 3, .invokevirtual 253, 0, 167, 2, 12, []), (47, 3, .ifCond .eq 8, 0, 55, 0, 0, []), (50, 2, .bipush 8, 8, 0, 0, 0, []), (52, 3, .goto 4, 0, 56, 0, 0, []), (55, 1, .iconst 0, 0, 0, 0, 0, []), (56, 1, .iadd, 0, 0, 0, 0, []), (57, 1, .aload_n 0, 0, 0, 0, 0, []), (58, 1, .iload_n 1, 0, 1, 0, 0, []), (59, 3, .invokevirtual 218, 0, 154, 2, 12, []), (62, 1, .iconst 1, 1, 0, 0, 0, []), (63, 3, .if_icmp .ne 8, 0, 71, 0, 0, []), (66, 2, .bipush 16, 16, 0, 0, 0, []), (68, 3, .goto 4, 0, 72, 0, 0, []), (71, 1, .iconst 0, 0, 0, 0, 0, []), (72, 1, .iadd, 0, 0, 0, 0, []), (73, 1, .ireturn, 0, 0, 0, 0, [])]
set_option maxRecDepth 100000 in
theorem ck_162 : (cd_162.all (okCE 12 2 prog_14_method_48_code)) = true := by decide +kernel
/-- TradeTestsModel.alikeOf -/
def cd_163 : List CE := [(0, 1, .iconst 0, 0, 0, 0, 0, []), (1, 1, .istore_n 2, 0, 2, 0, 0, []), (2, 1, .iconst 0, 0, 0, 0, 0, []), (3, 1, .istore_n 3, 0, 3, 0, 0, []), (4, 1, .iload_n 3, 0, 3, 0, 0, []), (5, 1, .aload_n 0, 0, 0, 0, 0, []), (6, 3, .getfield 140, 0, 12, 4, 149, []), (9, 3, .if_icmp .ge 105, 0, 114, 0, 0, []), (12, 1, .iload_n 2, 0, 2, 0, 0, []), (13, 1, .aload_n 0, 0, 0, 0, 0, []), (14, 3, .getfield 50, 0, 12, 24, 169, []), (17, 1, .iload_n 3, 0, 3, 0, 0, []), (18, 1, .iaload, 0, 0, 0, 0, []), (19, 1, .aload_n 0, 0, 0, 0, 0, []), (20, 3, .getfield 50, 0, 12, 24, 169, []), (23, 1, .iload_n 1, 0, 1, 0, 0, []), (24, 1, .iaload, 0, 0, 0, 0, []), (25, 3, .if_icmp .ne 80, 0, 105, 0, 0, []), (28, 1, .aload_n 0, 0, 0, 0, 0, []), (29, 3, .getfield 47, 0, 12, 23, 168, []), (32, 1, .iload_n 3, 0, 3, 0, 0, []), (33, 1, .iaload, 0, 0, 0, 0, []), (34, 1, .aload_n 0, 0, 0, 0, 0, []), (35, 3, .getfield 47, 0, 12, 23, 168, []), (38, 1, .iload_n 1, 0, 1, 0, 0, []), (39, 1, .iaload, 0, 0, 0, 0, []), (40, 3, .if_icmp .eq 65, 0, 105, 0, 0, []), (43, 1, .aload_n 0, 0, 0, 0, 0, []), (44, 3, .getfield 53, 0, 12, 25, 170, []), (47, 1, .iload_n 1, 0, 1, 0, 0, []), (48, 1, .iaload, 0, 0, 0, 0, []), (49, 1, .aload_n 0, 0, 0, 0, 0, []), (50, 3, .getfield 53, 0, 12, 25, 170, []), (53, 1, .iload_n 3, 0, 3, 0, 0, []), (54, 1, .iaload, 0, 0, 0, 0, []), (55, 2, .bipush 30, 30, 0, 0, 0, []), (57, 3, .invokestatic 241, 0, 164, 3, 0, []), (60, 3, .ifCond .eq 45, 0, 105, 0, 0, []), (63, 1, .aload_n 0, 0, 0, 0, 0, []), (64, 3, .getfield 65, 0, 12, 29, 174, []), (67, 1, .iload_n 1, 0, 1, 0, 0, []), (68, 1, .iaload, 0, 0, 0, 0, []), (69, 1, .aload_n 0, 0, 0, 0, 0, []), (70, 3, .getfield 65, 0, 12, 29, 174, []), (73, 1, .iload_n 3, 0, 3, 0, 0, []), (74, 1, .iaload, 0, 0, 0, 0, []), (75, 1, .iconst 1, 1, 0, 0, 0, []), (76, 3, .invokestatic 241, 0, 164, 3, 0, []), (79, 3, .ifCond .eq 26, 0, 105, 0, 0, []), (82, 1, .aload_n 0, 0, 0, 0, 0, []), (83, 3, .getfield 68, 0, 12, 30, 175, []), (86, 1, .iload_n 1, 0, 1, 0, 0, []), (87, 1, .iaload, 0, 0, 0, 0, []), (88, 1, .aload_n 0, 0, 0, 0, 0, []), (89, 3, .getfield 68, 0, 12, 30, 175, []), (92, 1, .iload_n 3, 0, 3, 0, 0, []), (93, 1, .iaload, 0, 0, 0, 0, []), (94, 1, .iconst 1, 1, 0, 0, 0, []), (95, 3, .invokestatic 241, 0, 164, 3, 0, []), (98, 3, .ifCond .eq 7, 0, 105, 0, 0, []), (101, 1, .iconst 1, 1, 0, 0, 0, []), (102, 3, .goto 4, 0, 106, 0, 0, []), (105, 1, .iconst 0, 0, 0, 0, 0, []), (106, 1, .iadd, 0, 0, 0, 0, []), (107, 1, .istore_n 2, 0, 2, 0, 0, []), (108, 3, .iinc 3 1, 1, 3, 0, 0, []), (111, 3, .goto (-107), 0, 4, 0, 0, []), (114, 1, .iload_n 2, 0, 2, 0, 0, []), (115, 1, .ireturn, 0, 0, 0, 0, [])]
set_option maxRecDepth 100000 in
theorem ck_163 : (cd_163.all (okCE 12 4 prog_14_method_44_code)) = true := by decide +kernel
/-- TradeTestsModel.areNear -/
def cd_164 : List CE := [(0, 1, .iload_n 0, 0, 0, 0, 0, []), (1, 1, .iload_n 1, 0, 1, 0, 0, []), (2, 1, .isub, 0, 0, 0, 0, []), (3, 1, .iload_n 2, 0, 2, 0, 0, []), (4, 1, .ineg, 0, 0, 0, 0, []), (5, 1, .iload_n 2, 0, 2, 0, 0, []), (6, 3, .invokestatic 127, 0, 123, 3, 0, []), (9, 1, .ireturn, 0, 0, 0, 0, [])]
set_option maxRecDepth 100000 in
theorem ck_164 : (cd_164.all (okCE 12 3 prog_14_method_43_code)) = true := by decide +kernel
/-- TradeTestsModel.isQuick -/
def cd_165 : List CE := [(0, 1, .aload_n 0, 0, 0, 0, 0, []), (1, 3, .getfield 19, 0, 12, 14, 159, []), (4, 1, .aload_n 0, 0, 0, 0, 0, []), (5, 3, .getfield 47, 0, 12, 23, 168, []), (8, 1, .iload_n 1, 0, 1, 0, 0, []), (9, 1, .iaload, 0, 0, 0, 0, []), (10, 1, .iaload, 0, 0, 0, 0, []), (11, 1, .istore_n 2, 0, 2, 0, 0, []), (12, 1, .aload_n 0, 0, 0, 0, 0, []), (13, 3, .getfield 59, 0, 12, 27, 172, []), (16, 1, .iload_n 1, 0, 1, 0, 0, []), (17, 1, .iaload, 0, 0, 0, 0, []), (18, 1, .iload_n 2, 0, 2, 0, 0, []), (19, 1, .iconst 2, 2, 0, 0, 0, []), (20, 3, .if_icmp .ne 8, 0, 28, 0, 0, []), (23, 2, .bipush 30, 30, 0, 0, 0, []), (25, 3, .goto 15, 0, 40, 0, 0, []), (28, 1, .iload_n 2, 0, 2, 0, 0, []), (29, 1, .iconst 3, 3, 0, 0, 0, []), (30, 3, .if_icmp .ne 8, 0, 38, 0, 0, []), (33, 2, .bipush 10, 10, 0, 0, 0, []), (35, 3, .goto 5, 0, 40, 0, 0, []), (38, 2, .bipush 20, 20, 0, 0, 0, []), (40, 3, .if_icmp .ge 7, 0, 47, 0, 0, []), (43, 1, .iconst 1, 1, 0, 0, 0, []), (44, 3, .goto 4, 0, 48, 0, 0, []), (47, 1, .iconst 0, 0, 0, 0, 0, []), (48, 1, .ireturn, 0, 0, 0, 0, [])]
set_option maxRecDepth 100000 in
theorem ck_165 : (cd_165.all (okCE 12 3 prog_14_method_45_code)) = true := by decide +kernel
/-- TradeTestsModel.overlaps -/
def cd_166 : List CE := [(0, 1, .iconst 0, 0, 0, 0, 0, []), (1, 1, .istore_n 2, 0, 2, 0, 0, []), (2, 1, .iload_n 2, 0, 2, 0, 0, []), (3, 1, .aload_n 0, 0, 0, 0, 0, []), (4, 3, .getfield 140, 0, 12, 4, 149, []), (7, 3, .if_icmp .ge 90, 0, 97, 0, 0, []), (10, 1, .iload_n 2, 0, 2, 0, 0, []), (11, 1, .iload_n 1, 0, 1, 0, 0, []), (12, 3, .if_icmp .eq 79, 0, 91, 0, 0, []), (15, 1, .aload_n 0, 0, 0, 0, 0, []), (16, 3, .getfield 50, 0, 12, 24, 169, []), (19, 1, .iload_n 2, 0, 2, 0, 0, []), (20, 1, .iaload, 0, 0, 0, 0, []), (21, 1, .aload_n 0, 0, 0, 0, 0, []), (22, 3, .getfield 50, 0, 12, 24, 169, []), (25, 1, .iload_n 1, 0, 1, 0, 0, []), (26, 1, .iaload, 0, 0, 0, 0, []), (27, 3, .if_icmp .ne 64, 0, 91, 0, 0, []), (30, 1, .aload_n 0, 0, 0, 0, 0, []), (31, 3, .getfield 53, 0, 12, 25, 170, []), (34, 1, .iload_n 2, 0, 2, 0, 0, []), (35, 1, .iaload, 0, 0, 0, 0, []), (36, 1, .aload_n 0, 0, 0, 0, 0, []), (37, 3, .getfield 53, 0, 12, 25, 170, []), (40, 1, .iload_n 1, 0, 1, 0, 0, []), (41, 1, .iaload, 0, 0, 0, 0, []), (42, 3, .if_icmp .ne 49, 0, 91, 0, 0, []), (45, 1, .aload_n 0, 0, 0, 0, 0, []), (46, 3, .getfield 56, 0, 12, 26, 171, []), (49, 1, .iload_n 2, 0, 2, 0, 0, []), (50, 1, .iaload, 0, 0, 0, 0, []), (51, 1, .aload_n 0, 0, 0, 0, 0, []), (52, 3, .getfield 56, 0, 12, 26, 171, []), (55, 1, .iload_n 1, 0, 1, 0, 0, []), (56, 1, .iaload, 0, 0, 0, 0, []), (57, 1, .aload_n 0, 0, 0, 0, 0, []), (58, 3, .getfield 59, 0, 12, 27, 172, []), (61, 1, .iload_n 1, 0, 1, 0, 0, []), (62, 1, .iaload, 0, 0, 0, 0, []), (63, 1, .iadd, 0, 0, 0, 0, []), (64, 3, .if_icmp .ge 27, 0, 91, 0, 0, []), (67, 1, .aload_n 0, 0, 0, 0, 0, []), (68, 3, .getfield 56, 0, 12, 26, 171, []), (71, 1, .iload_n 1, 0, 1, 0, 0, []), (72, 1, .iaload, 0, 0, 0, 0, []), (73, 1, .aload_n 0, 0, 0, 0, 0, []), (74, 3, .getfield 56, 0, 12, 26, 171, []), (77, 1, .iload_n 2, 0, 2, 0, 0, []), (78, 1, .iaload, 0, 0, 0, 0, []), (79, 1, .aload_n 0, 0, 0, 0, 0, []), (80, 3, .getfield 59, 0, 12, 27, 172, []), (83, 1, .iload_n 2, 0, 2, 0, 0, []), (84, 1, .iaload, 0, 0, 0, 0, []), (85, 1, .iadd, 0, 0, 0, 0, []), (86, 3, .if_icmp .ge 5, 0, 91, 0, 0, []), (89, 1, .iconst 1, 1, 0, 0, 0, []), (90, 1, .ireturn, 0, 0, 0, 0, []), (91, 3, .iinc 2 1, 1, 2, 0, 0, []), (94, 3, .goto (-92), 0, 2, 0, 0, []), (97, 1, .iconst 0, 0, 0, 0, 0, []), (98, 1, .ireturn, 0, 0, 0, 0, [])]
set_option maxRecDepth 100000 in
theorem ck_166 : (cd_166.all (okCE 12 3 prog_14_method_46_code)) = true := by decide +kernel
/-- TradeTestsModel.isShut -/
def cd_167 : List CE := [(0, 1, .aload_n 0, 0, 0, 0, 0, []), (1, 1, .iload_n 1, 0, 1, 0, 0, []), (2, 3, .invokevirtual 183, 0, 141, 2, 12, []), (5, 1, .istore_n 2, 0, 2, 0, 0, []), (6, 1, .aload_n 0, 0, 0, 0, 0, []), (7, 3, .getfield 56, 0, 12, 26, 171, []), (10, 1, .iload_n 1, 0, 1, 0, 0, []), (11, 1, .iaload, 0, 0, 0, 0, []), (12, 1, .aload_n 0, 0, 0, 0, 0, []), (13, 3, .getfield 29, 0, 12, 17, 162, []), (16, 1, .iload_n 2, 0, 2, 0, 0, []), (17, 1, .iaload, 0, 0, 0, 0, []), (18, 3, .if_icmp .lt 25, 0, 43, 0, 0, []), (21, 1, .aload_n 0, 0, 0, 0, 0, []), (22, 3, .getfield 56, 0, 12, 26, 171, []), (25, 1, .iload_n 1, 0, 1, 0, 0, []), (26, 1, .iaload, 0, 0, 0, 0, []), (27, 1, .aload_n 0, 0, 0, 0, 0, []), (28, 3, .getfield 59, 0, 12, 27, 172, []), (31, 1, .iload_n 1, 0, 1, 0, 0, []), (32, 1, .iaload, 0, 0, 0, 0, []), (33, 1, .iadd, 0, 0, 0, 0, []), (34, 1, .aload_n 0, 0, 0, 0, 0, []), (35, 3, .getfield 32, 0, 12, 18, 163, []), (38, 1, .iload_n 2, 0, 2, 0, 0, []), (39, 1, .iaload, 0, 0, 0, 0, []), (40, 3, .if_icmp .le 7, 0, 47, 0, 0, []), (43, 1, .iconst 1, 1, 0, 0, 0, []), (44, 3, .goto 4, 0, 48, 0, 0, []), (47, 1, .iconst 0, 0, 0, 0, 0, []), (48, 1, .ireturn, 0, 0, 0, 0, [])]
set_option maxRecDepth 100000 in
theorem ck_167 : (cd_167.all (okCE 12 3 prog_14_method_47_code)) = true := by decide +kernel
/-- TradeTestsModel.signs -/
def cd_168 : List CE := [(0, 1, .aload_n 0, 0, 0, 0, 0, []), (1, 1, .iload_n 1, 0, 1, 0, 0, []), (2, 3, .invokevirtual 180, 0, 140, 2, 12, []), (5, 3, .ifCond .eq 11, 0, 16, 0, 0, []), (8, 1, .aload_n 0, 0, 0, 0, 0, []), (9, 1, .iload_n 1, 0, 1, 0, 0, []), (10, 3, .invokevirtual 227, 0, 162, 2, 12, []), (13, 3, .goto 8, 0, 21, 0, 0, []), (16, 1, .aload_n 0, 0, 0, 0, 0, []), (17, 1, .iconst 1, 1, 0, 0, 0, []), (18, 3, .invokevirtual 147, 0, 125, 2, 12, []), (21, 1, .ireturn, 0, 0, 0, 0, [])]
set_option maxRecDepth 100000 in
theorem ck_168 : (cd_168.all (okCE 12 2 prog_14_method_49_code)) = true := by decide +kernel
/-- TradeTestsModel.alike -/
def cd_169 : List CE := [(0, 1, .aload_n 0, 0, 0, 0, 0, []), (1, 1, .iload_n 1, 0, 1, 0, 0, []), (2, 3, .invokevirtual 180, 0, 140, 2, 12, []), (5, 3, .ifCond .eq 11, 0, 16, 0, 0, []), (8, 1, .aload_n 0, 0, 0, 0, 0, []), (9, 1, .iload_n 1, 0, 1, 0, 0, []), (10, 3, .invokevirtual 244, 0, 163, 2, 12, []), (13, 3, .goto 8, 0, 21, 0, 0, []), (16, 1, .aload_n 0, 0, 0, 0, 0, []), (17, 1, .iconst 1, 1, 0, 0, 0, []), (18, 3, .invokevirtual 147, 0, 125, 2, 12, []), (21, 1, .ireturn, 0, 0, 0, 0, [])]
set_option maxRecDepth 100000 in
theorem ck_169 : (cd_169.all (okCE 12 2 prog_14_method_50_code)) = true := by decide +kernel
/-- TradeTestsModel.falls -/
def cd_170 : List CE := [(0, 1, .aload_n 0, 0, 0, 0, 0, []), (1, 1, .iload_n 1, 0, 1, 0, 0, []), (2, 3, .invokevirtual 180, 0, 140, 2, 12, []), (5, 3, .ifCond .ne 9, 0, 14, 0, 0, []), (8, 1, .aload_n 0, 0, 0, 0, 0, []), (9, 1, .iconst 1, 1, 0, 0, 0, []), (10, 3, .invokevirtual 147, 0, 125, 2, 12, []), (13, 1, .ireturn, 0, 0, 0, 0, []), (14, 1, .aload_n 0, 0, 0, 0, 0, []), (15, 3, .getfield 19, 0, 12, 14, 159, []), (18, 1, .aload_n 0, 0, 0, 0, 0, []), (19, 3, .getfield 47, 0, 12, 23, 168, []), (22, 1, .iload_n 1, 0, 1, 0, 0, []), (23, 1, .iaload, 0, 0, 0, 0, []), (24, 1, .iaload, 0, 0, 0, 0, []), (25, 1, .iconst 3, 3, 0, 0, 0, []), (26, 3, .if_icmp .ne 9, 0, 35, 0, 0, []), (29, 1, .aload_n 0, 0, 0, 0, 0, []), (30, 1, .iconst 5, 5, 0, 0, 0, []), (31, 3, .invokevirtual 147, 0, 125, 2, 12, []), (34, 1, .ireturn, 0, 0, 0, 0, []), (35, 1, .iconst (-1), (-1), 0, 0, 0, []), (36, 1, .istore_n 2, 0, 2, 0, 0, []), (37, 1, .iconst 0, 0, 0, 0, 0, []), (38, 1, .istore_n 3, 0, 3, 0, 0, []), (39, 1, .iload_n 3, 0, 3, 0, 0, []), (40, 1, .iload_n 1, 0, 1, 0, 0, []), (41, 3, .if_icmp .ge 30, 0, 71, 0, 0, []), (44, 1, .aload_n 0, 0, 0, 0, 0, []), (45, 3, .getfield 47, 0, 12, 23, 168, []), (48, 1, .iload_n 3, 0, 3, 0, 0, []), (49, 1, .iaload, 0, 0, 0, 0, []), (50, 1, .aload_n 0, 0, 0, 0, 0, []), (51, 3, .getfield 47, 0, 12, 23, 168, []), (54, 1, .iload_n 1, 0, 1, 0, 0, []), (55, 1, .iaload, 0, 0, 0, 0, []), (56, 3, .if_icmp .ne 7, 0, 63, 0, 0, []), (59, 1, .iload_n 3, 0, 3, 0, 0, []), (60, 3, .goto 4, 0, 64, 0, 0, []), (63, 1, .iload_n 2, 0, 2, 0, 0, []), (64, 1, .istore_n 2, 0, 2, 0, 0, []), (65, 3, .iinc 3 1, 1, 3, 0, 0, []), (68, 3, .goto (-29), 0, 39, 0, 0, []), (71, 1, .iload_n 2, 0, 2, 0, 0, []), (72, 3, .ifCond .lt 18, 0, 90, 0, 0, []), (75, 1, .aload_n 0, 0, 0, 0, 0, []), (76, 3, .getfield 62, 0, 12, 28, 173, []), (79, 1, .iload_n 1, 0, 1, 0, 0, []), (80, 1, .iaload, 0, 0, 0, 0, []), (81, 1, .aload_n 0, 0, 0, 0, 0, []), (82, 3, .getfield 62, 0, 12, 28, 173, []), (85, 1, .iload_n 2, 0, 2, 0, 0, []), (86, 1, .iaload, 0, 0, 0, 0, []), (87, 3, .if_icmp .lt 5, 0, 92, 0, 0, []), (90, 1, .iconst 0, 0, 0, 0, 0, []), (91, 1, .ireturn, 0, 0, 0, 0, []), (92, 1, .aload_n 0, 0, 0, 0, 0, []), (93, 3, .getfield 140, 0, 12, 4, 149, []), (96, 1, .istore_n 3, 0, 3, 0, 0, []), (97, 1, .aload_n 0, 0, 0, 0, 0, []), (98, 3, .getfield 140, 0, 12, 4, 149, []), (101, 1, .iconst 1, 1, 0, 0, 0, []), (102, 1, .isub, 0, 0, 0, 0, []), (103, 2, .istore 4, 0, 4, 0, 0, []), (105, 2, .iload 4, 0, 4, 0, 0, []), (107, 1, .iload_n 1, 0, 1, 0, 0, []), (108, 3, .if_icmp .le 32, 0, 140, 0, 0, []), (111, 1, .aload_n 0, 0, 0, 0, 0, []), (112, 3, .getfield 47, 0, 12, 23, 168, []), (115, 2, .iload 4, 0, 4, 0, 0, []), (117, 1, .iaload, 0, 0, 0, 0, []), (118, 1, .aload_n 0, 0, 0, 0, 0, []), (119, 3, .getfield 47, 0, 12, 23, 168, []), (122, 1, .iload_n 1, 0, 1, 0, 0, []), (123, 1, .iaload, 0, 0, 0, 0, []), (124, 3, .if_icmp .ne 8, 0, 132, 0, 0, []), (127, 2, .iload 4, 0, 4, 0, 0, []), (129, 3, .goto 4, 0, 133, 0, 0, []), (132, 1, .iload_n 3, 0, 3, 0, 0, []), (133, 1, .istore_n 3, 0, 3, 0, 0, []), (134, 3, .iinc 4 (-1), (-1), 4, 0, 0, []), (137, 3, .goto (-32), 0, 105, 0, 0, []), (140, 1, .aload_n 0, 0, 0, 0, 0, []), (141, 3, .getfield 62, 0, 12, 28, 173, []), (144, 1, .iload_n 1, 0, 1, 0, 0, []), (145, 1, .iaload, 0, 0, 0, 0, []), (146, 1, .aload_n 0, 0, 0, 0, 0, []), (147, 3, .getfield 62, 0, 12, 28, 173, []), (150, 1, .iload_n 2, 0, 2, 0, 0, []), (151, 1, .iaload, 0, 0, 0, 0, []), (152, 1, .iload_n 3, 0, 3, 0, 0, []), (153, 1, .aload_n 0, 0, 0, 0, 0, []), (154, 3, .getfield 140, 0, 12, 4, 149, []), (157, 3, .if_icmp .ge 12, 0, 169, 0, 0, []), (160, 1, .aload_n 0, 0, 0, 0, 0, []), (161, 3, .getfield 62, 0, 12, 28, 173, []), (164, 1, .iload_n 3, 0, 3, 0, 0, []), (165, 1, .iaload, 0, 0, 0, 0, []), (166, 3, .goto 5, 0, 171, 0, 0, []), (169, 2, .ldc 174, 999999, 0, 0, 0, []), (171, 3, .invokestatic 256, 0, 171, 3, 0, []), (174, 3, .ifCond .eq 7, 0, 181, 0, 0, []), (177, 1, .iconst 1, 1, 0, 0, 0, []), (178, 3, .goto 4, 0, 182, 0, 0, []), (181, 1, .iconst 2, 2, 0, 0, 0, []), (182, 1, .ireturn, 0, 0, 0, 0, [])]
set_option maxRecDepth 100000 in
theorem ck_170 : (cd_170.all (okCE 12 5 prog_14_method_52_code)) = true := by decide +kernel
/-- TradeTestsModel.isTyped -/
def cd_171 : List CE := [(0, 1, .iconst 1, 1, 0, 0, 0, []), (1, 1, .istore_n 3, 0, 3, 0, 0, []), (2, 1, .iload_n 3, 0, 3, 0, 0, []), (3, 1, .iconst 1, 1, 0, 0, 0, []), (4, 3, .if_icmp .eq 8, 0, 12, 0, 0, []), (7, 1, .iload_n 3, 0, 3, 0, 0, []), (8, 1, .iload_n 0, 0, 0, 0, 0, []), (9, 3, .if_icmp .gt 90, 0, 99, 0, 0, []), (12, 1, .iload_n 0, 0, 0, 0, 0, []), (13, 1, .iload_n 3, 0, 3, 0, 0, []), (14, 1, .idiv, 0, 0, 0, 0, []), (15, 2, .bipush 10, 10, 0, 0, 0, []), (17, 1, .irem, 0, 0, 0, 0, []), (18, 2, .istore 4, 0, 4, 0, 0, []), (20, 1, .iload_n 0, 0, 0, 0, 0, []), (21, 1, .iload_n 3, 0, 3, 0, 0, []), (22, 1, .idiv, 0, 0, 0, 0, []), (23, 2, .bipush 10, 10, 0, 0, 0, []), (25, 3, .if_icmp .ge 7, 0, 32, 0, 0, []), (28, 1, .iconst 1, 1, 0, 0, 0, []), (29, 3, .goto 4, 0, 33, 0, 0, []), (32, 1, .iconst 0, 0, 0, 0, 0, []), (33, 2, .istore 5, 0, 5, 0, 0, []), (35, 2, .iload 5, 0, 5, 0, 0, []), (37, 3, .ifCond .eq 12, 0, 49, 0, 0, []), (40, 1, .iload_n 3, 0, 3, 0, 0, []), (41, 1, .iconst 1, 1, 0, 0, 0, []), (42, 3, .if_icmp .le 7, 0, 49, 0, 0, []), (45, 1, .iconst 1, 1, 0, 0, 0, []), (46, 3, .goto 4, 0, 50, 0, 0, []), (49, 1, .iconst 0, 0, 0, 0, 0, []), (50, 2, .istore 6, 0, 6, 0, 0, []), (52, 2, .iload 6, 0, 6, 0, 0, []), (54, 2, .bipush 10, 10, 0, 0, 0, []), (56, 3, .if_icmp .ge 35, 0, 91, 0, 0, []), (59, 2, .iload 6, 0, 6, 0, 0, []), (61, 2, .iload 4, 0, 4, 0, 0, []), (63, 3, .if_icmp .eq 22, 0, 85, 0, 0, []), (66, 1, .iload_n 0, 0, 0, 0, 0, []), (67, 2, .iload 6, 0, 6, 0, 0, []), (69, 2, .iload 4, 0, 4, 0, 0, []), (71, 1, .isub, 0, 0, 0, 0, []), (72, 1, .iload_n 3, 0, 3, 0, 0, []), (73, 1, .imul, 0, 0, 0, 0, []), (74, 1, .iadd, 0, 0, 0, 0, []), (75, 1, .iload_n 1, 0, 1, 0, 0, []), (76, 1, .iload_n 2, 0, 2, 0, 0, []), (77, 3, .invokestatic 127, 0, 123, 3, 0, []), (80, 3, .ifCond .eq 5, 0, 85, 0, 0, []), (83, 1, .iconst 1, 1, 0, 0, 0, []), (84, 1, .ireturn, 0, 0, 0, 0, []), (85, 3, .iinc 6 1, 1, 6, 0, 0, []), (88, 3, .goto (-36), 0, 52, 0, 0, []), (91, 1, .iload_n 3, 0, 3, 0, 0, []), (92, 2, .bipush 10, 10, 0, 0, 0, []), (94, 1, .imul, 0, 0, 0, 0, []), (95, 1, .istore_n 3, 0, 3, 0, 0, []), (96, 3, .goto (-94), 0, 2, 0, 0, []), (99, 1, .iconst 0, 0, 0, 0, 0, []), (100, 1, .ireturn, 0, 0, 0, 0, [])]
set_option maxRecDepth 100000 in
theorem ck_171 : (cd_171.all (okCE 12 7 prog_14_method_51_code)) = true := by decide +kernel
/-- TradeTestsModel.rule -/
def cd_172 : List CE := [(0, 1, .iload_n 1, 0, 1, 0, 0, []), (1, 1, .iconst 0, 0, 0, 0, 0, []), (2, 1, .iconst 2, 2, 0, 0, 0, []), (3, 3, .invokestatic 127, 0, 123, 3, 0, []), (6, 3, .ifCond .eq 35, 0, 41, 0, 0, []), (9, 1, .iload_n 2, 0, 2, 0, 0, []), (10, 1, .iconst 1, 1, 0, 0, 0, []), (11, 1, .iload_n 1, 0, 1, 0, 0, []), (12, 3, .ifCond .ne 9, 0, 21, 0, 0, []), (15, 3, .sipush 3650, 3650, 0, 0, 0, []), (18, 3, .goto 17, 0, 35, 0, 0, []), (21, 1, .iload_n 1, 0, 1, 0, 0, []), (22, 1, .iconst 1, 1, 0, 0, 0, []), (23, 3, .if_icmp .ne 9, 0, 32, 0, 0, []), (26, 3, .sipush 1000, 1000, 0, 0, 0, []), (29, 3, .goto 6, 0, 35, 0, 0, []), (32, 3, .sipush 200, 200, 0, 0, 0, []), (35, 3, .invokestatic 127, 0, 123, 3, 0, []), (38, 3, .ifCond .ne 9, 0, 47, 0, 0, []), (41, 1, .aload_n 0, 0, 0, 0, 0, []), (42, 1, .iconst 1, 1, 0, 0, 0, []), (43, 3, .invokevirtual 147, 0, 125, 2, 12, []), (46, 1, .ireturn, 0, 0, 0, 0, []), (47, 1, .iload_n 1, 0, 1, 0, 0, []), (48, 3, .ifCond .ne 10, 0, 58, 0, 0, []), (51, 1, .aload_n 0, 0, 0, 0, 0, []), (52, 3, .getfield 7, 0, 12, 11, 156, []), (55, 3, .goto 19, 0, 74, 0, 0, []), (58, 1, .iload_n 1, 0, 1, 0, 0, []), (59, 1, .iconst 1, 1, 0, 0, 0, []), (60, 3, .if_icmp .ne 10, 0, 70, 0, 0, []), (63, 1, .aload_n 0, 0, 0, 0, 0, []), (64, 3, .getfield 13, 0, 12, 12, 157, []), (67, 3, .goto 7, 0, 74, 0, 0, []), (70, 1, .aload_n 0, 0, 0, 0, 0, []), (71, 3, .getfield 16, 0, 12, 13, 158, []), (74, 1, .istore_n 3, 0, 3, 0, 0, []), (75, 1, .aload_n 0, 0, 0, 0, 0, []), (76, 1, .iload_n 1, 0, 1, 0, 0, []), (77, 3, .ifCond .ne 7, 0, 84, 0, 0, []), (80, 1, .iload_n 2, 0, 2, 0, 0, []), (81, 3, .goto 7, 0, 88, 0, 0, []), (84, 1, .aload_n 0, 0, 0, 0, 0, []), (85, 3, .getfield 7, 0, 12, 11, 156, []), (88, 3, .putfield 7, 0, 12, 11, 156, []), (91, 1, .aload_n 0, 0, 0, 0, 0, []), (92, 1, .iload_n 1, 0, 1, 0, 0, []), (93, 1, .iconst 1, 1, 0, 0, 0, []), (94, 3, .if_icmp .ne 7, 0, 101, 0, 0, []), (97, 1, .iload_n 2, 0, 2, 0, 0, []), (98, 3, .goto 7, 0, 105, 0, 0, []), (101, 1, .aload_n 0, 0, 0, 0, 0, []), (102, 3, .getfield 13, 0, 12, 12, 157, []), (105, 3, .putfield 13, 0, 12, 12, 157, []), (108, 1, .aload_n 0, 0, 0, 0, 0, []), (109, 1, .iload_n 1, 0, 1, 0, 0, []), (110, 1, .iconst 2, 2, 0, 0, 0, []), (111, 3, .if_icmp .ne 7, 0, 118, 0, 0, []), (114, 1, .iload_n 2, 0, 2, 0, 0, []), (115, 3, .goto 7, 0, 122, 0, 0, []), (118, 1, .aload_n 0, 0, 0, 0, 0, []), (119, 3, .getfield 16, 0, 12, 13, 158, []), (122, 3, .putfield 16, 0, 12, 13, 158, []), (125, 1, .iload_n 3, 0, 3, 0, 0, []), (126, 1, .ireturn, 0, 0, 0, 0, [])]
set_option maxRecDepth 100000 in
theorem ck_172 : (cd_172.all (okCE 12 4 prog_14_method_53_code)) = true := by decide +kernel
/-- TradeTestsModel.appeal -/
def cd_173 : List CE := [(0, 1, .aload_n 0, 0, 0, 0, 0, []), (1, 1, .iload_n 1, 0, 1, 0, 0, []), (2, 3, .invokevirtual 180, 0, 140, 2, 12, []), (5, 3, .ifCond .eq 12, 0, 17, 0, 0, []), (8, 1, .iload_n 2, 0, 2, 0, 0, []), (9, 1, .iconst 0, 0, 0, 0, 0, []), (10, 1, .iconst 1, 1, 0, 0, 0, []), (11, 3, .invokestatic 127, 0, 123, 3, 0, []), (14, 3, .ifCond .ne 9, 0, 23, 0, 0, []), (17, 1, .aload_n 0, 0, 0, 0, 0, []), (18, 1, .iconst 1, 1, 0, 0, 0, []), (19, 3, .invokevirtual 147, 0, 125, 2, 12, []), (22, 1, .ireturn, 0, 0, 0, 0, []), (23, 1, .aload_n 0, 0, 0, 0, 0, []), (24, 3, .getfield 84, 0, 12, 35, 180, []), (27, 1, .iload_n 1, 0, 1, 0, 0, []), (28, 1, .baload, 0, 0, 0, 0, []), (29, 3, .ifCond .eq 7, 0, 36, 0, 0, []), (32, 1, .iconst 1, 1, 0, 0, 0, []), (33, 3, .goto 4, 0, 37, 0, 0, []), (36, 1, .iconst 0, 0, 0, 0, 0, []), (37, 1, .istore_n 3, 0, 3, 0, 0, []), (38, 1, .aload_n 0, 0, 0, 0, 0, []), (39, 3, .getfield 84, 0, 12, 35, 180, []), (42, 1, .iload_n 1, 0, 1, 0, 0, []), (43, 1, .iload_n 2, 0, 2, 0, 0, []), (44, 1, .iconst 1, 1, 0, 0, 0, []), (45, 3, .if_icmp .ne 7, 0, 52, 0, 0, []), (48, 1, .iconst 1, 1, 0, 0, 0, []), (49, 3, .goto 4, 0, 53, 0, 0, []), (52, 1, .iconst 0, 0, 0, 0, 0, []), (53, 1, .bastore, 0, 0, 0, 0, []), (54, 1, .iload_n 3, 0, 3, 0, 0, []), (55, 1, .ireturn, 0, 0, 0, 0, [])]
set_option maxRecDepth 100000 in
theorem ck_173 : (cd_173.all (okCE 12 4 prog_14_method_54_code)) = true := by decide +kernel
/-- TradeTestsModel.points -/
def cd_174 : List CE := [(0, 1, .aload_n 0, 0, 0, 0, 0, []), (1, 1, .iload_n 1, 0, 1, 0, 0, []), (2, 3, .invokevirtual 180, 0, 140, 2, 12, []), (5, 3, .ifCond .eq 11, 0, 16, 0, 0, []), (8, 1, .aload_n 0, 0, 0, 0, 0, []), (9, 1, .iload_n 1, 0, 1, 0, 0, []), (10, 3, .invokevirtual 262, 0, 175, 2, 12, []), (13, 3, .goto 8, 0, 21, 0, 0, []), (16, 1, .aload_n 0, 0, 0, 0, 0, []), (17, 1, .iconst 1, 1, 0, 0, 0, []), (18, 3, .invokevirtual 147, 0, 125, 2, 12, []), (21, 1, .ireturn, 0, 0, 0, 0, [])]
set_option maxRecDepth 100000 in
theorem ck_174 : (cd_174.all (okCE 12 2 prog_14_method_57_code)) = true := by decide +kernel
/-- TradeTestsModel.pointsOf -/
def cd_175 : List CE := [(0, 1, .aload_n 0, 0, 0, 0, 0, []), (1, 1, .iload_n 1, 0, 1, 0, 0, []), (2, 3, .invokevirtual 218, 0, 154, 2, 12, []), (5, 1, .iconst 1, 1, 0, 0, 0, []), (6, 3, .if_icmp .ne 8, 0, 14, 0, 0, []), (9, 2, .bipush 6, 6, 0, 0, 0, []), (11, 3, .goto 4, 0, 15, 0, 0, []), (14, 1, .iconst 0, 0, 0, 0, 0, []), (15, 1, .aload_n 0, 0, 0, 0, 0, []), (16, 1, .iload_n 1, 0, 1, 0, 0, []), (17, 3, .invokevirtual 247, 0, 165, 2, 12, []), (20, 3, .ifCond .eq 7, 0, 27, 0, 0, []), (23, 1, .iconst 2, 2, 0, 0, 0, []), (24, 3, .goto 4, 0, 28, 0, 0, []), (27, 1, .iconst 0, 0, 0, 0, 0, []), (28, 1, .iadd, 0, 0, 0, 0, []), (29, 1, .aload_n 0, 0, 0, 0, 0, []), (30, 1, .iload_n 1, 0, 1, 0, 0, []), (31, 3, .invokevirtual 250, 0, 166, 2, 12, []), (34, 3, .ifCond .eq 7, 0, 41, 0, 0, []), (37, 1, .iconst 4, 4, 0, 0, 0, []), (38, 3, .goto 4, 0, 42, 0, 0, []), (41, 1, .iconst 0, 0, 0, 0, 0, []), (42, 1, .iadd, 0, 0, 0, 0, []), (43, 1, .aload_n 0, 0, 0, 0, 0, []), (44, 1, .iload_n 1, 0, 1, 0, 0, []), (45, 3, .invokevirtual 253, 0, 167, 2, 12, []), (48, 3, .ifCond .eq 7, 0, 55, 0, 0, []), (51, 1, .iconst 1, 1, 0, 0, 0, []), (52, 3, .goto 4, 0, 56, 0, 0, []), (55, 1, .iconst 0, 0, 0, 0, 0, []), (56, 1, .iadd, 0, 0, 0, 0, []), (57, 1, .istore_n 2, 0, 2, 0, 0, []), (58, 1, .aload_n 0, 0, 0, 0, 0, []), (59, 3, .getfield 84, 0, 12, 35, 180, []), (62, 1, .iload_n 1, 0, 1, 0, 0, []), (63, 1, .baload, 0, 0, 0, 0, []), (64, 3, .ifCond .eq 7, 0, 71, 0, 0, []), (67, 1, .iconst 0, 0, 0, 0, 0, []), (68, 3, .goto 4, 0, 72, 0, 0, []), (71, 1, .iload_n 2, 0, 2, 0, 0, []), (72, 2, .bipush 10, 10, 0, 0, 0, []), (74, 1, .aload_n 0, 0, 0, 0, 0, []), (75, 1, .iload_n 1, 0, 1, 0, 0, []), (76, 3, .invokevirtual 259, 0, 176, 2, 12, []), (79, 3, .invokestatic 230, 0, 160, 1, 0, []), (82, 1, .imul, 0, 0, 0, 0, []), (83, 1, .iadd, 0, 0, 0, 0, []), (84, 1, .ireturn, 0, 0, 0, 0, [])]
set_option maxRecDepth 100000 in
theorem ck_175 : (cd_175.all (okCE 12 3 prog_14_method_56_code)) = true := by decide +kernel
/-- TradeTestsModel.missed -/
def cd_176 : List CE := [(0, 1, .aload_n 0, 0, 0, 0, 0, []), (1, 1, .aload_n 0, 0, 0, 0, 0, []), (2, 3, .getfield 53, 0, 12, 25, 170, []), (5, 1, .iload_n 1, 0, 1, 0, 0, []), (6, 1, .iaload, 0, 0, 0, 0, []), (7, 3, .invokevirtual 212, 0, 150, 2, 12, []), (10, 1, .istore_n 2, 0, 2, 0, 0, []), (11, 1, .aload_n 0, 0, 0, 0, 0, []), (12, 3, .getfield 74, 0, 12, 32, 177, []), (15, 1, .iload_n 1, 0, 1, 0, 0, []), (16, 1, .iaload, 0, 0, 0, 0, []), (17, 3, .ifCond .lt 7, 0, 24, 0, 0, []), (20, 1, .iload_n 2, 0, 2, 0, 0, []), (21, 3, .ifCond .ge 7, 0, 28, 0, 0, []), (24, 1, .iconst 0, 0, 0, 0, 0, []), (25, 3, .goto 34, 0, 59, 0, 0, []), (28, 1, .aload_n 0, 0, 0, 0, 0, []), (29, 3, .getfield 102, 0, 12, 41, 186, []), (32, 1, .aload_n 0, 0, 0, 0, 0, []), (33, 3, .getfield 74, 0, 12, 32, 177, []), (36, 1, .iload_n 1, 0, 1, 0, 0, []), (37, 1, .iaload, 0, 0, 0, 0, []), (38, 1, .iaload, 0, 0, 0, 0, []), (39, 1, .aload_n 0, 0, 0, 0, 0, []), (40, 3, .getfield 71, 0, 12, 31, 176, []), (43, 1, .iload_n 1, 0, 1, 0, 0, []), (44, 1, .iaload, 0, 0, 0, 0, []), (45, 1, .iconst (-1), (-1), 0, 0, 0, []), (46, 1, .ixor, 0, 0, 0, 0, []), (47, 1, .iand, 0, 0, 0, 0, []), (48, 1, .aload_n 0, 0, 0, 0, 0, []), (49, 3, .getfield 99, 0, 12, 40, 185, []), (52, 1, .iconst 4, 4, 0, 0, 0, []), (53, 1, .iload_n 2, 0, 2, 0, 0, []), (54, 1, .imul, 0, 0, 0, 0, []), (55, 1, .iconst 1, 1, 0, 0, 0, []), (56, 1, .iadd, 0, 0, 0, 0, []), (57, 1, .iaload, 0, 0, 0, 0, []), (58, 1, .iand, 0, 0, 0, 0, []), (59, 1, .ireturn, 0, 0, 0, 0, [])]
set_option maxRecDepth 100000 in
theorem ck_176 : (cd_176.all (okCE 12 3 prog_14_method_55_code)) = true := by decide +kernel
/-- TradeTestsModel.sum -/
def cd_177 : List CE := [(0, 1, .aload_n 0, 0, 0, 0, 0, []), (1, 1, .iload_n 1, 0, 1, 0, 0, []), (2, 3, .invokevirtual 167, 0, 134, 2, 12, []), (5, 3, .ifCond .eq 10, 0, 15, 0, 0, []), (8, 1, .iload_n 2, 0, 2, 0, 0, []), (9, 3, .invokestatic 143, 0, 124, 1, 0, []), (12, 3, .ifCond .ne 9, 0, 21, 0, 0, []), (15, 1, .aload_n 0, 0, 0, 0, 0, []), (16, 1, .iconst 1, 1, 0, 0, 0, []), (17, 3, .invokevirtual 147, 0, 125, 2, 12, []), (20, 1, .ireturn, 0, 0, 0, 0, []), (21, 1, .aload_n 0, 0, 0, 0, 0, []), (22, 3, .invokevirtual 265, 0, 178, 1, 12, []), (25, 1, .aload_n 0, 0, 0, 0, 0, []), (26, 1, .iload_n 1, 0, 1, 0, 0, []), (27, 1, .iload_n 2, 0, 2, 0, 0, []), (28, 3, .invokevirtual 268, 0, 179, 3, 12, []), (31, 1, .ireturn, 0, 0, 0, 0, [])]
set_option maxRecDepth 100000 in
theorem ck_177 : (cd_177.all (okCE 12 3 prog_14_method_60_code)) = true := by decide +kernel
/-- TradeTestsModel.findPoints -/
def cd_178 : List CE := [(0, 1, .iconst 0, 0, 0, 0, 0, []), (1, 1, .istore_n 1, 0, 1, 0, 0, []), (2, 1, .iload_n 1, 0, 1, 0, 0, []), (3, 1, .aload_n 0, 0, 0, 0, 0, []), (4, 3, .getfield 140, 0, 12, 4, 149, []), (7, 3, .if_icmp .ge 20, 0, 27, 0, 0, []), (10, 1, .aload_n 0, 0, 0, 0, 0, []), (11, 3, .getfield 114, 0, 12, 46, 191, []), (14, 1, .iload_n 1, 0, 1, 0, 0, []), (15, 1, .aload_n 0, 0, 0, 0, 0, []), (16, 1, .iload_n 1, 0, 1, 0, 0, []), (17, 3, .invokevirtual 262, 0, 175, 2, 12, []), (20, 1, .iastore, 0, 0, 0, 0, []), (21, 3, .iinc 1 1, 1, 1, 0, 0, []), (24, 3, .goto (-22), 0, 2, 0, 0, []), (27, 1, .return_, 0, 0, 0, 0, [])]
set_option maxRecDepth 100000 in
theorem ck_178 : (cd_178.all (okCE 12 2 prog_14_method_58_code)) = true := by decide +kernel
/-- TradeTestsModel.sumOf -/
def cd_179 : List CE := [(0, 1, .iconst 0, 0, 0, 0, 0, []), (1, 1, .istore_n 3, 0, 3, 0, 0, []), (2, 1, .iconst 0, 0, 0, 0, 0, []), (3, 2, .istore 4, 0, 4, 0, 0, []), (5, 2, .iload 4, 0, 4, 0, 0, []), (7, 1, .aload_n 0, 0, 0, 0, 0, []), (8, 3, .getfield 140, 0, 12, 4, 149, []), (11, 3, .if_icmp .ge 56, 0, 67, 0, 0, []), (14, 1, .iload_n 3, 0, 3, 0, 0, []), (15, 1, .aload_n 0, 0, 0, 0, 0, []), (16, 3, .getfield 50, 0, 12, 24, 169, []), (19, 2, .iload 4, 0, 4, 0, 0, []), (21, 1, .iaload, 0, 0, 0, 0, []), (22, 1, .iload_n 1, 0, 1, 0, 0, []), (23, 3, .if_icmp .ne 35, 0, 58, 0, 0, []), (26, 1, .aload_n 0, 0, 0, 0, 0, []), (27, 3, .getfield 53, 0, 12, 25, 170, []), (30, 2, .iload 4, 0, 4, 0, 0, []), (32, 1, .iaload, 0, 0, 0, 0, []), (33, 1, .iload_n 2, 0, 2, 0, 0, []), (34, 1, .aload_n 0, 0, 0, 0, 0, []), (35, 3, .getfield 7, 0, 12, 11, 156, []), (38, 1, .isub, 0, 0, 0, 0, []), (39, 1, .iconst 1, 1, 0, 0, 0, []), (40, 1, .iadd, 0, 0, 0, 0, []), (41, 1, .iload_n 2, 0, 2, 0, 0, []), (42, 3, .invokestatic 127, 0, 123, 3, 0, []), (45, 3, .ifCond .eq 13, 0, 58, 0, 0, []), (48, 1, .aload_n 0, 0, 0, 0, 0, []), (49, 3, .getfield 114, 0, 12, 46, 191, []), (52, 2, .iload 4, 0, 4, 0, 0, []), (54, 1, .iaload, 0, 0, 0, 0, []), (55, 3, .goto 4, 0, 59, 0, 0, []), (58, 1, .iconst 0, 0, 0, 0, 0, []), (59, 1, .iadd, 0, 0, 0, 0, []), (60, 1, .istore_n 3, 0, 3, 0, 0, []), (61, 3, .iinc 4 1, 1, 4, 0, 0, []), (64, 3, .goto (-59), 0, 5, 0, 0, []), (67, 1, .iload_n 3, 0, 3, 0, 0, []), (68, 1, .ireturn, 0, 0, 0, 0, [])]
set_option maxRecDepth 100000 in
theorem ck_179 : (cd_179.all (okCE 12 5 prog_14_method_59_code)) = true := by decide +kernel
/-- TradeTestsModel.banned -/
def cd_180 : List CE := [(0, 1, .aload_n 0, 0, 0, 0, 0, []), (1, 1, .iload_n 1, 0, 1, 0, 0, []), (2, 3, .invokevirtual 167, 0, 134, 2, 12, []), (5, 3, .ifCond .eq 10, 0, 15, 0, 0, []), (8, 1, .iload_n 2, 0, 2, 0, 0, []), (9, 3, .invokestatic 143, 0, 124, 1, 0, []), (12, 3, .ifCond .ne 9, 0, 21, 0, 0, []), (15, 1, .aload_n 0, 0, 0, 0, 0, []), (16, 1, .iconst 1, 1, 0, 0, 0, []), (17, 3, .invokevirtual 147, 0, 125, 2, 12, []), (20, 1, .ireturn, 0, 0, 0, 0, []), (21, 1, .aload_n 0, 0, 0, 0, 0, []), (22, 3, .invokevirtual 265, 0, 178, 1, 12, []), (25, 1, .iload_n 2, 0, 2, 0, 0, []), (26, 1, .istore_n 3, 0, 3, 0, 0, []), (27, 1, .iload_n 3, 0, 3, 0, 0, []), (28, 1, .iload_n 2, 0, 2, 0, 0, []), (29, 1, .aload_n 0, 0, 0, 0, 0, []), (30, 3, .getfield 13, 0, 12, 12, 157, []), (33, 1, .isub, 0, 0, 0, 0, []), (34, 3, .if_icmp .le 28, 0, 62, 0, 0, []), (37, 1, .iload_n 3, 0, 3, 0, 0, []), (38, 3, .ifCond .lt 24, 0, 62, 0, 0, []), (41, 1, .aload_n 0, 0, 0, 0, 0, []), (42, 1, .iload_n 1, 0, 1, 0, 0, []), (43, 1, .iload_n 3, 0, 3, 0, 0, []), (44, 3, .invokevirtual 268, 0, 179, 3, 12, []), (47, 1, .aload_n 0, 0, 0, 0, 0, []), (48, 3, .getfield 16, 0, 12, 13, 158, []), (51, 3, .if_icmp .lt 5, 0, 56, 0, 0, []), (54, 1, .iconst 1, 1, 0, 0, 0, []), (55, 1, .ireturn, 0, 0, 0, 0, []), (56, 3, .iinc 3 (-1), (-1), 3, 0, 0, []), (59, 3, .goto (-32), 0, 27, 0, 0, []), (62, 1, .iconst 0, 0, 0, 0, 0, []), (63, 1, .ireturn, 0, 0, 0, 0, [])]
set_option maxRecDepth 100000 in
theorem ck_180 : (cd_180.all (okCE 12 4 prog_14_method_61_code)) = true := by decide +kernel
/-- TradeTestsModel.secret -/
def cd_181 : List CE := [(0, 1, .iload_n 1, 0, 1, 0, 0, []), (1, 1, .iconst 1, 1, 0, 0, 0, []), (2, 3, .sipush 255, 255, 0, 0, 0, []), (5, 3, .invokestatic 127, 0, 123, 3, 0, []), (8, 3, .ifCond .ne 9, 0, 17, 0, 0, []), (11, 1, .aload_n 0, 0, 0, 0, 0, []), (12, 1, .iconst 1, 1, 0, 0, 0, []), (13, 3, .invokevirtual 147, 0, 125, 2, 12, []), (16, 1, .ireturn, 0, 0, 0, 0, []), (17, 1, .aload_n 0, 0, 0, 0, 0, []), (18, 3, .getfield 271, 0, 12, 6, 151, []), (21, 2, .bipush 6, 6, 0, 0, 0, []), (23, 3, .if_icmp .ne 9, 0, 32, 0, 0, []), (26, 1, .aload_n 0, 0, 0, 0, 0, []), (27, 1, .iconst 4, 4, 0, 0, 0, []), (28, 3, .invokevirtual 147, 0, 125, 2, 12, []), (31, 1, .ireturn, 0, 0, 0, 0, []), (32, 1, .aload_n 0, 0, 0, 0, 0, []), (33, 3, .getfield 102, 0, 12, 41, 186, []), (36, 1, .aload_n 0, 0, 0, 0, 0, []), (37, 3, .getfield 271, 0, 12, 6, 151, []), (40, 1, .iload_n 1, 0, 1, 0, 0, []), (41, 1, .iastore, 0, 0, 0, 0, []), (42, 1, .aload_n 0, 0, 0, 0, 0, []), (43, 1, .dup, 0, 0, 0, 0, []), (44, 3, .getfield 271, 0, 12, 6, 151, []), (47, 1, .iconst 1, 1, 0, 0, 0, []), (48, 1, .iadd, 0, 0, 0, 0, []), (49, 3, .putfield 271, 0, 12, 6, 151, []), (52, 1, .aload_n 0, 0, 0, 0, 0, []), (53, 3, .getfield 271, 0, 12, 6, 151, []), (56, 1, .iconst 1, 1, 0, 0, 0, []), (57, 1, .isub, 0, 0, 0, 0, []), (58, 1, .ireturn, 0, 0, 0, 0, [])]
set_option maxRecDepth 100000 in
theorem ck_181 : (cd_181.all (okCE 12 2 prog_14_method_62_code)) = true := by decide +kernel
/-- TradeTestsModel.visit -/
def cd_182 : List CE := [(0, 1, .iload_n 1, 0, 1, 0, 0, []), (1, 1, .iconst 0, 0, 0, 0, 0, []), (2, 1, .aload_n 0, 0, 0, 0, 0, []), (3, 3, .getfield 271, 0, 12, 6, 151, []), (6, 1, .iconst 1, 1, 0, 0, 0, []), (7, 1, .isub, 0, 0, 0, 0, []), (8, 3, .invokestatic 127, 0, 123, 3, 0, []), (11, 3, .ifCond .eq 11, 0, 22, 0, 0, []), (14, 1, .aload_n 0, 0, 0, 0, 0, []), (15, 1, .iload_n 2, 0, 2, 0, 0, []), (16, 3, .invokevirtual 180, 0, 140, 2, 12, []), (19, 3, .ifCond .ne 9, 0, 28, 0, 0, []), (22, 1, .aload_n 0, 0, 0, 0, 0, []), (23, 1, .iconst 1, 1, 0, 0, 0, []), (24, 3, .invokevirtual 147, 0, 125, 2, 12, []), (27, 1, .ireturn, 0, 0, 0, 0, []), (28, 1, .aload_n 0, 0, 0, 0, 0, []), (29, 3, .getfield 74, 0, 12, 32, 177, []), (32, 1, .iload_n 2, 0, 2, 0, 0, []), (33, 1, .iaload, 0, 0, 0, 0, []), (34, 3, .ifCond .lt 9, 0, 43, 0, 0, []), (37, 1, .aload_n 0, 0, 0, 0, 0, []), (38, 1, .iconst 3, 3, 0, 0, 0, []), (39, 3, .invokevirtual 147, 0, 125, 2, 12, []), (42, 1, .ireturn, 0, 0, 0, 0, []), (43, 1, .aload_n 0, 0, 0, 0, 0, []), (44, 3, .getfield 74, 0, 12, 32, 177, []), (47, 1, .iload_n 2, 0, 2, 0, 0, []), (48, 1, .iload_n 1, 0, 1, 0, 0, []), (49, 1, .iastore, 0, 0, 0, 0, []), (50, 1, .aload_n 0, 0, 0, 0, 0, []), (51, 1, .dup, 0, 0, 0, 0, []), (52, 3, .getfield 274, 0, 12, 7, 152, []), (55, 1, .iconst 1, 1, 0, 0, 0, []), (56, 1, .iadd, 0, 0, 0, 0, []), (57, 3, .putfield 274, 0, 12, 7, 152, []), (60, 1, .aload_n 0, 0, 0, 0, 0, []), (61, 1, .iload_n 2, 0, 2, 0, 0, []), (62, 3, .invokevirtual 259, 0, 176, 2, 12, []), (65, 1, .ireturn, 0, 0, 0, 0, [])]
set_option maxRecDepth 100000 in
theorem ck_182 : (cd_182.all (okCE 12 3 prog_14_method_63_code)) = true := by decide +kernel
/-- TradeTestsModel.worth -/
def cd_183 : List CE := [(0, 1, .iload_n 1, 0, 1, 0, 0, []), (1, 1, .iconst 0, 0, 0, 0, 0, []), (2, 1, .aload_n 0, 0, 0, 0, 0, []), (3, 3, .getfield 271, 0, 12, 6, 151, []), (6, 1, .iconst 1, 1, 0, 0, 0, []), (7, 1, .isub, 0, 0, 0, 0, []), (8, 3, .invokestatic 127, 0, 123, 3, 0, []), (11, 3, .ifCond .eq 20, 0, 31, 0, 0, []), (14, 1, .aload_n 0, 0, 0, 0, 0, []), (15, 1, .iload_n 2, 0, 2, 0, 0, []), (16, 3, .invokevirtual 161, 0, 132, 2, 12, []), (19, 3, .ifCond .eq 12, 0, 31, 0, 0, []), (22, 1, .aload_n 0, 0, 0, 0, 0, []), (23, 1, .iload_n 1, 0, 1, 0, 0, []), (24, 1, .iload_n 2, 0, 2, 0, 0, []), (25, 3, .invokevirtual 277, 0, 184, 3, 12, []), (28, 3, .goto 8, 0, 36, 0, 0, []), (31, 1, .aload_n 0, 0, 0, 0, 0, []), (32, 1, .iconst 1, 1, 0, 0, 0, []), (33, 3, .invokevirtual 147, 0, 125, 2, 12, []), (36, 1, .ireturn, 0, 0, 0, 0, [])]
set_option maxRecDepth 100000 in
theorem ck_183 : (cd_183.all (okCE 12 3 prog_14_method_65_code)) = true := by decide +kernel
/-- TradeTestsModel.worthOf -/
def cd_184 : List CE := [(0, 1, .iconst 0, 0, 0, 0, 0, []), (1, 1, .istore_n 3, 0, 3, 0, 0, []), (2, 1, .iconst 0, 0, 0, 0, 0, []), (3, 2, .istore 4, 0, 4, 0, 0, []), (5, 2, .iload 4, 0, 4, 0, 0, []), (7, 1, .aload_n 0, 0, 0, 0, 0, []), (8, 3, .getfield 140, 0, 12, 4, 149, []), (11, 3, .if_icmp .ge 48, 0, 59, 0, 0, []), (14, 1, .iload_n 3, 0, 3, 0, 0, []), (15, 1, .aload_n 0, 0, 0, 0, 0, []), (16, 3, .getfield 74, 0, 12, 32, 177, []), (19, 2, .iload 4, 0, 4, 0, 0, []), (21, 1, .iaload, 0, 0, 0, 0, []), (22, 3, .ifCond .lt 28, 0, 50, 0, 0, []), (25, 1, .aload_n 0, 0, 0, 0, 0, []), (26, 2, .iload 4, 0, 4, 0, 0, []), (28, 3, .invokevirtual 183, 0, 141, 2, 12, []), (31, 1, .iload_n 2, 0, 2, 0, 0, []), (32, 3, .if_icmp .ne 18, 0, 50, 0, 0, []), (35, 1, .aload_n 0, 0, 0, 0, 0, []), (36, 3, .getfield 102, 0, 12, 41, 186, []), (39, 1, .aload_n 0, 0, 0, 0, 0, []), (40, 3, .getfield 74, 0, 12, 32, 177, []), (43, 2, .iload 4, 0, 4, 0, 0, []), (45, 1, .iaload, 0, 0, 0, 0, []), (46, 1, .iaload, 0, 0, 0, 0, []), (47, 3, .goto 4, 0, 51, 0, 0, []), (50, 1, .iconst 0, 0, 0, 0, 0, []), (51, 1, .ior, 0, 0, 0, 0, []), (52, 1, .istore_n 3, 0, 3, 0, 0, []), (53, 3, .iinc 4 1, 1, 4, 0, 0, []), (56, 3, .goto (-51), 0, 5, 0, 0, []), (59, 1, .aload_n 0, 0, 0, 0, 0, []), (60, 1, .iload_n 2, 0, 2, 0, 0, []), (61, 3, .invokevirtual 238, 0, 161, 2, 12, []), (64, 1, .aload_n 0, 0, 0, 0, 0, []), (65, 3, .getfield 102, 0, 12, 41, 186, []), (68, 1, .iload_n 1, 0, 1, 0, 0, []), (69, 1, .iaload, 0, 0, 0, 0, []), (70, 1, .iload_n 3, 0, 3, 0, 0, []), (71, 1, .iconst (-1), (-1), 0, 0, 0, []), (72, 1, .ixor, 0, 0, 0, 0, []), (73, 1, .iand, 0, 0, 0, 0, []), (74, 3, .invokestatic 230, 0, 160, 1, 0, []), (77, 1, .imul, 0, 0, 0, 0, []), (78, 1, .ireturn, 0, 0, 0, 0, [])]
set_option maxRecDepth 100000 in
theorem ck_184 : (cd_184.all (okCE 12 5 prog_14_method_64_code)) = true := by decide +kernel
/-- TradeTestsModel.plan -/
def cd_185 : List CE := [(0, 1, .iload_n 1, 0, 1, 0, 0, []), (1, 1, .iconst (-1), (-1), 0, 0, 0, []), (2, 1, .aload_n 0, 0, 0, 0, 0, []), (3, 3, .getfield 271, 0, 12, 6, 151, []), (6, 1, .iconst 1, 1, 0, 0, 0, []), (7, 1, .isub, 0, 0, 0, 0, []), (8, 3, .invokestatic 127, 0, 123, 3, 0, []), (11, 3, .ifCond .ne 9, 0, 20, 0, 0, []), (14, 1, .aload_n 0, 0, 0, 0, 0, []), (15, 1, .iconst 1, 1, 0, 0, 0, []), (16, 3, .invokevirtual 147, 0, 125, 2, 12, []), (19, 1, .ireturn, 0, 0, 0, 0, []), (20, 1, .aload_n 0, 0, 0, 0, 0, []), (21, 3, .invokevirtual 280, 0, 186, 1, 12, []), (24, 1, .istore_n 2, 0, 2, 0, 0, []), (25, 1, .iload_n 1, 0, 1, 0, 0, []), (26, 3, .ifCond .ge 5, 0, 31, 0, 0, []), (29, 1, .iload_n 2, 0, 2, 0, 0, []), (30, 1, .ireturn, 0, 0, 0, 0, []), (31, 1, .aload_n 0, 0, 0, 0, 0, []), (32, 3, .getfield 123, 0, 12, 49, 194, []), (35, 1, .iload_n 1, 0, 1, 0, 0, []), (36, 1, .iaload, 0, 0, 0, 0, []), (37, 3, .ifCond .ge 11, 0, 48, 0, 0, []), (40, 1, .aload_n 0, 0, 0, 0, 0, []), (41, 1, .iconst 2, 2, 0, 0, 0, []), (42, 3, .invokevirtual 147, 0, 125, 2, 12, []), (45, 3, .goto 9, 0, 54, 0, 0, []), (48, 1, .aload_n 0, 0, 0, 0, 0, []), (49, 3, .getfield 123, 0, 12, 49, 194, []), (52, 1, .iload_n 1, 0, 1, 0, 0, []), (53, 1, .iaload, 0, 0, 0, 0, []), (54, 1, .ireturn, 0, 0, 0, 0, [])]
set_option maxRecDepth 100000 in
theorem ck_185 : (cd_185.all (okCE 12 3 prog_14_method_67_code)) = true := by decide +kernel
/-- TradeTestsModel.findPlan -/
def cd_186 : List CE := [(0, 1, .iconst 0, 0, 0, 0, 0, []), (1, 1, .istore_n 1, 0, 1, 0, 0, []), (2, 1, .iload_n 1, 0, 1, 0, 0, []), (3, 1, .aload_n 0, 0, 0, 0, 0, []), (4, 3, .getfield 271, 0, 12, 6, 151, []), (7, 3, .if_icmp .ge 42, 0, 49, 0, 0, []), (10, 1, .iconst 0, 0, 0, 0, 0, []), (11, 1, .istore_n 2, 0, 2, 0, 0, []), (12, 1, .iload_n 2, 0, 2, 0, 0, []), (13, 1, .aload_n 0, 0, 0, 0, 0, []), (14, 3, .getfield 134, 0, 12, 1, 146, []), (17, 3, .if_icmp .ge 26, 0, 43, 0, 0, []), (20, 1, .aload_n 0, 0, 0, 0, 0, []), (21, 3, .getfield 120, 0, 12, 48, 193, []), (24, 2, .bipush 6, 6, 0, 0, 0, []), (26, 1, .iload_n 1, 0, 1, 0, 0, []), (27, 1, .imul, 0, 0, 0, 0, []), (28, 1, .iload_n 2, 0, 2, 0, 0, []), (29, 1, .iadd, 0, 0, 0, 0, []), (30, 1, .aload_n 0, 0, 0, 0, 0, []), (31, 1, .iload_n 1, 0, 1, 0, 0, []), (32, 1, .iload_n 2, 0, 2, 0, 0, []), (33, 3, .invokevirtual 277, 0, 184, 3, 12, []), (36, 1, .iastore, 0, 0, 0, 0, []), (37, 3, .iinc 2 1, 1, 2, 0, 0, []), (40, 3, .goto (-28), 0, 12, 0, 0, []), (43, 3, .iinc 1 1, 1, 1, 0, 0, []), (46, 3, .goto (-44), 0, 2, 0, 0, []), (49, 1, .iconst 0, 0, 0, 0, 0, []), (50, 1, .istore_n 1, 0, 1, 0, 0, []), (51, 1, .iload_n 1, 0, 1, 0, 0, []), (52, 2, .bipush 64, 64, 0, 0, 0, []), (54, 3, .if_icmp .ge 24, 0, 78, 0, 0, []), (57, 1, .aload_n 0, 0, 0, 0, 0, []), (58, 3, .getfield 117, 0, 12, 47, 192, []), (61, 2, .bipush 64, 64, 0, 0, 0, []), (63, 1, .aload_n 0, 0, 0, 0, 0, []), (64, 3, .getfield 271, 0, 12, 6, 151, []), (67, 1, .imul, 0, 0, 0, 0, []), (68, 1, .iload_n 1, 0, 1, 0, 0, []), (69, 1, .iadd, 0, 0, 0, 0, []), (70, 1, .iconst 0, 0, 0, 0, 0, []), (71, 1, .iastore, 0, 0, 0, 0, []), (72, 3, .iinc 1 1, 1, 1, 0, 0, []), (75, 3, .goto (-24), 0, 51, 0, 0, []), (78, 1, .aload_n 0, 0, 0, 0, 0, []), (79, 3, .getfield 271, 0, 12, 6, 151, []), (82, 1, .iconst 1, 1, 0, 0, 0, []), (83, 1, .isub, 0, 0, 0, 0, []), (84, 1, .istore_n 1, 0, 1, 0, 0, []), (85, 1, .iload_n 1, 0, 1, 0, 0, []), (86, 3, .ifCond .lt 129, 0, 215, 0, 0, []), (89, 1, .iconst 0, 0, 0, 0, 0, []), (90, 1, .istore_n 2, 0, 2, 0, 0, []), (91, 1, .iload_n 2, 0, 2, 0, 0, []), (92, 2, .bipush 64, 64, 0, 0, 0, []), (94, 3, .if_icmp .ge 115, 0, 209, 0, 0, []), (97, 1, .aload_n 0, 0, 0, 0, 0, []), (98, 3, .getfield 117, 0, 12, 47, 192, []), (101, 2, .bipush 64, 64, 0, 0, 0, []), (103, 1, .iload_n 1, 0, 1, 0, 0, []), (104, 1, .imul, 0, 0, 0, 0, []), (105, 2, .bipush 64, 64, 0, 0, 0, []), (107, 1, .iadd, 0, 0, 0, 0, []), (108, 1, .iload_n 2, 0, 2, 0, 0, []), (109, 1, .iadd, 0, 0, 0, 0, []), (110, 1, .iaload, 0, 0, 0, 0, []), (111, 1, .istore_n 3, 0, 3, 0, 0, []), (112, 1, .iconst 0, 0, 0, 0, 0, []), (113, 2, .istore 4, 0, 4, 0, 0, []), (115, 2, .iload 4, 0, 4, 0, 0, []), (117, 1, .aload_n 0, 0, 0, 0, 0, []), (118, 3, .getfield 134, 0, 12, 1, 146, []), (121, 3, .if_icmp .ge 70, 0, 191, 0, 0, []), (124, 1, .iload_n 2, 0, 2, 0, 0, []), (125, 2, .iload 4, 0, 4, 0, 0, []), (127, 1, .ishr, 0, 0, 0, 0, []), (128, 1, .iconst 1, 1, 0, 0, 0, []), (129, 1, .iand, 0, 0, 0, 0, []), (130, 1, .iconst 1, 1, 0, 0, 0, []), (131, 3, .if_icmp .ne 7, 0, 138, 0, 0, []), (134, 1, .iconst 0, 0, 0, 0, 0, []), (135, 3, .goto 35, 0, 170, 0, 0, []), (138, 1, .aload_n 0, 0, 0, 0, 0, []), (139, 3, .getfield 120, 0, 12, 48, 193, []), (142, 2, .bipush 6, 6, 0, 0, 0, []), (144, 1, .iload_n 1, 0, 1, 0, 0, []), (145, 1, .imul, 0, 0, 0, 0, []), (146, 2, .iload 4, 0, 4, 0, 0, []), (148, 1, .iadd, 0, 0, 0, 0, []), (149, 1, .iaload, 0, 0, 0, 0, []), (150, 1, .aload_n 0, 0, 0, 0, 0, []), (151, 3, .getfield 117, 0, 12, 47, 192, []), (154, 2, .bipush 64, 64, 0, 0, 0, []), (156, 1, .iload_n 1, 0, 1, 0, 0, []), (157, 1, .imul, 0, 0, 0, 0, []), (158, 2, .bipush 64, 64, 0, 0, 0, []), (160, 1, .iadd, 0, 0, 0, 0, []), (161, 1, .iload_n 2, 0, 2, 0, 0, []), (162, 1, .iconst 1, 1, 0, 0, 0, []), (163, 2, .iload 4, 0, 4, 0, 0, []), (165, 1, .ishl, 0, 0, 0, 0, []), (166, 1, .ior, 0, 0, 0, 0, []), (167, 1, .iadd, 0, 0, 0, 0, []), (168, 1, .iaload, 0, 0, 0, 0, []), (169, 1, .iadd, 0, 0, 0, 0, []), (170, 2, .istore 5, 0, 5, 0, 0, []), (172, 2, .iload 5, 0, 5, 0, 0, []), (174, 1, .iload_n 3, 0, 3, 0, 0, []), (175, 3, .if_icmp .le 8, 0, 183, 0, 0, []), (178, 2, .iload 5, 0, 5, 0, 0, []), (180, 3, .goto 4, 0, 184, 0, 0, []), (183, 1, .iload_n 3, 0, 3, 0, 0, []), (184, 1, .istore_n 3, 0, 3, 0, 0, []), (185, 3, .iinc 4 1, 1, 4, 0, 0, []), (188, 3, .goto (-73), 0, 115, 0, 0, []), (191, 1, .aload_n 0, 0, 0, 0, 0, []), (192, 3, .getfield 117, 0, 12, 47, 192, []), (195, 2, .bipush 64, 64, 0, 0, 0, []), (197, 1, .iload_n 1, 0, 1, 0, 0, []), (198, 1, .imul, 0, 0, 0, 0, []), (199, 1, .iload_n 2, 0, 2, 0, 0, []), (200, 1, .iadd, 0, 0, 0, 0, []), (201, 1, .iload_n 3, 0, 3, 0, 0, []), (202, 1, .iastore, 0, 0, 0, 0, []), (203, 3, .iinc 2 1, 1, 2, 0, 0, []), (206, 3, .goto (-115), 0, 91, 0, 0, []), (209, 3, .iinc 1 (-1), (-1), 1, 0, 0, []), (212, 3, .goto (-127), 0, 85, 0, 0, []), (215, 1, .iconst 0, 0, 0, 0, 0, []), (216, 1, .istore_n 1, 0, 1, 0, 0, []), (217, 1, .iconst 0, 0, 0, 0, 0, []), (218, 1, .istore_n 2, 0, 2, 0, 0, []), (219, 1, .iload_n 2, 0, 2, 0, 0, []), (220, 1, .aload_n 0, 0, 0, 0, 0, []), (221, 3, .getfield 271, 0, 12, 6, 151, []), (224, 3, .if_icmp .ge 116, 0, 340, 0, 0, []), (227, 1, .aload_n 0, 0, 0, 0, 0, []), (228, 3, .getfield 123, 0, 12, 49, 194, []), (231, 1, .iload_n 2, 0, 2, 0, 0, []), (232, 1, .iconst (-1), (-1), 0, 0, 0, []), (233, 1, .iastore, 0, 0, 0, 0, []), (234, 1, .aload_n 0, 0, 0, 0, 0, []), (235, 3, .getfield 134, 0, 12, 1, 146, []), (238, 1, .iconst 1, 1, 0, 0, 0, []), (239, 1, .isub, 0, 0, 0, 0, []), (240, 1, .istore_n 3, 0, 3, 0, 0, []), (241, 1, .iload_n 3, 0, 3, 0, 0, []), (242, 3, .ifCond .lt 68, 0, 310, 0, 0, []), (245, 1, .iload_n 1, 0, 1, 0, 0, []), (246, 1, .iload_n 3, 0, 3, 0, 0, []), (247, 1, .ishr, 0, 0, 0, 0, []), (248, 1, .iconst 1, 1, 0, 0, 0, []), (249, 1, .iand, 0, 0, 0, 0, []), (250, 3, .ifCond .ne 54, 0, 304, 0, 0, []), (253, 1, .aload_n 0, 0, 0, 0, 0, []), (254, 3, .getfield 120, 0, 12, 48, 193, []), (257, 2, .bipush 6, 6, 0, 0, 0, []), (259, 1, .iload_n 2, 0, 2, 0, 0, []), (260, 1, .imul, 0, 0, 0, 0, []), (261, 1, .iload_n 3, 0, 3, 0, 0, []), (262, 1, .iadd, 0, 0, 0, 0, []), (263, 1, .iaload, 0, 0, 0, 0, []), (264, 1, .aload_n 0, 0, 0, 0, 0, []), (265, 3, .getfield 117, 0, 12, 47, 192, []), (268, 2, .bipush 64, 64, 0, 0, 0, []), (270, 1, .iload_n 2, 0, 2, 0, 0, []), (271, 1, .imul, 0, 0, 0, 0, []), (272, 2, .bipush 64, 64, 0, 0, 0, []), (274, 1, .iadd, 0, 0, 0, 0, []), (275, 1, .iload_n 1, 0, 1, 0, 0, []), (276, 1, .iconst 1, 1, 0, 0, 0, []), (277, 1, .iload_n 3, 0, 3, 0, 0, []), (278, 1, .ishl, 0, 0, 0, 0, []), (279, 1, .ior, 0, 0, 0, 0, []), (280, 1, .iadd, 0, 0, 0, 0, []), (281, 1, .iaload, 0, 0, 0, 0, []), (282, 1, .iadd, 0, 0, 0, 0, []), (283, 1, .aload_n 0, 0, 0, 0, 0, []), (284, 3, .getfield 117, 0, 12, 47, 192, []), (287, 2, .bipush 64, 64, 0, 0, 0, []), (289, 1, .iload_n 2, 0, 2, 0, 0, []), (290, 1, .imul, 0, 0, 0, 0, []), (291, 1, .iload_n 1, 0, 1, 0, 0, []), (292, 1, .iadd, 0, 0, 0, 0, []), (293, 1, .iaload, 0, 0, 0, 0, []), (294, 3, .if_icmp .ne 10, 0, 304, 0, 0, []), (297, 1, .aload_n 0, 0, 0, 0, 0, []), (298, 3, .getfield 123, 0, 12, 49, 194, []), (301, 1, .iload_n 2, 0, 2, 0, 0, []), (302, 1, .iload_n 3, 0, 3, 0, 0, []), (303, 1, .iastore, 0, 0, 0, 0, []), (304, 3, .iinc 3 (-1), (-1), 3, 0, 0, []), (307, 3, .goto (-66), 0, 241, 0, 0, []), (310, 1, .iload_n 1, 0, 1, 0, 0, []), (311, 1, .aload_n 0, 0, 0, 0, 0, []), (312, 3, .getfield 123, 0, 12, 49, 194, []), (315, 1, .iload_n 2, 0, 2, 0, 0, []), (316, 1, .iaload, 0, 0, 0, 0, []), (317, 3, .ifCond .ge 7, 0, 324, 0, 0, []), (320, 1, .iconst 0, 0, 0, 0, 0, []), (321, 3, .goto 11, 0, 332, 0, 0, []), (324, 1, .iconst 1, 1, 0, 0, 0, []), (325, 1, .aload_n 0, 0, 0, 0, 0, []), (326, 3, .getfield 123, 0, 12, 49, 194, []), (329, 1, .iload_n 2, 0, 2, 0, 0, []), (330, 1, .iaload, 0, 0, 0, 0, []), (331, 1, .ishl, 0, 0, 0, 0, []), (332, 1, .ior, 0, 0, 0, 0, []), (333, 1, .istore_n 1, 0, 1, 0, 0, []), (334, 3, .iinc 2 1, 1, 2, 0, 0, []), (337, 3, .goto (-118), 0, 219, 0, 0, []), (340, 1, .aload_n 0, 0, 0, 0, 0, []), (341, 3, .getfield 117, 0, 12, 47, 192, []), (344, 1, .iconst 0, 0, 0, 0, 0, []), (345, 1, .iaload, 0, 0, 0, 0, []), (346, 1, .ireturn, 0, 0, 0, 0, [])]
set_option maxRecDepth 100000 in
theorem ck_186 : (cd_186.all (okCE 12 6 prog_14_method_66_code)) = true := by decide +kernel
/-- TradeTestsModel.draw -/
def cd_187 : List CE := [(0, 1, .aload_n 0, 0, 0, 0, 0, []), (1, 1, .iload_n 1, 0, 1, 0, 0, []), (2, 3, .invokevirtual 180, 0, 140, 2, 12, []), (5, 3, .ifCond .eq 22, 0, 27, 0, 0, []), (8, 1, .iload_n 2, 0, 2, 0, 0, []), (9, 1, .iconst 1, 1, 0, 0, 0, []), (10, 2, .bipush 100, 100, 0, 0, 0, []), (12, 3, .invokestatic 127, 0, 123, 3, 0, []), (15, 3, .ifCond .eq 12, 0, 27, 0, 0, []), (18, 1, .iload_n 3, 0, 3, 0, 0, []), (19, 1, .iconst 0, 0, 0, 0, 0, []), (20, 1, .iconst 1, 1, 0, 0, 0, []), (21, 3, .invokestatic 127, 0, 123, 3, 0, []), (24, 3, .ifCond .ne 9, 0, 33, 0, 0, []), (27, 1, .aload_n 0, 0, 0, 0, 0, []), (28, 1, .iconst 1, 1, 0, 0, 0, []), (29, 3, .invokevirtual 147, 0, 125, 2, 12, []), (32, 1, .ireturn, 0, 0, 0, 0, []), (33, 1, .aload_n 0, 0, 0, 0, 0, []), (34, 3, .getfield 77, 0, 12, 33, 178, []), (37, 1, .iload_n 1, 0, 1, 0, 0, []), (38, 1, .iaload, 0, 0, 0, 0, []), (39, 3, .ifCond .le 9, 0, 48, 0, 0, []), (42, 1, .aload_n 0, 0, 0, 0, 0, []), (43, 1, .iconst 3, 3, 0, 0, 0, []), (44, 3, .invokevirtual 147, 0, 125, 2, 12, []), (47, 1, .ireturn, 0, 0, 0, 0, []), (48, 1, .aload_n 0, 0, 0, 0, 0, []), (49, 3, .getfield 77, 0, 12, 33, 178, []), (52, 1, .iload_n 1, 0, 1, 0, 0, []), (53, 1, .iload_n 2, 0, 2, 0, 0, []), (54, 1, .iastore, 0, 0, 0, 0, []), (55, 1, .aload_n 0, 0, 0, 0, 0, []), (56, 3, .getfield 87, 0, 12, 36, 181, []), (59, 1, .iload_n 1, 0, 1, 0, 0, []), (60, 1, .iload_n 3, 0, 3, 0, 0, []), (61, 1, .iconst 1, 1, 0, 0, 0, []), (62, 3, .if_icmp .ne 7, 0, 69, 0, 0, []), (65, 1, .iconst 1, 1, 0, 0, 0, []), (66, 3, .goto 4, 0, 70, 0, 0, []), (69, 1, .iconst 0, 0, 0, 0, 0, []), (70, 1, .bastore, 0, 0, 0, 0, []), (71, 1, .aload_n 0, 0, 0, 0, 0, []), (72, 1, .dup, 0, 0, 0, 0, []), (73, 3, .getfield 283, 0, 12, 8, 153, []), (76, 1, .iconst 1, 1, 0, 0, 0, []), (77, 1, .iadd, 0, 0, 0, 0, []), (78, 3, .putfield 283, 0, 12, 8, 153, []), (81, 1, .aload_n 0, 0, 0, 0, 0, []), (82, 3, .getfield 283, 0, 12, 8, 153, []), (85, 1, .ireturn, 0, 0, 0, 0, [])]
set_option maxRecDepth 100000 in
theorem ck_187 : (cd_187.all (okCE 12 4 prog_14_method_68_code)) = true := by decide +kernel
/-- TradeTestsModel.error -/
def cd_188 : List CE := [(0, 1, .aload_n 0, 0, 0, 0, 0, []), (1, 3, .getfield 283, 0, 12, 8, 153, []), (4, 3, .ifCond .ne 9, 0, 13, 0, 0, []), (7, 1, .aload_n 0, 0, 0, 0, 0, []), (8, 1, .iconst 2, 2, 0, 0, 0, []), (9, 3, .invokevirtual 147, 0, 125, 2, 12, []), (12, 1, .ireturn, 0, 0, 0, 0, []), (13, 1, .iconst 0, 0, 0, 0, 0, []), (14, 1, .istore_n 1, 0, 1, 0, 0, []), (15, 1, .iconst 0, 0, 0, 0, 0, []), (16, 1, .istore_n 2, 0, 2, 0, 0, []), (17, 1, .iconst 0, 0, 0, 0, 0, []), (18, 1, .istore_n 3, 0, 3, 0, 0, []), (19, 1, .iload_n 3, 0, 3, 0, 0, []), (20, 1, .aload_n 0, 0, 0, 0, 0, []), (21, 3, .getfield 140, 0, 12, 4, 149, []), (24, 3, .if_icmp .ge 57, 0, 81, 0, 0, []), (27, 1, .aload_n 0, 0, 0, 0, 0, []), (28, 3, .getfield 77, 0, 12, 33, 178, []), (31, 1, .iload_n 3, 0, 3, 0, 0, []), (32, 1, .iaload, 0, 0, 0, 0, []), (33, 3, .ifCond .ne 7, 0, 40, 0, 0, []), (36, 1, .iconst 0, 0, 0, 0, 0, []), (37, 3, .goto 13, 0, 50, 0, 0, []), (40, 3, .sipush 10000, 10000, 0, 0, 0, []), (43, 1, .aload_n 0, 0, 0, 0, 0, []), (44, 3, .getfield 77, 0, 12, 33, 178, []), (47, 1, .iload_n 3, 0, 3, 0, 0, []), (48, 1, .iaload, 0, 0, 0, 0, []), (49, 1, .idiv, 0, 0, 0, 0, []), (50, 2, .istore 4, 0, 4, 0, 0, []), (52, 1, .iload_n 1, 0, 1, 0, 0, []), (53, 2, .iload 4, 0, 4, 0, 0, []), (55, 1, .iadd, 0, 0, 0, 0, []), (56, 1, .istore_n 1, 0, 1, 0, 0, []), (57, 1, .iload_n 2, 0, 2, 0, 0, []), (58, 1, .aload_n 0, 0, 0, 0, 0, []), (59, 3, .getfield 87, 0, 12, 36, 181, []), (62, 1, .iload_n 3, 0, 3, 0, 0, []), (63, 1, .baload, 0, 0, 0, 0, []), (64, 3, .ifCond .eq 8, 0, 72, 0, 0, []), (67, 2, .iload 4, 0, 4, 0, 0, []), (69, 3, .goto 4, 0, 73, 0, 0, []), (72, 1, .iconst 0, 0, 0, 0, 0, []), (73, 1, .iadd, 0, 0, 0, 0, []), (74, 1, .istore_n 2, 0, 2, 0, 0, []), (75, 3, .iinc 3 1, 1, 3, 0, 0, []), (78, 3, .goto (-59), 0, 19, 0, 0, []), (81, 3, .ldc2_w 233, 1000, 0, 0, 0, []), (84, 1, .iload_n 2, 0, 2, 0, 0, []), (85, 1, .i2l, 0, 0, 0, 0, []), (86, 1, .lmul, 0, 0, 0, 0, []), (87, 1, .iload_n 1, 0, 1, 0, 0, []), (88, 1, .i2l, 0, 0, 0, 0, []), (89, 1, .ldiv, 0, 0, 0, 0, []), (90, 1, .l2i, 0, 0, 0, 0, []), (91, 1, .ireturn, 0, 0, 0, 0, [])]
set_option maxRecDepth 100000 in
theorem ck_188 : (cd_188.all (okCE 12 5 prog_14_method_69_code)) = true := by decide +kernel
/-- TradeTestsModel.leans -/
def cd_189 : List CE := [(0, 1, .iload_n 1, 0, 1, 0, 0, []), (1, 1, .iconst (-1), (-1), 0, 0, 0, []), (2, 1, .aload_n 0, 0, 0, 0, 0, []), (3, 3, .getfield 131, 0, 12, 0, 145, []), (6, 1, .iconst 1, 1, 0, 0, 0, []), (7, 1, .isub, 0, 0, 0, 0, []), (8, 3, .invokestatic 127, 0, 123, 3, 0, []), (11, 3, .ifCond .eq 10, 0, 21, 0, 0, []), (14, 1, .iload_n 2, 0, 2, 0, 0, []), (15, 3, .invokestatic 143, 0, 124, 1, 0, []), (18, 3, .ifCond .ne 9, 0, 27, 0, 0, []), (21, 1, .aload_n 0, 0, 0, 0, 0, []), (22, 1, .iconst 1, 1, 0, 0, 0, []), (23, 3, .invokevirtual 147, 0, 125, 2, 12, []), (26, 1, .ireturn, 0, 0, 0, 0, []), (27, 1, .iload_n 1, 0, 1, 0, 0, []), (28, 3, .ifCond .lt 10, 0, 38, 0, 0, []), (31, 1, .aload_n 0, 0, 0, 0, 0, []), (32, 1, .iload_n 1, 0, 1, 0, 0, []), (33, 1, .iload_n 2, 0, 2, 0, 0, []), (34, 3, .invokevirtual 286, 0, 190, 3, 12, []), (37, 1, .ireturn, 0, 0, 0, 0, []), (38, 1, .iconst 0, 0, 0, 0, 0, []), (39, 1, .istore_n 3, 0, 3, 0, 0, []), (40, 1, .iconst 0, 0, 0, 0, 0, []), (41, 2, .istore 4, 0, 4, 0, 0, []), (43, 2, .iload 4, 0, 4, 0, 0, []), (45, 1, .aload_n 0, 0, 0, 0, 0, []), (46, 3, .getfield 131, 0, 12, 0, 145, []), (49, 3, .if_icmp .ge 19, 0, 68, 0, 0, []), (52, 1, .iload_n 3, 0, 3, 0, 0, []), (53, 1, .aload_n 0, 0, 0, 0, 0, []), (54, 2, .iload 4, 0, 4, 0, 0, []), (56, 1, .iload_n 2, 0, 2, 0, 0, []), (57, 3, .invokevirtual 286, 0, 190, 3, 12, []), (60, 1, .iadd, 0, 0, 0, 0, []), (61, 1, .istore_n 3, 0, 3, 0, 0, []), (62, 3, .iinc 4 1, 1, 4, 0, 0, []), (65, 3, .goto (-22), 0, 43, 0, 0, []), (68, 1, .iload_n 3, 0, 3, 0, 0, []), (69, 1, .ireturn, 0, 0, 0, 0, [])]
set_option maxRecDepth 100000 in
theorem ck_189 : (cd_189.all (okCE 12 5 prog_14_method_71_code)) = true := by decide +kernel
/-- TradeTestsModel.leansOn -/
def cd_190 : List CE := [(0, 1, .iconst (-1), (-1), 0, 0, 0, []), (1, 1, .istore_n 3, 0, 3, 0, 0, []), (2, 1, .iconst 0, 0, 0, 0, 0, []), (3, 2, .istore 4, 0, 4, 0, 0, []), (5, 2, .iload 4, 0, 4, 0, 0, []), (7, 1, .aload_n 0, 0, 0, 0, 0, []), (8, 3, .getfield 140, 0, 12, 4, 149, []), (11, 3, .if_icmp .ge 38, 0, 49, 0, 0, []), (14, 1, .aload_n 0, 0, 0, 0, 0, []), (15, 3, .getfield 47, 0, 12, 23, 168, []), (18, 2, .iload 4, 0, 4, 0, 0, []), (20, 1, .iaload, 0, 0, 0, 0, []), (21, 1, .iload_n 1, 0, 1, 0, 0, []), (22, 3, .if_icmp .ne 19, 0, 41, 0, 0, []), (25, 1, .aload_n 0, 0, 0, 0, 0, []), (26, 3, .getfield 53, 0, 12, 25, 170, []), (29, 2, .iload 4, 0, 4, 0, 0, []), (31, 1, .iaload, 0, 0, 0, 0, []), (32, 1, .iload_n 2, 0, 2, 0, 0, []), (33, 3, .if_icmp .gt 8, 0, 41, 0, 0, []), (36, 2, .iload 4, 0, 4, 0, 0, []), (38, 3, .goto 4, 0, 42, 0, 0, []), (41, 1, .iload_n 3, 0, 3, 0, 0, []), (42, 1, .istore_n 3, 0, 3, 0, 0, []), (43, 3, .iinc 4 1, 1, 4, 0, 0, []), (46, 3, .goto (-41), 0, 5, 0, 0, []), (49, 1, .iload_n 3, 0, 3, 0, 0, []), (50, 3, .ifCond .lt 32, 0, 82, 0, 0, []), (53, 1, .aload_n 0, 0, 0, 0, 0, []), (54, 1, .iload_n 3, 0, 3, 0, 0, []), (55, 3, .invokevirtual 218, 0, 154, 2, 12, []), (58, 1, .iconst 1, 1, 0, 0, 0, []), (59, 3, .if_icmp .ne 23, 0, 82, 0, 0, []), (62, 1, .iload_n 2, 0, 2, 0, 0, []), (63, 1, .aload_n 0, 0, 0, 0, 0, []), (64, 3, .getfield 53, 0, 12, 25, 170, []), (67, 1, .iload_n 3, 0, 3, 0, 0, []), (68, 1, .iaload, 0, 0, 0, 0, []), (69, 1, .aload_n 0, 0, 0, 0, 0, []), (70, 1, .iload_n 1, 0, 1, 0, 0, []), (71, 3, .invokevirtual 158, 0, 129, 2, 12, []), (74, 1, .iadd, 0, 0, 0, 0, []), (75, 3, .if_icmp .gt 7, 0, 82, 0, 0, []), (78, 1, .iconst 1, 1, 0, 0, 0, []), (79, 3, .goto 4, 0, 83, 0, 0, []), (82, 1, .iconst 0, 0, 0, 0, 0, []), (83, 1, .ireturn, 0, 0, 0, 0, [])]
set_option maxRecDepth 100000 in
theorem ck_190 : (cd_190.all (okCE 12 5 prog_14_method_70_code)) = true := by decide +kernel
/-- TradeTestsModel.tell -/
def cd_191 : List CE := [(0, 1, .aload_n 0, 0, 0, 0, 0, []), (1, 3, .getfield 289, 0, 12, 10, 155, []), (4, 2, .bipush 8, 8, 0, 0, 0, []), (6, 3, .if_icmp .ne 9, 0, 15, 0, 0, []), (9, 1, .aload_n 0, 0, 0, 0, 0, []), (10, 1, .iconst 4, 4, 0, 0, 0, []), (11, 3, .invokevirtual 147, 0, 125, 2, 12, []), (14, 1, .ireturn, 0, 0, 0, 0, []), (15, 1, .aload_n 0, 0, 0, 0, 0, []), (16, 3, .getfield 108, 0, 12, 43, 188, []), (19, 1, .aload_n 0, 0, 0, 0, 0, []), (20, 3, .getfield 289, 0, 12, 10, 155, []), (23, 1, .iload_n 1, 0, 1, 0, 0, []), (24, 1, .iastore, 0, 0, 0, 0, []), (25, 1, .aload_n 0, 0, 0, 0, 0, []), (26, 1, .dup, 0, 0, 0, 0, []), (27, 3, .getfield 289, 0, 12, 10, 155, []), (30, 1, .iconst 1, 1, 0, 0, 0, []), (31, 1, .iadd, 0, 0, 0, 0, []), (32, 3, .putfield 289, 0, 12, 10, 155, []), (35, 1, .aload_n 0, 0, 0, 0, 0, []), (36, 3, .getfield 289, 0, 12, 10, 155, []), (39, 1, .ireturn, 0, 0, 0, 0, [])]
set_option maxRecDepth 100000 in
theorem ck_191 : (cd_191.all (okCE 12 2 prog_14_method_72_code)) = true := by decide +kernel
/-- TradeTestsModel.check -/
def cd_192 : List CE := [(0, 1, .aload_n 0, 0, 0, 0, 0, []), (1, 3, .getfield 289, 0, 12, 10, 155, []), (4, 1, .istore_n 2, 0, 2, 0, 0, []), (5, 1, .aload_n 0, 0, 0, 0, 0, []), (6, 1, .iconst 0, 0, 0, 0, 0, []), (7, 3, .putfield 289, 0, 12, 10, 155, []), (10, 1, .iload_n 1, 0, 1, 0, 0, []), (11, 3, .invokestatic 143, 0, 124, 1, 0, []), (14, 3, .ifCond .ne 9, 0, 23, 0, 0, []), (17, 1, .aload_n 0, 0, 0, 0, 0, []), (18, 1, .iconst 1, 1, 0, 0, 0, []), (19, 3, .invokevirtual 147, 0, 125, 2, 12, []), (22, 1, .ireturn, 0, 0, 0, 0, []), (23, 1, .aload_n 0, 0, 0, 0, 0, []), (24, 3, .invokevirtual 265, 0, 178, 1, 12, []), (27, 1, .iconst 0, 0, 0, 0, 0, []), (28, 1, .istore_n 3, 0, 3, 0, 0, []), (29, 1, .iload_n 3, 0, 3, 0, 0, []), (30, 1, .iload_n 2, 0, 2, 0, 0, []), (31, 3, .if_icmp .ge 36, 0, 67, 0, 0, []), (34, 1, .iload_n 3, 0, 3, 0, 0, []), (35, 1, .aload_n 0, 0, 0, 0, 0, []), (36, 3, .getfield 137, 0, 12, 2, 147, []), (39, 3, .if_icmp .ge 18, 0, 57, 0, 0, []), (42, 1, .aload_n 0, 0, 0, 0, 0, []), (43, 1, .iload_n 3, 0, 3, 0, 0, []), (44, 1, .iload_n 1, 0, 1, 0, 0, []), (45, 3, .invokevirtual 268, 0, 179, 3, 12, []), (48, 1, .aload_n 0, 0, 0, 0, 0, []), (49, 3, .getfield 108, 0, 12, 43, 188, []), (52, 1, .iload_n 3, 0, 3, 0, 0, []), (53, 1, .iaload, 0, 0, 0, 0, []), (54, 3, .if_icmp .eq 7, 0, 61, 0, 0, []), (57, 1, .iconst 1, 1, 0, 0, 0, []), (58, 1, .iload_n 3, 0, 3, 0, 0, []), (59, 1, .iadd, 0, 0, 0, 0, []), (60, 1, .ireturn, 0, 0, 0, 0, []), (61, 3, .iinc 3 1, 1, 3, 0, 0, []), (64, 3, .goto (-35), 0, 29, 0, 0, []), (67, 1, .iconst 0, 0, 0, 0, 0, []), (68, 1, .ireturn, 0, 0, 0, 0, [])]
set_option maxRecDepth 100000 in
theorem ck_192 : (cd_192.all (okCE 12 4 prog_14_method_73_code)) = true := by decide +kernel
/-- TradeTestsModel.count -/
def cd_193 : List CE := [(0, 1, .iconst 0, 0, 0, 0, 0, []), (1, 1, .istore_n 2, 0, 2, 0, 0, []), (2, 1, .iload_n 1, 0, 1, 0, 0, []), (3, 57, .tableswitch 141 0 10 #[57, 62, 67, 72, 77, 82, 87, 92, 97, 102, 107], 0, 144, 0, 0, [(0, 60), (1, 65), (2, 70), (3, 75), (4, 80), (5, 85), (6, 90), (7, 95), (8, 100), (9, 105), (10, 110)]), (60, 1, .aload_n 0, 0, 0, 0, 0, []), (61, 3, .getfield 131, 0, 12, 0, 145, []), (64, 1, .ireturn, 0, 0, 0, 0, []), (65, 1, .aload_n 0, 0, 0, 0, 0, []), (66, 3, .getfield 134, 0, 12, 1, 146, []), (69, 1, .ireturn, 0, 0, 0, 0, []), (70, 1, .aload_n 0, 0, 0, 0, 0, []), (71, 3, .getfield 137, 0, 12, 2, 147, []), (74, 1, .ireturn, 0, 0, 0, 0, []), (75, 1, .aload_n 0, 0, 0, 0, 0, []), (76, 3, .getfield 140, 0, 12, 4, 149, []), (79, 1, .ireturn, 0, 0, 0, 0, []), (80, 1, .aload_n 0, 0, 0, 0, 0, []), (81, 3, .getfield 199, 0, 12, 5, 150, []), (84, 1, .ireturn, 0, 0, 0, 0, []), (85, 1, .aload_n 0, 0, 0, 0, 0, []), (86, 3, .getfield 271, 0, 12, 6, 151, []), (89, 1, .ireturn, 0, 0, 0, 0, []), (90, 1, .aload_n 0, 0, 0, 0, 0, []), (91, 3, .getfield 274, 0, 12, 7, 152, []), (94, 1, .ireturn, 0, 0, 0, 0, []), (95, 1, .aload_n 0, 0, 0, 0, 0, []), (96, 3, .getfield 283, 0, 12, 8, 153, []), (99, 1, .ireturn, 0, 0, 0, 0, []), (100, 1, .aload_n 0, 0, 0, 0, 0, []), (101, 3, .getfield 186, 0, 12, 9, 154, []), (104, 1, .ireturn, 0, 0, 0, 0, []), (105, 1, .aload_n 0, 0, 0, 0, 0, []), (106, 3, .getfield 289, 0, 12, 10, 155, []), (109, 1, .ireturn, 0, 0, 0, 0, []), (110, 1, .iconst 0, 0, 0, 0, 0, []), (111, 1, .istore_n 3, 0, 3, 0, 0, []), (112, 1, .iload_n 3, 0, 3, 0, 0, []), (113, 1, .aload_n 0, 0, 0, 0, 0, []), (114, 3, .getfield 140, 0, 12, 4, 149, []), (117, 3, .if_icmp .ge 25, 0, 142, 0, 0, []), (120, 1, .iload_n 2, 0, 2, 0, 0, []), (121, 1, .aload_n 0, 0, 0, 0, 0, []), (122, 1, .iload_n 3, 0, 3, 0, 0, []), (123, 3, .invokevirtual 227, 0, 162, 2, 12, []), (126, 3, .ifCond .le 7, 0, 133, 0, 0, []), (129, 1, .iconst 1, 1, 0, 0, 0, []), (130, 3, .goto 4, 0, 134, 0, 0, []), (133, 1, .iconst 0, 0, 0, 0, 0, []), (134, 1, .iadd, 0, 0, 0, 0, []), (135, 1, .istore_n 2, 0, 2, 0, 0, []), (136, 3, .iinc 3 1, 1, 3, 0, 0, []), (139, 3, .goto (-27), 0, 112, 0, 0, []), (142, 1, .iload_n 2, 0, 2, 0, 0, []), (143, 1, .ireturn, 0, 0, 0, 0, []), (144, 1, .aload_n 0, 0, 0, 0, 0, []), (145, 1, .iconst 1, 1, 0, 0, 0, []), (146, 3, .invokevirtual 147, 0, 125, 2, 12, []), (149, 1, .ireturn, 0, 0, 0, 0, [])]
set_option maxRecDepth 100000 in
theorem ck_193 : (cd_193.all (okCE 12 4 prog_14_method_74_code)) = true := by decide +kernel
/-- TradeTestsModel.found -/
def cd_194 : List CE := [(0, 1, .iload_n 1, 0, 1, 0, 0, []), (1, 1, .iconst 1, 1, 0, 0, 0, []), (2, 1, .iconst 5, 5, 0, 0, 0, []), (3, 3, .invokestatic 127, 0, 123, 3, 0, []), (6, 3, .ifCond .eq 12, 0, 18, 0, 0, []), (9, 1, .aload_n 0, 0, 0, 0, 0, []), (10, 3, .getfield 111, 0, 12, 44, 189, []), (13, 1, .iload_n 1, 0, 1, 0, 0, []), (14, 1, .iaload, 0, 0, 0, 0, []), (15, 3, .goto 8, 0, 23, 0, 0, []), (18, 1, .aload_n 0, 0, 0, 0, 0, []), (19, 1, .iconst 1, 1, 0, 0, 0, []), (20, 3, .invokevirtual 147, 0, 125, 2, 12, []), (23, 1, .ireturn, 0, 0, 0, 0, [])]
set_option maxRecDepth 100000 in
theorem ck_194 : (cd_194.all (okCE 12 2 prog_14_method_75_code)) = true := by decide +kernel
end
section
/-! the law, the depths -/
def cl_0 : List CE := [(3, 1, .dup, 0, 0, 0, 0, []), (7, 1, .astore_n 1, 0, 1, 0, 0, []), (11, 1, .dup, 0, 0, 0, 0, []), (15, 1, .astore_n 2, 0, 2, 0, 0, []), (16, 1, .iconst 0, 0, 0, 0, 0, []), (17, 1, .istore_n 3, 0, 3, 0, 0, []), (18, 1, .iload_n 3, 0, 3, 0, 0, []), (19, 1, .aload_n 0, 0, 0, 0, 0, []), (20, 1, .arraylength, 0, 0, 0, 0, []), (21, 2, .bipush 6, 6, 0, 0, 0, []), (23, 1, .isub, 0, 0, 0, 0, []), (24, 3, .if_icmp .gt 1178, 0, 1202, 0, 0, []), (27, 1, .aload_n 0, 0, 0, 0, 0, []), (28, 1, .iload_n 3, 0, 3, 0, 0, []), (29, 1, .iaload, 0, 0, 0, 0, []), (30, 2, .bipush 63, 63, 0, 0, 0, []), (32, 1, .iand, 0, 0, 0, 0, []), (33, 151, .tableswitch 1163 0 33 #[151, 194, 227, 260, 283, 326, 359, 422, 455, 478, 501, 534, 557, 580, 613, 646, 669, 692, 715, 748, 781, 804, 837, 870, 893, 926, 959, 982, 1025, 1038, 1071, 1094, 1117, 1140], 0, 1196, 0, 0, [(0, 184), (1, 227), (2, 260), (3, 293), (4, 316), (5, 359), (6, 392), (7, 455), (8, 488), (9, 511), (10, 534), (11, 567), (12, 590), (13, 613), (14, 646), (15, 679), (16, 702), (17, 725), (18, 748), (19, 781), (20, 814), (21, 837), (22, 870), (23, 903), (24, 926), (25, 959), (26, 992), (27, 1015), (28, 1058), (29, 1071), (30, 1104), (31, 1127), (32, 1150), (33, 1173)]), (184, 1, .aload_n 1, 0, 1, 0, 0, []), (185, 1, .aload_n 0, 0, 0, 0, 0, []), (186, 1, .iload_n 3, 0, 3, 0, 0, []), (187, 1, .iconst 1, 1, 0, 0, 0, []), (188, 1, .iadd, 0, 0, 0, 0, []), (189, 1, .iaload, 0, 0, 0, 0, []), (190, 1, .aload_n 0, 0, 0, 0, 0, []), (191, 1, .iload_n 3, 0, 3, 0, 0, []), (192, 1, .iconst 2, 2, 0, 0, 0, []), (193, 1, .iadd, 0, 0, 0, 0, []), (194, 1, .iaload, 0, 0, 0, 0, []), (195, 1, .aload_n 0, 0, 0, 0, 0, []), (196, 1, .iload_n 3, 0, 3, 0, 0, []), (197, 1, .iconst 3, 3, 0, 0, 0, []), (198, 1, .iadd, 0, 0, 0, 0, []), (199, 1, .iaload, 0, 0, 0, 0, []), (200, 3, .invokevirtual 13, 0, 0, 4, 0, []), (203, 1, .aload_n 2, 0, 2, 0, 0, []), (204, 1, .aload_n 0, 0, 0, 0, 0, []), (205, 1, .iload_n 3, 0, 3, 0, 0, []), (206, 1, .iconst 1, 1, 0, 0, 0, []), (207, 1, .iadd, 0, 0, 0, 0, [])]
set_option maxRecDepth 100000 in
theorem cll_0 : (cl_0.all (okCE 13 4 code)) = true := by decide +kernel
def cl_1 : List CE := [(208, 1, .iaload, 0, 0, 0, 0, []), (209, 1, .aload_n 0, 0, 0, 0, 0, []), (210, 1, .iload_n 3, 0, 3, 0, 0, []), (211, 1, .iconst 2, 2, 0, 0, 0, []), (212, 1, .iadd, 0, 0, 0, 0, []), (213, 1, .iaload, 0, 0, 0, 0, []), (214, 1, .aload_n 0, 0, 0, 0, 0, []), (215, 1, .iload_n 3, 0, 3, 0, 0, []), (216, 1, .iconst 3, 3, 0, 0, 0, []), (217, 1, .iadd, 0, 0, 0, 0, []), (218, 1, .iaload, 0, 0, 0, 0, []), (219, 3, .invokevirtual 17, 0, 122, 4, 12, []), (222, 3, .if_icmp .eq 974, 0, 1196, 0, 0, []), (225, 1, .iconst 0, 0, 0, 0, 0, []), (226, 1, .ireturn, 0, 0, 0, 0, []), (227, 1, .aload_n 1, 0, 1, 0, 0, []), (228, 1, .aload_n 0, 0, 0, 0, 0, []), (229, 1, .iload_n 3, 0, 3, 0, 0, []), (230, 1, .iconst 1, 1, 0, 0, 0, []), (231, 1, .iadd, 0, 0, 0, 0, []), (232, 1, .iaload, 0, 0, 0, 0, []), (233, 1, .aload_n 0, 0, 0, 0, 0, []), (234, 1, .iload_n 3, 0, 3, 0, 0, []), (235, 1, .iconst 2, 2, 0, 0, 0, []), (236, 1, .iadd, 0, 0, 0, 0, []), (237, 1, .iaload, 0, 0, 0, 0, []), (238, 3, .invokevirtual 18, 0, 4, 3, 0, []), (241, 1, .aload_n 2, 0, 2, 0, 0, []), (242, 1, .aload_n 0, 0, 0, 0, 0, []), (243, 1, .iload_n 3, 0, 3, 0, 0, []), (244, 1, .iconst 1, 1, 0, 0, 0, []), (245, 1, .iadd, 0, 0, 0, 0, []), (246, 1, .iaload, 0, 0, 0, 0, []), (247, 1, .aload_n 0, 0, 0, 0, 0, []), (248, 1, .iload_n 3, 0, 3, 0, 0, []), (249, 1, .iconst 2, 2, 0, 0, 0, []), (250, 1, .iadd, 0, 0, 0, 0, []), (251, 1, .iaload, 0, 0, 0, 0, []), (252, 3, .invokevirtual 22, 0, 126, 3, 12, []), (255, 3, .if_icmp .eq 941, 0, 1196, 0, 0, [])]
set_option maxRecDepth 100000 in
theorem cll_1 : (cl_1.all (okCE 13 4 code)) = true := by decide +kernel
def cl_2 : List CE := [(258, 1, .iconst 0, 0, 0, 0, 0, []), (259, 1, .ireturn, 0, 0, 0, 0, []), (260, 1, .aload_n 1, 0, 1, 0, 0, []), (261, 1, .aload_n 0, 0, 0, 0, 0, []), (262, 1, .iload_n 3, 0, 3, 0, 0, []), (263, 1, .iconst 1, 1, 0, 0, 0, []), (264, 1, .iadd, 0, 0, 0, 0, []), (265, 1, .iaload, 0, 0, 0, 0, []), (266, 1, .aload_n 0, 0, 0, 0, 0, []), (267, 1, .iload_n 3, 0, 3, 0, 0, []), (268, 1, .iconst 2, 2, 0, 0, 0, []), (269, 1, .iadd, 0, 0, 0, 0, []), (270, 1, .iaload, 0, 0, 0, 0, []), (271, 3, .invokevirtual 23, 0, 7, 3, 0, []), (274, 1, .aload_n 2, 0, 2, 0, 0, []), (275, 1, .aload_n 0, 0, 0, 0, 0, []), (276, 1, .iload_n 3, 0, 3, 0, 0, []), (277, 1, .iconst 1, 1, 0, 0, 0, []), (278, 1, .iadd, 0, 0, 0, 0, []), (279, 1, .iaload, 0, 0, 0, 0, []), (280, 1, .aload_n 0, 0, 0, 0, 0, []), (281, 1, .iload_n 3, 0, 3, 0, 0, []), (282, 1, .iconst 2, 2, 0, 0, 0, []), (283, 1, .iadd, 0, 0, 0, 0, []), (284, 1, .iaload, 0, 0, 0, 0, []), (285, 3, .invokevirtual 26, 0, 130, 3, 12, []), (288, 3, .if_icmp .eq 908, 0, 1196, 0, 0, []), (291, 1, .iconst 0, 0, 0, 0, 0, []), (292, 1, .ireturn, 0, 0, 0, 0, []), (293, 1, .aload_n 1, 0, 1, 0, 0, []), (294, 1, .aload_n 0, 0, 0, 0, 0, []), (295, 1, .iload_n 3, 0, 3, 0, 0, []), (296, 1, .iconst 1, 1, 0, 0, 0, []), (297, 1, .iadd, 0, 0, 0, 0, []), (298, 1, .iaload, 0, 0, 0, 0, []), (299, 3, .invokevirtual 27, 0, 9, 2, 0, []), (302, 1, .aload_n 2, 0, 2, 0, 0, []), (303, 1, .aload_n 0, 0, 0, 0, 0, []), (304, 1, .iload_n 3, 0, 3, 0, 0, []), (305, 1, .iconst 1, 1, 0, 0, 0, [])]
set_option maxRecDepth 100000 in
theorem cll_2 : (cl_2.all (okCE 13 4 code)) = true := by decide +kernel
def cl_3 : List CE := [(306, 1, .iadd, 0, 0, 0, 0, []), (307, 1, .iaload, 0, 0, 0, 0, []), (308, 3, .invokevirtual 31, 0, 131, 2, 12, []), (311, 3, .if_icmp .eq 885, 0, 1196, 0, 0, []), (314, 1, .iconst 0, 0, 0, 0, 0, []), (315, 1, .ireturn, 0, 0, 0, 0, []), (316, 1, .aload_n 1, 0, 1, 0, 0, []), (317, 1, .aload_n 0, 0, 0, 0, 0, []), (318, 1, .iload_n 3, 0, 3, 0, 0, []), (319, 1, .iconst 1, 1, 0, 0, 0, []), (320, 1, .iadd, 0, 0, 0, 0, []), (321, 1, .iaload, 0, 0, 0, 0, []), (322, 1, .aload_n 0, 0, 0, 0, 0, []), (323, 1, .iload_n 3, 0, 3, 0, 0, []), (324, 1, .iconst 2, 2, 0, 0, 0, []), (325, 1, .iadd, 0, 0, 0, 0, []), (326, 1, .iaload, 0, 0, 0, 0, []), (327, 1, .aload_n 0, 0, 0, 0, 0, []), (328, 1, .iload_n 3, 0, 3, 0, 0, []), (329, 1, .iconst 3, 3, 0, 0, 0, []), (330, 1, .iadd, 0, 0, 0, 0, []), (331, 1, .iaload, 0, 0, 0, 0, []), (332, 3, .invokevirtual 32, 0, 11, 4, 0, []), (335, 1, .aload_n 2, 0, 2, 0, 0, []), (336, 1, .aload_n 0, 0, 0, 0, 0, []), (337, 1, .iload_n 3, 0, 3, 0, 0, []), (338, 1, .iconst 1, 1, 0, 0, 0, []), (339, 1, .iadd, 0, 0, 0, 0, []), (340, 1, .iaload, 0, 0, 0, 0, []), (341, 1, .aload_n 0, 0, 0, 0, 0, []), (342, 1, .iload_n 3, 0, 3, 0, 0, []), (343, 1, .iconst 2, 2, 0, 0, 0, []), (344, 1, .iadd, 0, 0, 0, 0, []), (345, 1, .iaload, 0, 0, 0, 0, []), (346, 1, .aload_n 0, 0, 0, 0, 0, []), (347, 1, .iload_n 3, 0, 3, 0, 0, []), (348, 1, .iconst 3, 3, 0, 0, 0, []), (349, 1, .iadd, 0, 0, 0, 0, []), (350, 1, .iaload, 0, 0, 0, 0, []), (351, 3, .invokevirtual 35, 0, 133, 4, 12, [])]
set_option maxRecDepth 100000 in
theorem cll_3 : (cl_3.all (okCE 13 4 code)) = true := by decide +kernel
def cl_4 : List CE := [(354, 3, .if_icmp .eq 842, 0, 1196, 0, 0, []), (357, 1, .iconst 0, 0, 0, 0, 0, []), (358, 1, .ireturn, 0, 0, 0, 0, []), (359, 1, .aload_n 1, 0, 1, 0, 0, []), (360, 1, .aload_n 0, 0, 0, 0, 0, []), (361, 1, .iload_n 3, 0, 3, 0, 0, []), (362, 1, .iconst 1, 1, 0, 0, 0, []), (363, 1, .iadd, 0, 0, 0, 0, []), (364, 1, .iaload, 0, 0, 0, 0, []), (365, 1, .aload_n 0, 0, 0, 0, 0, []), (366, 1, .iload_n 3, 0, 3, 0, 0, []), (367, 1, .iconst 2, 2, 0, 0, 0, []), (368, 1, .iadd, 0, 0, 0, 0, []), (369, 1, .iaload, 0, 0, 0, 0, []), (370, 3, .invokevirtual 36, 0, 15, 3, 0, []), (373, 1, .aload_n 2, 0, 2, 0, 0, []), (374, 1, .aload_n 0, 0, 0, 0, 0, []), (375, 1, .iload_n 3, 0, 3, 0, 0, []), (376, 1, .iconst 1, 1, 0, 0, 0, []), (377, 1, .iadd, 0, 0, 0, 0, []), (378, 1, .iaload, 0, 0, 0, 0, []), (379, 1, .aload_n 0, 0, 0, 0, 0, []), (380, 1, .iload_n 3, 0, 3, 0, 0, []), (381, 1, .iconst 2, 2, 0, 0, 0, []), (382, 1, .iadd, 0, 0, 0, 0, []), (383, 1, .iaload, 0, 0, 0, 0, []), (384, 3, .invokevirtual 39, 0, 136, 3, 12, []), (387, 3, .if_icmp .eq 809, 0, 1196, 0, 0, []), (390, 1, .iconst 0, 0, 0, 0, 0, []), (391, 1, .ireturn, 0, 0, 0, 0, []), (392, 1, .aload_n 1, 0, 1, 0, 0, []), (393, 1, .aload_n 0, 0, 0, 0, 0, []), (394, 1, .iload_n 3, 0, 3, 0, 0, []), (395, 1, .iconst 1, 1, 0, 0, 0, []), (396, 1, .iadd, 0, 0, 0, 0, []), (397, 1, .iaload, 0, 0, 0, 0, []), (398, 1, .aload_n 0, 0, 0, 0, 0, []), (399, 1, .iload_n 3, 0, 3, 0, 0, []), (400, 1, .iconst 2, 2, 0, 0, 0, []), (401, 1, .iadd, 0, 0, 0, 0, [])]
set_option maxRecDepth 100000 in
theorem cll_4 : (cl_4.all (okCE 13 4 code)) = true := by decide +kernel
def cl_5 : List CE := [(402, 1, .iaload, 0, 0, 0, 0, []), (403, 1, .aload_n 0, 0, 0, 0, 0, []), (404, 1, .iload_n 3, 0, 3, 0, 0, []), (405, 1, .iconst 3, 3, 0, 0, 0, []), (406, 1, .iadd, 0, 0, 0, 0, []), (407, 1, .iaload, 0, 0, 0, 0, []), (408, 1, .aload_n 0, 0, 0, 0, 0, []), (409, 1, .iload_n 3, 0, 3, 0, 0, []), (410, 1, .iconst 4, 4, 0, 0, 0, []), (411, 1, .iadd, 0, 0, 0, 0, []), (412, 1, .iaload, 0, 0, 0, 0, []), (413, 1, .aload_n 0, 0, 0, 0, 0, []), (414, 1, .iload_n 3, 0, 3, 0, 0, []), (415, 1, .iconst 5, 5, 0, 0, 0, []), (416, 1, .iadd, 0, 0, 0, 0, []), (417, 1, .iaload, 0, 0, 0, 0, []), (418, 3, .invokevirtual 40, 0, 16, 6, 0, []), (421, 1, .aload_n 2, 0, 2, 0, 0, []), (422, 1, .aload_n 0, 0, 0, 0, 0, []), (423, 1, .iload_n 3, 0, 3, 0, 0, []), (424, 1, .iconst 1, 1, 0, 0, 0, []), (425, 1, .iadd, 0, 0, 0, 0, []), (426, 1, .iaload, 0, 0, 0, 0, []), (427, 1, .aload_n 0, 0, 0, 0, 0, []), (428, 1, .iload_n 3, 0, 3, 0, 0, []), (429, 1, .iconst 2, 2, 0, 0, 0, []), (430, 1, .iadd, 0, 0, 0, 0, []), (431, 1, .iaload, 0, 0, 0, 0, []), (432, 1, .aload_n 0, 0, 0, 0, 0, []), (433, 1, .iload_n 3, 0, 3, 0, 0, []), (434, 1, .iconst 3, 3, 0, 0, 0, []), (435, 1, .iadd, 0, 0, 0, 0, []), (436, 1, .iaload, 0, 0, 0, 0, []), (437, 1, .aload_n 0, 0, 0, 0, 0, []), (438, 1, .iload_n 3, 0, 3, 0, 0, []), (439, 1, .iconst 4, 4, 0, 0, 0, []), (440, 1, .iadd, 0, 0, 0, 0, []), (441, 1, .iaload, 0, 0, 0, 0, []), (442, 1, .aload_n 0, 0, 0, 0, 0, []), (443, 1, .iload_n 3, 0, 3, 0, 0, [])]
set_option maxRecDepth 100000 in
theorem cll_5 : (cl_5.all (okCE 13 4 code)) = true := by decide +kernel
def cl_6 : List CE := [(444, 1, .iconst 5, 5, 0, 0, 0, []), (445, 1, .iadd, 0, 0, 0, 0, []), (446, 1, .iaload, 0, 0, 0, 0, []), (447, 3, .invokevirtual 44, 0, 137, 6, 12, []), (450, 3, .if_icmp .eq 746, 0, 1196, 0, 0, []), (453, 1, .iconst 0, 0, 0, 0, 0, []), (454, 1, .ireturn, 0, 0, 0, 0, []), (455, 1, .aload_n 1, 0, 1, 0, 0, []), (456, 1, .aload_n 0, 0, 0, 0, 0, []), (457, 1, .iload_n 3, 0, 3, 0, 0, []), (458, 1, .iconst 1, 1, 0, 0, 0, []), (459, 1, .iadd, 0, 0, 0, 0, []), (460, 1, .iaload, 0, 0, 0, 0, []), (461, 1, .aload_n 0, 0, 0, 0, 0, []), (462, 1, .iload_n 3, 0, 3, 0, 0, []), (463, 1, .iconst 2, 2, 0, 0, 0, []), (464, 1, .iadd, 0, 0, 0, 0, []), (465, 1, .iaload, 0, 0, 0, 0, []), (466, 3, .invokevirtual 45, 0, 23, 3, 0, []), (469, 1, .aload_n 2, 0, 2, 0, 0, []), (470, 1, .aload_n 0, 0, 0, 0, 0, []), (471, 1, .iload_n 3, 0, 3, 0, 0, []), (472, 1, .iconst 1, 1, 0, 0, 0, []), (473, 1, .iadd, 0, 0, 0, 0, []), (474, 1, .iaload, 0, 0, 0, 0, []), (475, 1, .aload_n 0, 0, 0, 0, 0, []), (476, 1, .iload_n 3, 0, 3, 0, 0, []), (477, 1, .iconst 2, 2, 0, 0, 0, []), (478, 1, .iadd, 0, 0, 0, 0, []), (479, 1, .iaload, 0, 0, 0, 0, []), (480, 3, .invokevirtual 48, 0, 139, 3, 12, []), (483, 3, .if_icmp .eq 713, 0, 1196, 0, 0, []), (486, 1, .iconst 0, 0, 0, 0, 0, []), (487, 1, .ireturn, 0, 0, 0, 0, []), (488, 1, .aload_n 1, 0, 1, 0, 0, []), (489, 1, .aload_n 0, 0, 0, 0, 0, []), (490, 1, .iload_n 3, 0, 3, 0, 0, []), (491, 1, .iconst 1, 1, 0, 0, 0, []), (492, 1, .iadd, 0, 0, 0, 0, []), (493, 1, .iaload, 0, 0, 0, 0, [])]
set_option maxRecDepth 100000 in
theorem cll_6 : (cl_6.all (okCE 13 4 code)) = true := by decide +kernel
def cl_7 : List CE := [(494, 3, .invokevirtual 49, 0, 26, 2, 0, []), (497, 1, .aload_n 2, 0, 2, 0, 0, []), (498, 1, .aload_n 0, 0, 0, 0, 0, []), (499, 1, .iload_n 3, 0, 3, 0, 0, []), (500, 1, .iconst 1, 1, 0, 0, 0, []), (501, 1, .iadd, 0, 0, 0, 0, []), (502, 1, .iaload, 0, 0, 0, 0, []), (503, 3, .invokevirtual 52, 0, 142, 2, 12, []), (506, 3, .if_icmp .eq 690, 0, 1196, 0, 0, []), (509, 1, .iconst 0, 0, 0, 0, 0, []), (510, 1, .ireturn, 0, 0, 0, 0, []), (511, 1, .aload_n 1, 0, 1, 0, 0, []), (512, 1, .aload_n 0, 0, 0, 0, 0, []), (513, 1, .iload_n 3, 0, 3, 0, 0, []), (514, 1, .iconst 1, 1, 0, 0, 0, []), (515, 1, .iadd, 0, 0, 0, 0, []), (516, 1, .iaload, 0, 0, 0, 0, []), (517, 3, .invokevirtual 53, 0, 28, 2, 0, []), (520, 1, .aload_n 2, 0, 2, 0, 0, []), (521, 1, .aload_n 0, 0, 0, 0, 0, []), (522, 1, .iload_n 3, 0, 3, 0, 0, []), (523, 1, .iconst 1, 1, 0, 0, 0, []), (524, 1, .iadd, 0, 0, 0, 0, []), (525, 1, .iaload, 0, 0, 0, 0, []), (526, 3, .invokevirtual 56, 0, 143, 2, 12, []), (529, 3, .if_icmp .eq 667, 0, 1196, 0, 0, []), (532, 1, .iconst 0, 0, 0, 0, 0, []), (533, 1, .ireturn, 0, 0, 0, 0, []), (534, 1, .aload_n 1, 0, 1, 0, 0, []), (535, 1, .aload_n 0, 0, 0, 0, 0, []), (536, 1, .iload_n 3, 0, 3, 0, 0, []), (537, 1, .iconst 1, 1, 0, 0, 0, []), (538, 1, .iadd, 0, 0, 0, 0, []), (539, 1, .iaload, 0, 0, 0, 0, []), (540, 1, .aload_n 0, 0, 0, 0, 0, []), (541, 1, .iload_n 3, 0, 3, 0, 0, []), (542, 1, .iconst 2, 2, 0, 0, 0, []), (543, 1, .iadd, 0, 0, 0, 0, []), (544, 1, .iaload, 0, 0, 0, 0, []), (545, 3, .invokevirtual 57, 0, 39, 3, 0, [])]
set_option maxRecDepth 100000 in
theorem cll_7 : (cl_7.all (okCE 13 4 code)) = true := by decide +kernel
def cl_8 : List CE := [(548, 1, .aload_n 2, 0, 2, 0, 0, []), (549, 1, .aload_n 0, 0, 0, 0, 0, []), (550, 1, .iload_n 3, 0, 3, 0, 0, []), (551, 1, .iconst 1, 1, 0, 0, 0, []), (552, 1, .iadd, 0, 0, 0, 0, []), (553, 1, .iaload, 0, 0, 0, 0, []), (554, 1, .aload_n 0, 0, 0, 0, 0, []), (555, 1, .iload_n 3, 0, 3, 0, 0, []), (556, 1, .iconst 2, 2, 0, 0, 0, []), (557, 1, .iadd, 0, 0, 0, 0, []), (558, 1, .iaload, 0, 0, 0, 0, []), (559, 3, .invokevirtual 60, 0, 149, 3, 12, []), (562, 3, .if_icmp .eq 634, 0, 1196, 0, 0, []), (565, 1, .iconst 0, 0, 0, 0, 0, []), (566, 1, .ireturn, 0, 0, 0, 0, []), (567, 1, .aload_n 1, 0, 1, 0, 0, []), (568, 1, .aload_n 0, 0, 0, 0, 0, []), (569, 1, .iload_n 3, 0, 3, 0, 0, []), (570, 1, .iconst 1, 1, 0, 0, 0, []), (571, 1, .iadd, 0, 0, 0, 0, []), (572, 1, .iaload, 0, 0, 0, 0, []), (573, 3, .invokevirtual 61, 0, 42, 2, 0, []), (576, 1, .aload_n 2, 0, 2, 0, 0, []), (577, 1, .aload_n 0, 0, 0, 0, 0, []), (578, 1, .iload_n 3, 0, 3, 0, 0, []), (579, 1, .iconst 1, 1, 0, 0, 0, []), (580, 1, .iadd, 0, 0, 0, 0, []), (581, 1, .iaload, 0, 0, 0, 0, []), (582, 3, .invokevirtual 64, 0, 151, 2, 12, []), (585, 3, .if_icmp .eq 611, 0, 1196, 0, 0, []), (588, 1, .iconst 0, 0, 0, 0, 0, []), (589, 1, .ireturn, 0, 0, 0, 0, []), (590, 1, .aload_n 1, 0, 1, 0, 0, []), (591, 1, .aload_n 0, 0, 0, 0, 0, []), (592, 1, .iload_n 3, 0, 3, 0, 0, []), (593, 1, .iconst 1, 1, 0, 0, 0, []), (594, 1, .iadd, 0, 0, 0, 0, []), (595, 1, .iaload, 0, 0, 0, 0, []), (596, 3, .invokevirtual 65, 0, 45, 2, 0, []), (599, 1, .aload_n 2, 0, 2, 0, 0, [])]
set_option maxRecDepth 100000 in
theorem cll_8 : (cl_8.all (okCE 13 4 code)) = true := by decide +kernel
def cl_9 : List CE := [(600, 1, .aload_n 0, 0, 0, 0, 0, []), (601, 1, .iload_n 3, 0, 3, 0, 0, []), (602, 1, .iconst 1, 1, 0, 0, 0, []), (603, 1, .iadd, 0, 0, 0, 0, []), (604, 1, .iaload, 0, 0, 0, 0, []), (605, 3, .invokevirtual 68, 0, 153, 2, 12, []), (608, 3, .if_icmp .eq 588, 0, 1196, 0, 0, []), (611, 1, .iconst 0, 0, 0, 0, 0, []), (612, 1, .ireturn, 0, 0, 0, 0, []), (613, 1, .aload_n 1, 0, 1, 0, 0, []), (614, 1, .aload_n 0, 0, 0, 0, 0, []), (615, 1, .iload_n 3, 0, 3, 0, 0, []), (616, 1, .iconst 1, 1, 0, 0, 0, []), (617, 1, .iadd, 0, 0, 0, 0, []), (618, 1, .iaload, 0, 0, 0, 0, []), (619, 1, .aload_n 0, 0, 0, 0, 0, []), (620, 1, .iload_n 3, 0, 3, 0, 0, []), (621, 1, .iconst 2, 2, 0, 0, 0, []), (622, 1, .iadd, 0, 0, 0, 0, []), (623, 1, .iaload, 0, 0, 0, 0, []), (624, 3, .invokevirtual 69, 0, 47, 3, 0, []), (627, 1, .aload_n 2, 0, 2, 0, 0, []), (628, 1, .aload_n 0, 0, 0, 0, 0, []), (629, 1, .iload_n 3, 0, 3, 0, 0, []), (630, 1, .iconst 1, 1, 0, 0, 0, []), (631, 1, .iadd, 0, 0, 0, 0, []), (632, 1, .iaload, 0, 0, 0, 0, []), (633, 1, .aload_n 0, 0, 0, 0, 0, []), (634, 1, .iload_n 3, 0, 3, 0, 0, []), (635, 1, .iconst 2, 2, 0, 0, 0, []), (636, 1, .iadd, 0, 0, 0, 0, []), (637, 1, .iaload, 0, 0, 0, 0, []), (638, 3, .invokevirtual 72, 0, 158, 3, 12, []), (641, 3, .if_icmp .eq 555, 0, 1196, 0, 0, []), (644, 1, .iconst 0, 0, 0, 0, 0, []), (645, 1, .ireturn, 0, 0, 0, 0, []), (646, 1, .aload_n 1, 0, 1, 0, 0, []), (647, 1, .aload_n 0, 0, 0, 0, 0, []), (648, 1, .iload_n 3, 0, 3, 0, 0, []), (649, 1, .iconst 1, 1, 0, 0, 0, [])]
set_option maxRecDepth 100000 in
theorem cll_9 : (cl_9.all (okCE 13 4 code)) = true := by decide +kernel
def cl_10 : List CE := [(650, 1, .iadd, 0, 0, 0, 0, []), (651, 1, .iaload, 0, 0, 0, 0, []), (652, 1, .aload_n 0, 0, 0, 0, 0, []), (653, 1, .iload_n 3, 0, 3, 0, 0, []), (654, 1, .iconst 2, 2, 0, 0, 0, []), (655, 1, .iadd, 0, 0, 0, 0, []), (656, 1, .iaload, 0, 0, 0, 0, []), (657, 3, .invokevirtual 73, 0, 71, 3, 0, []), (660, 1, .aload_n 2, 0, 2, 0, 0, []), (661, 1, .aload_n 0, 0, 0, 0, 0, []), (662, 1, .iload_n 3, 0, 3, 0, 0, []), (663, 1, .iconst 1, 1, 0, 0, 0, []), (664, 1, .iadd, 0, 0, 0, 0, []), (665, 1, .iaload, 0, 0, 0, 0, []), (666, 1, .aload_n 0, 0, 0, 0, 0, []), (667, 1, .iload_n 3, 0, 3, 0, 0, []), (668, 1, .iconst 2, 2, 0, 0, 0, []), (669, 1, .iadd, 0, 0, 0, 0, []), (670, 1, .iaload, 0, 0, 0, 0, []), (671, 3, .invokevirtual 76, 0, 155, 3, 12, []), (674, 3, .if_icmp .eq 522, 0, 1196, 0, 0, []), (677, 1, .iconst 0, 0, 0, 0, 0, []), (678, 1, .ireturn, 0, 0, 0, 0, []), (679, 1, .aload_n 1, 0, 1, 0, 0, []), (680, 1, .aload_n 0, 0, 0, 0, 0, []), (681, 1, .iload_n 3, 0, 3, 0, 0, []), (682, 1, .iconst 1, 1, 0, 0, 0, []), (683, 1, .iadd, 0, 0, 0, 0, []), (684, 1, .iaload, 0, 0, 0, 0, []), (685, 3, .invokevirtual 77, 0, 73, 2, 0, []), (688, 1, .aload_n 2, 0, 2, 0, 0, []), (689, 1, .aload_n 0, 0, 0, 0, 0, []), (690, 1, .iload_n 3, 0, 3, 0, 0, []), (691, 1, .iconst 1, 1, 0, 0, 0, []), (692, 1, .iadd, 0, 0, 0, 0, []), (693, 1, .iaload, 0, 0, 0, 0, []), (694, 3, .invokevirtual 80, 0, 168, 2, 12, []), (697, 3, .if_icmp .eq 499, 0, 1196, 0, 0, []), (700, 1, .iconst 0, 0, 0, 0, 0, []), (701, 1, .ireturn, 0, 0, 0, 0, [])]
set_option maxRecDepth 100000 in
theorem cll_10 : (cl_10.all (okCE 13 4 code)) = true := by decide +kernel
def cl_11 : List CE := [(702, 1, .aload_n 1, 0, 1, 0, 0, []), (703, 1, .aload_n 0, 0, 0, 0, 0, []), (704, 1, .iload_n 3, 0, 3, 0, 0, []), (705, 1, .iconst 1, 1, 0, 0, 0, []), (706, 1, .iadd, 0, 0, 0, 0, []), (707, 1, .iaload, 0, 0, 0, 0, []), (708, 3, .invokevirtual 81, 0, 74, 2, 0, []), (711, 1, .aload_n 2, 0, 2, 0, 0, []), (712, 1, .aload_n 0, 0, 0, 0, 0, []), (713, 1, .iload_n 3, 0, 3, 0, 0, []), (714, 1, .iconst 1, 1, 0, 0, 0, []), (715, 1, .iadd, 0, 0, 0, 0, []), (716, 1, .iaload, 0, 0, 0, 0, []), (717, 3, .invokevirtual 84, 0, 169, 2, 12, []), (720, 3, .if_icmp .eq 476, 0, 1196, 0, 0, []), (723, 1, .iconst 0, 0, 0, 0, 0, []), (724, 1, .ireturn, 0, 0, 0, 0, []), (725, 1, .aload_n 1, 0, 1, 0, 0, []), (726, 1, .aload_n 0, 0, 0, 0, 0, []), (727, 1, .iload_n 3, 0, 3, 0, 0, []), (728, 1, .iconst 1, 1, 0, 0, 0, []), (729, 1, .iadd, 0, 0, 0, 0, []), (730, 1, .iaload, 0, 0, 0, 0, []), (731, 3, .invokevirtual 85, 0, 75, 2, 0, []), (734, 1, .aload_n 2, 0, 2, 0, 0, []), (735, 1, .aload_n 0, 0, 0, 0, 0, []), (736, 1, .iload_n 3, 0, 3, 0, 0, []), (737, 1, .iconst 1, 1, 0, 0, 0, []), (738, 1, .iadd, 0, 0, 0, 0, []), (739, 1, .iaload, 0, 0, 0, 0, []), (740, 3, .invokevirtual 88, 0, 170, 2, 12, []), (743, 3, .if_icmp .eq 453, 0, 1196, 0, 0, []), (746, 1, .iconst 0, 0, 0, 0, 0, []), (747, 1, .ireturn, 0, 0, 0, 0, []), (748, 1, .aload_n 1, 0, 1, 0, 0, []), (749, 1, .aload_n 0, 0, 0, 0, 0, []), (750, 1, .iload_n 3, 0, 3, 0, 0, []), (751, 1, .iconst 1, 1, 0, 0, 0, []), (752, 1, .iadd, 0, 0, 0, 0, []), (753, 1, .iaload, 0, 0, 0, 0, [])]
set_option maxRecDepth 100000 in
theorem cll_11 : (cl_11.all (okCE 13 4 code)) = true := by decide +kernel
def cl_12 : List CE := [(754, 1, .aload_n 0, 0, 0, 0, 0, []), (755, 1, .iload_n 3, 0, 3, 0, 0, []), (756, 1, .iconst 2, 2, 0, 0, 0, []), (757, 1, .iadd, 0, 0, 0, 0, []), (758, 1, .iaload, 0, 0, 0, 0, []), (759, 3, .invokevirtual 89, 0, 80, 3, 0, []), (762, 1, .aload_n 2, 0, 2, 0, 0, []), (763, 1, .aload_n 0, 0, 0, 0, 0, []), (764, 1, .iload_n 3, 0, 3, 0, 0, []), (765, 1, .iconst 1, 1, 0, 0, 0, []), (766, 1, .iadd, 0, 0, 0, 0, []), (767, 1, .iaload, 0, 0, 0, 0, []), (768, 1, .aload_n 0, 0, 0, 0, 0, []), (769, 1, .iload_n 3, 0, 3, 0, 0, []), (770, 1, .iconst 2, 2, 0, 0, 0, []), (771, 1, .iadd, 0, 0, 0, 0, []), (772, 1, .iaload, 0, 0, 0, 0, []), (773, 3, .invokevirtual 92, 0, 172, 3, 12, []), (776, 3, .if_icmp .eq 420, 0, 1196, 0, 0, []), (779, 1, .iconst 0, 0, 0, 0, 0, []), (780, 1, .ireturn, 0, 0, 0, 0, []), (781, 1, .aload_n 1, 0, 1, 0, 0, []), (782, 1, .aload_n 0, 0, 0, 0, 0, []), (783, 1, .iload_n 3, 0, 3, 0, 0, []), (784, 1, .iconst 1, 1, 0, 0, 0, []), (785, 1, .iadd, 0, 0, 0, 0, []), (786, 1, .iaload, 0, 0, 0, 0, []), (787, 1, .aload_n 0, 0, 0, 0, 0, []), (788, 1, .iload_n 3, 0, 3, 0, 0, []), (789, 1, .iconst 2, 2, 0, 0, 0, []), (790, 1, .iadd, 0, 0, 0, 0, []), (791, 1, .iaload, 0, 0, 0, 0, []), (792, 3, .invokevirtual 93, 0, 83, 3, 0, []), (795, 1, .aload_n 2, 0, 2, 0, 0, []), (796, 1, .aload_n 0, 0, 0, 0, 0, []), (797, 1, .iload_n 3, 0, 3, 0, 0, []), (798, 1, .iconst 1, 1, 0, 0, 0, []), (799, 1, .iadd, 0, 0, 0, 0, []), (800, 1, .iaload, 0, 0, 0, 0, []), (801, 1, .aload_n 0, 0, 0, 0, 0, [])]
set_option maxRecDepth 100000 in
theorem cll_12 : (cl_12.all (okCE 13 4 code)) = true := by decide +kernel
def cl_13 : List CE := [(802, 1, .iload_n 3, 0, 3, 0, 0, []), (803, 1, .iconst 2, 2, 0, 0, 0, []), (804, 1, .iadd, 0, 0, 0, 0, []), (805, 1, .iaload, 0, 0, 0, 0, []), (806, 3, .invokevirtual 96, 0, 173, 3, 12, []), (809, 3, .if_icmp .eq 387, 0, 1196, 0, 0, []), (812, 1, .iconst 0, 0, 0, 0, 0, []), (813, 1, .ireturn, 0, 0, 0, 0, []), (814, 1, .aload_n 1, 0, 1, 0, 0, []), (815, 1, .aload_n 0, 0, 0, 0, 0, []), (816, 1, .iload_n 3, 0, 3, 0, 0, []), (817, 1, .iconst 1, 1, 0, 0, 0, []), (818, 1, .iadd, 0, 0, 0, 0, []), (819, 1, .iaload, 0, 0, 0, 0, []), (820, 3, .invokevirtual 97, 0, 84, 2, 0, []), (823, 1, .aload_n 2, 0, 2, 0, 0, []), (824, 1, .aload_n 0, 0, 0, 0, 0, []), (825, 1, .iload_n 3, 0, 3, 0, 0, []), (826, 1, .iconst 1, 1, 0, 0, 0, []), (827, 1, .iadd, 0, 0, 0, 0, []), (828, 1, .iaload, 0, 0, 0, 0, []), (829, 3, .invokevirtual 100, 0, 174, 2, 12, []), (832, 3, .if_icmp .eq 364, 0, 1196, 0, 0, []), (835, 1, .iconst 0, 0, 0, 0, 0, []), (836, 1, .ireturn, 0, 0, 0, 0, []), (837, 1, .aload_n 1, 0, 1, 0, 0, []), (838, 1, .aload_n 0, 0, 0, 0, 0, []), (839, 1, .iload_n 3, 0, 3, 0, 0, []), (840, 1, .iconst 1, 1, 0, 0, 0, []), (841, 1, .iadd, 0, 0, 0, 0, []), (842, 1, .iaload, 0, 0, 0, 0, []), (843, 1, .aload_n 0, 0, 0, 0, 0, []), (844, 1, .iload_n 3, 0, 3, 0, 0, []), (845, 1, .iconst 2, 2, 0, 0, 0, []), (846, 1, .iadd, 0, 0, 0, 0, []), (847, 1, .iaload, 0, 0, 0, 0, []), (848, 3, .invokevirtual 101, 0, 87, 3, 0, []), (851, 1, .aload_n 2, 0, 2, 0, 0, []), (852, 1, .aload_n 0, 0, 0, 0, 0, []), (853, 1, .iload_n 3, 0, 3, 0, 0, [])]
set_option maxRecDepth 100000 in
theorem cll_13 : (cl_13.all (okCE 13 4 code)) = true := by decide +kernel
def cl_14 : List CE := [(854, 1, .iconst 1, 1, 0, 0, 0, []), (855, 1, .iadd, 0, 0, 0, 0, []), (856, 1, .iaload, 0, 0, 0, 0, []), (857, 1, .aload_n 0, 0, 0, 0, 0, []), (858, 1, .iload_n 3, 0, 3, 0, 0, []), (859, 1, .iconst 2, 2, 0, 0, 0, []), (860, 1, .iadd, 0, 0, 0, 0, []), (861, 1, .iaload, 0, 0, 0, 0, []), (862, 3, .invokevirtual 104, 0, 177, 3, 12, []), (865, 3, .if_icmp .eq 331, 0, 1196, 0, 0, []), (868, 1, .iconst 0, 0, 0, 0, 0, []), (869, 1, .ireturn, 0, 0, 0, 0, []), (870, 1, .aload_n 1, 0, 1, 0, 0, []), (871, 1, .aload_n 0, 0, 0, 0, 0, []), (872, 1, .iload_n 3, 0, 3, 0, 0, []), (873, 1, .iconst 1, 1, 0, 0, 0, []), (874, 1, .iadd, 0, 0, 0, 0, []), (875, 1, .iaload, 0, 0, 0, 0, []), (876, 1, .aload_n 0, 0, 0, 0, 0, []), (877, 1, .iload_n 3, 0, 3, 0, 0, []), (878, 1, .iconst 2, 2, 0, 0, 0, []), (879, 1, .iadd, 0, 0, 0, 0, []), (880, 1, .iaload, 0, 0, 0, 0, []), (881, 3, .invokevirtual 105, 0, 91, 3, 0, []), (884, 1, .aload_n 2, 0, 2, 0, 0, []), (885, 1, .aload_n 0, 0, 0, 0, 0, []), (886, 1, .iload_n 3, 0, 3, 0, 0, []), (887, 1, .iconst 1, 1, 0, 0, 0, []), (888, 1, .iadd, 0, 0, 0, 0, []), (889, 1, .iaload, 0, 0, 0, 0, []), (890, 1, .aload_n 0, 0, 0, 0, 0, []), (891, 1, .iload_n 3, 0, 3, 0, 0, []), (892, 1, .iconst 2, 2, 0, 0, 0, []), (893, 1, .iadd, 0, 0, 0, 0, []), (894, 1, .iaload, 0, 0, 0, 0, []), (895, 3, .invokevirtual 108, 0, 180, 3, 12, []), (898, 3, .if_icmp .eq 298, 0, 1196, 0, 0, []), (901, 1, .iconst 0, 0, 0, 0, 0, []), (902, 1, .ireturn, 0, 0, 0, 0, []), (903, 1, .aload_n 1, 0, 1, 0, 0, [])]
set_option maxRecDepth 100000 in
theorem cll_14 : (cl_14.all (okCE 13 4 code)) = true := by decide +kernel
def cl_15 : List CE := [(904, 1, .aload_n 0, 0, 0, 0, 0, []), (905, 1, .iload_n 3, 0, 3, 0, 0, []), (906, 1, .iconst 1, 1, 0, 0, 0, []), (907, 1, .iadd, 0, 0, 0, 0, []), (908, 1, .iaload, 0, 0, 0, 0, []), (909, 3, .invokevirtual 109, 0, 93, 2, 0, []), (912, 1, .aload_n 2, 0, 2, 0, 0, []), (913, 1, .aload_n 0, 0, 0, 0, 0, []), (914, 1, .iload_n 3, 0, 3, 0, 0, []), (915, 1, .iconst 1, 1, 0, 0, 0, []), (916, 1, .iadd, 0, 0, 0, 0, []), (917, 1, .iaload, 0, 0, 0, 0, []), (918, 3, .invokevirtual 112, 0, 181, 2, 12, []), (921, 3, .if_icmp .eq 275, 0, 1196, 0, 0, []), (924, 1, .iconst 0, 0, 0, 0, 0, []), (925, 1, .ireturn, 0, 0, 0, 0, []), (926, 1, .aload_n 1, 0, 1, 0, 0, []), (927, 1, .aload_n 0, 0, 0, 0, 0, []), (928, 1, .iload_n 3, 0, 3, 0, 0, []), (929, 1, .iconst 1, 1, 0, 0, 0, []), (930, 1, .iadd, 0, 0, 0, 0, []), (931, 1, .iaload, 0, 0, 0, 0, []), (932, 1, .aload_n 0, 0, 0, 0, 0, []), (933, 1, .iload_n 3, 0, 3, 0, 0, []), (934, 1, .iconst 2, 2, 0, 0, 0, []), (935, 1, .iadd, 0, 0, 0, 0, []), (936, 1, .iaload, 0, 0, 0, 0, []), (937, 3, .invokevirtual 113, 0, 95, 3, 0, []), (940, 1, .aload_n 2, 0, 2, 0, 0, []), (941, 1, .aload_n 0, 0, 0, 0, 0, []), (942, 1, .iload_n 3, 0, 3, 0, 0, []), (943, 1, .iconst 1, 1, 0, 0, 0, []), (944, 1, .iadd, 0, 0, 0, 0, []), (945, 1, .iaload, 0, 0, 0, 0, []), (946, 1, .aload_n 0, 0, 0, 0, 0, []), (947, 1, .iload_n 3, 0, 3, 0, 0, []), (948, 1, .iconst 2, 2, 0, 0, 0, []), (949, 1, .iadd, 0, 0, 0, 0, []), (950, 1, .iaload, 0, 0, 0, 0, []), (951, 3, .invokevirtual 116, 0, 182, 3, 12, [])]
set_option maxRecDepth 100000 in
theorem cll_15 : (cl_15.all (okCE 13 4 code)) = true := by decide +kernel
def cl_16 : List CE := [(954, 3, .if_icmp .eq 242, 0, 1196, 0, 0, []), (957, 1, .iconst 0, 0, 0, 0, 0, []), (958, 1, .ireturn, 0, 0, 0, 0, []), (959, 1, .aload_n 1, 0, 1, 0, 0, []), (960, 1, .aload_n 0, 0, 0, 0, 0, []), (961, 1, .iload_n 3, 0, 3, 0, 0, []), (962, 1, .iconst 1, 1, 0, 0, 0, []), (963, 1, .iadd, 0, 0, 0, 0, []), (964, 1, .iaload, 0, 0, 0, 0, []), (965, 1, .aload_n 0, 0, 0, 0, 0, []), (966, 1, .iload_n 3, 0, 3, 0, 0, []), (967, 1, .iconst 2, 2, 0, 0, 0, []), (968, 1, .iadd, 0, 0, 0, 0, []), (969, 1, .iaload, 0, 0, 0, 0, []), (970, 3, .invokevirtual 117, 0, 97, 3, 0, []), (973, 1, .aload_n 2, 0, 2, 0, 0, []), (974, 1, .aload_n 0, 0, 0, 0, 0, []), (975, 1, .iload_n 3, 0, 3, 0, 0, []), (976, 1, .iconst 1, 1, 0, 0, 0, []), (977, 1, .iadd, 0, 0, 0, 0, []), (978, 1, .iaload, 0, 0, 0, 0, []), (979, 1, .aload_n 0, 0, 0, 0, 0, []), (980, 1, .iload_n 3, 0, 3, 0, 0, []), (981, 1, .iconst 2, 2, 0, 0, 0, []), (982, 1, .iadd, 0, 0, 0, 0, []), (983, 1, .iaload, 0, 0, 0, 0, []), (984, 3, .invokevirtual 120, 0, 183, 3, 12, []), (987, 3, .if_icmp .eq 209, 0, 1196, 0, 0, []), (990, 1, .iconst 0, 0, 0, 0, 0, []), (991, 1, .ireturn, 0, 0, 0, 0, []), (992, 1, .aload_n 1, 0, 1, 0, 0, []), (993, 1, .aload_n 0, 0, 0, 0, 0, []), (994, 1, .iload_n 3, 0, 3, 0, 0, []), (995, 1, .iconst 1, 1, 0, 0, 0, []), (996, 1, .iadd, 0, 0, 0, 0, []), (997, 1, .iaload, 0, 0, 0, 0, []), (998, 3, .invokevirtual 121, 0, 100, 2, 0, []), (1001, 1, .aload_n 2, 0, 2, 0, 0, []), (1002, 1, .aload_n 0, 0, 0, 0, 0, []), (1003, 1, .iload_n 3, 0, 3, 0, 0, [])]
set_option maxRecDepth 100000 in
theorem cll_16 : (cl_16.all (okCE 13 4 code)) = true := by decide +kernel
def cl_17 : List CE := [(1004, 1, .iconst 1, 1, 0, 0, 0, []), (1005, 1, .iadd, 0, 0, 0, 0, []), (1006, 1, .iaload, 0, 0, 0, 0, []), (1007, 3, .invokevirtual 124, 0, 185, 2, 12, []), (1010, 3, .if_icmp .eq 186, 0, 1196, 0, 0, []), (1013, 1, .iconst 0, 0, 0, 0, 0, []), (1014, 1, .ireturn, 0, 0, 0, 0, []), (1015, 1, .aload_n 1, 0, 1, 0, 0, []), (1016, 1, .aload_n 0, 0, 0, 0, 0, []), (1017, 1, .iload_n 3, 0, 3, 0, 0, []), (1018, 1, .iconst 1, 1, 0, 0, 0, []), (1019, 1, .iadd, 0, 0, 0, 0, []), (1020, 1, .iaload, 0, 0, 0, 0, []), (1021, 1, .aload_n 0, 0, 0, 0, 0, []), (1022, 1, .iload_n 3, 0, 3, 0, 0, []), (1023, 1, .iconst 2, 2, 0, 0, 0, []), (1024, 1, .iadd, 0, 0, 0, 0, []), (1025, 1, .iaload, 0, 0, 0, 0, []), (1026, 1, .aload_n 0, 0, 0, 0, 0, []), (1027, 1, .iload_n 3, 0, 3, 0, 0, []), (1028, 1, .iconst 3, 3, 0, 0, 0, []), (1029, 1, .iadd, 0, 0, 0, 0, []), (1030, 1, .iaload, 0, 0, 0, 0, []), (1031, 3, .invokevirtual 125, 0, 110, 4, 0, []), (1034, 1, .aload_n 2, 0, 2, 0, 0, []), (1035, 1, .aload_n 0, 0, 0, 0, 0, []), (1036, 1, .iload_n 3, 0, 3, 0, 0, []), (1037, 1, .iconst 1, 1, 0, 0, 0, []), (1038, 1, .iadd, 0, 0, 0, 0, []), (1039, 1, .iaload, 0, 0, 0, 0, []), (1040, 1, .aload_n 0, 0, 0, 0, 0, []), (1041, 1, .iload_n 3, 0, 3, 0, 0, []), (1042, 1, .iconst 2, 2, 0, 0, 0, []), (1043, 1, .iadd, 0, 0, 0, 0, []), (1044, 1, .iaload, 0, 0, 0, 0, []), (1045, 1, .aload_n 0, 0, 0, 0, 0, []), (1046, 1, .iload_n 3, 0, 3, 0, 0, []), (1047, 1, .iconst 3, 3, 0, 0, 0, []), (1048, 1, .iadd, 0, 0, 0, 0, []), (1049, 1, .iaload, 0, 0, 0, 0, [])]
set_option maxRecDepth 100000 in
theorem cll_17 : (cl_17.all (okCE 13 4 code)) = true := by decide +kernel
def cl_18 : List CE := [(1050, 3, .invokevirtual 128, 0, 187, 4, 12, []), (1053, 3, .if_icmp .eq 143, 0, 1196, 0, 0, []), (1056, 1, .iconst 0, 0, 0, 0, 0, []), (1057, 1, .ireturn, 0, 0, 0, 0, []), (1058, 1, .aload_n 1, 0, 1, 0, 0, []), (1059, 3, .invokevirtual 129, 0, 113, 1, 0, []), (1062, 1, .aload_n 2, 0, 2, 0, 0, []), (1063, 3, .invokevirtual 133, 0, 188, 1, 12, []), (1066, 3, .if_icmp .eq 130, 0, 1196, 0, 0, []), (1069, 1, .iconst 0, 0, 0, 0, 0, []), (1070, 1, .ireturn, 0, 0, 0, 0, []), (1071, 1, .aload_n 1, 0, 1, 0, 0, []), (1072, 1, .aload_n 0, 0, 0, 0, 0, []), (1073, 1, .iload_n 3, 0, 3, 0, 0, []), (1074, 1, .iconst 1, 1, 0, 0, 0, []), (1075, 1, .iadd, 0, 0, 0, 0, []), (1076, 1, .iaload, 0, 0, 0, 0, []), (1077, 1, .aload_n 0, 0, 0, 0, 0, []), (1078, 1, .iload_n 3, 0, 3, 0, 0, []), (1079, 1, .iconst 2, 2, 0, 0, 0, []), (1080, 1, .iadd, 0, 0, 0, 0, []), (1081, 1, .iaload, 0, 0, 0, 0, []), (1082, 3, .invokevirtual 134, 0, 115, 3, 0, []), (1085, 1, .aload_n 2, 0, 2, 0, 0, []), (1086, 1, .aload_n 0, 0, 0, 0, 0, []), (1087, 1, .iload_n 3, 0, 3, 0, 0, []), (1088, 1, .iconst 1, 1, 0, 0, 0, []), (1089, 1, .iadd, 0, 0, 0, 0, []), (1090, 1, .iaload, 0, 0, 0, 0, []), (1091, 1, .aload_n 0, 0, 0, 0, 0, []), (1092, 1, .iload_n 3, 0, 3, 0, 0, []), (1093, 1, .iconst 2, 2, 0, 0, 0, []), (1094, 1, .iadd, 0, 0, 0, 0, []), (1095, 1, .iaload, 0, 0, 0, 0, []), (1096, 3, .invokevirtual 137, 0, 189, 3, 12, []), (1099, 3, .if_icmp .eq 97, 0, 1196, 0, 0, []), (1102, 1, .iconst 0, 0, 0, 0, 0, []), (1103, 1, .ireturn, 0, 0, 0, 0, []), (1104, 1, .aload_n 1, 0, 1, 0, 0, []), (1105, 1, .aload_n 0, 0, 0, 0, 0, [])]
set_option maxRecDepth 100000 in
theorem cll_18 : (cl_18.all (okCE 13 4 code)) = true := by decide +kernel
def cl_19 : List CE := [(1106, 1, .iload_n 3, 0, 3, 0, 0, []), (1107, 1, .iconst 1, 1, 0, 0, 0, []), (1108, 1, .iadd, 0, 0, 0, 0, []), (1109, 1, .iaload, 0, 0, 0, 0, []), (1110, 3, .invokevirtual 138, 0, 117, 2, 0, []), (1113, 1, .aload_n 2, 0, 2, 0, 0, []), (1114, 1, .aload_n 0, 0, 0, 0, 0, []), (1115, 1, .iload_n 3, 0, 3, 0, 0, []), (1116, 1, .iconst 1, 1, 0, 0, 0, []), (1117, 1, .iadd, 0, 0, 0, 0, []), (1118, 1, .iaload, 0, 0, 0, 0, []), (1119, 3, .invokevirtual 141, 0, 191, 2, 12, []), (1122, 3, .if_icmp .eq 74, 0, 1196, 0, 0, []), (1125, 1, .iconst 0, 0, 0, 0, 0, []), (1126, 1, .ireturn, 0, 0, 0, 0, []), (1127, 1, .aload_n 1, 0, 1, 0, 0, []), (1128, 1, .aload_n 0, 0, 0, 0, 0, []), (1129, 1, .iload_n 3, 0, 3, 0, 0, []), (1130, 1, .iconst 1, 1, 0, 0, 0, []), (1131, 1, .iadd, 0, 0, 0, 0, []), (1132, 1, .iaload, 0, 0, 0, 0, []), (1133, 3, .invokevirtual 142, 0, 118, 2, 0, []), (1136, 1, .aload_n 2, 0, 2, 0, 0, []), (1137, 1, .aload_n 0, 0, 0, 0, 0, []), (1138, 1, .iload_n 3, 0, 3, 0, 0, []), (1139, 1, .iconst 1, 1, 0, 0, 0, []), (1140, 1, .iadd, 0, 0, 0, 0, []), (1141, 1, .iaload, 0, 0, 0, 0, []), (1142, 3, .invokevirtual 145, 0, 192, 2, 12, []), (1145, 3, .if_icmp .eq 51, 0, 1196, 0, 0, []), (1148, 1, .iconst 0, 0, 0, 0, 0, []), (1149, 1, .ireturn, 0, 0, 0, 0, []), (1150, 1, .aload_n 1, 0, 1, 0, 0, []), (1151, 1, .aload_n 0, 0, 0, 0, 0, []), (1152, 1, .iload_n 3, 0, 3, 0, 0, []), (1153, 1, .iconst 1, 1, 0, 0, 0, []), (1154, 1, .iadd, 0, 0, 0, 0, []), (1155, 1, .iaload, 0, 0, 0, 0, []), (1156, 3, .invokevirtual 146, 0, 119, 2, 0, []), (1159, 1, .aload_n 2, 0, 2, 0, 0, [])]
set_option maxRecDepth 100000 in
theorem cll_19 : (cl_19.all (okCE 13 4 code)) = true := by decide +kernel
def cl_20 : List CE := [(1160, 1, .aload_n 0, 0, 0, 0, 0, []), (1161, 1, .iload_n 3, 0, 3, 0, 0, []), (1162, 1, .iconst 1, 1, 0, 0, 0, []), (1163, 1, .iadd, 0, 0, 0, 0, []), (1164, 1, .iaload, 0, 0, 0, 0, []), (1165, 3, .invokevirtual 149, 0, 193, 2, 12, []), (1168, 3, .if_icmp .eq 28, 0, 1196, 0, 0, []), (1171, 1, .iconst 0, 0, 0, 0, 0, []), (1172, 1, .ireturn, 0, 0, 0, 0, []), (1173, 1, .aload_n 1, 0, 1, 0, 0, []), (1174, 1, .aload_n 0, 0, 0, 0, 0, []), (1175, 1, .iload_n 3, 0, 3, 0, 0, []), (1176, 1, .iconst 1, 1, 0, 0, 0, []), (1177, 1, .iadd, 0, 0, 0, 0, []), (1178, 1, .iaload, 0, 0, 0, 0, []), (1179, 3, .invokevirtual 150, 0, 121, 2, 0, []), (1182, 1, .aload_n 2, 0, 2, 0, 0, []), (1183, 1, .aload_n 0, 0, 0, 0, 0, []), (1184, 1, .iload_n 3, 0, 3, 0, 0, []), (1185, 1, .iconst 1, 1, 0, 0, 0, []), (1186, 1, .iadd, 0, 0, 0, 0, []), (1187, 1, .iaload, 0, 0, 0, 0, []), (1188, 3, .invokevirtual 153, 0, 194, 2, 12, []), (1191, 3, .if_icmp .eq 5, 0, 1196, 0, 0, []), (1194, 1, .iconst 0, 0, 0, 0, 0, []), (1195, 1, .ireturn, 0, 0, 0, 0, []), (1196, 3, .iinc 3 6, 6, 3, 0, 0, []), (1199, 3, .goto (-1181), 0, 18, 0, 0, []), (1202, 1, .iconst 1, 1, 0, 0, 0, []), (1203, 1, .ireturn, 0, 0, 0, 0, [])]
set_option maxRecDepth 100000 in
theorem cll_20 : (cl_20.all (okCE 13 4 code)) = true := by decide +kernel
def cd_law : List CE := cl_0 ++ (cl_1 ++ (cl_2 ++ (cl_3 ++ (cl_4 ++ (cl_5 ++ (cl_6 ++ (cl_7 ++ (cl_8 ++ (cl_9 ++ (cl_10 ++ (cl_11 ++ (cl_12 ++ (cl_13 ++ (cl_14 ++ (cl_15 ++ (cl_16 ++ (cl_17 ++ (cl_18 ++ (cl_19 ++ (cl_20))))))))))))))))))))
theorem all_app {f : CE → Bool} {a b : List CE} (ha : a.all f = true) (hb : b.all f = true) : (a ++ b).all f = true := by rw [List.all_append, ha, hb]; rfl
theorem ck_law : (cd_law.all (okCE 13 4 code)) = true := all_app cll_0 (all_app cll_1 (all_app cll_2 (all_app cll_3 (all_app cll_4 (all_app cll_5 (all_app cll_6 (all_app cll_7 (all_app cll_8 (all_app cll_9 (all_app cll_10 (all_app cll_11 (all_app cll_12 (all_app cll_13 (all_app cll_14 (all_app cll_15 (all_app cll_16 (all_app cll_17 (all_app cll_18 (all_app cll_19 (cll_20))))))))))))))))))))
def depL : List Nat := [2, 1, 1, 1, 2, 1, 1, 2, 1, 2, 1, 2, 1, 1, 1, 2, 3, 1, 2, 1, 1, 2, 1, 3, 2, 1, 2, 1, 7, 6, 1, 5, 4, 1, 3, 1, 1, 2, 3, 2, 1, 1, 3, 2, 1, 4, 3, 7, 6, 5, 4, 3, 2, 1, 1, 2, 1, 3, 3, 1, 2, 1, 5, 3, 2, 1, 3, 1, 1, 4, 3, 5, 4, 5, 4, 3, 2, 1, 1, 1, 3, 2, 1, 2, 5, 4, 3, 7, 6, 5, 1, 7, 6, 2, 1, 4, 1, 7, 6, 2, 7, 6, 3, 2, 1, 1, 1, 1, 3, 2, 2, 1, 1, 2, 1, 5, 4, 2, 7, 6, 5, 2, 3, 1, 2, 1, 3, 2, 1, 1, 2, 3, 2, 3, 2, 1, 3, 4, 3, 3, 2, 2, 2, 4, 3, 1, 2, 2, 1, 3, 1, 3, 2, 4, 3, 3, 2, 1, 6, 3, 1, 5, 4, 3, 2, 1, 1, 3, 5, 4, 3, 2, 2, 3, 5, 4, 2, 6, 5, 2, 6, 2, 3, 7, 6, 8, 7, 3, 2, 5, 4, 2, 6, 5, 2]
def dep (k : Nat) : Nat := depL.getD k 1
end
section
/-! answers as functions: what must hold, the answer, the cells behind it -/
abbrev MR : Type := Prop × Int32 × St
def Ap (t : MR) (Q : Int32 → St → Prop) : Prop := t.1 ∧ Q t.2.1 t.2.2
def rt (r : Int32) (σ : St) : MR := (True, r, σ)
def mb (c : Prop) (t : MR) : MR := (c ∧ t.1, t.2)
def bn (t : MR) (f : Int32 → St → MR) : MR := (t.1 ∧ (f t.2.1 t.2.2).1, (f t.2.1 t.2.2).2)
def bad : MR := (False, 0, fun _ _ => 0)
theorem n_if {c : Prop} [Decidable c] {A B : MR} {Q : Int32 → St → Prop} {T F : Prop} (h : Ap (if c then A else B) Q) (hT : Ap A Q → T) (hF : Ap B Q → F) : (c → T) ∧ (¬ c → F) := ⟨fun z => hT (by rwa [if_pos z] at h), fun z => hF (by rwa [if_neg z] at h)⟩
theorem n_ne {c : Prop} [Decidable c] {A B : MR} {Q : Int32 → St → Prop} {T F : Prop} (h : Ap (if c then A else B) Q) (hT : Ap A Q → T) (hF : Ap B Q → F) : (¬ c → F) ∧ (c → T) := ⟨fun z => hF (by rwa [if_neg z] at h), fun z => hT (by rwa [if_pos z] at h)⟩
theorem n_mb {c : Prop} {A : MR} {Q : Int32 → St → Prop} {T : Prop} (h : Ap (mb c A) Q) (hT : Ap A Q → T) : c ∧ T := ⟨h.1.1, hT ⟨h.1.2, h.2⟩⟩
theorem n_bn {t : MR} {f : Int32 → St → MR} {Q V : Int32 → St → Prop} (h : Ap (bn t f) Q) (hV : ∀ r σ, Ap (f r σ) Q → V r σ) : Ap t V := ⟨h.1.1, hV _ _ ⟨h.1.2, h.2⟩⟩
theorem n_rt {r : Int32} {σ : St} {Q : Int32 → St → Prop} (h : Ap (rt r σ) Q) : Q r σ := h.2
theorem n_rb {c : Prop} {r : Int32} {σ : St} {Q : Int32 → St → Prop} (h : Ap (mb c (rt r σ)) Q) : c ∧ Q r σ := ⟨h.1.1, h.2⟩
theorem n_no {Q : Int32 → St → Prop} {X : Prop} (h : Ap bad Q) : X := h.1.elim
end
section
/-! the methods as functions (written by wip/whole/gen/spec.py) -/
def FU : Nat := 5000
/-- TradeTests.isBelow -/
def sp_1 (x1 x2 : Int32) (σ : St) : MR := (if x1 < 0 then mb ((0 : Int32) = 0 ∨ (0 : Int32) = 1) (rt 0 σ) else (if x2 ≤ x1 then mb ((0 : Int32) = 0 ∨ (0 : Int32) = 1) (rt 0 σ) else mb ((1 : Int32) = 0 ∨ (1 : Int32) = 1) (rt 1 σ)))
/-- TradeTests.finding -/
def sp_2 (x1 : Int32) (σ : St) : MR := mb (vp_in x1 6) (mb (vp_in x1 6) (rt ((-1000000 : Int32) - x1) (up σ 14 (x1).toNatClampNeg ((σ 14 (x1).toNatClampNeg) + 1))))
/-- TradeTests$Vehicles.add -/
def sp_3 (x1 x2 x3 : Int32) (σ : St) : MR := mb (vp_in (σ 1 3) 24) (mb (vp_in (σ 1 3) 24) (mb (vp_in (σ 1 3) 24) (rt (((σ 1 3) + 1) - 1) (up (up (up (up σ 15 (σ 1 3).toNatClampNeg x1) 16 (σ 1 3).toNatClampNeg x2) 17 (σ 1 3).toNatClampNeg x3) 1 3 ((σ 1 3) + 1)))))
/-- TradeTests.isUnder -/
def sp_5 (x1 x2 : Int32) (σ : St) : MR := (if x1 = x2 then mb ((1 : Int32) = 0 ∨ (1 : Int32) = 1) (rt 1 σ) else (if x2 = 0 then mb ((1 : Int32) = 0 ∨ (1 : Int32) = 1) (rt 1 σ) else (if x2 = 1 then (if x1 = 2 then mb ((1 : Int32) = 0 ∨ (1 : Int32) = 1) (rt 1 σ) else mb ((0 : Int32) = 0 ∨ (0 : Int32) = 1) (rt 0 σ)) else mb ((0 : Int32) = 0 ∨ (0 : Int32) = 1) (rt 0 σ))))
/-- TradeTests$Vehicles.dueDays -/
def sp_6 (x1 : Int32) (σ : St) : MR := mb (vp_in x1 24) (mb (vp_in (σ 15 (x1).toNatClampNeg) 4) (rt ((sV 0).getD (σ 15 (x1).toNatClampNeg).toNatClampNeg 0) σ))
/-- TradeTests$Trade.addGarage -/
def sp_8 (x1 x2 : Int32) (σ : St) : MR := mb (vp_in (σ 2 2) 6) (mb (vp_in (σ 2 2) 6) (rt (((σ 2 2) + 1) - 1) (up (up (up σ 18 (σ 2 2).toNatClampNeg x1) 19 (σ 2 2).toNatClampNeg x2) 2 2 ((σ 2 2) + 1))))
/-- TradeTests$Trade.addTester -/
def sp_10 (x1 : Int32) (σ : St) : MR := mb (vp_in (σ 2 4) 8) (rt (((σ 2 4) + 1) - 1) (up (up σ 20 (σ 2 4).toNatClampNeg x1) 2 4 ((σ 2 4) + 1)))
/-- TradeTests$Trade.lastMoveDay -/
def lp_12_4 : Nat → Int32 → Int32 → Int32 → St → MR
  | 0, _, _, _, _ => bad
  | n + 1, v1, v2, v3, σ => (if (σ 2 8) ≤ v3 then rt v2 σ else mb (vp_in v3 30) ((if (σ 21 (v3).toNatClampNeg) = v1 then mb (vp_in v3 30) (lp_12_4 n v1 (σ 23 (v3).toNatClampNeg) (v3 + 1) σ) else lp_12_4 n v1 v2 (v3 + 1) σ)))
def sp_12 (x1 : Int32) (σ : St) : MR := lp_12_4 FU x1 0 0 σ
/-- TradeTests$Trade.addMove -/
def sp_13 (x1 x2 x3 : Int32) (σ : St) : MR := mb (vp_in (σ 2 8) 30) (mb (vp_in (σ 2 8) 30) (mb (vp_in (σ 2 8) 30) (rt 0 (up (up (up (up σ 21 (σ 2 8).toNatClampNeg x1) 22 (σ 2 8).toNatClampNeg x2) 23 (σ 2 8).toNatClampNeg x3) 2 8 ((σ 2 8) + 1)))))
/-- TradeTests$Trade.garageOn -/
def lp_14_10 : Nat → Int32 → Int32 → Int32 → Int32 → St → MR
  | 0, _, _, _, _, _ => bad
  | n + 1, v1, v2, v3, v4, σ => (if (σ 2 8) ≤ v4 then rt v3 σ else mb (vp_in v4 30) ((if (σ 21 (v4).toNatClampNeg) = v1 then mb (vp_in v4 30) ((if v2 < (σ 23 (v4).toNatClampNeg) then lp_14_10 n v1 v2 v3 (v4 + 1) σ else mb (vp_in v4 30) (lp_14_10 n v1 v2 (σ 22 (v4).toNatClampNeg) (v4 + 1) σ))) else lp_14_10 n v1 v2 v3 (v4 + 1) σ)))
def sp_14 (x1 x2 : Int32) (σ : St) : MR := mb (vp_in x1 8) (lp_14_10 FU x1 x2 (σ 20 (x1).toNatClampNeg) 0 σ)
/-- TradeTests.isWho -/
def sp_17 (x1 : Int32) (σ : St) : MR := (if x1 < 0 then mb ((0 : Int32) = 0 ∨ (0 : Int32) = 1) (rt 0 σ) else mb (¬ (100 : Int32) = 0) ((if (σ 1 3) ≤ (x1 / 100) then mb ((0 : Int32) = 0 ∨ (0 : Int32) = 1) (rt 0 σ) else mb (¬ (100 : Int32) = 0) ((if (σ 2 4) ≤ (x1 - x1 / 100 * 100) then mb ((0 : Int32) = 0 ∨ (0 : Int32) = 1) (rt 0 σ) else mb ((1 : Int32) = 0 ∨ (1 : Int32) = 1) (rt 1 σ))))))
/-- TradeTests$Tests.lastDay -/
def sp_19 (σ : St) : MR := (if (σ 3 14) ≤ 0 then rt 0 σ else mb (vp_in ((σ 3 14) - 1) 80) (rt (σ 26 ((σ 3 14) - 1).toNatClampNeg) σ))
/-- TradeTests.isHow -/
def sp_20 (x1 x2 : Int32) (σ : St) : MR := (if x2 < 0 then mb ((0 : Int32) = 0 ∨ (0 : Int32) = 1) (rt 0 σ) else mb (¬ (1000 : Int32) = 0) ((if (x2 - x2 / 1000 * 1000) < 512 then mb (¬ (1000 : Int32) = 0) ((if (x2 / 1000) < 1 then mb ((0 : Int32) = 0 ∨ (0 : Int32) = 1) (rt 0 σ) else (if 240 < (x2 / 1000) then mb ((0 : Int32) = 0 ∨ (0 : Int32) = 1) (rt 0 σ) else mb (¬ (10000 : Int32) = 0) ((if 1440 < ((x1 / 10000) + (x2 / 1000)) then mb ((0 : Int32) = 0 ∨ (0 : Int32) = 1) (rt 0 σ) else mb ((1 : Int32) = 0 ∨ (1 : Int32) = 1) (rt 1 σ)))))) else mb ((0 : Int32) = 0 ∨ (0 : Int32) = 1) (rt 0 σ))))
/-- TradeTests$Tests.add -/
def sp_22 (x1 x2 x3 x4 x5 : Int32) (σ : St) : MR := mb (¬ (100 : Int32) = 0) (mb (vp_in (σ 3 14) 80) (mb (¬ (100 : Int32) = 0) (mb (vp_in (σ 3 14) 80) (mb (¬ (10000 : Int32) = 0) (mb (vp_in (σ 3 14) 80) (mb (¬ (10000 : Int32) = 0) (mb (vp_in (σ 3 14) 80) (mb (¬ (1000 : Int32) = 0) (mb (vp_in (σ 3 14) 80) (mb (vp_in (σ 3 14) 80) (mb (¬ (1000 : Int32) = 0) (mb (vp_in (σ 3 14) 80) (mb (¬ (1000 : Int32) = 0) (mb (vp_in (σ 3 14) 80) (mb (¬ (1000 : Int32) = 0) (mb (¬ (256 : Int32) = 0) (mb (vp_in (σ 3 14) 80) (mb (¬ (1000 : Int32) = 0) (mb (¬ (256 : Int32) = 0) (mb (vp_in (σ 3 14) 80) (rt (((σ 3 14) + 1) - 1) (up (up (up (up (up (up (up (up (up (up (up σ 24 (σ 3 14).toNatClampNeg (x1 / 100)) 25 (σ 3 14).toNatClampNeg (x1 - x1 / 100 * 100)) 26 (σ 3 14).toNatClampNeg (x2 - x2 / 10000 * 10000)) 27 (σ 3 14).toNatClampNeg (x2 / 10000)) 28 (σ 3 14).toNatClampNeg (x3 / 1000)) 29 (σ 3 14).toNatClampNeg x4) 30 (σ 3 14).toNatClampNeg (x5 / 1000)) 31 (σ 3 14).toNatClampNeg (x5 - x5 / 1000 * 1000)) 32 (σ 3 14).toNatClampNeg ((x3 - x3 / 1000 * 1000) - (x3 - x3 / 1000 * 1000) / 256 * 256)) 33 (σ 3 14).toNatClampNeg ((x3 - x3 / 1000 * 1000) / 256)) 3 14 ((σ 3 14) + 1)))))))))))))))))))))))
/-- TradeTests$Tests.detail -/
def sp_25 (x1 x2 : Int32) (σ : St) : MR := (if x2 = 0 then mb (vp_in x1 80) (rt (σ 24 (x1).toNatClampNeg) σ) else (if x2 = 1 then mb (vp_in x1 80) (rt (σ 25 (x1).toNatClampNeg) σ) else (if x2 = 2 then mb (vp_in x1 80) (rt (σ 26 (x1).toNatClampNeg) σ) else (if x2 = 3 then mb (vp_in x1 80) (rt (σ 27 (x1).toNatClampNeg) σ) else (if x2 = 4 then mb (vp_in x1 80) (rt (σ 28 (x1).toNatClampNeg) σ) else (if x2 = 5 then mb (vp_in x1 80) (rt (σ 29 (x1).toNatClampNeg) σ) else (if x2 = 6 then mb (vp_in x1 80) (rt (σ 30 (x1).toNatClampNeg) σ) else (if x2 = 7 then mb (vp_in x1 80) (rt (σ 31 (x1).toNatClampNeg) σ) else (if x2 = 8 then mb (vp_in x1 80) (rt (σ 32 (x1).toNatClampNeg) σ) else mb (vp_in x1 80) (rt (σ 33 (x1).toNatClampNeg) σ))))))))))
/-- TradeTests$Texts.addByte -/
def sp_27 (x1 : Int32) (σ : St) : MR := mb (vp_in (σ 4 1) 60) (rt ((σ 4 1) + 1) (up (up σ 38 (σ 4 1).toNatClampNeg x1) 4 1 ((σ 4 1) + 1)))
/-- TradeTests$Texts.clearNext -/
def lp_30_23 : Nat → Int32 → St → MR
  | 0, _, _ => bad
  | n + 1, v1, σ => (if 4 ≤ v1 then rt 0 σ else mb (vp_in (((σ 4 7) * 4) + v1) 24) (lp_30_23 n (v1 + 1) (up σ 42 (((σ 4 7) * 4) + v1).toNatClampNeg 0)))
def sp_30 (σ : St) : MR := mb (vp_in (σ 4 7) 6) (mb (vp_in (σ 4 7) 6) (lp_30_23 FU 0 (up (up σ 40 (σ 4 7).toNatClampNeg 0) 41 (σ 4 7).toNatClampNeg 100)))
/-- TradeTests$Texts.next -/
def sp_33 (σ : St) : MR := (if (σ 4 1) ≤ (σ 4 2) then rt (-1) σ else mb (vp_in (σ 4 2) 60) (rt (σ 38 (σ 4 2).toNatClampNeg) σ))
/-- TradeTests$Texts.isDigit -/
def sp_35 (x1 x2 : Int32) (σ : St) : MR := (if x1 < 48 then mb ((0 : Int32) = 0 ∨ (0 : Int32) = 1) (rt 0 σ) else (if x2 < x1 then mb ((0 : Int32) = 0 ∨ (0 : Int32) = 1) (rt 0 σ) else mb ((1 : Int32) = 0 ∨ (1 : Int32) = 1) (rt 1 σ)))
/-- TradeTests$Texts.kindOf -/
def sp_36 (x1 : Int32) (σ : St) : MR := (if x1 = 99 then rt 1 σ else (if x1 = 114 then rt 3 σ else (if x1 = 116 then rt 2 σ else (if x1 = 118 then rt 0 σ else rt (-1) σ))))
/-- TradeTests$Texts.inForce -/
def lp_40_7 : Nat → Int32 → Int32 → St → MR
  | 0, _, _, _ => bad
  | n + 1, v1, v2, σ => (if v2 < 0 then rt (-1) σ else mb (vp_in v2 6) ((if v1 < (σ 39 (v2).toNatClampNeg) then lp_40_7 n v1 (v2 + (-1)) σ else rt v2 σ)))
def sp_40 (x1 : Int32) (σ : St) : MR := lp_40_7 FU x1 ((σ 4 7) - 1) σ
/-- TradeTests$Texts.failing -/
def sp_41 (x1 x2 : Int32) (σ : St) : MR := mb (vp_in ((x1 * 4) + x2) 24) (rt (σ 42 ((x1 * 4) + x2).toNatClampNeg) σ)
/-- TradeTests$Judge.brakesDo -/
def sp_44 (x1 x2 x3 : Int32) (σ : St) : MR := (if x3 ≤ x2 then (if x3 ≤ x2 then mb (vp_in x1 6) ((if x3 < (σ 40 (x1).toNatClampNeg) then mb ((0 : Int32) = 0 ∨ (0 : Int32) = 1) (rt 0 σ) else mb (vp_in x1 6) ((if (x3 * 100) < (((100 : Int32) - (σ 41 (x1).toNatClampNeg)) * x2) then mb ((0 : Int32) = 0 ∨ (0 : Int32) = 1) (rt 0 σ) else mb ((1 : Int32) = 0 ∨ (1 : Int32) = 1) (rt 1 σ))))) else mb (vp_in x1 6) ((if x3 < (σ 40 (x1).toNatClampNeg) then mb ((0 : Int32) = 0 ∨ (0 : Int32) = 1) (rt 0 σ) else mb (vp_in x1 6) ((if (x3 * 100) < (((100 : Int32) - (σ 41 (x1).toNatClampNeg)) * x3) then mb ((0 : Int32) = 0 ∨ (0 : Int32) = 1) (rt 0 σ) else mb ((1 : Int32) = 0 ∨ (1 : Int32) = 1) (rt 1 σ)))))) else (if x3 ≤ x2 then mb (vp_in x1 6) ((if x2 < (σ 40 (x1).toNatClampNeg) then mb ((0 : Int32) = 0 ∨ (0 : Int32) = 1) (rt 0 σ) else mb (vp_in x1 6) ((if (x2 * 100) < (((100 : Int32) - (σ 41 (x1).toNatClampNeg)) * x2) then mb ((0 : Int32) = 0 ∨ (0 : Int32) = 1) (rt 0 σ) else mb ((1 : Int32) = 0 ∨ (1 : Int32) = 1) (rt 1 σ))))) else mb (vp_in x1 6) ((if x2 < (σ 40 (x1).toNatClampNeg) then mb ((0 : Int32) = 0 ∨ (0 : Int32) = 1) (rt 0 σ) else mb (vp_in x1 6) ((if (x2 * 100) < (((100 : Int32) - (σ 41 (x1).toNatClampNeg)) * x3) then mb ((0 : Int32) = 0 ∨ (0 : Int32) = 1) (rt 0 σ) else mb ((1 : Int32) = 0 ∨ (1 : Int32) = 1) (rt 1 σ)))))))
/-- TradeTests$Signals.isQuick -/
def sp_54 (x1 : Int32) (σ : St) : MR := mb (vp_in x1 80) (mb (vp_in x1 80) (mb (vp_in (σ 24 (x1).toNatClampNeg) 24) (mb (vp_in (σ 15 (σ 24 (x1).toNatClampNeg).toNatClampNeg) 4) ((if ((sV 1).getD (σ 15 (σ 24 (x1).toNatClampNeg).toNatClampNeg).toNatClampNeg 0) ≤ (σ 28 (x1).toNatClampNeg) then mb ((0 : Int32) = 0 ∨ (0 : Int32) = 1) (rt 0 σ) else mb ((1 : Int32) = 0 ∨ (1 : Int32) = 1) (rt 1 σ))))))
/-- TradeTests$Signals.isMeeting -/
def sp_56 (x1 x2 : Int32) (σ : St) : MR := mb (vp_in x1 80) (mb (vp_in x2 80) ((if (σ 26 (x1).toNatClampNeg) = (σ 26 (x2).toNatClampNeg) then mb (vp_in x1 80) (mb (vp_in x2 80) (mb (vp_in x2 80) ((if ((σ 27 (x2).toNatClampNeg) + (σ 28 (x2).toNatClampNeg)) ≤ (σ 27 (x1).toNatClampNeg) then mb ((0 : Int32) = 0 ∨ (0 : Int32) = 1) (rt 0 σ) else mb (vp_in x2 80) (mb (vp_in x1 80) (mb (vp_in x1 80) ((if ((σ 27 (x1).toNatClampNeg) + (σ 28 (x1).toNatClampNeg)) ≤ (σ 27 (x2).toNatClampNeg) then mb ((0 : Int32) = 0 ∨ (0 : Int32) = 1) (rt 0 σ) else mb ((1 : Int32) = 0 ∨ (1 : Int32) = 1) (rt 1 σ))))))))) else mb ((0 : Int32) = 0 ∨ (0 : Int32) = 1) (rt 0 σ))))
/-- java/lang/Integer.bitCount -/
def sp_59 (x1 : Int32) (σ : St) : MR := rt ((((((((x1 - (((x1.toUInt32 >>> ((1 : Int32).toUInt32 &&& Int32.toUInt32 31)).toInt32) &&& 1431655765)) &&& 858993459) + ((((x1 - (((x1.toUInt32 >>> ((1 : Int32).toUInt32 &&& Int32.toUInt32 31)).toInt32) &&& 1431655765)).toUInt32 >>> ((2 : Int32).toUInt32 &&& Int32.toUInt32 31)).toInt32) &&& 858993459)) + (((((x1 - (((x1.toUInt32 >>> ((1 : Int32).toUInt32 &&& Int32.toUInt32 31)).toInt32) &&& 1431655765)) &&& 858993459) + ((((x1 - (((x1.toUInt32 >>> ((1 : Int32).toUInt32 &&& Int32.toUInt32 31)).toInt32) &&& 1431655765)).toUInt32 >>> ((2 : Int32).toUInt32 &&& Int32.toUInt32 31)).toInt32) &&& 858993459)).toUInt32 >>> ((4 : Int32).toUInt32 &&& Int32.toUInt32 31)).toInt32)) &&& 252645135) + (((((((x1 - (((x1.toUInt32 >>> ((1 : Int32).toUInt32 &&& Int32.toUInt32 31)).toInt32) &&& 1431655765)) &&& 858993459) + ((((x1 - (((x1.toUInt32 >>> ((1 : Int32).toUInt32 &&& Int32.toUInt32 31)).toInt32) &&& 1431655765)).toUInt32 >>> ((2 : Int32).toUInt32 &&& Int32.toUInt32 31)).toInt32) &&& 858993459)) + (((((x1 - (((x1.toUInt32 >>> ((1 : Int32).toUInt32 &&& Int32.toUInt32 31)).toInt32) &&& 1431655765)) &&& 858993459) + ((((x1 - (((x1.toUInt32 >>> ((1 : Int32).toUInt32 &&& Int32.toUInt32 31)).toInt32) &&& 1431655765)).toUInt32 >>> ((2 : Int32).toUInt32 &&& Int32.toUInt32 31)).toInt32) &&& 858993459)).toUInt32 >>> ((4 : Int32).toUInt32 &&& Int32.toUInt32 31)).toInt32)) &&& 252645135).toUInt32 >>> ((8 : Int32).toUInt32 &&& Int32.toUInt32 31)).toInt32)) + ((((((((x1 - (((x1.toUInt32 >>> ((1 : Int32).toUInt32 &&& Int32.toUInt32 31)).toInt32) &&& 1431655765)) &&& 858993459) + ((((x1 - (((x1.toUInt32 >>> ((1 : Int32).toUInt32 &&& Int32.toUInt32 31)).toInt32) &&& 1431655765)).toUInt32 >>> ((2 : Int32).toUInt32 &&& Int32.toUInt32 31)).toInt32) &&& 858993459)) + (((((x1 - (((x1.toUInt32 >>> ((1 : Int32).toUInt32 &&& Int32.toUInt32 31)).toInt32) &&& 1431655765)) &&& 858993459) + ((((x1 - (((x1.toUInt32 >>> ((1 : Int32).toUInt32 &&& Int32.toUInt32 31)).toInt32) &&& 1431655765)).toUInt32 >>> ((2 : Int32).toUInt32 &&& Int32.toUInt32 31)).toInt32) &&& 858993459)).toUInt32 >>> ((4 : Int32).toUInt32 &&& Int32.toUInt32 31)).toInt32)) &&& 252645135) + (((((((x1 - (((x1.toUInt32 >>> ((1 : Int32).toUInt32 &&& Int32.toUInt32 31)).toInt32) &&& 1431655765)) &&& 858993459) + ((((x1 - (((x1.toUInt32 >>> ((1 : Int32).toUInt32 &&& Int32.toUInt32 31)).toInt32) &&& 1431655765)).toUInt32 >>> ((2 : Int32).toUInt32 &&& Int32.toUInt32 31)).toInt32) &&& 858993459)) + (((((x1 - (((x1.toUInt32 >>> ((1 : Int32).toUInt32 &&& Int32.toUInt32 31)).toInt32) &&& 1431655765)) &&& 858993459) + ((((x1 - (((x1.toUInt32 >>> ((1 : Int32).toUInt32 &&& Int32.toUInt32 31)).toInt32) &&& 1431655765)).toUInt32 >>> ((2 : Int32).toUInt32 &&& Int32.toUInt32 31)).toInt32) &&& 858993459)).toUInt32 >>> ((4 : Int32).toUInt32 &&& Int32.toUInt32 31)).toInt32)) &&& 252645135).toUInt32 >>> ((8 : Int32).toUInt32 &&& Int32.toUInt32 31)).toInt32)).toUInt32 >>> ((16 : Int32).toUInt32 &&& Int32.toUInt32 31)).toInt32)) &&& 63) σ
/-- TradeTests$Secrets.isVisited -/
def sp_61 (x1 : Int32) (σ : St) : MR := mb (vp_in x1 80) ((if (σ 35 (x1).toNatClampNeg) ≤ 0 then mb ((0 : Int32) = 0 ∨ (0 : Int32) = 1) (rt 0 σ) else mb ((1 : Int32) = 0 ∨ (1 : Int32) = 1) (rt 1 σ)))
/-- TradeTests$Vehicles.ageClass -/
def sp_65 (x1 x2 : Int32) (σ : St) : MR := mb (vp_in x1 24) (mb (¬ (365 : Int32) = 0) ((if 3 ≤ ((x2 - (σ 17 (x1).toNatClampNeg)) / 365) then (if 6 ≤ ((x2 - (σ 17 (x1).toNatClampNeg)) / 365) then (if 10 ≤ ((x2 - (σ 17 (x1).toNatClampNeg)) / 365) then rt 3 σ else rt 2 σ) else rt 1 σ) else rt 0 σ)))
/-- TradeTests$Rates.cellShare -/
def sp_67 (x1 : Int32) (σ : St) : MR := mb (vp_in x1 16) ((if (σ 43 (x1).toNatClampNeg) ≤ 0 then rt (-1) σ else mb (vp_in x1 16) (mb (vp_in x1 16) (mb (¬ (σ 43 (x1).toNatClampNeg) = 0) (rt (((1000 : Int32) * (σ 44 (x1).toNatClampNeg)) / (σ 43 (x1).toNatClampNeg)) σ)))))
/-- TradeTests$Rates.more -/
def sp_68 (σ : St) : MR := rt (((1000 : Int32) * (σ 7 6)) - (σ 7 7)) σ
/-- TradeTests$Odometer.milesAhead -/
def lp_77_4 : Nat → Int32 → Int32 → St → MR
  | 0, _, _, _ => bad
  | n + 1, v1, v2, σ => (if v2 < 0 then rt 0 σ else mb (vp_in v2 80) (mb (vp_in v1 80) ((if (σ 24 (v2).toNatClampNeg) = (σ 24 (v1).toNatClampNeg) then mb (vp_in v2 80) (rt (σ 29 (v2).toNatClampNeg) σ) else lp_77_4 n v1 (v2 + (-1)) σ))))
def sp_77 (x1 : Int32) (σ : St) : MR := lp_77_4 FU x1 (x1 - 1) σ
/-- TradeTests$Odometer.milesBehind -/
def lp_78_4 : Nat → Int32 → Int32 → St → MR
  | 0, _, _, _ => bad
  | n + 1, v1, v2, σ => (if (σ 3 14) ≤ v2 then rt 999999 σ else mb (vp_in v2 80) (mb (vp_in v1 80) ((if (σ 24 (v2).toNatClampNeg) = (σ 24 (v1).toNatClampNeg) then mb (vp_in v2 80) (rt (σ 29 (v2).toNatClampNeg) σ) else lp_78_4 n v1 (v2 + 1) σ))))
def sp_78 (x1 : Int32) (σ : St) : MR := lp_78_4 FU x1 (x1 + 1) σ
/-- TradeTests$Odometer.isTyped -/
def lp_79_31 (ko : Int32 → Int32 → Int32 → Int32 → St → MR) : Nat → Int32 → Int32 → Int32 → Int32 → Int32 → Int32 → St → MR
  | 0, _, _, _, _, _, _, _ => bad
  | n + 1, v0, v1, v2, v3, v4, v5, σ => (if 10 ≤ v5 then ko v0 v1 v2 (v3 * 10) σ else (if (v4 + v3) < v1 then lp_79_31 ko n v0 v1 v2 v3 (v4 + v3) (v5 + 1) σ else (if v2 < (v4 + v3) then lp_79_31 ko n v0 v1 v2 v3 (v4 + v3) (v5 + 1) σ else mb ((1 : Int32) = 0 ∨ (1 : Int32) = 1) (rt 1 σ))))
def lp_79_2 : Nat → Int32 → Int32 → Int32 → Int32 → St → MR
  | 0, _, _, _, _, _ => bad
  | n + 1, v0, v1, v2, v3, σ => (if 1000000 ≤ v3 then mb ((0 : Int32) = 0 ∨ (0 : Int32) = 1) (rt 0 σ) else (if v3 = 1 then mb (¬ v3 = 0) (mb (¬ (10 : Int32) = 0) (lp_79_31 (fun v0 v1 v2 v3 σ => lp_79_2 n v0 v1 v2 v3 σ) FU v0 v1 v2 v3 v0 (((v0 / v3) - (v0 / v3) / 10 * 10) + 1) σ)) else (if v0 < v3 then mb ((0 : Int32) = 0 ∨ (0 : Int32) = 1) (rt 0 σ) else mb (¬ v3 = 0) (mb (¬ (10 : Int32) = 0) (lp_79_31 (fun v0 v1 v2 v3 σ => lp_79_2 n v0 v1 v2 v3 σ) FU v0 v1 v2 v3 v0 (((v0 / v3) - (v0 / v3) / 10 * 10) + 1) σ)))))
def sp_79 (x1 x2 x3 : Int32) (σ : St) : MR := lp_79_2 FU x1 x2 x3 1 σ
/-- TradeTests$Penalties.setRule -/
def sp_82 (x1 x2 : Int32) (σ : St) : MR := mb (vp_in x1 3) (mb (vp_in x1 3) (rt (σ 46 (x1).toNatClampNeg) (up σ 46 (x1).toNatClampNeg x2)))
/-- TradeTests$Penalties.rowSum -/
def lp_90_4 : Nat → Int32 → Int32 → Int32 → St → MR
  | 0, _, _, _, _ => bad
  | n + 1, v1, v2, v3, σ => (if (σ 3 14) ≤ v3 then rt v2 σ else mb (vp_in v3 80) ((if v1 < (σ 26 (v3).toNatClampNeg) then lp_90_4 n v1 v2 (v3 + 1) σ else mb (vp_in v3 80) (mb (vp_in 0 3) ((if (σ 26 (v3).toNatClampNeg) ≤ (v1 - (σ 46 (0 : Int32).toNatClampNeg)) then lp_90_4 n v1 v2 (v3 + 1) σ else mb (vp_in v3 80) (lp_90_4 n v1 (v2 + (σ 47 (v3).toNatClampNeg)) (v3 + 1) σ)))))))
def sp_90 (x1 : Int32) (σ : St) : MR := lp_90_4 FU x1 0 0 σ
/-- TradeTests$Secrets.add -/
def sp_94 (x1 : Int32) (σ : St) : MR := mb (vp_in (σ 9 3) 6) (rt (((σ 9 3) + 1) - 1) (up (up σ 45 (σ 9 3).toNatClampNeg x1) 9 3 ((σ 9 3) + 1)))
/-- TradeTests$Secrets.send -/
def sp_96 (x1 x2 : Int32) (σ : St) : MR := mb (vp_in x2 80) (rt 0 (up (up σ 35 (x2).toNatClampNeg ((1 : Int32) + x1)) 9 4 ((σ 9 4) + 1)))
/-- TradeTests$Plan.isFree -/
def sp_104 (x1 x2 : Int32) (σ : St) : MR := (if ((x1 >>> (x2 &&& 31)) &&& 1) = 0 then mb ((1 : Int32) = 0 ∨ (1 : Int32) = 1) (rt 1 σ) else mb ((0 : Int32) = 0 ∨ (0 : Int32) = 1) (rt 0 σ))
/-- TradeTests$Plan.mostWith -/
def sp_105 (x1 x2 x3 : Int32) (σ : St) : MR := mb (vp_in ((x1 * 6) + x2) 36) (mb (vp_in (((x1 + 1) * 64) + (x3 ||| ((1 : Int32) <<< (x2 &&& 31)))) 448) (rt ((σ 48 ((x1 * 6) + x2).toNatClampNeg) + (σ 49 (((x1 + 1) * 64) + (x3 ||| ((1 : Int32) <<< (x2 &&& 31)))).toNatClampNeg)) σ))
/-- TradeTests$Plan.most -/
def sp_107 (σ : St) : MR := mb (vp_in 0 448) (rt (σ 49 (0 : Int32).toNatClampNeg) σ)
/-- TradeTests$Tests.isDrawn -/
def sp_111 (x1 : Int32) (σ : St) : MR := mb (vp_in x1 80) ((if (σ 36 (x1).toNatClampNeg) ≤ 0 then mb ((0 : Int32) = 0 ∨ (0 : Int32) = 1) (rt 0 σ) else mb ((1 : Int32) = 0 ∨ (1 : Int32) = 1) (rt 1 σ)))
/-- TradeTests$Tests.addDraw -/
def sp_112 (x1 x2 x3 : Int32) (σ : St) : MR := mb (vp_in x1 80) (mb (vp_in x1 80) (rt ((σ 3 15) + 1) (up (up (up σ 36 (x1).toNatClampNeg x2) 37 (x1).toNatClampNeg x3) 3 15 ((σ 3 15) + 1))))
/-- TradeTests$Tests.drawnError -/
def lp_114_6 : Nat → Int32 → Int32 → Int32 → St → MR
  | 0, _, _, _, _ => bad
  | n + 1, v1, v2, v3, σ => (if (σ 3 14) ≤ v3 then (if v1 ≤ 0 then rt (-1) σ else mb (¬ v1 = 0) (rt ((v2 * 1000) / v1) σ)) else mb (vp_in v3 80) ((if (σ 36 (v3).toNatClampNeg) ≤ 0 then lp_114_6 n v1 v2 (v3 + 1) σ else mb (vp_in v3 80) (mb (¬ (σ 36 (v3).toNatClampNeg) = 0) (mb (vp_in v3 80) (lp_114_6 n (v1 + ((10000 : Int32) / (σ 36 (v3).toNatClampNeg))) (v2 + ((σ 37 (v3).toNatClampNeg) * ((10000 : Int32) / (σ 36 (v3).toNatClampNeg)))) (v3 + 1) σ))))))
def sp_114 (σ : St) : MR := lp_114_6 FU 0 0 0 σ
/-- TradeTestsModel.in -/
def sp_123 (x1 x2 x3 : Int32) (σ : St) : MR := (if x1 < x2 then mb ((0 : Int32) = 0 ∨ (0 : Int32) = 1) (rt 0 σ) else (if x3 < x1 then mb ((0 : Int32) = 0 ∨ (0 : Int32) = 1) (rt 0 σ) else mb ((1 : Int32) = 0 ∨ (1 : Int32) = 1) (rt 1 σ)))
/-- TradeTestsModel.finds -/
def sp_125 (x1 : Int32) (σ : St) : MR := mb (vp_in x1 6) (mb (vp_in x1 6) (rt ((-1000000 : Int32) - x1) (up σ 80 (x1).toNatClampNeg ((σ 80 (x1).toNatClampNeg) + 1))))
/-- TradeTestsModel.isUnder -/
def sp_128 (x1 x2 : Int32) (σ : St) : MR := (if x2 = 0 then mb ((1 : Int32) = 0 ∨ (1 : Int32) = 1) (rt 1 σ) else (if x1 = x2 then mb ((1 : Int32) = 0 ∨ (1 : Int32) = 1) (rt 1 σ) else (if x2 = 1 then (if x1 = 2 then mb ((1 : Int32) = 0 ∨ (1 : Int32) = 1) (rt 1 σ) else mb ((0 : Int32) = 0 ∨ (0 : Int32) = 1) (rt 0 σ)) else mb ((0 : Int32) = 0 ∨ (0 : Int32) = 1) (rt 0 σ))))
/-- TradeTestsModel.dueOf -/
def sp_129 (x1 : Int32) (σ : St) : MR := mb (vp_in x1 24) ((if (σ 50 (x1).toNatClampNeg) = 2 then rt 182 σ else mb (vp_in x1 24) ((if (σ 50 (x1).toNatClampNeg) = 3 then rt 730 σ else rt 365 σ))))
/-- TradeTestsModel.placeOf -/
def lp_135_10 : Nat → Int32 → Int32 → Int32 → Int32 → St → MR
  | 0, _, _, _, _, _ => bad
  | n + 1, v1, v2, v3, v4, σ => (if (σ 12 3) ≤ v4 then rt v3 σ else mb (vp_in v4 30) ((if (σ 56 (v4).toNatClampNeg) = v1 then mb (vp_in v4 30) ((if v2 < (σ 58 (v4).toNatClampNeg) then lp_135_10 n v1 v2 v3 (v4 + 1) σ else mb (vp_in v4 30) (lp_135_10 n v1 v2 (σ 57 (v4).toNatClampNeg) (v4 + 1) σ))) else lp_135_10 n v1 v2 v3 (v4 + 1) σ)))
def sp_135 (x1 x2 : Int32) (σ : St) : MR := mb (vp_in x1 8) (lp_135_10 FU x1 x2 (σ 55 (x1).toNatClampNeg) 0 σ)
/-- TradeTestsModel.here -/
def sp_145 (σ : St) : MR := (if (σ 12 9) ≤ (σ 12 45) then rt (-1) σ else mb (vp_in (σ 12 45) 60) (rt (σ 78 (σ 12 45).toNatClampNeg) σ))
/-- TradeTestsModel.isDigit -/
def sp_148 (x1 : Int32) (σ : St) : MR := (if x1 < 48 then mb ((0 : Int32) = 0 ∨ (0 : Int32) = 1) (rt 0 σ) else (if 57 < x1 then mb ((0 : Int32) = 0 ∨ (0 : Int32) = 1) (rt 0 σ) else mb ((1 : Int32) = 0 ∨ (1 : Int32) = 1) (rt 1 σ)))
/-- TradeTestsModel.textOn -/
def lp_150_4 : Nat → Int32 → Int32 → Int32 → St → MR
  | 0, _, _, _, _ => bad
  | n + 1, v1, v2, v3, σ => (if (σ 12 5) ≤ v3 then rt v2 σ else mb (vp_in v3 7) ((if v1 < (σ 73 (v3).toNatClampNeg) then lp_150_4 n v1 v2 (v3 + 1) σ else lp_150_4 n v1 v3 (v3 + 1) σ)))
def sp_150 (x1 : Int32) (σ : St) : MR := lp_150_4 FU x1 (-1) 0 σ
/-- TradeTestsModel.cellOf -/
def sp_157 (x1 : Int32) (σ : St) : MR := mb (vp_in x1 80) (mb (vp_in x1 80) (mb (vp_in (σ 59 (x1).toNatClampNeg) 24) (mb (¬ (365 : Int32) = 0) ((if 3 ≤ (((σ 61 (x1).toNatClampNeg) - (σ 52 (σ 59 (x1).toNatClampNeg).toNatClampNeg)) / 365) then (if 6 ≤ (((σ 61 (x1).toNatClampNeg) - (σ 52 (σ 59 (x1).toNatClampNeg).toNatClampNeg)) / 365) then (if 10 ≤ (((σ 61 (x1).toNatClampNeg) - (σ 52 (σ 59 (x1).toNatClampNeg).toNatClampNeg)) / 365) then mb (vp_in x1 80) (mb (vp_in (σ 59 (x1).toNatClampNeg) 24) (rt (((4 : Int32) * 3) + (σ 51 (σ 59 (x1).toNatClampNeg).toNatClampNeg)) σ)) else mb (vp_in x1 80) (mb (vp_in (σ 59 (x1).toNatClampNeg) 24) (rt (((4 : Int32) * 2) + (σ 51 (σ 59 (x1).toNatClampNeg).toNatClampNeg)) σ))) else mb (vp_in x1 80) (mb (vp_in (σ 59 (x1).toNatClampNeg) 24) (rt (((4 : Int32) * 1) + (σ 51 (σ 59 (x1).toNatClampNeg).toNatClampNeg)) σ))) else mb (vp_in x1 80) (mb (vp_in (σ 59 (x1).toNatClampNeg) 24) (rt (((4 : Int32) * 0) + (σ 51 (σ 59 (x1).toNatClampNeg).toNatClampNeg)) σ)))))))
/-- TradeTestsModel.ones -/
def lp_160_4 : Nat → Int32 → Int32 → Int32 → St → MR
  | 0, _, _, _, _ => bad
  | n + 1, v0, v1, v2, σ => (if v2 = 0 then rt v1 σ else lp_160_4 n v0 (v1 + 1) (v2 &&& (v2 - 1)) σ)
def sp_160 (x1 : Int32) (σ : St) : MR := lp_160_4 FU x1 0 x1 σ
/-- TradeTestsModel.isQuick -/
def sp_165 (x1 : Int32) (σ : St) : MR := mb (vp_in x1 80) (mb (vp_in (σ 59 (x1).toNatClampNeg) 24) (mb (vp_in x1 80) ((if (σ 50 (σ 59 (x1).toNatClampNeg).toNatClampNeg) = 2 then (if 30 ≤ (σ 63 (x1).toNatClampNeg) then mb ((0 : Int32) = 0 ∨ (0 : Int32) = 1) (rt 0 σ) else mb ((1 : Int32) = 0 ∨ (1 : Int32) = 1) (rt 1 σ)) else (if (σ 50 (σ 59 (x1).toNatClampNeg).toNatClampNeg) = 3 then (if 10 ≤ (σ 63 (x1).toNatClampNeg) then mb ((0 : Int32) = 0 ∨ (0 : Int32) = 1) (rt 0 σ) else mb ((1 : Int32) = 0 ∨ (1 : Int32) = 1) (rt 1 σ)) else (if 20 ≤ (σ 63 (x1).toNatClampNeg) then mb ((0 : Int32) = 0 ∨ (0 : Int32) = 1) (rt 0 σ) else mb ((1 : Int32) = 0 ∨ (1 : Int32) = 1) (rt 1 σ)))))))
/-- TradeTestsModel.overlaps -/
def lp_166_2 : Nat → Int32 → Int32 → St → MR
  | 0, _, _, _ => bad
  | n + 1, v1, v2, σ => (if (σ 12 4) ≤ v2 then mb ((0 : Int32) = 0 ∨ (0 : Int32) = 1) (rt 0 σ) else (if v2 = v1 then lp_166_2 n v1 (v2 + 1) σ else mb (vp_in v2 80) (mb (vp_in v1 80) ((if (σ 60 (v2).toNatClampNeg) = (σ 60 (v1).toNatClampNeg) then mb (vp_in v2 80) (mb (vp_in v1 80) ((if (σ 61 (v2).toNatClampNeg) = (σ 61 (v1).toNatClampNeg) then mb (vp_in v2 80) (mb (vp_in v1 80) (mb (vp_in v1 80) ((if ((σ 62 (v1).toNatClampNeg) + (σ 63 (v1).toNatClampNeg)) ≤ (σ 62 (v2).toNatClampNeg) then lp_166_2 n v1 (v2 + 1) σ else mb (vp_in v1 80) (mb (vp_in v2 80) (mb (vp_in v2 80) ((if ((σ 62 (v2).toNatClampNeg) + (σ 63 (v2).toNatClampNeg)) ≤ (σ 62 (v1).toNatClampNeg) then lp_166_2 n v1 (v2 + 1) σ else mb ((1 : Int32) = 0 ∨ (1 : Int32) = 1) (rt 1 σ))))))))) else lp_166_2 n v1 (v2 + 1) σ))) else lp_166_2 n v1 (v2 + 1) σ)))))
def sp_166 (x1 : Int32) (σ : St) : MR := lp_166_2 FU x1 0 σ
/-- TradeTests.vehicle -/
def sp_0 (x1 x2 x3 : Int32) (σ : St) : MR := bn (sp_1 x1 4 σ) (fun r9 σ9 => (if r9 = 0 then bn (sp_2 1 σ9) (fun r10 σ10 => rt r10 σ10) else bn (sp_1 x2 4 σ9) (fun r11 σ11 => (if r11 = 0 then bn (sp_2 1 σ11) (fun r12 σ12 => rt r12 σ12) else bn (sp_1 x3 10000 σ11) (fun r13 σ13 => (if r13 = 0 then bn (sp_2 1 σ13) (fun r16 σ16 => rt r16 σ16) else (if (σ13 1 3) < 24 then bn (sp_3 x1 x2 x3 σ13) (fun r14 σ14 => rt r14 σ14) else bn (sp_2 4 σ13) (fun r15 σ15 => rt r15 σ15))))))))
/-- TradeTests.as -/
def sp_4 (x1 x2 : Int32) (σ : St) : MR := bn (sp_1 x1 (σ 1 3) σ) (fun r8 σ8 => (if r8 = 0 then bn (sp_2 1 σ8) (fun r9 σ9 => rt r9 σ9) else bn (sp_1 x2 4 σ8) (fun r10 σ10 => (if r10 = 0 then bn (sp_2 1 σ10) (fun r14 σ14 => rt r14 σ14) else mb (vp_in x1 24) (bn (sp_5 (σ10 15 (x1).toNatClampNeg) x2 σ10) (fun r11 σ11 => (if r11 = 0 then bn (sp_2 5 σ11) (fun r13 σ13 => rt r13 σ13) else bn (sp_6 x1 σ11) (fun r12 σ12 => rt r12 σ12))))))))
/-- TradeTests.garage -/
def sp_7 (x1 x2 : Int32) (σ : St) : MR := bn (sp_1 x1 1440 σ) (fun r7 σ7 => (if r7 = 0 then bn (sp_2 1 σ7) (fun r8 σ8 => rt r8 σ8) else (if x2 ≤ x1 then bn (sp_2 1 σ7) (fun r9 σ9 => rt r9 σ9) else (if x2 ≤ 1440 then (if (σ7 2 2) < 6 then bn (sp_8 x1 x2 σ7) (fun r10 σ10 => rt r10 σ10) else bn (sp_2 4 σ7) (fun r11 σ11 => rt r11 σ11)) else bn (sp_2 1 σ7) (fun r12 σ12 => rt r12 σ12)))))
/-- TradeTests.tester -/
def sp_9 (x1 : Int32) (σ : St) : MR := bn (sp_1 x1 (σ 2 2) σ) (fun r5 σ5 => (if r5 = 0 then bn (sp_2 1 σ5) (fun r8 σ8 => rt r8 σ8) else (if (σ5 2 4) < 8 then bn (sp_10 x1 σ5) (fun r6 σ6 => rt r6 σ6) else bn (sp_2 4 σ5) (fun r7 σ7 => rt r7 σ7))))
/-- TradeTests.move -/
def sp_11 (x1 x2 x3 : Int32) (σ : St) : MR := bn (sp_1 x1 (σ 2 4) σ) (fun r12 σ12 => (if r12 = 0 then bn (sp_2 1 σ12) (fun r13 σ13 => rt r13 σ13) else bn (sp_1 x2 (σ12 2 2) σ12) (fun r14 σ14 => (if r14 = 0 then bn (sp_2 1 σ14) (fun r15 σ15 => rt r15 σ15) else bn (sp_1 x3 10000 σ14) (fun r16 σ16 => (if r16 = 0 then bn (sp_2 1 σ16) (fun r22 σ22 => rt r22 σ22) else bn (sp_12 x1 σ16) (fun r17 σ17 => (if r17 ≤ x3 then (if (σ17 2 8) < 30 then bn (sp_13 x1 x2 x3 σ17) (fun r18 σ18 => bn (sp_14 x1 (x3 - 1) σ18) (fun r19 σ19 => rt r19 σ19)) else bn (sp_2 4 σ17) (fun r20 σ20 => rt r20 σ20)) else bn (sp_2 1 σ17) (fun r21 σ21 => rt r21 σ21)))))))))
/-- TradeTests.at -/
def sp_15 (x1 x2 : Int32) (σ : St) : MR := bn (sp_1 x1 (σ 2 4) σ) (fun r6 σ6 => (if r6 = 0 then bn (sp_2 1 σ6) (fun r7 σ7 => rt r7 σ7) else bn (sp_1 x2 10000 σ6) (fun r8 σ8 => (if r8 = 0 then bn (sp_2 1 σ8) (fun r10 σ10 => rt r10 σ10) else bn (sp_14 x1 x2 σ8) (fun r9 σ9 => rt r9 σ9)))))
/-- TradeTests.isWhen -/
def sp_18 (x1 x2 : Int32) (σ : St) : MR := (if x2 < 0 then mb ((0 : Int32) = 0 ∨ (0 : Int32) = 1) (rt 0 σ) else mb (¬ (10000 : Int32) = 0) ((if (x2 / 10000) < 1440 then mb (¬ (10000 : Int32) = 0) (bn (sp_19  σ) (fun r2 σ2 => (if (x2 - x2 / 10000 * 10000) < r2 then mb ((0 : Int32) = 0 ∨ (0 : Int32) = 1) (rt 0 σ2) else mb (¬ (100 : Int32) = 0) (mb (vp_in (x1 / 100) 24) ((if (x2 - x2 / 10000 * 10000) < (σ2 17 (x1 / 100).toNatClampNeg) then mb ((0 : Int32) = 0 ∨ (0 : Int32) = 1) (rt 0 σ2) else mb ((1 : Int32) = 0 ∨ (1 : Int32) = 1) (rt 1 σ2))))))) else mb ((0 : Int32) = 0 ∨ (0 : Int32) = 1) (rt 0 σ))))
/-- TradeTests.isMiles -/
def sp_21 (x1 x2 : Int32) (σ : St) : MR := mb (¬ (100 : Int32) = 0) (mb (vp_in (x1 / 100) 24) ((if (σ 15 (x1 / 100).toNatClampNeg) = 3 then (if x2 = 0 then mb ((1 : Int32) = 0 ∨ (1 : Int32) = 1) (rt 1 σ) else mb ((0 : Int32) = 0 ∨ (0 : Int32) = 1) (rt 0 σ)) else bn (sp_1 x2 1000000 σ) (fun r2 σ2 => mb (r2 = 0 ∨ r2 = 1) (rt r2 σ2)))))
/-- TradeTests$Trade.garageOf -/
def sp_24 (x2 : Int32) (σ : St) : MR := mb (vp_in x2 80) (mb (vp_in x2 80) (bn (sp_14 (σ 25 (x2).toNatClampNeg) (σ 26 (x2).toNatClampNeg) σ) (fun r2 σ2 => rt r2 σ2)))
/-- TradeTests.feed -/
def sp_26 (x1 : Int32) (σ : St) : MR := bn (sp_1 x1 256 σ) (fun r5 σ5 => (if r5 = 0 then bn (sp_2 1 σ5) (fun r8 σ8 => rt r8 σ8) else (if (σ5 4 1) < 60 then bn (sp_27 x1 σ5) (fun r6 σ6 => rt r6 σ6) else bn (sp_2 4 σ5) (fun r7 σ7 => rt r7 σ7))))
/-- TradeTests$Texts.readEnd -/
def sp_37 (σ : St) : MR := bn (sp_33  σ) (fun r2 σ2 => (if r2 = 59 then mb ((1 : Int32) = 0 ∨ (1 : Int32) = 1) (rt 1 (up σ2 4 2 ((σ2 4 2) + 1))) else mb ((0 : Int32) = 0 ∨ (0 : Int32) = 1) (rt 0 σ2)))
/-- TradeTests.says -/
def sp_39 (x1 x2 : Int32) (σ : St) : MR := (if x2 = 0 then bn (sp_1 x1 10000 σ) (fun r31 σ31 => (if r31 = 0 then bn (sp_2 1 σ31) (fun r32 σ32 => rt r32 σ32) else (if (1 : Int32) = 0 then bn (sp_2 1 σ31) (fun r36 σ36 => rt r36 σ36) else bn (sp_40 x1 σ31) (fun r33 σ33 => (if 0 ≤ r33 then (if x2 < 10 then (if x2 = 0 then mb (vp_in r33 6) (rt (σ33 40 (r33).toNatClampNeg) σ33) else mb (vp_in r33 6) (rt (σ33 41 (r33).toNatClampNeg) σ33)) else bn (sp_41 r33 (x2 - 10) σ33) (fun r34 σ34 => rt r34 σ34)) else bn (sp_2 2 σ33) (fun r35 σ35 => rt r35 σ35)))))) else (if x2 = 1 then bn (sp_1 x1 10000 σ) (fun r37 σ37 => (if r37 = 0 then bn (sp_2 1 σ37) (fun r38 σ38 => rt r38 σ38) else (if (1 : Int32) = 0 then bn (sp_2 1 σ37) (fun r42 σ42 => rt r42 σ42) else bn (sp_40 x1 σ37) (fun r39 σ39 => (if 0 ≤ r39 then (if x2 < 10 then (if x2 = 0 then mb (vp_in r39 6) (rt (σ39 40 (r39).toNatClampNeg) σ39) else mb (vp_in r39 6) (rt (σ39 41 (r39).toNatClampNeg) σ39)) else bn (sp_41 r39 (x2 - 10) σ39) (fun r40 σ40 => rt r40 σ40)) else bn (sp_2 2 σ39) (fun r41 σ41 => rt r41 σ41)))))) else (if x2 < 10 then bn (sp_1 x1 10000 σ) (fun r43 σ43 => (if r43 = 0 then bn (sp_2 1 σ43) (fun r44 σ44 => rt r44 σ44) else (if (0 : Int32) = 0 then bn (sp_2 1 σ43) (fun r48 σ48 => rt r48 σ48) else bn (sp_40 x1 σ43) (fun r45 σ45 => (if 0 ≤ r45 then (if x2 < 10 then (if x2 = 0 then mb (vp_in r45 6) (rt (σ45 40 (r45).toNatClampNeg) σ45) else mb (vp_in r45 6) (rt (σ45 41 (r45).toNatClampNeg) σ45)) else bn (sp_41 r45 (x2 - 10) σ45) (fun r46 σ46 => rt r46 σ46)) else bn (sp_2 2 σ45) (fun r47 σ47 => rt r47 σ47)))))) else (if 14 ≤ x2 then bn (sp_1 x1 10000 σ) (fun r49 σ49 => (if r49 = 0 then bn (sp_2 1 σ49) (fun r50 σ50 => rt r50 σ50) else (if (0 : Int32) = 0 then bn (sp_2 1 σ49) (fun r54 σ54 => rt r54 σ54) else bn (sp_40 x1 σ49) (fun r51 σ51 => (if 0 ≤ r51 then (if x2 < 10 then (if x2 = 0 then mb (vp_in r51 6) (rt (σ51 40 (r51).toNatClampNeg) σ51) else mb (vp_in r51 6) (rt (σ51 41 (r51).toNatClampNeg) σ51)) else bn (sp_41 r51 (x2 - 10) σ51) (fun r52 σ52 => rt r52 σ52)) else bn (sp_2 2 σ51) (fun r53 σ53 => rt r53 σ53)))))) else bn (sp_1 x1 10000 σ) (fun r55 σ55 => (if r55 = 0 then bn (sp_2 1 σ55) (fun r56 σ56 => rt r56 σ56) else (if (1 : Int32) = 0 then bn (sp_2 1 σ55) (fun r60 σ60 => rt r60 σ60) else bn (sp_40 x1 σ55) (fun r57 σ57 => (if 0 ≤ r57 then (if x2 < 10 then (if x2 = 0 then mb (vp_in r57 6) (rt (σ57 40 (r57).toNatClampNeg) σ57) else mb (vp_in r57 6) (rt (σ57 41 (r57).toNatClampNeg) σ57)) else bn (sp_41 r57 (x2 - 10) σ57) (fun r58 σ58 => rt r58 σ58)) else bn (sp_2 2 σ57) (fun r59 σ59 => rt r59 σ59))))))))))
/-- TradeTests$Judge.passes -/
def sp_43 (x1 : Int32) (σ : St) : MR := mb (vp_in x1 80) (bn (sp_40 (σ 26 (x1).toNatClampNeg) σ) (fun r4 σ4 => (if 0 ≤ r4 then mb (vp_in x1 80) (mb (vp_in (σ4 24 (x1).toNatClampNeg) 24) (bn (sp_41 r4 (σ4 15 (σ4 24 (x1).toNatClampNeg).toNatClampNeg) σ4) (fun r5 σ5 => mb (vp_in x1 80) ((if (r5 &&& (σ5 32 (x1).toNatClampNeg)) = 0 then (if (σ4 15 (σ4 24 (x1).toNatClampNeg).toNatClampNeg) = 3 then mb ((1 : Int32) = 0 ∨ (1 : Int32) = 1) (rt 1 σ5) else mb (vp_in x1 80) (mb (vp_in x1 80) (bn (sp_44 r4 (σ5 30 (x1).toNatClampNeg) (σ5 31 (x1).toNatClampNeg) σ5) (fun r6 σ6 => (if r6 = 0 then mb ((0 : Int32) = 0 ∨ (0 : Int32) = 1) (rt 0 σ6) else mb ((1 : Int32) = 0 ∨ (1 : Int32) = 1) (rt 1 σ6)))))) else mb ((0 : Int32) = 0 ∨ (0 : Int32) = 1) (rt 0 σ5)))))) else mb ((1 : Int32) = 0 ∨ (1 : Int32) = 1) (rt 1 σ4))))
/-- TradeTests$Signals.isAlike -/
def sp_52 (x1 x2 : Int32) (σ : St) : MR := mb (vp_in x1 80) (mb (vp_in x2 80) ((if (σ 24 (x1).toNatClampNeg) = (σ 24 (x2).toNatClampNeg) then mb ((0 : Int32) = 0 ∨ (0 : Int32) = 1) (rt 0 σ) else mb (vp_in x1 80) (mb (vp_in x2 80) ((if 30 < (absI ((σ 26 (x1).toNatClampNeg) - (σ 26 (x2).toNatClampNeg))) then mb ((0 : Int32) = 0 ∨ (0 : Int32) = 1) (rt 0 σ) else mb (vp_in x1 80) (mb (vp_in x2 80) ((if 1 < (absI ((σ 30 (x1).toNatClampNeg) - (σ 30 (x2).toNatClampNeg))) then mb ((0 : Int32) = 0 ∨ (0 : Int32) = 1) (rt 0 σ) else mb (vp_in x1 80) (mb (vp_in x2 80) ((if 1 < (absI ((σ 31 (x1).toNatClampNeg) - (σ 31 (x2).toNatClampNeg))) then mb ((0 : Int32) = 0 ∨ (0 : Int32) = 1) (rt 0 σ) else mb ((1 : Int32) = 0 ∨ (1 : Int32) = 1) (rt 1 σ)))))))))))))
/-- TradeTests$Signals.isOverlapping -/
def lp_55_2 : Nat → Int32 → Int32 → St → MR
  | 0, _, _, _ => bad
  | n + 1, v1, v2, σ => (if (σ 3 14) ≤ v2 then mb ((0 : Int32) = 0 ∨ (0 : Int32) = 1) (rt 0 σ) else (if v2 = v1 then lp_55_2 n v1 (v2 + 1) σ else mb (vp_in v2 80) (mb (vp_in v1 80) ((if (σ 25 (v2).toNatClampNeg) = (σ 25 (v1).toNatClampNeg) then bn (sp_56 v2 v1 σ) (fun r2 σ2 => (if r2 = 0 then lp_55_2 n v1 (v2 + 1) σ2 else mb ((1 : Int32) = 0 ∨ (1 : Int32) = 1) (rt 1 σ2))) else lp_55_2 n v1 (v2 + 1) σ)))))
def sp_55 (x1 : Int32) (σ : St) : MR := lp_55_2 FU x1 0 σ
/-- TradeTests$Secrets.knownIn -/
def sp_60 (x1 : Int32) (σ : St) : MR := bn (sp_61 x1 σ) (fun r2 σ2 => (if r2 = 0 then rt 0 σ2 else mb (vp_in x1 80) (mb (vp_in ((σ2 35 (x1).toNatClampNeg) - 1) 6) (rt (σ2 45 ((σ2 35 (x1).toNatClampNeg) - 1).toNatClampNeg) σ2))))
/-- TradeTests$Rates.cellOf -/
def sp_64 (x1 : Int32) (σ : St) : MR := mb (vp_in x1 80) (mb (vp_in x1 80) (bn (sp_65 (σ 24 (x1).toNatClampNeg) (σ 26 (x1).toNatClampNeg) σ) (fun r2 σ2 => mb (vp_in (σ 24 (x1).toNatClampNeg) 24) (rt ((r2 * 4) + (σ2 16 (σ 24 (x1).toNatClampNeg).toNatClampNeg)) σ2))))
/-- TradeTests$Odometer.fall -/
def sp_76 (x1 : Int32) (σ : St) : MR := mb (vp_in x1 80) (bn (sp_77 x1 σ) (fun r4 σ4 => (if (σ 29 (x1).toNatClampNeg) < r4 then bn (sp_78 x1 σ4) (fun r5 σ5 => bn (sp_79 (σ 29 (x1).toNatClampNeg) r4 r5 σ5) (fun r6 σ6 => (if r6 = 0 then rt 2 σ6 else rt 1 σ6))) else rt 0 σ4)))
/-- TradeTests$Penalties.isRule -/
def sp_81 (x1 x2 : Int32) (σ : St) : MR := bn (sp_1 x1 3 σ) (fun r2 σ2 => (if r2 = 0 then mb ((0 : Int32) = 0 ∨ (0 : Int32) = 1) (rt 0 σ2) else (if x2 < 1 then mb ((0 : Int32) = 0 ∨ (0 : Int32) = 1) (rt 0 σ2) else mb (vp_in x1 3) ((if ((sV 2).getD (x1).toNatClampNeg 0) < x2 then mb ((0 : Int32) = 0 ∨ (0 : Int32) = 1) (rt 0 σ2) else mb ((1 : Int32) = 0 ∨ (1 : Int32) = 1) (rt 1 σ2))))))
/-- TradeTests.appeal -/
def sp_83 (x1 x2 : Int32) (σ : St) : MR := bn (sp_1 x1 (σ 3 14) σ) (fun r5 σ5 => (if r5 = 0 then bn (sp_2 1 σ5) (fun r6 σ6 => rt r6 σ6) else bn (sp_1 x2 2 σ5) (fun r7 σ7 => (if r7 = 0 then bn (sp_2 1 σ7) (fun r8 σ8 => rt r8 σ8) else mb (vp_in x1 80) (mb (vp_in x1 80) (rt (σ7 34 (x1).toNatClampNeg) (up σ7 34 (x1).toNatClampNeg x2)))))))
/-- TradeTests.secret -/
def sp_93 (x1 : Int32) (σ : St) : MR := (if x1 < 1 then bn (sp_2 1 σ) (fun r5 σ5 => rt r5 σ5) else (if x1 < 256 then (if (σ 9 3) < 6 then bn (sp_94 x1 σ) (fun r6 σ6 => rt r6 σ6) else bn (sp_2 4 σ) (fun r7 σ7 => rt r7 σ7)) else bn (sp_2 1 σ) (fun r8 σ8 => rt r8 σ8)))
/-- TradeTests$Plan.newFaults -/
def sp_99 (x1 : Int32) (σ : St) : MR := mb (vp_in x1 6) (bn (sp_59 ((σ 45 (x1).toNatClampNeg) &&& ((σ 11 7) ^^^ (-1))) σ) (fun r2 σ2 => rt r2 σ2))
/-- TradeTests$Plan.mostFrom -/
def lp_103_17 : Nat → Int32 → Int32 → Int32 → Int32 → St → MR
  | 0, _, _, _, _, _ => bad
  | n + 1, v1, v2, v3, v4, σ => (if (σ 2 2) ≤ v4 then rt v3 σ else bn (sp_104 v2 v4 σ) (fun r3 σ3 => (if r3 = 0 then lp_103_17 n v1 v2 v3 (v4 + 1) σ3 else bn (sp_105 v1 v4 v2 σ3) (fun r4 σ4 => lp_103_17 n v1 v2 (maxI v3 r4) (v4 + 1) σ4))))
def sp_103 (x1 x2 : Int32) (σ : St) : MR := mb (vp_in (((x1 + 1) * 64) + x2) 448) (lp_103_17 FU x1 x2 (σ 49 (((x1 + 1) * 64) + x2).toNatClampNeg) 0 σ)
/-- TradeTests$Plan.leastGarage -/
def lp_109_2 : Nat → Int32 → Int32 → Int32 → St → MR
  | 0, _, _, _, _ => bad
  | n + 1, v1, v2, v3, σ => (if (σ 2 2) ≤ v3 then rt (-1) σ else bn (sp_104 v2 v3 σ) (fun r3 σ3 => (if r3 = 0 then lp_109_2 n v1 v2 (v3 + 1) σ3 else bn (sp_105 v1 v3 v2 σ3) (fun r4 σ4 => mb (vp_in ((v1 * 64) + v2) 448) ((if r4 = (σ4 49 ((v1 * 64) + v2).toNatClampNeg) then rt v3 σ4 else lp_109_2 n v1 v2 (v3 + 1) σ4))))))
def sp_109 (x1 x2 : Int32) (σ : St) : MR := lp_109_2 FU x1 x2 0 σ
/-- TradeTests.draw -/
def sp_110 (x1 x2 x3 : Int32) (σ : St) : MR := bn (sp_1 x1 (σ 3 14) σ) (fun r10 σ10 => (if r10 = 0 then bn (sp_2 1 σ10) (fun r11 σ11 => rt r11 σ11) else (if x2 < 1 then bn (sp_2 1 σ10) (fun r12 σ12 => rt r12 σ12) else (if 100 < x2 then bn (sp_2 1 σ10) (fun r13 σ13 => rt r13 σ13) else bn (sp_1 x3 2 σ10) (fun r14 σ14 => (if r14 = 0 then bn (sp_2 1 σ14) (fun r18 σ18 => rt r18 σ18) else bn (sp_111 x1 σ14) (fun r15 σ15 => (if r15 = 0 then bn (sp_112 x1 x2 x3 σ15) (fun r16 σ16 => rt r16 σ16) else bn (sp_2 3 σ15) (fun r17 σ17 => rt r17 σ17)))))))))
/-- TradeTests.error -/
def sp_113 (σ : St) : MR := bn (sp_114  σ) (fun r3 σ3 => (if 0 ≤ r3 then rt r3 σ3 else bn (sp_2 2 σ3) (fun r4 σ4 => rt r4 σ4)))
/-- TradeTests.tell -/
def sp_117 (x1 : Int32) (σ : St) : MR := (if (σ 0 12) < 8 then mb (vp_in (σ 0 12) 8) (rt ((σ 0 12) + 1) (up (up σ 13 (σ 0 12).toNatClampNeg x1) 0 12 ((σ 0 12) + 1))) else bn (sp_2 4 σ) (fun r2 σ2 => rt r2 σ2))
/-- TradeTests.found -/
def sp_121 (x1 : Int32) (σ : St) : MR := (if x1 < 1 then bn (sp_2 1 σ) (fun r3 σ3 => rt r3 σ3) else (if x1 ≤ 5 then mb (vp_in x1 6) (rt (σ 14 (x1).toNatClampNeg) σ) else bn (sp_2 1 σ) (fun r4 σ4 => rt r4 σ4)))
/-- TradeTestsModel.isDay -/
def sp_124 (x1 : Int32) (σ : St) : MR := bn (sp_123 x1 0 9999 σ) (fun r2 σ2 => mb (r2 = 0 ∨ r2 = 1) (rt r2 σ2))
/-- TradeTestsModel.isVehicle -/
def sp_127 (x1 : Int32) (σ : St) : MR := bn (sp_123 x1 0 ((σ 12 0) - 1) σ) (fun r2 σ2 => mb (r2 = 0 ∨ r2 = 1) (rt r2 σ2))
/-- TradeTestsModel.garage -/
def sp_130 (x1 x2 : Int32) (σ : St) : MR := bn (sp_123 x1 0 1439 σ) (fun r6 σ6 => (if r6 = 0 then bn (sp_125 1 σ6) (fun r7 σ7 => rt r7 σ7) else bn (sp_123 x2 (x1 + 1) 1440 σ6) (fun r8 σ8 => (if r8 = 0 then bn (sp_125 1 σ8) (fun r10 σ10 => rt r10 σ10) else (if (σ8 12 1) = 6 then bn (sp_125 4 σ8) (fun r9 σ9 => rt r9 σ9) else mb (vp_in (σ8 12 1) 6) (mb (vp_in (σ8 12 1) 6) (rt (((σ8 12 1) + 1) - 1) (up (up (up σ8 53 (σ8 12 1).toNatClampNeg x1) 54 (σ8 12 1).toNatClampNeg x2) 12 1 ((σ8 12 1) + 1)))))))))
/-- TradeTestsModel.isGarage -/
def sp_132 (x1 : Int32) (σ : St) : MR := bn (sp_123 x1 0 ((σ 12 1) - 1) σ) (fun r2 σ2 => mb (r2 = 0 ∨ r2 = 1) (rt r2 σ2))
/-- TradeTestsModel.isTester -/
def sp_134 (x1 : Int32) (σ : St) : MR := bn (sp_123 x1 0 ((σ 12 2) - 1) σ) (fun r2 σ2 => mb (r2 = 0 ∨ r2 = 1) (rt r2 σ2))
/-- TradeTestsModel.isTest -/
def sp_140 (x1 : Int32) (σ : St) : MR := bn (sp_123 x1 0 ((σ 12 4) - 1) σ) (fun r2 σ2 => mb (r2 = 0 ∨ r2 = 1) (rt r2 σ2))
/-- TradeTestsModel.garageOf -/
def sp_141 (x1 : Int32) (σ : St) : MR := mb (vp_in x1 80) (mb (vp_in x1 80) (bn (sp_135 (σ 60 (x1).toNatClampNeg) (σ 61 (x1).toNatClampNeg) σ) (fun r2 σ2 => rt r2 σ2)))
/-- TradeTestsModel.feed -/
def sp_142 (x1 : Int32) (σ : St) : MR := bn (sp_123 x1 0 255 σ) (fun r4 σ4 => (if r4 = 0 then bn (sp_125 1 σ4) (fun r6 σ6 => rt r6 σ6) else (if (σ4 12 9) = 60 then bn (sp_125 4 σ4) (fun r5 σ5 => rt r5 σ5) else mb (vp_in (σ4 12 9) 60) (rt ((σ4 12 9) + 1) (up (up σ4 78 (σ4 12 9).toNatClampNeg x1) 12 9 ((σ4 12 9) + 1))))))
/-- TradeTestsModel.readsFault -/
def lp_146_124 : Nat → Int32 → Int32 → Int32 → Int32 → St → MR
  | 0, _, _, _, _, _ => bad
  | n + 1, v1, v2, v3, v4, σ => (if 4 ≤ v4 then mb ((1 : Int32) = 0 ∨ (1 : Int32) = 1) (rt 1 σ) else mb (vp_in (((4 : Int32) * v1) + v4) 28) (bn (sp_128 v4 v3 σ) (fun r13 σ13 => (if r13 = 0 then mb (vp_in (((4 : Int32) * v1) + v4) 28) (lp_146_124 n v1 v2 v3 (v4 + 1) (up σ13 76 (((4 : Int32) * v1) + v4).toNatClampNeg ((σ 76 (((4 : Int32) * v1) + v4).toNatClampNeg) ||| 0))) else mb (vp_in (((4 : Int32) * v1) + v4) 28) (lp_146_124 n v1 v2 v3 (v4 + 1) (up σ13 76 (((4 : Int32) * v1) + v4).toNatClampNeg ((σ 76 (((4 : Int32) * v1) + v4).toNatClampNeg) ||| ((1 : Int32) <<< (v2 &&& 31)))))))))
def sp_146 (x1 : Int32) (σ : St) : MR := bn (sp_145  σ) (fun r14 σ14 => bn (sp_123 (r14 - 48) 0 7 σ14) (fun r15 σ15 => (if r15 = 0 then mb ((0 : Int32) = 0 ∨ (0 : Int32) = 1) (rt 0 σ15) else bn (sp_145  (up σ15 12 45 ((σ15 12 45) + 1))) (fun r16 σ16 => (if r16 = 118 then (if 0 ≤ (0 : Int32) then bn (sp_145  (up σ16 12 45 ((σ16 12 45) + 1))) (fun r24 σ24 => (if r24 = 59 then lp_146_124 FU x1 (r14 - 48) 0 0 (up σ24 12 45 ((σ24 12 45) + 1)) else mb ((0 : Int32) = 0 ∨ (0 : Int32) = 1) (rt 0 σ24))) else mb ((0 : Int32) = 0 ∨ (0 : Int32) = 1) (rt 0 σ16)) else bn (sp_145  σ16) (fun r17 σ17 => (if r17 = 99 then (if 0 ≤ (1 : Int32) then bn (sp_145  (up σ17 12 45 ((σ17 12 45) + 1))) (fun r23 σ23 => (if r23 = 59 then lp_146_124 FU x1 (r14 - 48) 1 0 (up σ23 12 45 ((σ23 12 45) + 1)) else mb ((0 : Int32) = 0 ∨ (0 : Int32) = 1) (rt 0 σ23))) else mb ((0 : Int32) = 0 ∨ (0 : Int32) = 1) (rt 0 σ17)) else bn (sp_145  σ17) (fun r18 σ18 => (if r18 = 116 then (if 0 ≤ (2 : Int32) then bn (sp_145  (up σ18 12 45 ((σ18 12 45) + 1))) (fun r22 σ22 => (if r22 = 59 then lp_146_124 FU x1 (r14 - 48) 2 0 (up σ22 12 45 ((σ22 12 45) + 1)) else mb ((0 : Int32) = 0 ∨ (0 : Int32) = 1) (rt 0 σ22))) else mb ((0 : Int32) = 0 ∨ (0 : Int32) = 1) (rt 0 σ18)) else bn (sp_145  σ18) (fun r19 σ19 => (if r19 = 114 then (if 0 ≤ (3 : Int32) then bn (sp_145  (up σ19 12 45 ((σ19 12 45) + 1))) (fun r21 σ21 => (if r21 = 59 then lp_146_124 FU x1 (r14 - 48) 3 0 (up σ21 12 45 ((σ21 12 45) + 1)) else mb ((0 : Int32) = 0 ∨ (0 : Int32) = 1) (rt 0 σ21))) else mb ((0 : Int32) = 0 ∨ (0 : Int32) = 1) (rt 0 σ19)) else (if 0 ≤ (-1 : Int32) then bn (sp_145  (up σ19 12 45 ((σ19 12 45) + 1))) (fun r20 σ20 => (if r20 = 59 then lp_146_124 FU x1 (r14 - 48) (-1) 0 (up σ20 12 45 ((σ20 12 45) + 1)) else mb ((0 : Int32) = 0 ∨ (0 : Int32) = 1) (rt 0 σ20))) else mb ((0 : Int32) = 0 ∨ (0 : Int32) = 1) (rt 0 σ19)))))))))))))
/-- TradeTestsModel.readsNumber -/
def lp_147_4 : Nat → Int32 → Int32 → Int32 → St → MR
  | 0, _, _, _, _ => bad
  | n + 1, v1, v2, v3, σ => (if v1 ≤ v3 then (if v3 = 0 then rt (-1) σ else bn (sp_145  σ) (fun r6 σ6 => (if r6 = 59 then rt v2 (up σ6 12 45 ((σ6 12 45) + 1)) else rt (-1) σ6))) else bn (sp_145  σ) (fun r7 σ7 => bn (sp_148 r7 σ7) (fun r8 σ8 => (if r8 = 0 then (if v3 = 0 then rt (-1) σ8 else bn (sp_145  σ8) (fun r9 σ9 => (if r9 = 59 then rt v2 (up σ9 12 45 ((σ9 12 45) + 1)) else rt (-1) σ9))) else bn (sp_145  σ8) (fun r10 σ10 => lp_147_4 n v1 ((((10 : Int32) * v2) + r10) - 48) (v3 + 1) (up σ10 12 45 ((σ10 12 45) + 1)))))))
def sp_147 (x1 : Int32) (σ : St) : MR := lp_147_4 FU x1 0 0 σ
/-- TradeTestsModel.isPass -/
def sp_152 (x1 : Int32) (σ : St) : MR := mb (vp_in x1 80) (bn (sp_150 (σ 61 (x1).toNatClampNeg) σ) (fun r2 σ2 => mb (vp_in x1 80) (mb (vp_in (σ2 59 (x1).toNatClampNeg) 24) ((if 0 ≤ r2 then mb (vp_in x1 80) (mb (vp_in (((4 : Int32) * r2) + (σ2 50 (σ2 59 (x1).toNatClampNeg).toNatClampNeg)) 28) ((if ((σ2 67 (x1).toNatClampNeg) &&& (σ2 76 (((4 : Int32) * r2) + (σ2 50 (σ2 59 (x1).toNatClampNeg).toNatClampNeg)).toNatClampNeg)) = 0 then (if (σ2 50 (σ2 59 (x1).toNatClampNeg).toNatClampNeg) = 3 then mb ((1 : Int32) = 0 ∨ (1 : Int32) = 1) (rt 1 σ2) else mb (vp_in x1 80) (mb (vp_in x1 80) ((if (σ2 66 (x1).toNatClampNeg) ≤ (σ2 65 (x1).toNatClampNeg) then mb (vp_in x1 80) (mb (vp_in x1 80) (mb (vp_in x1 80) ((if (σ2 66 (x1).toNatClampNeg) ≤ (σ2 65 (x1).toNatClampNeg) then mb (vp_in x1 80) (mb (vp_in r2 7) ((if (σ2 66 (x1).toNatClampNeg) < (σ2 74 (r2).toNatClampNeg) then mb ((0 : Int32) = 0 ∨ (0 : Int32) = 1) (rt 0 σ2) else mb (vp_in r2 7) ((if ((100 : Int32) * (σ2 66 (x1).toNatClampNeg)) < (((100 : Int32) - (σ2 75 (r2).toNatClampNeg)) * (σ2 65 (x1).toNatClampNeg)) then mb ((0 : Int32) = 0 ∨ (0 : Int32) = 1) (rt 0 σ2) else mb ((1 : Int32) = 0 ∨ (1 : Int32) = 1) (rt 1 σ2)))))) else mb (vp_in x1 80) (mb (vp_in r2 7) ((if (σ2 66 (x1).toNatClampNeg) < (σ2 74 (r2).toNatClampNeg) then mb ((0 : Int32) = 0 ∨ (0 : Int32) = 1) (rt 0 σ2) else mb (vp_in r2 7) ((if ((100 : Int32) * (σ2 66 (x1).toNatClampNeg)) < (((100 : Int32) - (σ2 75 (r2).toNatClampNeg)) * (σ2 66 (x1).toNatClampNeg)) then mb ((0 : Int32) = 0 ∨ (0 : Int32) = 1) (rt 0 σ2) else mb ((1 : Int32) = 0 ∨ (1 : Int32) = 1) (rt 1 σ2)))))))))) else mb (vp_in x1 80) (mb (vp_in x1 80) (mb (vp_in x1 80) ((if (σ2 66 (x1).toNatClampNeg) ≤ (σ2 65 (x1).toNatClampNeg) then mb (vp_in x1 80) (mb (vp_in r2 7) ((if (σ2 65 (x1).toNatClampNeg) < (σ2 74 (r2).toNatClampNeg) then mb ((0 : Int32) = 0 ∨ (0 : Int32) = 1) (rt 0 σ2) else mb (vp_in r2 7) ((if ((100 : Int32) * (σ2 65 (x1).toNatClampNeg)) < (((100 : Int32) - (σ2 75 (r2).toNatClampNeg)) * (σ2 65 (x1).toNatClampNeg)) then mb ((0 : Int32) = 0 ∨ (0 : Int32) = 1) (rt 0 σ2) else mb ((1 : Int32) = 0 ∨ (1 : Int32) = 1) (rt 1 σ2)))))) else mb (vp_in x1 80) (mb (vp_in r2 7) ((if (σ2 65 (x1).toNatClampNeg) < (σ2 74 (r2).toNatClampNeg) then mb ((0 : Int32) = 0 ∨ (0 : Int32) = 1) (rt 0 σ2) else mb (vp_in r2 7) ((if ((100 : Int32) * (σ2 65 (x1).toNatClampNeg)) < (((100 : Int32) - (σ2 75 (r2).toNatClampNeg)) * (σ2 66 (x1).toNatClampNeg)) then mb ((0 : Int32) = 0 ∨ (0 : Int32) = 1) (rt 0 σ2) else mb ((1 : Int32) = 0 ∨ (1 : Int32) = 1) (rt 1 σ2)))))))))))))) else mb ((0 : Int32) = 0 ∨ (0 : Int32) = 1) (rt 0 σ2)))) else mb ((1 : Int32) = 0 ∨ (1 : Int32) = 1) (rt 1 σ2))))))
/-- TradeTestsModel.shareOf -/
def lp_156_7 : Nat → Int32 → Int32 → Int32 → Int32 → St → MR
  | 0, _, _, _, _, _ => bad
  | n + 1, v1, v2, v3, v4, σ => (if (σ 12 4) ≤ v4 then (if v2 = 0 then rt (-1) σ else mb (¬ v2 = 0) (rt (((1000 : Int32) * v3) / v2) σ)) else bn (sp_157 v4 σ) (fun r2 σ2 => (if r2 = v1 then mb (vp_in v4 80) ((if (σ2 70 (v4).toNatClampNeg) = 0 then lp_156_7 n v1 (v2 + 1) (v3 + 0) (v4 + 1) σ2 else lp_156_7 n v1 (v2 + 1) (v3 + 1) (v4 + 1) σ2)) else lp_156_7 n v1 v2 v3 (v4 + 1) σ2)))
def sp_156 (x1 : Int32) (σ : St) : MR := lp_156_7 FU x1 0 0 0 σ
/-- TradeTestsModel.areNear -/
def sp_164 (x1 x2 x3 : Int32) (σ : St) : MR := bn (sp_123 (x1 - x2) (-x3) x3 σ) (fun r2 σ2 => mb (r2 = 0 ∨ r2 = 1) (rt r2 σ2))
/-- TradeTestsModel.isTyped -/
def lp_171_52 (ko : Int32 → Int32 → Int32 → Int32 → St → MR) : Nat → Int32 → Int32 → Int32 → Int32 → Int32 → Int32 → Int32 → St → MR
  | 0, _, _, _, _, _, _, _, _ => bad
  | n + 1, v0, v1, v2, v3, v4, v5, v6, σ => (if 10 ≤ v6 then ko v0 v1 v2 (v3 * 10) σ else (if v6 = v4 then lp_171_52 ko n v0 v1 v2 v3 v4 v5 (v6 + 1) σ else bn (sp_123 (v0 + ((v6 - v4) * v3)) v1 v2 σ) (fun r2 σ2 => (if r2 = 0 then lp_171_52 ko n v0 v1 v2 v3 v4 v5 (v6 + 1) σ2 else mb ((1 : Int32) = 0 ∨ (1 : Int32) = 1) (rt 1 σ2)))))
def lp_171_2 : Nat → Int32 → Int32 → Int32 → Int32 → St → MR
  | 0, _, _, _, _, _ => bad
  | n + 1, v0, v1, v2, v3, σ => (if v3 = 1 then mb (¬ v3 = 0) (mb (¬ (10 : Int32) = 0) (mb (¬ v3 = 0) ((if 10 ≤ (v0 / v3) then (if (0 : Int32) = 0 then lp_171_52 (fun v0 v1 v2 v3 σ => lp_171_2 n v0 v1 v2 v3 σ) FU v0 v1 v2 v3 ((v0 / v3) - (v0 / v3) / 10 * 10) 0 0 σ else (if v3 ≤ 1 then lp_171_52 (fun v0 v1 v2 v3 σ => lp_171_2 n v0 v1 v2 v3 σ) FU v0 v1 v2 v3 ((v0 / v3) - (v0 / v3) / 10 * 10) 0 0 σ else lp_171_52 (fun v0 v1 v2 v3 σ => lp_171_2 n v0 v1 v2 v3 σ) FU v0 v1 v2 v3 ((v0 / v3) - (v0 / v3) / 10 * 10) 0 1 σ)) else (if (1 : Int32) = 0 then lp_171_52 (fun v0 v1 v2 v3 σ => lp_171_2 n v0 v1 v2 v3 σ) FU v0 v1 v2 v3 ((v0 / v3) - (v0 / v3) / 10 * 10) 1 0 σ else (if v3 ≤ 1 then lp_171_52 (fun v0 v1 v2 v3 σ => lp_171_2 n v0 v1 v2 v3 σ) FU v0 v1 v2 v3 ((v0 / v3) - (v0 / v3) / 10 * 10) 1 0 σ else lp_171_52 (fun v0 v1 v2 v3 σ => lp_171_2 n v0 v1 v2 v3 σ) FU v0 v1 v2 v3 ((v0 / v3) - (v0 / v3) / 10 * 10) 1 1 σ)))))) else (if v0 < v3 then mb ((0 : Int32) = 0 ∨ (0 : Int32) = 1) (rt 0 σ) else mb (¬ v3 = 0) (mb (¬ (10 : Int32) = 0) (mb (¬ v3 = 0) ((if 10 ≤ (v0 / v3) then (if (0 : Int32) = 0 then lp_171_52 (fun v0 v1 v2 v3 σ => lp_171_2 n v0 v1 v2 v3 σ) FU v0 v1 v2 v3 ((v0 / v3) - (v0 / v3) / 10 * 10) 0 0 σ else (if v3 ≤ 1 then lp_171_52 (fun v0 v1 v2 v3 σ => lp_171_2 n v0 v1 v2 v3 σ) FU v0 v1 v2 v3 ((v0 / v3) - (v0 / v3) / 10 * 10) 0 0 σ else lp_171_52 (fun v0 v1 v2 v3 σ => lp_171_2 n v0 v1 v2 v3 σ) FU v0 v1 v2 v3 ((v0 / v3) - (v0 / v3) / 10 * 10) 0 1 σ)) else (if (1 : Int32) = 0 then lp_171_52 (fun v0 v1 v2 v3 σ => lp_171_2 n v0 v1 v2 v3 σ) FU v0 v1 v2 v3 ((v0 / v3) - (v0 / v3) / 10 * 10) 1 0 σ else (if v3 ≤ 1 then lp_171_52 (fun v0 v1 v2 v3 σ => lp_171_2 n v0 v1 v2 v3 σ) FU v0 v1 v2 v3 ((v0 / v3) - (v0 / v3) / 10 * 10) 1 0 σ else lp_171_52 (fun v0 v1 v2 v3 σ => lp_171_2 n v0 v1 v2 v3 σ) FU v0 v1 v2 v3 ((v0 / v3) - (v0 / v3) / 10 * 10) 1 1 σ))))))))
def sp_171 (x1 x2 x3 : Int32) (σ : St) : MR := lp_171_2 FU x1 x2 x3 1 σ
/-- TradeTestsModel.rule -/
def sp_172 (x1 x2 : Int32) (σ : St) : MR := bn (sp_123 x1 0 2 σ) (fun r9 σ9 => (if r9 = 0 then bn (sp_125 1 σ9) (fun r10 σ10 => rt r10 σ10) else (if x1 = 0 then bn (sp_123 x2 1 3650 σ9) (fun r15 σ15 => (if r15 = 0 then bn (sp_125 1 σ15) (fun r16 σ16 => rt r16 σ16) else (if x1 = 0 then (if x1 = 0 then (if x1 = 1 then (if x1 = 2 then rt (σ15 12 11) (up (up (up σ15 12 11 x2) 12 12 x2) 12 13 x2) else rt (σ15 12 11) (up (up (up σ15 12 11 x2) 12 12 x2) 12 13 (σ15 12 13))) else (if x1 = 2 then rt (σ15 12 11) (up (up (up σ15 12 11 x2) 12 12 (σ15 12 12)) 12 13 x2) else rt (σ15 12 11) (up (up (up σ15 12 11 x2) 12 12 (σ15 12 12)) 12 13 (σ15 12 13)))) else (if x1 = 1 then (if x1 = 2 then rt (σ15 12 11) (up (up (up σ15 12 11 (σ15 12 11)) 12 12 x2) 12 13 x2) else rt (σ15 12 11) (up (up (up σ15 12 11 (σ15 12 11)) 12 12 x2) 12 13 (σ15 12 13))) else (if x1 = 2 then rt (σ15 12 11) (up (up (up σ15 12 11 (σ15 12 11)) 12 12 (σ15 12 12)) 12 13 x2) else rt (σ15 12 11) (up (up (up σ15 12 11 (σ15 12 11)) 12 12 (σ15 12 12)) 12 13 (σ15 12 13))))) else (if x1 = 1 then (if x1 = 0 then (if x1 = 1 then (if x1 = 2 then rt (σ15 12 12) (up (up (up σ15 12 11 x2) 12 12 x2) 12 13 x2) else rt (σ15 12 12) (up (up (up σ15 12 11 x2) 12 12 x2) 12 13 (σ15 12 13))) else (if x1 = 2 then rt (σ15 12 12) (up (up (up σ15 12 11 x2) 12 12 (σ15 12 12)) 12 13 x2) else rt (σ15 12 12) (up (up (up σ15 12 11 x2) 12 12 (σ15 12 12)) 12 13 (σ15 12 13)))) else (if x1 = 1 then (if x1 = 2 then rt (σ15 12 12) (up (up (up σ15 12 11 (σ15 12 11)) 12 12 x2) 12 13 x2) else rt (σ15 12 12) (up (up (up σ15 12 11 (σ15 12 11)) 12 12 x2) 12 13 (σ15 12 13))) else (if x1 = 2 then rt (σ15 12 12) (up (up (up σ15 12 11 (σ15 12 11)) 12 12 (σ15 12 12)) 12 13 x2) else rt (σ15 12 12) (up (up (up σ15 12 11 (σ15 12 11)) 12 12 (σ15 12 12)) 12 13 (σ15 12 13))))) else (if x1 = 0 then (if x1 = 1 then (if x1 = 2 then rt (σ15 12 13) (up (up (up σ15 12 11 x2) 12 12 x2) 12 13 x2) else rt (σ15 12 13) (up (up (up σ15 12 11 x2) 12 12 x2) 12 13 (σ15 12 13))) else (if x1 = 2 then rt (σ15 12 13) (up (up (up σ15 12 11 x2) 12 12 (σ15 12 12)) 12 13 x2) else rt (σ15 12 13) (up (up (up σ15 12 11 x2) 12 12 (σ15 12 12)) 12 13 (σ15 12 13)))) else (if x1 = 1 then (if x1 = 2 then rt (σ15 12 13) (up (up (up σ15 12 11 (σ15 12 11)) 12 12 x2) 12 13 x2) else rt (σ15 12 13) (up (up (up σ15 12 11 (σ15 12 11)) 12 12 x2) 12 13 (σ15 12 13))) else (if x1 = 2 then rt (σ15 12 13) (up (up (up σ15 12 11 (σ15 12 11)) 12 12 (σ15 12 12)) 12 13 x2) else rt (σ15 12 13) (up (up (up σ15 12 11 (σ15 12 11)) 12 12 (σ15 12 12)) 12 13 (σ15 12 13))))))))) else (if x1 = 1 then bn (sp_123 x2 1 1000 σ9) (fun r13 σ13 => (if r13 = 0 then bn (sp_125 1 σ13) (fun r14 σ14 => rt r14 σ14) else (if x1 = 0 then (if x1 = 0 then (if x1 = 1 then (if x1 = 2 then rt (σ13 12 11) (up (up (up σ13 12 11 x2) 12 12 x2) 12 13 x2) else rt (σ13 12 11) (up (up (up σ13 12 11 x2) 12 12 x2) 12 13 (σ13 12 13))) else (if x1 = 2 then rt (σ13 12 11) (up (up (up σ13 12 11 x2) 12 12 (σ13 12 12)) 12 13 x2) else rt (σ13 12 11) (up (up (up σ13 12 11 x2) 12 12 (σ13 12 12)) 12 13 (σ13 12 13)))) else (if x1 = 1 then (if x1 = 2 then rt (σ13 12 11) (up (up (up σ13 12 11 (σ13 12 11)) 12 12 x2) 12 13 x2) else rt (σ13 12 11) (up (up (up σ13 12 11 (σ13 12 11)) 12 12 x2) 12 13 (σ13 12 13))) else (if x1 = 2 then rt (σ13 12 11) (up (up (up σ13 12 11 (σ13 12 11)) 12 12 (σ13 12 12)) 12 13 x2) else rt (σ13 12 11) (up (up (up σ13 12 11 (σ13 12 11)) 12 12 (σ13 12 12)) 12 13 (σ13 12 13))))) else (if x1 = 1 then (if x1 = 0 then (if x1 = 1 then (if x1 = 2 then rt (σ13 12 12) (up (up (up σ13 12 11 x2) 12 12 x2) 12 13 x2) else rt (σ13 12 12) (up (up (up σ13 12 11 x2) 12 12 x2) 12 13 (σ13 12 13))) else (if x1 = 2 then rt (σ13 12 12) (up (up (up σ13 12 11 x2) 12 12 (σ13 12 12)) 12 13 x2) else rt (σ13 12 12) (up (up (up σ13 12 11 x2) 12 12 (σ13 12 12)) 12 13 (σ13 12 13)))) else (if x1 = 1 then (if x1 = 2 then rt (σ13 12 12) (up (up (up σ13 12 11 (σ13 12 11)) 12 12 x2) 12 13 x2) else rt (σ13 12 12) (up (up (up σ13 12 11 (σ13 12 11)) 12 12 x2) 12 13 (σ13 12 13))) else (if x1 = 2 then rt (σ13 12 12) (up (up (up σ13 12 11 (σ13 12 11)) 12 12 (σ13 12 12)) 12 13 x2) else rt (σ13 12 12) (up (up (up σ13 12 11 (σ13 12 11)) 12 12 (σ13 12 12)) 12 13 (σ13 12 13))))) else (if x1 = 0 then (if x1 = 1 then (if x1 = 2 then rt (σ13 12 13) (up (up (up σ13 12 11 x2) 12 12 x2) 12 13 x2) else rt (σ13 12 13) (up (up (up σ13 12 11 x2) 12 12 x2) 12 13 (σ13 12 13))) else (if x1 = 2 then rt (σ13 12 13) (up (up (up σ13 12 11 x2) 12 12 (σ13 12 12)) 12 13 x2) else rt (σ13 12 13) (up (up (up σ13 12 11 x2) 12 12 (σ13 12 12)) 12 13 (σ13 12 13)))) else (if x1 = 1 then (if x1 = 2 then rt (σ13 12 13) (up (up (up σ13 12 11 (σ13 12 11)) 12 12 x2) 12 13 x2) else rt (σ13 12 13) (up (up (up σ13 12 11 (σ13 12 11)) 12 12 x2) 12 13 (σ13 12 13))) else (if x1 = 2 then rt (σ13 12 13) (up (up (up σ13 12 11 (σ13 12 11)) 12 12 (σ13 12 12)) 12 13 x2) else rt (σ13 12 13) (up (up (up σ13 12 11 (σ13 12 11)) 12 12 (σ13 12 12)) 12 13 (σ13 12 13))))))))) else bn (sp_123 x2 1 200 σ9) (fun r11 σ11 => (if r11 = 0 then bn (sp_125 1 σ11) (fun r12 σ12 => rt r12 σ12) else (if x1 = 0 then (if x1 = 0 then (if x1 = 1 then (if x1 = 2 then rt (σ11 12 11) (up (up (up σ11 12 11 x2) 12 12 x2) 12 13 x2) else rt (σ11 12 11) (up (up (up σ11 12 11 x2) 12 12 x2) 12 13 (σ11 12 13))) else (if x1 = 2 then rt (σ11 12 11) (up (up (up σ11 12 11 x2) 12 12 (σ11 12 12)) 12 13 x2) else rt (σ11 12 11) (up (up (up σ11 12 11 x2) 12 12 (σ11 12 12)) 12 13 (σ11 12 13)))) else (if x1 = 1 then (if x1 = 2 then rt (σ11 12 11) (up (up (up σ11 12 11 (σ11 12 11)) 12 12 x2) 12 13 x2) else rt (σ11 12 11) (up (up (up σ11 12 11 (σ11 12 11)) 12 12 x2) 12 13 (σ11 12 13))) else (if x1 = 2 then rt (σ11 12 11) (up (up (up σ11 12 11 (σ11 12 11)) 12 12 (σ11 12 12)) 12 13 x2) else rt (σ11 12 11) (up (up (up σ11 12 11 (σ11 12 11)) 12 12 (σ11 12 12)) 12 13 (σ11 12 13))))) else (if x1 = 1 then (if x1 = 0 then (if x1 = 1 then (if x1 = 2 then rt (σ11 12 12) (up (up (up σ11 12 11 x2) 12 12 x2) 12 13 x2) else rt (σ11 12 12) (up (up (up σ11 12 11 x2) 12 12 x2) 12 13 (σ11 12 13))) else (if x1 = 2 then rt (σ11 12 12) (up (up (up σ11 12 11 x2) 12 12 (σ11 12 12)) 12 13 x2) else rt (σ11 12 12) (up (up (up σ11 12 11 x2) 12 12 (σ11 12 12)) 12 13 (σ11 12 13)))) else (if x1 = 1 then (if x1 = 2 then rt (σ11 12 12) (up (up (up σ11 12 11 (σ11 12 11)) 12 12 x2) 12 13 x2) else rt (σ11 12 12) (up (up (up σ11 12 11 (σ11 12 11)) 12 12 x2) 12 13 (σ11 12 13))) else (if x1 = 2 then rt (σ11 12 12) (up (up (up σ11 12 11 (σ11 12 11)) 12 12 (σ11 12 12)) 12 13 x2) else rt (σ11 12 12) (up (up (up σ11 12 11 (σ11 12 11)) 12 12 (σ11 12 12)) 12 13 (σ11 12 13))))) else (if x1 = 0 then (if x1 = 1 then (if x1 = 2 then rt (σ11 12 13) (up (up (up σ11 12 11 x2) 12 12 x2) 12 13 x2) else rt (σ11 12 13) (up (up (up σ11 12 11 x2) 12 12 x2) 12 13 (σ11 12 13))) else (if x1 = 2 then rt (σ11 12 13) (up (up (up σ11 12 11 x2) 12 12 (σ11 12 12)) 12 13 x2) else rt (σ11 12 13) (up (up (up σ11 12 11 x2) 12 12 (σ11 12 12)) 12 13 (σ11 12 13)))) else (if x1 = 1 then (if x1 = 2 then rt (σ11 12 13) (up (up (up σ11 12 11 (σ11 12 11)) 12 12 x2) 12 13 x2) else rt (σ11 12 13) (up (up (up σ11 12 11 (σ11 12 11)) 12 12 x2) 12 13 (σ11 12 13))) else (if x1 = 2 then rt (σ11 12 13) (up (up (up σ11 12 11 (σ11 12 11)) 12 12 (σ11 12 12)) 12 13 x2) else rt (σ11 12 13) (up (up (up σ11 12 11 (σ11 12 11)) 12 12 (σ11 12 12)) 12 13 (σ11 12 13)))))))))))))
/-- TradeTestsModel.missed -/
def sp_176 (x1 : Int32) (σ : St) : MR := mb (vp_in x1 80) (bn (sp_150 (σ 61 (x1).toNatClampNeg) σ) (fun r2 σ2 => mb (vp_in x1 80) ((if (σ2 68 (x1).toNatClampNeg) < 0 then rt 0 σ2 else (if 0 ≤ r2 then mb (vp_in x1 80) (mb (vp_in (σ2 68 (x1).toNatClampNeg) 6) (mb (vp_in x1 80) (mb (vp_in (((4 : Int32) * r2) + 1) 28) (rt (((σ2 77 (σ2 68 (x1).toNatClampNeg).toNatClampNeg) &&& ((σ2 67 (x1).toNatClampNeg) ^^^ (-1))) &&& (σ2 76 (((4 : Int32) * r2) + 1).toNatClampNeg)) σ2)))) else rt 0 σ2)))))
/-- TradeTestsModel.sumOf -/
def lp_179_5 : Nat → Int32 → Int32 → Int32 → Int32 → St → MR
  | 0, _, _, _, _, _ => bad
  | n + 1, v1, v2, v3, v4, σ => (if (σ 12 4) ≤ v4 then rt v3 σ else mb (vp_in v4 80) ((if (σ 60 (v4).toNatClampNeg) = v1 then mb (vp_in v4 80) (bn (sp_123 (σ 61 (v4).toNatClampNeg) ((v2 - (σ 12 11)) + 1) v2 σ) (fun r2 σ2 => (if r2 = 0 then lp_179_5 n v1 v2 (v3 + 0) (v4 + 1) σ2 else mb (vp_in v4 80) (lp_179_5 n v1 v2 (v3 + (σ2 81 (v4).toNatClampNeg)) (v4 + 1) σ2)))) else lp_179_5 n v1 v2 (v3 + 0) (v4 + 1) σ)))
def sp_179 (x1 x2 : Int32) (σ : St) : MR := lp_179_5 FU x1 x2 0 0 σ
/-- TradeTestsModel.secret -/
def sp_181 (x1 : Int32) (σ : St) : MR := bn (sp_123 x1 1 255 σ) (fun r4 σ4 => (if r4 = 0 then bn (sp_125 1 σ4) (fun r6 σ6 => rt r6 σ6) else (if (σ4 12 6) = 6 then bn (sp_125 4 σ4) (fun r5 σ5 => rt r5 σ5) else mb (vp_in (σ4 12 6) 6) (rt (((σ4 12 6) + 1) - 1) (up (up σ4 77 (σ4 12 6).toNatClampNeg x1) 12 6 ((σ4 12 6) + 1))))))
/-- TradeTestsModel.error -/
def lp_188_19 : Nat → Int32 → Int32 → Int32 → St → MR
  | 0, _, _, _, _ => bad
  | n + 1, v1, v2, v3, σ => (if (σ 12 4) ≤ v3 then mb (¬ v1.toInt64 = 0) (rt ((((Int32.toInt64 1000) * v2.toInt64) / v1.toInt64).toInt32) σ) else mb (vp_in v3 80) ((if (σ 69 (v3).toNatClampNeg) = 0 then mb (vp_in v3 80) ((if (σ 72 (v3).toNatClampNeg) = 0 then lp_188_19 n (v1 + 0) (v2 + 0) (v3 + 1) σ else lp_188_19 n (v1 + 0) (v2 + 0) (v3 + 1) σ)) else mb (vp_in v3 80) (mb (¬ (σ 69 (v3).toNatClampNeg) = 0) (mb (vp_in v3 80) ((if (σ 72 (v3).toNatClampNeg) = 0 then lp_188_19 n (v1 + ((10000 : Int32) / (σ 69 (v3).toNatClampNeg))) (v2 + 0) (v3 + 1) σ else lp_188_19 n (v1 + ((10000 : Int32) / (σ 69 (v3).toNatClampNeg))) (v2 + ((10000 : Int32) / (σ 69 (v3).toNatClampNeg))) (v3 + 1) σ)))))))
def sp_188 (σ : St) : MR := (if (σ 12 8) = 0 then bn (sp_125 2 σ) (fun r2 σ2 => rt r2 σ2) else lp_188_19 FU 0 0 0 σ)
/-- TradeTestsModel.tell -/
def sp_191 (x1 : Int32) (σ : St) : MR := (if (σ 12 10) = 8 then bn (sp_125 4 σ) (fun r2 σ2 => rt r2 σ2) else mb (vp_in (σ 12 10) 8) (rt ((σ 12 10) + 1) (up (up σ 79 (σ 12 10).toNatClampNeg x1) 12 10 ((σ 12 10) + 1))))
/-- TradeTestsModel.found -/
def sp_194 (x1 : Int32) (σ : St) : MR := bn (sp_123 x1 1 5 σ) (fun r3 σ3 => (if r3 = 0 then bn (sp_125 1 σ3) (fun r4 σ4 => rt r4 σ4) else mb (vp_in x1 6) (rt (σ3 80 (x1).toNatClampNeg) σ3)))
/-- TradeTests.test -/
def sp_16 (x1 x2 x3 x4 x5 : Int32) (σ : St) : MR := bn (sp_17 x1 σ) (fun r13 σ13 => (if r13 = 0 then bn (sp_2 1 σ13) (fun r14 σ14 => rt r14 σ14) else bn (sp_18 x1 x2 σ13) (fun r15 σ15 => (if r15 = 0 then bn (sp_2 1 σ15) (fun r16 σ16 => rt r16 σ16) else bn (sp_20 x2 x3 σ15) (fun r17 σ17 => (if r17 = 0 then bn (sp_2 1 σ17) (fun r24 σ24 => rt r24 σ24) else bn (sp_21 x1 x4 σ17) (fun r18 σ18 => (if r18 = 0 then bn (sp_2 1 σ18) (fun r19 σ19 => rt r19 σ19) else bn (sp_1 x5 1000000 σ18) (fun r20 σ20 => (if r20 = 0 then bn (sp_2 1 σ20) (fun r23 σ23 => rt r23 σ23) else (if (σ20 3 14) < 80 then bn (sp_22 x1 x2 x3 x4 x5 σ20) (fun r21 σ21 => rt r21 σ21) else bn (sp_2 4 σ20) (fun r22 σ22 => rt r22 σ22))))))))))))
/-- TradeTests.of -/
def sp_23 (x1 x2 : Int32) (σ : St) : MR := bn (sp_1 x1 (σ 3 14) σ) (fun r7 σ7 => (if r7 = 0 then bn (sp_2 1 σ7) (fun r8 σ8 => rt r8 σ8) else bn (sp_1 x2 11 σ7) (fun r9 σ9 => (if r9 = 0 then bn (sp_2 1 σ9) (fun r12 σ12 => rt r12 σ12) else (if x2 = 10 then bn (sp_24 x1 σ9) (fun r11 σ11 => rt r11 σ11) else bn (sp_25 x1 x2 σ9) (fun r10 σ10 => rt r10 σ10))))))
/-- TradeTests$Texts.readFault -/
def lp_34_69 : Nat → Int32 → Int32 → Int32 → St → MR
  | 0, _, _, _, _ => bad
  | n + 1, v1, v2, v3, σ => (if 4 ≤ v3 then mb ((1 : Int32) = 0 ∨ (1 : Int32) = 1) (rt 1 σ) else bn (sp_5 v3 v2 σ) (fun r8 σ8 => (if r8 = 0 then lp_34_69 n v1 v2 (v3 + 1) σ8 else mb (vp_in (((σ8 4 7) * 4) + v3) 24) (mb (vp_in (((σ8 4 7) * 4) + v3) 24) (lp_34_69 n v1 v2 (v3 + 1) (up σ8 42 (((σ8 4 7) * 4) + v3).toNatClampNeg ((σ8 42 (((σ8 4 7) * 4) + v3).toNatClampNeg) ||| v1)))))))
def sp_34 (σ : St) : MR := bn (sp_33  σ) (fun r9 σ9 => bn (sp_35 r9 55 σ9) (fun r10 σ10 => (if r10 = 0 then mb ((0 : Int32) = 0 ∨ (0 : Int32) = 1) (rt 0 σ10) else bn (sp_33  σ10) (fun r11 σ11 => bn (sp_33  (up σ11 4 2 ((σ11 4 2) + 1))) (fun r12 σ12 => bn (sp_36 r12 σ12) (fun r13 σ13 => (if 0 ≤ r13 then bn (sp_37  (up σ13 4 2 ((σ13 4 2) + 1))) (fun r14 σ14 => (if r14 = 0 then mb ((0 : Int32) = 0 ∨ (0 : Int32) = 1) (rt 0 σ14) else lp_34_69 FU ((1 : Int32) <<< ((r11 - 48) &&& 31)) r13 0 σ14)) else mb ((0 : Int32) = 0 ∨ (0 : Int32) = 1) (rt 0 σ13))))))))
/-- TradeTests$Texts.readNumber -/
def lp_38_4 : Nat → Int32 → Int32 → Int32 → St → MR
  | 0, _, _, _, _ => bad
  | n + 1, v1, v2, v3, σ => (if v1 ≤ v3 then (if v3 ≤ 0 then rt (-1) σ else bn (sp_37  σ) (fun r6 σ6 => (if r6 = 0 then rt (-1) σ6 else rt v2 σ6))) else bn (sp_33  σ) (fun r7 σ7 => bn (sp_35 r7 57 σ7) (fun r8 σ8 => (if r8 = 0 then (if v3 ≤ 0 then rt (-1) σ8 else bn (sp_37  σ8) (fun r9 σ9 => (if r9 = 0 then rt (-1) σ9 else rt v2 σ9))) else bn (sp_33  σ8) (fun r10 σ10 => lp_38_4 n v1 (((v2 * 10) + r10) - 48) (v3 + 1) (up σ10 4 2 ((σ10 4 2) + 1)))))))
def sp_38 (x1 : Int32) (σ : St) : MR := lp_38_4 FU x1 0 0 σ
/-- TradeTests.verdict -/
def sp_42 (x1 : Int32) (σ : St) : MR := bn (sp_1 x1 (σ 3 14) σ) (fun r4 σ4 => (if r4 = 0 then bn (sp_2 1 σ4) (fun r6 σ6 => rt r6 σ6) else bn (sp_43 x1 σ4) (fun r5 σ5 => (if r5 = 0 then rt 0 σ5 else rt 1 σ5))))
/-- TradeTests$Judge.unlikeness -/
def sp_46 (x1 : Int32) (σ : St) : MR := mb (vp_in x1 80) ((if (σ 33 (x1).toNatClampNeg) = 1 then bn (sp_43 x1 σ) (fun r4 σ4 => (if (1 : Int32) = r4 then rt 0 σ4 else (if (1 : Int32) = 0 then rt 2 σ4 else rt 1 σ4))) else bn (sp_43 x1 σ) (fun r3 σ3 => (if (0 : Int32) = r3 then rt 0 σ3 else (if (0 : Int32) = 0 then rt 2 σ3 else rt 1 σ3)))))
/-- TradeTests$Signals.alikeTests -/
def lp_51_4 : Nat → Int32 → Int32 → Int32 → St → MR
  | 0, _, _, _, _ => bad
  | n + 1, v1, v2, v3, σ => (if (σ 3 14) ≤ v3 then rt v2 σ else mb (vp_in v3 80) (mb (vp_in v1 80) ((if (σ 25 (v3).toNatClampNeg) = (σ 25 (v1).toNatClampNeg) then bn (sp_52 v3 v1 σ) (fun r2 σ2 => (if r2 = 0 then lp_51_4 n v1 v2 (v3 + 1) σ2 else lp_51_4 n v1 (v2 + 1) (v3 + 1) σ2)) else lp_51_4 n v1 v2 (v3 + 1) σ))))
def sp_51 (x1 : Int32) (σ : St) : MR := lp_51_4 FU x1 0 0 σ
/-- TradeTests$Signals.isShut -/
def sp_57 (x1 : Int32) (σ : St) : MR := bn (sp_24 x1 σ) (fun r2 σ2 => mb (vp_in x1 80) (mb (vp_in r2 6) ((if (σ2 27 (x1).toNatClampNeg) < (σ2 18 (r2).toNatClampNeg) then mb ((1 : Int32) = 0 ∨ (1 : Int32) = 1) (rt 1 σ2) else mb (vp_in x1 80) (mb (vp_in x1 80) (mb (vp_in r2 6) ((if ((σ2 27 (x1).toNatClampNeg) + (σ2 28 (x1).toNatClampNeg)) ≤ (σ2 19 (r2).toNatClampNeg) then mb ((0 : Int32) = 0 ∨ (0 : Int32) = 1) (rt 0 σ2) else mb ((1 : Int32) = 0 ∨ (1 : Int32) = 1) (rt 1 σ2)))))))))
/-- TradeTests$Judge.isFalsePass -/
def sp_58 (x1 : Int32) (σ : St) : MR := mb (vp_in x1 80) ((if (σ 33 (x1).toNatClampNeg) = 1 then bn (sp_43 x1 σ) (fun r2 σ2 => (if r2 = 0 then mb ((1 : Int32) = 0 ∨ (1 : Int32) = 1) (rt 1 σ2) else mb ((0 : Int32) = 0 ∨ (0 : Int32) = 1) (rt 0 σ2))) else mb ((0 : Int32) = 0 ∨ (0 : Int32) = 1) (rt 0 σ)))
/-- TradeTests$Rates.fillCells -/
def lp_63_30 : Nat → Int32 → St → MR
  | 0, _, _ => bad
  | n + 1, v1, σ => (if (σ 3 14) ≤ v1 then rt 0 σ else bn (sp_64 v1 σ) (fun r2 σ2 => mb (vp_in r2 16) (mb (vp_in r2 16) (mb (vp_in r2 16) (mb (vp_in v1 80) (mb (vp_in r2 16) (lp_63_30 n (v1 + 1) (up (up σ2 43 (r2).toNatClampNeg ((σ2 43 (r2).toNatClampNeg) + 1)) 44 (r2).toNatClampNeg ((σ2 44 (r2).toNatClampNeg) + (σ2 33 (v1).toNatClampNeg))))))))))
def lp_63_2 : Nat → Int32 → St → MR
  | 0, _, _ => bad
  | n + 1, v1, σ => (if 16 ≤ v1 then lp_63_30 FU 0 σ else mb (vp_in v1 16) (mb (vp_in v1 16) (lp_63_2 n (v1 + 1) (up (up σ 43 (v1).toNatClampNeg 0) 44 (v1).toNatClampNeg 0))))
def sp_63 (σ : St) : MR := lp_63_2 FU 0 σ
/-- TradeTests$Rates.measure -/
def lp_66_22 : Nat → Int32 → Int32 → St → MR
  | 0, _, _, _ => bad
  | n + 1, v1, v2, σ => (if (σ 3 14) ≤ v2 then rt 0 σ else bn (sp_24 v2 σ) (fun r4 σ4 => (if r4 = v1 then bn (sp_64 v2 σ4) (fun r5 σ5 => bn (sp_67 r5 σ5) (fun r6 σ6 => mb (vp_in v2 80) (lp_66_22 n v1 (v2 + 1) (up (up (up (up σ6 7 5 ((σ6 7 5) + 1)) 7 6 ((σ6 7 6) + (σ6 33 (v2).toNatClampNeg))) 7 7 ((σ6 7 7) + r6)) 7 8 ((σ6 7 8) + (r6 * ((1000 : Int32) - r6))))))) else lp_66_22 n v1 (v2 + 1) σ4)))
def sp_66 (x1 : Int32) (σ : St) : MR := lp_66_22 FU x1 0 (up (up (up (up σ 7 5 0) 7 6 0) 7 7 0) 7 8 0)
/-- TradeTests$Rates.garagesWithTests -/
def lp_70_4 : Nat → Int32 → Int32 → St → MR
  | 0, _, _, _ => bad
  | n + 1, v1, v2, σ => (if (σ 3 14) ≤ v2 then bn (sp_59 v1 σ) (fun r3 σ3 => rt r3 σ3) else bn (sp_24 v2 σ) (fun r4 σ4 => lp_70_4 n (v1 ||| ((1 : Int32) <<< (r4 &&& 31))) (v2 + 1) σ4))
def sp_70 (σ : St) : MR := lp_70_4 FU 0 0 σ
/-- TradeTests.falls -/
def sp_75 (x1 : Int32) (σ : St) : MR := bn (sp_1 x1 (σ 3 14) σ) (fun r5 σ5 => (if r5 = 0 then bn (sp_2 1 σ5) (fun r8 σ8 => rt r8 σ8) else mb (vp_in x1 80) (mb (vp_in (σ5 24 (x1).toNatClampNeg) 24) ((if (σ5 15 (σ5 24 (x1).toNatClampNeg).toNatClampNeg) = 3 then bn (sp_2 5 σ5) (fun r7 σ7 => rt r7 σ7) else bn (sp_76 x1 σ5) (fun r6 σ6 => rt r6 σ6))))))
/-- TradeTests.rule -/
def sp_80 (x1 x2 : Int32) (σ : St) : MR := bn (sp_81 x1 x2 σ) (fun r4 σ4 => (if r4 = 0 then bn (sp_2 1 σ4) (fun r6 σ6 => rt r6 σ6) else bn (sp_82 x1 x2 σ4) (fun r5 σ5 => rt r5 σ5)))
/-- TradeTests$Secrets.missed -/
def sp_86 (x1 : Int32) (σ : St) : MR := mb (vp_in x1 80) (bn (sp_40 (σ 26 (x1).toNatClampNeg) σ) (fun r4 σ4 => (if 0 ≤ r4 then bn (sp_60 x1 σ4) (fun r5 σ5 => mb (vp_in x1 80) (bn (sp_41 r4 1 σ5) (fun r6 σ6 => rt ((r5 &&& ((σ5 32 (x1).toNatClampNeg) ^^^ (-1))) &&& r6) σ6))) else rt 0 σ4)))
/-- TradeTests$Plan.fillBest -/
def lp_102_16 (ko : Int32 → St → MR) : Nat → Int32 → Int32 → St → MR
  | 0, _, _, _ => bad
  | n + 1, v1, v2, σ => (if 64 ≤ v2 then ko (v1 + (-1)) σ else bn (sp_103 v1 v2 σ) (fun r2 σ2 => mb (vp_in ((v1 * 64) + v2) 448) (lp_102_16 ko n v1 (v2 + 1) (up σ2 49 ((v1 * 64) + v2).toNatClampNeg r2))))
def lp_102_10 : Nat → Int32 → St → MR
  | 0, _, _ => bad
  | n + 1, v1, σ => (if v1 < 0 then rt 0 σ else lp_102_16 (fun v1 σ => lp_102_10 n v1 σ) FU v1 0 σ)
def sp_102 (σ : St) : MR := lp_102_10 FU ((σ 9 3) - 1) σ
/-- TradeTests$Plan.garageFor -/
def lp_108_7 : Nat → Int32 → Int32 → Int32 → Int32 → St → MR
  | 0, _, _, _, _, _ => bad
  | n + 1, v1, v2, v3, v4, σ => (if v1 < v4 then rt v3 σ else bn (sp_109 v4 v2 σ) (fun r2 σ2 => (if 0 ≤ r2 then lp_108_7 n v1 (v2 ||| ((1 : Int32) <<< (r2 &&& 31))) r2 (v4 + 1) σ2 else lp_108_7 n v1 v2 r2 (v4 + 1) σ2)))
def sp_108 (x1 : Int32) (σ : St) : MR := lp_108_7 FU x1 0 (-1) 0 σ
/-- TradeTestsModel.vehicle -/
def sp_122 (x1 x2 x3 : Int32) (σ : St) : MR := bn (sp_123 x1 0 3 σ) (fun r8 σ8 => (if r8 = 0 then bn (sp_125 1 σ8) (fun r9 σ9 => rt r9 σ9) else bn (sp_123 x2 0 3 σ8) (fun r10 σ10 => (if r10 = 0 then bn (sp_125 1 σ10) (fun r11 σ11 => rt r11 σ11) else bn (sp_124 x3 σ10) (fun r12 σ12 => (if r12 = 0 then bn (sp_125 1 σ12) (fun r14 σ14 => rt r14 σ14) else (if (σ12 12 0) = 24 then bn (sp_125 4 σ12) (fun r13 σ13 => rt r13 σ13) else mb (vp_in (σ12 12 0) 24) (mb (vp_in (σ12 12 0) 24) (mb (vp_in (σ12 12 0) 24) (rt (((σ12 12 0) + 1) - 1) (up (up (up (up σ12 50 (σ12 12 0).toNatClampNeg x1) 51 (σ12 12 0).toNatClampNeg x2) 52 (σ12 12 0).toNatClampNeg x3) 12 0 ((σ12 12 0) + 1))))))))))))
/-- TradeTestsModel.as -/
def sp_126 (x1 x2 : Int32) (σ : St) : MR := bn (sp_127 x1 σ) (fun r8 σ8 => (if r8 = 0 then bn (sp_125 1 σ8) (fun r9 σ9 => rt r9 σ9) else bn (sp_123 x2 0 3 σ8) (fun r10 σ10 => (if r10 = 0 then bn (sp_125 1 σ10) (fun r14 σ14 => rt r14 σ14) else mb (vp_in x1 24) (bn (sp_128 (σ10 50 (x1).toNatClampNeg) x2 σ10) (fun r11 σ11 => (if r11 = 0 then bn (sp_125 5 σ11) (fun r12 σ12 => rt r12 σ12) else bn (sp_129 x1 σ11) (fun r13 σ13 => rt r13 σ13))))))))
/-- TradeTestsModel.tester -/
def sp_131 (x1 : Int32) (σ : St) : MR := bn (sp_132 x1 σ) (fun r4 σ4 => (if r4 = 0 then bn (sp_125 1 σ4) (fun r6 σ6 => rt r6 σ6) else (if (σ4 12 2) = 8 then bn (sp_125 4 σ4) (fun r5 σ5 => rt r5 σ5) else mb (vp_in (σ4 12 2) 8) (rt (((σ4 12 2) + 1) - 1) (up (up σ4 55 (σ4 12 2).toNatClampNeg x1) 12 2 ((σ4 12 2) + 1))))))
/-- TradeTestsModel.move -/
def lp_133_32 : Nat → Int32 → Int32 → Int32 → Int32 → St → MR
  | 0, _, _, _, _, _ => bad
  | n + 1, v1, v2, v3, v4, σ => (if (σ 12 3) ≤ v4 then (if (σ 12 3) = 30 then bn (sp_125 4 σ) (fun r11 σ11 => rt r11 σ11) else bn (sp_135 v1 (v3 - 1) σ) (fun r10 σ10 => mb (vp_in (σ10 12 3) 30) (mb (vp_in (σ10 12 3) 30) (mb (vp_in (σ10 12 3) 30) (rt r10 (up (up (up (up σ10 56 (σ10 12 3).toNatClampNeg v1) 57 (σ10 12 3).toNatClampNeg v2) 58 (σ10 12 3).toNatClampNeg v3) 12 3 ((σ10 12 3) + 1))))))) else mb (vp_in v4 30) ((if (σ 56 (v4).toNatClampNeg) = v1 then mb (vp_in v4 30) ((if (σ 58 (v4).toNatClampNeg) ≤ v3 then lp_133_32 n v1 v2 v3 (v4 + 1) σ else bn (sp_125 1 σ) (fun r12 σ12 => rt r12 σ12))) else lp_133_32 n v1 v2 v3 (v4 + 1) σ)))
def sp_133 (x1 x2 x3 : Int32) (σ : St) : MR := bn (sp_134 x1 σ) (fun r13 σ13 => (if r13 = 0 then bn (sp_125 1 σ13) (fun r14 σ14 => rt r14 σ14) else bn (sp_132 x2 σ13) (fun r15 σ15 => (if r15 = 0 then bn (sp_125 1 σ15) (fun r16 σ16 => rt r16 σ16) else bn (sp_124 x3 σ15) (fun r17 σ17 => (if r17 = 0 then bn (sp_125 1 σ17) (fun r18 σ18 => rt r18 σ18) else lp_133_32 FU x1 x2 x3 0 σ17))))))
/-- TradeTestsModel.at -/
def sp_136 (x1 x2 : Int32) (σ : St) : MR := bn (sp_134 x1 σ) (fun r6 σ6 => (if r6 = 0 then bn (sp_125 1 σ6) (fun r7 σ7 => rt r7 σ7) else bn (sp_124 x2 σ6) (fun r8 σ8 => (if r8 = 0 then bn (sp_125 1 σ8) (fun r9 σ9 => rt r9 σ9) else bn (sp_135 x1 x2 σ8) (fun r10 σ10 => rt r10 σ10)))))
/-- TradeTestsModel.isTold -/
def sp_138 (x1 x2 x3 x4 x5 : Int32) (σ : St) : MR := (if x1 < 0 then mb ((0 : Int32) = 0 ∨ (0 : Int32) = 1) (rt 0 σ) else (if x2 < 0 then mb ((0 : Int32) = 0 ∨ (0 : Int32) = 1) (rt 0 σ) else (if x3 < 0 then mb ((0 : Int32) = 0 ∨ (0 : Int32) = 1) (rt 0 σ) else (if x5 < 0 then mb ((0 : Int32) = 0 ∨ (0 : Int32) = 1) (rt 0 σ) else mb (¬ (100 : Int32) = 0) (bn (sp_127 (x1 / 100) σ) (fun r9 σ9 => (if r9 = 0 then mb ((0 : Int32) = 0 ∨ (0 : Int32) = 1) (rt 0 σ9) else mb (¬ (100 : Int32) = 0) (bn (sp_134 (x1 - x1 / 100 * 100) σ9) (fun r10 σ10 => (if r10 = 0 then mb ((0 : Int32) = 0 ∨ (0 : Int32) = 1) (rt 0 σ10) else mb (¬ (10000 : Int32) = 0) (mb (¬ (100 : Int32) = 0) (mb (vp_in (x1 / 100) 24) ((if (x2 - x2 / 10000 * 10000) < (σ10 52 (x1 / 100).toNatClampNeg) then mb ((0 : Int32) = 0 ∨ (0 : Int32) = 1) (rt 0 σ10) else (if (σ10 12 4) ≤ 0 then mb (¬ (10000 : Int32) = 0) ((if 1439 < (x2 / 10000) then mb ((0 : Int32) = 0 ∨ (0 : Int32) = 1) (rt 0 σ10) else mb (¬ (1000 : Int32) = 0) (bn (sp_123 (x3 / 1000) 1 240 σ10) (fun r11 σ11 => (if r11 = 0 then mb ((0 : Int32) = 0 ∨ (0 : Int32) = 1) (rt 0 σ11) else mb (¬ (1000 : Int32) = 0) ((if 511 < (x3 - x3 / 1000 * 1000) then mb ((0 : Int32) = 0 ∨ (0 : Int32) = 1) (rt 0 σ11) else mb (¬ (10000 : Int32) = 0) (mb (¬ (1000 : Int32) = 0) ((if ((x2 / 10000) + (x3 / 1000)) ≤ 1440 then mb (¬ (100 : Int32) = 0) (mb (vp_in (x1 / 100) 24) ((if (σ11 50 (x1 / 100).toNatClampNeg) = 3 then bn (sp_123 x4 0 0 σ11) (fun r13 σ13 => (if r13 = 0 then mb ((0 : Int32) = 0 ∨ (0 : Int32) = 1) (rt 0 σ13) else (if 1000000 ≤ x5 then mb ((0 : Int32) = 0 ∨ (0 : Int32) = 1) (rt 0 σ13) else mb ((1 : Int32) = 0 ∨ (1 : Int32) = 1) (rt 1 σ13)))) else bn (sp_123 x4 0 999999 σ11) (fun r12 σ12 => (if r12 = 0 then mb ((0 : Int32) = 0 ∨ (0 : Int32) = 1) (rt 0 σ12) else (if 1000000 ≤ x5 then mb ((0 : Int32) = 0 ∨ (0 : Int32) = 1) (rt 0 σ12) else mb ((1 : Int32) = 0 ∨ (1 : Int32) = 1) (rt 1 σ12))))))) else mb ((0 : Int32) = 0 ∨ (0 : Int32) = 1) (rt 0 σ11))))))))))) else mb (vp_in ((σ10 12 4) - 1) 80) ((if (σ10 61 ((σ10 12 4) - 1).toNatClampNeg) ≤ (x2 - x2 / 10000 * 10000) then mb (¬ (10000 : Int32) = 0) ((if 1439 < (x2 / 10000) then mb ((0 : Int32) = 0 ∨ (0 : Int32) = 1) (rt 0 σ10) else mb (¬ (1000 : Int32) = 0) (bn (sp_123 (x3 / 1000) 1 240 σ10) (fun r14 σ14 => (if r14 = 0 then mb ((0 : Int32) = 0 ∨ (0 : Int32) = 1) (rt 0 σ14) else mb (¬ (1000 : Int32) = 0) ((if 511 < (x3 - x3 / 1000 * 1000) then mb ((0 : Int32) = 0 ∨ (0 : Int32) = 1) (rt 0 σ14) else mb (¬ (10000 : Int32) = 0) (mb (¬ (1000 : Int32) = 0) ((if ((x2 / 10000) + (x3 / 1000)) ≤ 1440 then mb (¬ (100 : Int32) = 0) (mb (vp_in (x1 / 100) 24) ((if (σ14 50 (x1 / 100).toNatClampNeg) = 3 then bn (sp_123 x4 0 0 σ14) (fun r16 σ16 => (if r16 = 0 then mb ((0 : Int32) = 0 ∨ (0 : Int32) = 1) (rt 0 σ16) else (if 1000000 ≤ x5 then mb ((0 : Int32) = 0 ∨ (0 : Int32) = 1) (rt 0 σ16) else mb ((1 : Int32) = 0 ∨ (1 : Int32) = 1) (rt 1 σ16)))) else bn (sp_123 x4 0 999999 σ14) (fun r15 σ15 => (if r15 = 0 then mb ((0 : Int32) = 0 ∨ (0 : Int32) = 1) (rt 0 σ15) else (if 1000000 ≤ x5 then mb ((0 : Int32) = 0 ∨ (0 : Int32) = 1) (rt 0 σ15) else mb ((1 : Int32) = 0 ∨ (1 : Int32) = 1) (rt 1 σ15))))))) else mb ((0 : Int32) = 0 ∨ (0 : Int32) = 1) (rt 0 σ14))))))))))) else mb ((0 : Int32) = 0 ∨ (0 : Int32) = 1) (rt 0 σ10))))))))))))))))))
/-- TradeTestsModel.of -/
def sp_139 (x1 x2 : Int32) (σ : St) : MR := bn (sp_140 x1 σ) (fun r5 σ5 => (if r5 = 0 then bn (sp_125 1 σ5) (fun r8 σ8 => rt r8 σ8) else (if x2 = 0 then mb (vp_in x1 80) (rt (σ5 59 (x1).toNatClampNeg) σ5) else (if x2 = 1 then mb (vp_in x1 80) (rt (σ5 60 (x1).toNatClampNeg) σ5) else (if x2 = 2 then mb (vp_in x1 80) (rt (σ5 61 (x1).toNatClampNeg) σ5) else (if x2 = 3 then mb (vp_in x1 80) (rt (σ5 62 (x1).toNatClampNeg) σ5) else (if x2 = 4 then mb (vp_in x1 80) (rt (σ5 63 (x1).toNatClampNeg) σ5) else (if x2 = 5 then mb (vp_in x1 80) (rt (σ5 64 (x1).toNatClampNeg) σ5) else (if x2 = 6 then mb (vp_in x1 80) (rt (σ5 65 (x1).toNatClampNeg) σ5) else (if x2 = 7 then mb (vp_in x1 80) (rt (σ5 66 (x1).toNatClampNeg) σ5) else (if x2 = 8 then mb (vp_in x1 80) (rt (σ5 67 (x1).toNatClampNeg) σ5) else (if x2 = 9 then mb (vp_in x1 80) ((if (σ5 70 (x1).toNatClampNeg) = 0 then rt 0 σ5 else rt 1 σ5)) else (if x2 = 10 then bn (sp_141 x1 σ5) (fun r7 σ7 => rt r7 σ7) else bn (sp_125 1 σ5) (fun r6 σ6 => rt r6 σ6))))))))))))))
/-- TradeTestsModel.reads -/
def lp_144_49 : Nat → Int32 → Int32 → St → MR
  | 0, _, _, _ => bad
  | n + 1, v1, v2, σ => (if (σ 12 9) ≤ (σ 12 45) then mb ((1 : Int32) = 0 ∨ (1 : Int32) = 1) (rt 1 σ) else bn (sp_145  σ) (fun r11 σ11 => (if r11 = 98 then (if r11 = 102 then bn (sp_146 v1 (up σ11 12 45 ((σ11 12 45) + 1))) (fun r14 σ14 => (if r14 = 0 then mb ((0 : Int32) = 0 ∨ (0 : Int32) = 1) (rt 0 σ14) else lp_144_49 n v1 r11 σ14)) else (if r11 = 98 then bn (sp_147 3 (up σ11 12 45 ((σ11 12 45) + 1))) (fun r13 σ13 => (if 0 ≤ r13 then (if r11 = 98 then mb (vp_in v1 7) ((if r11 = 100 then mb (vp_in v1 7) (lp_144_49 n v1 r11 (up (up σ13 74 (v1).toNatClampNeg r13) 75 (v1).toNatClampNeg r13)) else mb (vp_in v1 7) (mb (vp_in v1 7) (lp_144_49 n v1 r11 (up (up σ13 74 (v1).toNatClampNeg r13) 75 (v1).toNatClampNeg (σ13 75 (v1).toNatClampNeg)))))) else mb (vp_in v1 7) (mb (vp_in v1 7) ((if r11 = 100 then mb (vp_in v1 7) (lp_144_49 n v1 r11 (up (up σ13 74 (v1).toNatClampNeg (σ13 74 (v1).toNatClampNeg)) 75 (v1).toNatClampNeg r13)) else mb (vp_in v1 7) (mb (vp_in v1 7) (lp_144_49 n v1 r11 (up (up σ13 74 (v1).toNatClampNeg (σ13 74 (v1).toNatClampNeg)) 75 (v1).toNatClampNeg (σ13 75 (v1).toNatClampNeg)))))))) else mb ((0 : Int32) = 0 ∨ (0 : Int32) = 1) (rt 0 σ13))) else bn (sp_147 2 (up σ11 12 45 ((σ11 12 45) + 1))) (fun r12 σ12 => (if 0 ≤ r12 then (if r11 = 98 then mb (vp_in v1 7) ((if r11 = 100 then mb (vp_in v1 7) (lp_144_49 n v1 r11 (up (up σ12 74 (v1).toNatClampNeg r12) 75 (v1).toNatClampNeg r12)) else mb (vp_in v1 7) (mb (vp_in v1 7) (lp_144_49 n v1 r11 (up (up σ12 74 (v1).toNatClampNeg r12) 75 (v1).toNatClampNeg (σ12 75 (v1).toNatClampNeg)))))) else mb (vp_in v1 7) (mb (vp_in v1 7) ((if r11 = 100 then mb (vp_in v1 7) (lp_144_49 n v1 r11 (up (up σ12 74 (v1).toNatClampNeg (σ12 74 (v1).toNatClampNeg)) 75 (v1).toNatClampNeg r12)) else mb (vp_in v1 7) (mb (vp_in v1 7) (lp_144_49 n v1 r11 (up (up σ12 74 (v1).toNatClampNeg (σ12 74 (v1).toNatClampNeg)) 75 (v1).toNatClampNeg (σ12 75 (v1).toNatClampNeg)))))))) else mb ((0 : Int32) = 0 ∨ (0 : Int32) = 1) (rt 0 σ12))))) else (if r11 = 100 then (if r11 = 102 then bn (sp_146 v1 (up σ11 12 45 ((σ11 12 45) + 1))) (fun r17 σ17 => (if r17 = 0 then mb ((0 : Int32) = 0 ∨ (0 : Int32) = 1) (rt 0 σ17) else lp_144_49 n v1 r11 σ17)) else (if r11 = 98 then bn (sp_147 3 (up σ11 12 45 ((σ11 12 45) + 1))) (fun r16 σ16 => (if 0 ≤ r16 then (if r11 = 98 then mb (vp_in v1 7) ((if r11 = 100 then mb (vp_in v1 7) (lp_144_49 n v1 r11 (up (up σ16 74 (v1).toNatClampNeg r16) 75 (v1).toNatClampNeg r16)) else mb (vp_in v1 7) (mb (vp_in v1 7) (lp_144_49 n v1 r11 (up (up σ16 74 (v1).toNatClampNeg r16) 75 (v1).toNatClampNeg (σ16 75 (v1).toNatClampNeg)))))) else mb (vp_in v1 7) (mb (vp_in v1 7) ((if r11 = 100 then mb (vp_in v1 7) (lp_144_49 n v1 r11 (up (up σ16 74 (v1).toNatClampNeg (σ16 74 (v1).toNatClampNeg)) 75 (v1).toNatClampNeg r16)) else mb (vp_in v1 7) (mb (vp_in v1 7) (lp_144_49 n v1 r11 (up (up σ16 74 (v1).toNatClampNeg (σ16 74 (v1).toNatClampNeg)) 75 (v1).toNatClampNeg (σ16 75 (v1).toNatClampNeg)))))))) else mb ((0 : Int32) = 0 ∨ (0 : Int32) = 1) (rt 0 σ16))) else bn (sp_147 2 (up σ11 12 45 ((σ11 12 45) + 1))) (fun r15 σ15 => (if 0 ≤ r15 then (if r11 = 98 then mb (vp_in v1 7) ((if r11 = 100 then mb (vp_in v1 7) (lp_144_49 n v1 r11 (up (up σ15 74 (v1).toNatClampNeg r15) 75 (v1).toNatClampNeg r15)) else mb (vp_in v1 7) (mb (vp_in v1 7) (lp_144_49 n v1 r11 (up (up σ15 74 (v1).toNatClampNeg r15) 75 (v1).toNatClampNeg (σ15 75 (v1).toNatClampNeg)))))) else mb (vp_in v1 7) (mb (vp_in v1 7) ((if r11 = 100 then mb (vp_in v1 7) (lp_144_49 n v1 r11 (up (up σ15 74 (v1).toNatClampNeg (σ15 74 (v1).toNatClampNeg)) 75 (v1).toNatClampNeg r15)) else mb (vp_in v1 7) (mb (vp_in v1 7) (lp_144_49 n v1 r11 (up (up σ15 74 (v1).toNatClampNeg (σ15 74 (v1).toNatClampNeg)) 75 (v1).toNatClampNeg (σ15 75 (v1).toNatClampNeg)))))))) else mb ((0 : Int32) = 0 ∨ (0 : Int32) = 1) (rt 0 σ15))))) else (if r11 = 102 then (if r11 = 102 then bn (sp_146 v1 (up σ11 12 45 ((σ11 12 45) + 1))) (fun r20 σ20 => (if r20 = 0 then mb ((0 : Int32) = 0 ∨ (0 : Int32) = 1) (rt 0 σ20) else lp_144_49 n v1 r11 σ20)) else (if r11 = 98 then bn (sp_147 3 (up σ11 12 45 ((σ11 12 45) + 1))) (fun r19 σ19 => (if 0 ≤ r19 then (if r11 = 98 then mb (vp_in v1 7) ((if r11 = 100 then mb (vp_in v1 7) (lp_144_49 n v1 r11 (up (up σ19 74 (v1).toNatClampNeg r19) 75 (v1).toNatClampNeg r19)) else mb (vp_in v1 7) (mb (vp_in v1 7) (lp_144_49 n v1 r11 (up (up σ19 74 (v1).toNatClampNeg r19) 75 (v1).toNatClampNeg (σ19 75 (v1).toNatClampNeg)))))) else mb (vp_in v1 7) (mb (vp_in v1 7) ((if r11 = 100 then mb (vp_in v1 7) (lp_144_49 n v1 r11 (up (up σ19 74 (v1).toNatClampNeg (σ19 74 (v1).toNatClampNeg)) 75 (v1).toNatClampNeg r19)) else mb (vp_in v1 7) (mb (vp_in v1 7) (lp_144_49 n v1 r11 (up (up σ19 74 (v1).toNatClampNeg (σ19 74 (v1).toNatClampNeg)) 75 (v1).toNatClampNeg (σ19 75 (v1).toNatClampNeg)))))))) else mb ((0 : Int32) = 0 ∨ (0 : Int32) = 1) (rt 0 σ19))) else bn (sp_147 2 (up σ11 12 45 ((σ11 12 45) + 1))) (fun r18 σ18 => (if 0 ≤ r18 then (if r11 = 98 then mb (vp_in v1 7) ((if r11 = 100 then mb (vp_in v1 7) (lp_144_49 n v1 r11 (up (up σ18 74 (v1).toNatClampNeg r18) 75 (v1).toNatClampNeg r18)) else mb (vp_in v1 7) (mb (vp_in v1 7) (lp_144_49 n v1 r11 (up (up σ18 74 (v1).toNatClampNeg r18) 75 (v1).toNatClampNeg (σ18 75 (v1).toNatClampNeg)))))) else mb (vp_in v1 7) (mb (vp_in v1 7) ((if r11 = 100 then mb (vp_in v1 7) (lp_144_49 n v1 r11 (up (up σ18 74 (v1).toNatClampNeg (σ18 74 (v1).toNatClampNeg)) 75 (v1).toNatClampNeg r18)) else mb (vp_in v1 7) (mb (vp_in v1 7) (lp_144_49 n v1 r11 (up (up σ18 74 (v1).toNatClampNeg (σ18 74 (v1).toNatClampNeg)) 75 (v1).toNatClampNeg (σ18 75 (v1).toNatClampNeg)))))))) else mb ((0 : Int32) = 0 ∨ (0 : Int32) = 1) (rt 0 σ18))))) else mb ((0 : Int32) = 0 ∨ (0 : Int32) = 1) (rt 0 σ11))))))
def lp_144_22 : Nat → Int32 → Int32 → St → MR
  | 0, _, _, _ => bad
  | n + 1, v1, v2, σ => (if 4 ≤ v2 then lp_144_49 FU v1 v2 (up σ 12 45 0) else mb (vp_in (((4 : Int32) * v1) + v2) 28) (lp_144_22 n v1 (v2 + 1) (up σ 76 (((4 : Int32) * v1) + v2).toNatClampNeg 0)))
def sp_144 (σ : St) : MR := mb (vp_in (σ 12 5) 7) (mb (vp_in (σ 12 5) 7) (lp_144_22 FU (σ 12 5) 0 (up (up σ 74 (σ 12 5).toNatClampNeg 0) 75 (σ 12 5).toNatClampNeg 100)))
/-- TradeTestsModel.says -/
def sp_149 (x1 x2 : Int32) (σ : St) : MR := bn (sp_124 x1 σ) (fun r10 σ10 => (if r10 = 0 then bn (sp_125 1 σ10) (fun r11 σ11 => rt r11 σ11) else bn (sp_123 x2 0 1 σ10) (fun r12 σ12 => (if r12 = 0 then bn (sp_123 x2 10 13 σ12) (fun r15 σ15 => (if r15 = 0 then bn (sp_125 1 σ15) (fun r18 σ18 => rt r18 σ18) else bn (sp_150 x1 σ15) (fun r16 σ16 => (if 0 ≤ r16 then (if x2 = 0 then mb (vp_in r16 7) (rt (σ16 74 (r16).toNatClampNeg) σ16) else (if x2 = 1 then mb (vp_in r16 7) (rt (σ16 75 (r16).toNatClampNeg) σ16) else mb (vp_in ((((4 : Int32) * r16) + x2) - 10) 28) (rt (σ16 76 ((((4 : Int32) * r16) + x2) - 10).toNatClampNeg) σ16))) else bn (sp_125 2 σ16) (fun r17 σ17 => rt r17 σ17))))) else bn (sp_150 x1 σ12) (fun r13 σ13 => (if 0 ≤ r13 then (if x2 = 0 then mb (vp_in r13 7) (rt (σ13 74 (r13).toNatClampNeg) σ13) else (if x2 = 1 then mb (vp_in r13 7) (rt (σ13 75 (r13).toNatClampNeg) σ13) else mb (vp_in ((((4 : Int32) * r13) + x2) - 10) 28) (rt (σ13 76 ((((4 : Int32) * r13) + x2) - 10).toNatClampNeg) σ13))) else bn (sp_125 2 σ13) (fun r14 σ14 => rt r14 σ14)))))))
/-- TradeTestsModel.verdict -/
def sp_151 (x1 : Int32) (σ : St) : MR := bn (sp_140 x1 σ) (fun r4 σ4 => (if r4 = 0 then bn (sp_125 1 σ4) (fun r6 σ6 => rt r6 σ6) else bn (sp_152 x1 σ4) (fun r5 σ5 => (if r5 = 0 then rt 0 σ5 else rt 1 σ5))))
/-- TradeTestsModel.unlikeOf -/
def sp_154 (x1 : Int32) (σ : St) : MR := mb (vp_in x1 80) (bn (sp_152 x1 σ) (fun r2 σ2 => (if (σ 70 (x1).toNatClampNeg) = r2 then rt 0 σ2 else mb (vp_in x1 80) ((if (σ2 70 (x1).toNatClampNeg) = 0 then rt 2 σ2 else rt 1 σ2)))))
/-- TradeTestsModel.share -/
def sp_155 (x1 x2 : Int32) (σ : St) : MR := bn (sp_123 x1 0 3 σ) (fun r7 σ7 => (if r7 = 0 then bn (sp_125 1 σ7) (fun r8 σ8 => rt r8 σ8) else bn (sp_123 x2 0 3 σ7) (fun r9 σ9 => (if r9 = 0 then bn (sp_125 1 σ9) (fun r12 σ12 => rt r12 σ12) else bn (sp_156 (((4 : Int32) * x1) + x2) σ9) (fun r10 σ10 => (if 0 ≤ r10 then rt r10 σ10 else bn (sp_125 2 σ10) (fun r11 σ11 => rt r11 σ11)))))))
/-- TradeTestsModel.looked -/
def lp_159_4 : Nat → Int32 → Int32 → St → MR
  | 0, _, _, _ => bad
  | n + 1, v1, v2, σ => (if (σ 12 4) ≤ v2 then bn (sp_160 v1 σ) (fun r3 σ3 => rt r3 σ3) else bn (sp_141 v2 σ) (fun r4 σ4 => lp_159_4 n (v1 ||| ((1 : Int32) <<< (r4 &&& 31))) (v2 + 1) σ4))
def sp_159 (σ : St) : MR := lp_159_4 FU 0 0 σ
/-- TradeTestsModel.alikeOf -/
def lp_163_4 : Nat → Int32 → Int32 → Int32 → St → MR
  | 0, _, _, _, _ => bad
  | n + 1, v1, v2, v3, σ => (if (σ 12 4) ≤ v3 then rt v2 σ else mb (vp_in v3 80) (mb (vp_in v1 80) ((if (σ 60 (v3).toNatClampNeg) = (σ 60 (v1).toNatClampNeg) then mb (vp_in v3 80) (mb (vp_in v1 80) ((if (σ 59 (v3).toNatClampNeg) = (σ 59 (v1).toNatClampNeg) then lp_163_4 n v1 (v2 + 0) (v3 + 1) σ else mb (vp_in v1 80) (mb (vp_in v3 80) (bn (sp_164 (σ 61 (v1).toNatClampNeg) (σ 61 (v3).toNatClampNeg) 30 σ) (fun r4 σ4 => (if r4 = 0 then lp_163_4 n v1 (v2 + 0) (v3 + 1) σ4 else mb (vp_in v1 80) (mb (vp_in v3 80) (bn (sp_164 (σ4 65 (v1).toNatClampNeg) (σ4 65 (v3).toNatClampNeg) 1 σ4) (fun r5 σ5 => (if r5 = 0 then lp_163_4 n v1 (v2 + 0) (v3 + 1) σ5 else mb (vp_in v1 80) (mb (vp_in v3 80) (bn (sp_164 (σ5 66 (v1).toNatClampNeg) (σ5 66 (v3).toNatClampNeg) 1 σ5) (fun r6 σ6 => (if r6 = 0 then lp_163_4 n v1 (v2 + 0) (v3 + 1) σ6 else lp_163_4 n v1 (v2 + 1) (v3 + 1) σ6))))))))))))))) else lp_163_4 n v1 (v2 + 0) (v3 + 1) σ))))
def sp_163 (x1 : Int32) (σ : St) : MR := lp_163_4 FU x1 0 0 σ
/-- TradeTestsModel.isShut -/
def sp_167 (x1 : Int32) (σ : St) : MR := bn (sp_141 x1 σ) (fun r2 σ2 => mb (vp_in x1 80) (mb (vp_in r2 6) ((if (σ2 62 (x1).toNatClampNeg) < (σ2 53 (r2).toNatClampNeg) then mb ((1 : Int32) = 0 ∨ (1 : Int32) = 1) (rt 1 σ2) else mb (vp_in x1 80) (mb (vp_in x1 80) (mb (vp_in r2 6) ((if ((σ2 62 (x1).toNatClampNeg) + (σ2 63 (x1).toNatClampNeg)) ≤ (σ2 54 (r2).toNatClampNeg) then mb ((0 : Int32) = 0 ∨ (0 : Int32) = 1) (rt 0 σ2) else mb ((1 : Int32) = 0 ∨ (1 : Int32) = 1) (rt 1 σ2)))))))))
/-- TradeTestsModel.falls -/
def lp_170_105 : Nat → Int32 → Int32 → Int32 → Int32 → St → MR
  | 0, _, _, _, _, _ => bad
  | n + 1, v1, v2, v3, v4, σ => (if v4 ≤ v1 then mb (vp_in v1 80) (mb (vp_in v2 80) ((if (σ 12 4) ≤ v3 then bn (sp_171 (σ 64 (v1).toNatClampNeg) (σ 64 (v2).toNatClampNeg) 999999 σ) (fun r6 σ6 => (if r6 = 0 then rt 2 σ6 else rt 1 σ6)) else mb (vp_in v3 80) (bn (sp_171 (σ 64 (v1).toNatClampNeg) (σ 64 (v2).toNatClampNeg) (σ 64 (v3).toNatClampNeg) σ) (fun r7 σ7 => (if r7 = 0 then rt 2 σ7 else rt 1 σ7)))))) else mb (vp_in v4 80) (mb (vp_in v1 80) ((if (σ 59 (v4).toNatClampNeg) = (σ 59 (v1).toNatClampNeg) then lp_170_105 n v1 v2 v4 (v4 + (-1)) σ else lp_170_105 n v1 v2 v3 (v4 + (-1)) σ))))
def lp_170_39 : Nat → Int32 → Int32 → Int32 → St → MR
  | 0, _, _, _, _ => bad
  | n + 1, v1, v2, v3, σ => (if v1 ≤ v3 then (if v2 < 0 then rt 0 σ else mb (vp_in v1 80) (mb (vp_in v2 80) ((if (σ 64 (v1).toNatClampNeg) < (σ 64 (v2).toNatClampNeg) then lp_170_105 FU v1 v2 (σ 12 4) ((σ 12 4) - 1) σ else rt 0 σ)))) else mb (vp_in v3 80) (mb (vp_in v1 80) ((if (σ 59 (v3).toNatClampNeg) = (σ 59 (v1).toNatClampNeg) then lp_170_39 n v1 v3 (v3 + 1) σ else lp_170_39 n v1 v2 (v3 + 1) σ))))
def sp_170 (x1 : Int32) (σ : St) : MR := bn (sp_140 x1 σ) (fun r8 σ8 => (if r8 = 0 then bn (sp_125 1 σ8) (fun r10 σ10 => rt r10 σ10) else mb (vp_in x1 80) (mb (vp_in (σ8 59 (x1).toNatClampNeg) 24) ((if (σ8 50 (σ8 59 (x1).toNatClampNeg).toNatClampNeg) = 3 then bn (sp_125 5 σ8) (fun r9 σ9 => rt r9 σ9) else lp_170_39 FU x1 (-1) 0 σ8)))))
/-- TradeTestsModel.appeal -/
def sp_173 (x1 x2 : Int32) (σ : St) : MR := bn (sp_140 x1 σ) (fun r5 σ5 => (if r5 = 0 then bn (sp_125 1 σ5) (fun r6 σ6 => rt r6 σ6) else bn (sp_123 x2 0 1 σ5) (fun r7 σ7 => (if r7 = 0 then bn (sp_125 1 σ7) (fun r8 σ8 => rt r8 σ8) else mb (vp_in x1 80) ((if (σ7 71 (x1).toNatClampNeg) = 0 then (if x2 = 1 then mb (vp_in x1 80) (mb ((1 : Int32) = 0 ∨ (1 : Int32) = 1) (rt 0 (up σ7 71 (x1).toNatClampNeg 1))) else mb (vp_in x1 80) (mb ((0 : Int32) = 0 ∨ (0 : Int32) = 1) (rt 0 (up σ7 71 (x1).toNatClampNeg 0)))) else (if x2 = 1 then mb (vp_in x1 80) (mb ((1 : Int32) = 0 ∨ (1 : Int32) = 1) (rt 1 (up σ7 71 (x1).toNatClampNeg 1))) else mb (vp_in x1 80) (mb ((0 : Int32) = 0 ∨ (0 : Int32) = 1) (rt 1 (up σ7 71 (x1).toNatClampNeg 0))))))))))
/-- TradeTestsModel.visit -/
def sp_182 (x1 x2 : Int32) (σ : St) : MR := bn (sp_123 x1 0 ((σ 12 6) - 1) σ) (fun r7 σ7 => (if r7 = 0 then bn (sp_125 1 σ7) (fun r8 σ8 => rt r8 σ8) else bn (sp_140 x2 σ7) (fun r9 σ9 => (if r9 = 0 then bn (sp_125 1 σ9) (fun r12 σ12 => rt r12 σ12) else mb (vp_in x2 80) ((if (σ9 68 (x2).toNatClampNeg) < 0 then mb (vp_in x2 80) (bn (sp_176 x2 (up (up σ9 68 (x2).toNatClampNeg x1) 12 7 ((σ9 12 7) + 1))) (fun r10 σ10 => rt r10 σ10)) else bn (sp_125 3 σ9) (fun r11 σ11 => rt r11 σ11)))))))
/-- TradeTestsModel.draw -/
def sp_187 (x1 x2 x3 : Int32) (σ : St) : MR := bn (sp_140 x1 σ) (fun r8 σ8 => (if r8 = 0 then bn (sp_125 1 σ8) (fun r9 σ9 => rt r9 σ9) else bn (sp_123 x2 1 100 σ8) (fun r10 σ10 => (if r10 = 0 then bn (sp_125 1 σ10) (fun r11 σ11 => rt r11 σ11) else bn (sp_123 x3 0 1 σ10) (fun r12 σ12 => (if r12 = 0 then bn (sp_125 1 σ12) (fun r14 σ14 => rt r14 σ14) else mb (vp_in x1 80) ((if (σ12 69 (x1).toNatClampNeg) ≤ 0 then mb (vp_in x1 80) ((if x3 = 1 then mb (vp_in x1 80) (mb ((1 : Int32) = 0 ∨ (1 : Int32) = 1) (rt ((σ12 12 8) + 1) (up (up (up σ12 69 (x1).toNatClampNeg x2) 72 (x1).toNatClampNeg 1) 12 8 ((σ12 12 8) + 1)))) else mb (vp_in x1 80) (mb ((0 : Int32) = 0 ∨ (0 : Int32) = 1) (rt ((σ12 12 8) + 1) (up (up (up σ12 69 (x1).toNatClampNeg x2) 72 (x1).toNatClampNeg 0) 12 8 ((σ12 12 8) + 1)))))) else bn (sp_125 3 σ12) (fun r13 σ13 => rt r13 σ13)))))))))
/-- TradeTests$Texts.readRow -/
def sp_32 (σ : St) : MR := bn (sp_33  σ) (fun r11 σ11 => (if r11 = 98 then (if r11 = 102 then bn (sp_34  (up σ11 4 2 ((σ11 4 2) + 1))) (fun r14 σ14 => mb (r14 = 0 ∨ r14 = 1) (rt r14 σ14)) else (if r11 = 98 then bn (sp_38 3 (up σ11 4 2 ((σ11 4 2) + 1))) (fun r13 σ13 => (if 0 ≤ r13 then (if r11 = 98 then mb (vp_in (σ13 4 7) 6) (mb ((1 : Int32) = 0 ∨ (1 : Int32) = 1) (rt 1 (up σ13 40 (σ13 4 7).toNatClampNeg r13))) else mb (vp_in (σ13 4 7) 6) (mb ((1 : Int32) = 0 ∨ (1 : Int32) = 1) (rt 1 (up σ13 41 (σ13 4 7).toNatClampNeg r13)))) else mb ((0 : Int32) = 0 ∨ (0 : Int32) = 1) (rt 0 σ13))) else bn (sp_38 2 (up σ11 4 2 ((σ11 4 2) + 1))) (fun r12 σ12 => (if 0 ≤ r12 then (if r11 = 98 then mb (vp_in (σ12 4 7) 6) (mb ((1 : Int32) = 0 ∨ (1 : Int32) = 1) (rt 1 (up σ12 40 (σ12 4 7).toNatClampNeg r12))) else mb (vp_in (σ12 4 7) 6) (mb ((1 : Int32) = 0 ∨ (1 : Int32) = 1) (rt 1 (up σ12 41 (σ12 4 7).toNatClampNeg r12)))) else mb ((0 : Int32) = 0 ∨ (0 : Int32) = 1) (rt 0 σ12))))) else (if r11 = 100 then (if r11 = 102 then bn (sp_34  (up σ11 4 2 ((σ11 4 2) + 1))) (fun r17 σ17 => mb (r17 = 0 ∨ r17 = 1) (rt r17 σ17)) else (if r11 = 98 then bn (sp_38 3 (up σ11 4 2 ((σ11 4 2) + 1))) (fun r16 σ16 => (if 0 ≤ r16 then (if r11 = 98 then mb (vp_in (σ16 4 7) 6) (mb ((1 : Int32) = 0 ∨ (1 : Int32) = 1) (rt 1 (up σ16 40 (σ16 4 7).toNatClampNeg r16))) else mb (vp_in (σ16 4 7) 6) (mb ((1 : Int32) = 0 ∨ (1 : Int32) = 1) (rt 1 (up σ16 41 (σ16 4 7).toNatClampNeg r16)))) else mb ((0 : Int32) = 0 ∨ (0 : Int32) = 1) (rt 0 σ16))) else bn (sp_38 2 (up σ11 4 2 ((σ11 4 2) + 1))) (fun r15 σ15 => (if 0 ≤ r15 then (if r11 = 98 then mb (vp_in (σ15 4 7) 6) (mb ((1 : Int32) = 0 ∨ (1 : Int32) = 1) (rt 1 (up σ15 40 (σ15 4 7).toNatClampNeg r15))) else mb (vp_in (σ15 4 7) 6) (mb ((1 : Int32) = 0 ∨ (1 : Int32) = 1) (rt 1 (up σ15 41 (σ15 4 7).toNatClampNeg r15)))) else mb ((0 : Int32) = 0 ∨ (0 : Int32) = 1) (rt 0 σ15))))) else (if r11 = 102 then (if r11 = 102 then bn (sp_34  (up σ11 4 2 ((σ11 4 2) + 1))) (fun r20 σ20 => mb (r20 = 0 ∨ r20 = 1) (rt r20 σ20)) else (if r11 = 98 then bn (sp_38 3 (up σ11 4 2 ((σ11 4 2) + 1))) (fun r19 σ19 => (if 0 ≤ r19 then (if r11 = 98 then mb (vp_in (σ19 4 7) 6) (mb ((1 : Int32) = 0 ∨ (1 : Int32) = 1) (rt 1 (up σ19 40 (σ19 4 7).toNatClampNeg r19))) else mb (vp_in (σ19 4 7) 6) (mb ((1 : Int32) = 0 ∨ (1 : Int32) = 1) (rt 1 (up σ19 41 (σ19 4 7).toNatClampNeg r19)))) else mb ((0 : Int32) = 0 ∨ (0 : Int32) = 1) (rt 0 σ19))) else bn (sp_38 2 (up σ11 4 2 ((σ11 4 2) + 1))) (fun r18 σ18 => (if 0 ≤ r18 then (if r11 = 98 then mb (vp_in (σ18 4 7) 6) (mb ((1 : Int32) = 0 ∨ (1 : Int32) = 1) (rt 1 (up σ18 40 (σ18 4 7).toNatClampNeg r18))) else mb (vp_in (σ18 4 7) 6) (mb ((1 : Int32) = 0 ∨ (1 : Int32) = 1) (rt 1 (up σ18 41 (σ18 4 7).toNatClampNeg r18)))) else mb ((0 : Int32) = 0 ∨ (0 : Int32) = 1) (rt 0 σ18))))) else mb ((0 : Int32) = 0 ∨ (0 : Int32) = 1) (rt 0 σ11)))))
/-- TradeTests.unlike -/
def sp_45 (x1 : Int32) (σ : St) : MR := bn (sp_1 x1 (σ 3 14) σ) (fun r4 σ4 => (if r4 = 0 then bn (sp_2 1 σ4) (fun r6 σ6 => rt r6 σ6) else bn (sp_46 x1 σ4) (fun r5 σ5 => rt r5 σ5)))
/-- TradeTests$Signals.bits -/
def sp_50 (x1 : Int32) (σ : St) : MR := bn (sp_51 x1 σ) (fun r32 σ32 => (if r32 ≤ 2 then bn (sp_54 x1 σ32) (fun r33 σ33 => (if r33 = 0 then bn (sp_55 x1 σ33) (fun r34 σ34 => (if r34 = 0 then bn (sp_57 x1 σ34) (fun r35 σ35 => (if r35 = 0 then bn (sp_58 x1 σ35) (fun r36 σ36 => (if r36 = 0 then rt (((((0 : Int32) ||| 0) ||| 0) ||| 0) ||| 0) σ36 else rt (((((0 : Int32) ||| 0) ||| 0) ||| 0) ||| 16) σ36)) else bn (sp_58 x1 σ35) (fun r37 σ37 => (if r37 = 0 then rt (((((0 : Int32) ||| 0) ||| 0) ||| 8) ||| 0) σ37 else rt (((((0 : Int32) ||| 0) ||| 0) ||| 8) ||| 16) σ37)))) else bn (sp_57 x1 σ34) (fun r38 σ38 => (if r38 = 0 then bn (sp_58 x1 σ38) (fun r39 σ39 => (if r39 = 0 then rt (((((0 : Int32) ||| 0) ||| 4) ||| 0) ||| 0) σ39 else rt (((((0 : Int32) ||| 0) ||| 4) ||| 0) ||| 16) σ39)) else bn (sp_58 x1 σ38) (fun r40 σ40 => (if r40 = 0 then rt (((((0 : Int32) ||| 0) ||| 4) ||| 8) ||| 0) σ40 else rt (((((0 : Int32) ||| 0) ||| 4) ||| 8) ||| 16) σ40)))))) else bn (sp_55 x1 σ33) (fun r41 σ41 => (if r41 = 0 then bn (sp_57 x1 σ41) (fun r42 σ42 => (if r42 = 0 then bn (sp_58 x1 σ42) (fun r43 σ43 => (if r43 = 0 then rt (((((0 : Int32) ||| 2) ||| 0) ||| 0) ||| 0) σ43 else rt (((((0 : Int32) ||| 2) ||| 0) ||| 0) ||| 16) σ43)) else bn (sp_58 x1 σ42) (fun r44 σ44 => (if r44 = 0 then rt (((((0 : Int32) ||| 2) ||| 0) ||| 8) ||| 0) σ44 else rt (((((0 : Int32) ||| 2) ||| 0) ||| 8) ||| 16) σ44)))) else bn (sp_57 x1 σ41) (fun r45 σ45 => (if r45 = 0 then bn (sp_58 x1 σ45) (fun r46 σ46 => (if r46 = 0 then rt (((((0 : Int32) ||| 2) ||| 4) ||| 0) ||| 0) σ46 else rt (((((0 : Int32) ||| 2) ||| 4) ||| 0) ||| 16) σ46)) else bn (sp_58 x1 σ45) (fun r47 σ47 => (if r47 = 0 then rt (((((0 : Int32) ||| 2) ||| 4) ||| 8) ||| 0) σ47 else rt (((((0 : Int32) ||| 2) ||| 4) ||| 8) ||| 16) σ47)))))))) else bn (sp_54 x1 σ32) (fun r48 σ48 => (if r48 = 0 then bn (sp_55 x1 σ48) (fun r49 σ49 => (if r49 = 0 then bn (sp_57 x1 σ49) (fun r50 σ50 => (if r50 = 0 then bn (sp_58 x1 σ50) (fun r51 σ51 => (if r51 = 0 then rt (((((1 : Int32) ||| 0) ||| 0) ||| 0) ||| 0) σ51 else rt (((((1 : Int32) ||| 0) ||| 0) ||| 0) ||| 16) σ51)) else bn (sp_58 x1 σ50) (fun r52 σ52 => (if r52 = 0 then rt (((((1 : Int32) ||| 0) ||| 0) ||| 8) ||| 0) σ52 else rt (((((1 : Int32) ||| 0) ||| 0) ||| 8) ||| 16) σ52)))) else bn (sp_57 x1 σ49) (fun r53 σ53 => (if r53 = 0 then bn (sp_58 x1 σ53) (fun r54 σ54 => (if r54 = 0 then rt (((((1 : Int32) ||| 0) ||| 4) ||| 0) ||| 0) σ54 else rt (((((1 : Int32) ||| 0) ||| 4) ||| 0) ||| 16) σ54)) else bn (sp_58 x1 σ53) (fun r55 σ55 => (if r55 = 0 then rt (((((1 : Int32) ||| 0) ||| 4) ||| 8) ||| 0) σ55 else rt (((((1 : Int32) ||| 0) ||| 4) ||| 8) ||| 16) σ55)))))) else bn (sp_55 x1 σ48) (fun r56 σ56 => (if r56 = 0 then bn (sp_57 x1 σ56) (fun r57 σ57 => (if r57 = 0 then bn (sp_58 x1 σ57) (fun r58 σ58 => (if r58 = 0 then rt (((((1 : Int32) ||| 2) ||| 0) ||| 0) ||| 0) σ58 else rt (((((1 : Int32) ||| 2) ||| 0) ||| 0) ||| 16) σ58)) else bn (sp_58 x1 σ57) (fun r59 σ59 => (if r59 = 0 then rt (((((1 : Int32) ||| 2) ||| 0) ||| 8) ||| 0) σ59 else rt (((((1 : Int32) ||| 2) ||| 0) ||| 8) ||| 16) σ59)))) else bn (sp_57 x1 σ56) (fun r60 σ60 => (if r60 = 0 then bn (sp_58 x1 σ60) (fun r61 σ61 => (if r61 = 0 then rt (((((1 : Int32) ||| 2) ||| 4) ||| 0) ||| 0) σ61 else rt (((((1 : Int32) ||| 2) ||| 4) ||| 0) ||| 16) σ61)) else bn (sp_58 x1 σ60) (fun r62 σ62 => (if r62 = 0 then rt (((((1 : Int32) ||| 2) ||| 4) ||| 8) ||| 0) σ62 else rt (((((1 : Int32) ||| 2) ||| 4) ||| 8) ||| 16) σ62))))))))))
/-- TradeTests$Rates.beyondChance -/
def sp_69 (σ : St) : MR := bn (sp_68  σ) (fun r3 σ3 => bn (sp_70  σ3) (fun r4 σ4 => (if 0 < (lg_cmp (r3.toInt64 * r3.toInt64) (((σ3 7 8).toInt64) * (((4 : Int32) + r4).toInt64))) then (if (lg_cmp r3.toInt64 (Int32.toInt64 0)) ≤ 0 then rt 2 σ4 else rt 1 σ4) else rt 0 σ4)))
/-- TradeTests$Rates.shareOf -/
def sp_72 (x1 x2 : Int32) (σ : St) : MR := bn (sp_63  σ) (fun r3 σ3 => bn (sp_67 ((x1 * 4) + x2) σ3) (fun r4 σ4 => rt r4 σ4))
/-- TradeTests.alike -/
def sp_74 (x1 : Int32) (σ : St) : MR := bn (sp_1 x1 (σ 3 14) σ) (fun r4 σ4 => (if r4 = 0 then bn (sp_2 1 σ4) (fun r6 σ6 => rt r6 σ6) else bn (sp_51 x1 σ4) (fun r5 σ5 => rt r5 σ5)))
/-- TradeTests$Penalties.ofTest -/
def sp_85 (x1 : Int32) (σ : St) : MR := bn (sp_86 x1 σ) (fun r18 σ18 => bn (sp_59 r18 σ18) (fun r19 σ19 => mb (vp_in x1 80) ((if (σ19 34 (x1).toNatClampNeg) = 1 then rt ((10 : Int32) * r19) σ19 else bn (sp_58 x1 σ19) (fun r20 σ20 => (if r20 = 0 then bn (sp_54 x1 σ20) (fun r21 σ21 => (if r21 = 0 then bn (sp_55 x1 σ21) (fun r22 σ22 => (if r22 = 0 then bn (sp_57 x1 σ22) (fun r23 σ23 => (if r23 = 0 then rt ((((((10 : Int32) * r19) + 0) + 0) + 0) + 0) σ23 else rt ((((((10 : Int32) * r19) + 0) + 0) + 0) + 1) σ23)) else bn (sp_57 x1 σ22) (fun r24 σ24 => (if r24 = 0 then rt ((((((10 : Int32) * r19) + 0) + 0) + 4) + 0) σ24 else rt ((((((10 : Int32) * r19) + 0) + 0) + 4) + 1) σ24)))) else bn (sp_55 x1 σ21) (fun r25 σ25 => (if r25 = 0 then bn (sp_57 x1 σ25) (fun r26 σ26 => (if r26 = 0 then rt ((((((10 : Int32) * r19) + 0) + 2) + 0) + 0) σ26 else rt ((((((10 : Int32) * r19) + 0) + 2) + 0) + 1) σ26)) else bn (sp_57 x1 σ25) (fun r27 σ27 => (if r27 = 0 then rt ((((((10 : Int32) * r19) + 0) + 2) + 4) + 0) σ27 else rt ((((((10 : Int32) * r19) + 0) + 2) + 4) + 1) σ27)))))) else bn (sp_54 x1 σ20) (fun r28 σ28 => (if r28 = 0 then bn (sp_55 x1 σ28) (fun r29 σ29 => (if r29 = 0 then bn (sp_57 x1 σ29) (fun r30 σ30 => (if r30 = 0 then rt ((((((10 : Int32) * r19) + 6) + 0) + 0) + 0) σ30 else rt ((((((10 : Int32) * r19) + 6) + 0) + 0) + 1) σ30)) else bn (sp_57 x1 σ29) (fun r31 σ31 => (if r31 = 0 then rt ((((((10 : Int32) * r19) + 6) + 0) + 4) + 0) σ31 else rt ((((((10 : Int32) * r19) + 6) + 0) + 4) + 1) σ31)))) else bn (sp_55 x1 σ28) (fun r32 σ32 => (if r32 = 0 then bn (sp_57 x1 σ32) (fun r33 σ33 => (if r33 = 0 then rt ((((((10 : Int32) * r19) + 6) + 2) + 0) + 0) σ33 else rt ((((((10 : Int32) * r19) + 6) + 2) + 0) + 1) σ33)) else bn (sp_57 x1 σ32) (fun r34 σ34 => (if r34 = 0 then rt ((((((10 : Int32) * r19) + 6) + 2) + 4) + 0) σ34 else rt ((((((10 : Int32) * r19) + 6) + 2) + 4) + 1) σ34))))))))))))
/-- TradeTests.visit -/
def sp_95 (x1 x2 : Int32) (σ : St) : MR := bn (sp_1 x1 (σ 9 3) σ) (fun r9 σ9 => (if r9 = 0 then bn (sp_2 1 σ9) (fun r10 σ10 => rt r10 σ10) else bn (sp_1 x2 (σ9 3 14) σ9) (fun r11 σ11 => (if r11 = 0 then bn (sp_2 1 σ11) (fun r16 σ16 => rt r16 σ16) else bn (sp_61 x2 σ11) (fun r12 σ12 => (if r12 = 0 then bn (sp_96 x1 x2 σ12) (fun r13 σ13 => bn (sp_86 x2 σ13) (fun r14 σ14 => rt r14 σ14)) else bn (sp_2 3 σ12) (fun r15 σ15 => rt r15 σ15)))))))
/-- TradeTests$Judge.isLeaning -/
def lp_116_5 : Nat → Int32 → Int32 → Int32 → Int32 → St → MR
  | 0, _, _, _, _, _ => bad
  | n + 1, v1, v2, v3, v4, σ => (if (σ 3 14) ≤ v4 then (if v3 < 0 then mb ((0 : Int32) = 0 ∨ (0 : Int32) = 1) (rt 0 σ) else bn (sp_58 v3 σ) (fun r3 σ3 => (if r3 = 0 then mb ((0 : Int32) = 0 ∨ (0 : Int32) = 1) (rt 0 σ3) else mb (vp_in v3 80) (bn (sp_6 v1 σ3) (fun r4 σ4 => (if ((σ3 26 (v3).toNatClampNeg) + r4) < v2 then mb ((0 : Int32) = 0 ∨ (0 : Int32) = 1) (rt 0 σ4) else mb ((1 : Int32) = 0 ∨ (1 : Int32) = 1) (rt 1 σ4))))))) else mb (vp_in v4 80) ((if (σ 24 (v4).toNatClampNeg) = v1 then mb (vp_in v4 80) ((if v2 < (σ 26 (v4).toNatClampNeg) then lp_116_5 n v1 v2 v3 (v4 + 1) σ else lp_116_5 n v1 v2 v4 (v4 + 1) σ)) else lp_116_5 n v1 v2 v3 (v4 + 1) σ)))
def sp_116 (x1 x2 : Int32) (σ : St) : MR := lp_116_5 FU x1 x2 (-1) 0 σ
/-- TradeTestsModel.test -/
def sp_137 (x1 x2 x3 x4 x5 : Int32) (σ : St) : MR := bn (sp_138 x1 x2 x3 x4 x5 σ) (fun r4 σ4 => (if r4 = 0 then bn (sp_125 1 σ4) (fun r6 σ6 => rt r6 σ6) else (if (σ4 12 4) = 80 then bn (sp_125 4 σ4) (fun r5 σ5 => rt r5 σ5) else mb (¬ (100 : Int32) = 0) (mb (vp_in (σ4 12 4) 80) (mb (¬ (100 : Int32) = 0) (mb (vp_in (σ4 12 4) 80) (mb (¬ (10000 : Int32) = 0) (mb (vp_in (σ4 12 4) 80) (mb (¬ (10000 : Int32) = 0) (mb (vp_in (σ4 12 4) 80) (mb (¬ (1000 : Int32) = 0) (mb (vp_in (σ4 12 4) 80) (mb (¬ (1000 : Int32) = 0) ((if (x3 - x3 / 1000 * 1000) ≤ 255 then mb (vp_in (σ4 12 4) 80) (mb ((0 : Int32) = 0 ∨ (0 : Int32) = 1) (mb (¬ (1000 : Int32) = 0) (mb (¬ (256 : Int32) = 0) (mb (vp_in (σ4 12 4) 80) (mb (vp_in (σ4 12 4) 80) (mb (¬ (1000 : Int32) = 0) (mb (vp_in (σ4 12 4) 80) (mb (¬ (1000 : Int32) = 0) (mb (vp_in (σ4 12 4) 80) (mb (vp_in (σ4 12 4) 80) (mb (vp_in (σ4 12 4) 80) (mb (vp_in (σ4 12 4) 80) (mb ((0 : Int32) = 0 ∨ (0 : Int32) = 1) (rt (((σ4 12 4) + 1) - 1) (up (up (up (up (up (up (up (up (up (up (up (up (up (up σ4 59 (σ4 12 4).toNatClampNeg (x1 / 100)) 60 (σ4 12 4).toNatClampNeg (x1 - x1 / 100 * 100)) 61 (σ4 12 4).toNatClampNeg (x2 - x2 / 10000 * 10000)) 62 (σ4 12 4).toNatClampNeg (x2 / 10000)) 63 (σ4 12 4).toNatClampNeg (x3 / 1000)) 70 (σ4 12 4).toNatClampNeg 0) 67 (σ4 12 4).toNatClampNeg ((x3 - x3 / 1000 * 1000) - (x3 - x3 / 1000 * 1000) / 256 * 256)) 64 (σ4 12 4).toNatClampNeg x4) 65 (σ4 12 4).toNatClampNeg (x5 / 1000)) 66 (σ4 12 4).toNatClampNeg (x5 - x5 / 1000 * 1000)) 68 (σ4 12 4).toNatClampNeg (-1)) 69 (σ4 12 4).toNatClampNeg 0) 71 (σ4 12 4).toNatClampNeg 0) 12 4 ((σ4 12 4) + 1)))))))))))))))) else mb (vp_in (σ4 12 4) 80) (mb ((1 : Int32) = 0 ∨ (1 : Int32) = 1) (mb (¬ (1000 : Int32) = 0) (mb (¬ (256 : Int32) = 0) (mb (vp_in (σ4 12 4) 80) (mb (vp_in (σ4 12 4) 80) (mb (¬ (1000 : Int32) = 0) (mb (vp_in (σ4 12 4) 80) (mb (¬ (1000 : Int32) = 0) (mb (vp_in (σ4 12 4) 80) (mb (vp_in (σ4 12 4) 80) (mb (vp_in (σ4 12 4) 80) (mb (vp_in (σ4 12 4) 80) (mb ((0 : Int32) = 0 ∨ (0 : Int32) = 1) (rt (((σ4 12 4) + 1) - 1) (up (up (up (up (up (up (up (up (up (up (up (up (up (up σ4 59 (σ4 12 4).toNatClampNeg (x1 / 100)) 60 (σ4 12 4).toNatClampNeg (x1 - x1 / 100 * 100)) 61 (σ4 12 4).toNatClampNeg (x2 - x2 / 10000 * 10000)) 62 (σ4 12 4).toNatClampNeg (x2 / 10000)) 63 (σ4 12 4).toNatClampNeg (x3 / 1000)) 70 (σ4 12 4).toNatClampNeg 1) 67 (σ4 12 4).toNatClampNeg ((x3 - x3 / 1000 * 1000) - (x3 - x3 / 1000 * 1000) / 256 * 256)) 64 (σ4 12 4).toNatClampNeg x4) 65 (σ4 12 4).toNatClampNeg (x5 / 1000)) 66 (σ4 12 4).toNatClampNeg (x5 - x5 / 1000 * 1000)) 68 (σ4 12 4).toNatClampNeg (-1)) 69 (σ4 12 4).toNatClampNeg 0) 71 (σ4 12 4).toNatClampNeg 0) 12 4 ((σ4 12 4) + 1)))))))))))))))))))))))))))))))
/-- TradeTestsModel.text -/
def sp_143 (x1 : Int32) (σ : St) : MR := bn (sp_124 x1 σ) (fun r5 σ5 => (if r5 = 0 then bn (sp_125 1 σ5) (fun r8 σ8 => rt r8 σ8) else (if (σ5 12 5) = 6 then bn (sp_125 4 σ5) (fun r7 σ7 => rt r7 σ7) else bn (sp_144  σ5) (fun r6 σ6 => (if r6 = 0 then rt ((-10 : Int32) - (σ6 12 45)) (up σ6 12 9 0) else mb (vp_in (σ6 12 5) 7) (rt ((σ6 12 5) + 1) (up (up (up σ6 12 9 0) 73 (σ6 12 5).toNatClampNeg x1) 12 5 ((σ6 12 5) + 1))))))))
/-- TradeTestsModel.unlike -/
def sp_153 (x1 : Int32) (σ : St) : MR := bn (sp_140 x1 σ) (fun r4 σ4 => (if r4 = 0 then bn (sp_125 1 σ4) (fun r5 σ5 => rt r5 σ5) else bn (sp_154 x1 σ4) (fun r6 σ6 => rt r6 σ6)))
/-- TradeTestsModel.signsOf -/
def sp_162 (x1 : Int32) (σ : St) : MR := bn (sp_163 x1 σ) (fun r32 σ32 => (if r32 ≤ 2 then bn (sp_165 x1 σ32) (fun r33 σ33 => (if r33 = 0 then bn (sp_166 x1 σ33) (fun r34 σ34 => (if r34 = 0 then bn (sp_167 x1 σ34) (fun r35 σ35 => (if r35 = 0 then bn (sp_154 x1 σ35) (fun r36 σ36 => (if r36 = 1 then rt (((((0 : Int32) + 0) + 0) + 0) + 16) σ36 else rt (((((0 : Int32) + 0) + 0) + 0) + 0) σ36)) else bn (sp_154 x1 σ35) (fun r37 σ37 => (if r37 = 1 then rt (((((0 : Int32) + 0) + 0) + 8) + 16) σ37 else rt (((((0 : Int32) + 0) + 0) + 8) + 0) σ37)))) else bn (sp_167 x1 σ34) (fun r38 σ38 => (if r38 = 0 then bn (sp_154 x1 σ38) (fun r39 σ39 => (if r39 = 1 then rt (((((0 : Int32) + 0) + 4) + 0) + 16) σ39 else rt (((((0 : Int32) + 0) + 4) + 0) + 0) σ39)) else bn (sp_154 x1 σ38) (fun r40 σ40 => (if r40 = 1 then rt (((((0 : Int32) + 0) + 4) + 8) + 16) σ40 else rt (((((0 : Int32) + 0) + 4) + 8) + 0) σ40)))))) else bn (sp_166 x1 σ33) (fun r41 σ41 => (if r41 = 0 then bn (sp_167 x1 σ41) (fun r42 σ42 => (if r42 = 0 then bn (sp_154 x1 σ42) (fun r43 σ43 => (if r43 = 1 then rt (((((0 : Int32) + 2) + 0) + 0) + 16) σ43 else rt (((((0 : Int32) + 2) + 0) + 0) + 0) σ43)) else bn (sp_154 x1 σ42) (fun r44 σ44 => (if r44 = 1 then rt (((((0 : Int32) + 2) + 0) + 8) + 16) σ44 else rt (((((0 : Int32) + 2) + 0) + 8) + 0) σ44)))) else bn (sp_167 x1 σ41) (fun r45 σ45 => (if r45 = 0 then bn (sp_154 x1 σ45) (fun r46 σ46 => (if r46 = 1 then rt (((((0 : Int32) + 2) + 4) + 0) + 16) σ46 else rt (((((0 : Int32) + 2) + 4) + 0) + 0) σ46)) else bn (sp_154 x1 σ45) (fun r47 σ47 => (if r47 = 1 then rt (((((0 : Int32) + 2) + 4) + 8) + 16) σ47 else rt (((((0 : Int32) + 2) + 4) + 8) + 0) σ47)))))))) else bn (sp_165 x1 σ32) (fun r48 σ48 => (if r48 = 0 then bn (sp_166 x1 σ48) (fun r49 σ49 => (if r49 = 0 then bn (sp_167 x1 σ49) (fun r50 σ50 => (if r50 = 0 then bn (sp_154 x1 σ50) (fun r51 σ51 => (if r51 = 1 then rt (((((1 : Int32) + 0) + 0) + 0) + 16) σ51 else rt (((((1 : Int32) + 0) + 0) + 0) + 0) σ51)) else bn (sp_154 x1 σ50) (fun r52 σ52 => (if r52 = 1 then rt (((((1 : Int32) + 0) + 0) + 8) + 16) σ52 else rt (((((1 : Int32) + 0) + 0) + 8) + 0) σ52)))) else bn (sp_167 x1 σ49) (fun r53 σ53 => (if r53 = 0 then bn (sp_154 x1 σ53) (fun r54 σ54 => (if r54 = 1 then rt (((((1 : Int32) + 0) + 4) + 0) + 16) σ54 else rt (((((1 : Int32) + 0) + 4) + 0) + 0) σ54)) else bn (sp_154 x1 σ53) (fun r55 σ55 => (if r55 = 1 then rt (((((1 : Int32) + 0) + 4) + 8) + 16) σ55 else rt (((((1 : Int32) + 0) + 4) + 8) + 0) σ55)))))) else bn (sp_166 x1 σ48) (fun r56 σ56 => (if r56 = 0 then bn (sp_167 x1 σ56) (fun r57 σ57 => (if r57 = 0 then bn (sp_154 x1 σ57) (fun r58 σ58 => (if r58 = 1 then rt (((((1 : Int32) + 2) + 0) + 0) + 16) σ58 else rt (((((1 : Int32) + 2) + 0) + 0) + 0) σ58)) else bn (sp_154 x1 σ57) (fun r59 σ59 => (if r59 = 1 then rt (((((1 : Int32) + 2) + 0) + 8) + 16) σ59 else rt (((((1 : Int32) + 2) + 0) + 8) + 0) σ59)))) else bn (sp_167 x1 σ56) (fun r60 σ60 => (if r60 = 0 then bn (sp_154 x1 σ60) (fun r61 σ61 => (if r61 = 1 then rt (((((1 : Int32) + 2) + 4) + 0) + 16) σ61 else rt (((((1 : Int32) + 2) + 4) + 0) + 0) σ61)) else bn (sp_154 x1 σ60) (fun r62 σ62 => (if r62 = 1 then rt (((((1 : Int32) + 2) + 4) + 8) + 16) σ62 else rt (((((1 : Int32) + 2) + 4) + 8) + 0) σ62))))))))))
/-- TradeTestsModel.alike -/
def sp_169 (x1 : Int32) (σ : St) : MR := bn (sp_140 x1 σ) (fun r4 σ4 => (if r4 = 0 then bn (sp_125 1 σ4) (fun r5 σ5 => rt r5 σ5) else bn (sp_163 x1 σ4) (fun r6 σ6 => rt r6 σ6)))
/-- TradeTestsModel.pointsOf -/
def sp_175 (x1 : Int32) (σ : St) : MR := bn (sp_154 x1 σ) (fun r80 σ80 => (if r80 = 1 then bn (sp_165 x1 σ80) (fun r120 σ120 => (if r120 = 0 then bn (sp_166 x1 σ120) (fun r121 σ121 => (if r121 = 0 then bn (sp_167 x1 σ121) (fun r122 σ122 => (if r122 = 0 then mb (vp_in x1 80) ((if (σ122 71 (x1).toNatClampNeg) = 0 then bn (sp_176 x1 σ122) (fun r123 σ123 => bn (sp_160 r123 σ123) (fun r124 σ124 => rt (((((6 : Int32) + 0) + 0) + 0) + ((10 : Int32) * r124)) σ124)) else bn (sp_176 x1 σ122) (fun r125 σ125 => bn (sp_160 r125 σ125) (fun r126 σ126 => rt ((0 : Int32) + ((10 : Int32) * r126)) σ126)))) else mb (vp_in x1 80) ((if (σ122 71 (x1).toNatClampNeg) = 0 then bn (sp_176 x1 σ122) (fun r127 σ127 => bn (sp_160 r127 σ127) (fun r128 σ128 => rt (((((6 : Int32) + 0) + 0) + 1) + ((10 : Int32) * r128)) σ128)) else bn (sp_176 x1 σ122) (fun r129 σ129 => bn (sp_160 r129 σ129) (fun r130 σ130 => rt ((0 : Int32) + ((10 : Int32) * r130)) σ130)))))) else bn (sp_167 x1 σ121) (fun r131 σ131 => (if r131 = 0 then mb (vp_in x1 80) ((if (σ131 71 (x1).toNatClampNeg) = 0 then bn (sp_176 x1 σ131) (fun r132 σ132 => bn (sp_160 r132 σ132) (fun r133 σ133 => rt (((((6 : Int32) + 0) + 4) + 0) + ((10 : Int32) * r133)) σ133)) else bn (sp_176 x1 σ131) (fun r134 σ134 => bn (sp_160 r134 σ134) (fun r135 σ135 => rt ((0 : Int32) + ((10 : Int32) * r135)) σ135)))) else mb (vp_in x1 80) ((if (σ131 71 (x1).toNatClampNeg) = 0 then bn (sp_176 x1 σ131) (fun r136 σ136 => bn (sp_160 r136 σ136) (fun r137 σ137 => rt (((((6 : Int32) + 0) + 4) + 1) + ((10 : Int32) * r137)) σ137)) else bn (sp_176 x1 σ131) (fun r138 σ138 => bn (sp_160 r138 σ138) (fun r139 σ139 => rt ((0 : Int32) + ((10 : Int32) * r139)) σ139)))))))) else bn (sp_166 x1 σ120) (fun r140 σ140 => (if r140 = 0 then bn (sp_167 x1 σ140) (fun r141 σ141 => (if r141 = 0 then mb (vp_in x1 80) ((if (σ141 71 (x1).toNatClampNeg) = 0 then bn (sp_176 x1 σ141) (fun r142 σ142 => bn (sp_160 r142 σ142) (fun r143 σ143 => rt (((((6 : Int32) + 2) + 0) + 0) + ((10 : Int32) * r143)) σ143)) else bn (sp_176 x1 σ141) (fun r144 σ144 => bn (sp_160 r144 σ144) (fun r145 σ145 => rt ((0 : Int32) + ((10 : Int32) * r145)) σ145)))) else mb (vp_in x1 80) ((if (σ141 71 (x1).toNatClampNeg) = 0 then bn (sp_176 x1 σ141) (fun r146 σ146 => bn (sp_160 r146 σ146) (fun r147 σ147 => rt (((((6 : Int32) + 2) + 0) + 1) + ((10 : Int32) * r147)) σ147)) else bn (sp_176 x1 σ141) (fun r148 σ148 => bn (sp_160 r148 σ148) (fun r149 σ149 => rt ((0 : Int32) + ((10 : Int32) * r149)) σ149)))))) else bn (sp_167 x1 σ140) (fun r150 σ150 => (if r150 = 0 then mb (vp_in x1 80) ((if (σ150 71 (x1).toNatClampNeg) = 0 then bn (sp_176 x1 σ150) (fun r151 σ151 => bn (sp_160 r151 σ151) (fun r152 σ152 => rt (((((6 : Int32) + 2) + 4) + 0) + ((10 : Int32) * r152)) σ152)) else bn (sp_176 x1 σ150) (fun r153 σ153 => bn (sp_160 r153 σ153) (fun r154 σ154 => rt ((0 : Int32) + ((10 : Int32) * r154)) σ154)))) else mb (vp_in x1 80) ((if (σ150 71 (x1).toNatClampNeg) = 0 then bn (sp_176 x1 σ150) (fun r155 σ155 => bn (sp_160 r155 σ155) (fun r156 σ156 => rt (((((6 : Int32) + 2) + 4) + 1) + ((10 : Int32) * r156)) σ156)) else bn (sp_176 x1 σ150) (fun r157 σ157 => bn (sp_160 r157 σ157) (fun r158 σ158 => rt ((0 : Int32) + ((10 : Int32) * r158)) σ158)))))))))) else bn (sp_165 x1 σ80) (fun r81 σ81 => (if r81 = 0 then bn (sp_166 x1 σ81) (fun r82 σ82 => (if r82 = 0 then bn (sp_167 x1 σ82) (fun r83 σ83 => (if r83 = 0 then mb (vp_in x1 80) ((if (σ83 71 (x1).toNatClampNeg) = 0 then bn (sp_176 x1 σ83) (fun r84 σ84 => bn (sp_160 r84 σ84) (fun r85 σ85 => rt (((((0 : Int32) + 0) + 0) + 0) + ((10 : Int32) * r85)) σ85)) else bn (sp_176 x1 σ83) (fun r86 σ86 => bn (sp_160 r86 σ86) (fun r87 σ87 => rt ((0 : Int32) + ((10 : Int32) * r87)) σ87)))) else mb (vp_in x1 80) ((if (σ83 71 (x1).toNatClampNeg) = 0 then bn (sp_176 x1 σ83) (fun r88 σ88 => bn (sp_160 r88 σ88) (fun r89 σ89 => rt (((((0 : Int32) + 0) + 0) + 1) + ((10 : Int32) * r89)) σ89)) else bn (sp_176 x1 σ83) (fun r90 σ90 => bn (sp_160 r90 σ90) (fun r91 σ91 => rt ((0 : Int32) + ((10 : Int32) * r91)) σ91)))))) else bn (sp_167 x1 σ82) (fun r92 σ92 => (if r92 = 0 then mb (vp_in x1 80) ((if (σ92 71 (x1).toNatClampNeg) = 0 then bn (sp_176 x1 σ92) (fun r93 σ93 => bn (sp_160 r93 σ93) (fun r94 σ94 => rt (((((0 : Int32) + 0) + 4) + 0) + ((10 : Int32) * r94)) σ94)) else bn (sp_176 x1 σ92) (fun r95 σ95 => bn (sp_160 r95 σ95) (fun r96 σ96 => rt ((0 : Int32) + ((10 : Int32) * r96)) σ96)))) else mb (vp_in x1 80) ((if (σ92 71 (x1).toNatClampNeg) = 0 then bn (sp_176 x1 σ92) (fun r97 σ97 => bn (sp_160 r97 σ97) (fun r98 σ98 => rt (((((0 : Int32) + 0) + 4) + 1) + ((10 : Int32) * r98)) σ98)) else bn (sp_176 x1 σ92) (fun r99 σ99 => bn (sp_160 r99 σ99) (fun r100 σ100 => rt ((0 : Int32) + ((10 : Int32) * r100)) σ100)))))))) else bn (sp_166 x1 σ81) (fun r101 σ101 => (if r101 = 0 then bn (sp_167 x1 σ101) (fun r102 σ102 => (if r102 = 0 then mb (vp_in x1 80) ((if (σ102 71 (x1).toNatClampNeg) = 0 then bn (sp_176 x1 σ102) (fun r103 σ103 => bn (sp_160 r103 σ103) (fun r104 σ104 => rt (((((0 : Int32) + 2) + 0) + 0) + ((10 : Int32) * r104)) σ104)) else bn (sp_176 x1 σ102) (fun r105 σ105 => bn (sp_160 r105 σ105) (fun r106 σ106 => rt ((0 : Int32) + ((10 : Int32) * r106)) σ106)))) else mb (vp_in x1 80) ((if (σ102 71 (x1).toNatClampNeg) = 0 then bn (sp_176 x1 σ102) (fun r107 σ107 => bn (sp_160 r107 σ107) (fun r108 σ108 => rt (((((0 : Int32) + 2) + 0) + 1) + ((10 : Int32) * r108)) σ108)) else bn (sp_176 x1 σ102) (fun r109 σ109 => bn (sp_160 r109 σ109) (fun r110 σ110 => rt ((0 : Int32) + ((10 : Int32) * r110)) σ110)))))) else bn (sp_167 x1 σ101) (fun r111 σ111 => (if r111 = 0 then mb (vp_in x1 80) ((if (σ111 71 (x1).toNatClampNeg) = 0 then bn (sp_176 x1 σ111) (fun r112 σ112 => bn (sp_160 r112 σ112) (fun r113 σ113 => rt (((((0 : Int32) + 2) + 4) + 0) + ((10 : Int32) * r113)) σ113)) else bn (sp_176 x1 σ111) (fun r114 σ114 => bn (sp_160 r114 σ114) (fun r115 σ115 => rt ((0 : Int32) + ((10 : Int32) * r115)) σ115)))) else mb (vp_in x1 80) ((if (σ111 71 (x1).toNatClampNeg) = 0 then bn (sp_176 x1 σ111) (fun r116 σ116 => bn (sp_160 r116 σ116) (fun r117 σ117 => rt (((((0 : Int32) + 2) + 4) + 1) + ((10 : Int32) * r117)) σ117)) else bn (sp_176 x1 σ111) (fun r118 σ118 => bn (sp_160 r118 σ118) (fun r119 σ119 => rt ((0 : Int32) + ((10 : Int32) * r119)) σ119))))))))))))
/-- TradeTestsModel.leansOn -/
def lp_190_5 : Nat → Int32 → Int32 → Int32 → Int32 → St → MR
  | 0, _, _, _, _, _ => bad
  | n + 1, v1, v2, v3, v4, σ => (if (σ 12 4) ≤ v4 then (if v3 < 0 then rt 0 σ else bn (sp_154 v3 σ) (fun r3 σ3 => (if r3 = 1 then mb (vp_in v3 80) (bn (sp_129 v1 σ3) (fun r4 σ4 => (if ((σ3 61 (v3).toNatClampNeg) + r4) < v2 then rt 0 σ4 else rt 1 σ4))) else rt 0 σ3))) else mb (vp_in v4 80) ((if (σ 59 (v4).toNatClampNeg) = v1 then mb (vp_in v4 80) ((if v2 < (σ 61 (v4).toNatClampNeg) then lp_190_5 n v1 v2 v3 (v4 + 1) σ else lp_190_5 n v1 v2 v4 (v4 + 1) σ)) else lp_190_5 n v1 v2 v3 (v4 + 1) σ)))
def sp_190 (x1 x2 : Int32) (σ : St) : MR := lp_190_5 FU x1 x2 (-1) 0 σ
/-- TradeTests$Texts.readRows -/
def lp_31_7 : Nat → Int32 → St → MR
  | 0, _, _ => bad
  | n + 1, v1, σ => (if 60 ≤ v1 then mb ((1 : Int32) = 0 ∨ (1 : Int32) = 1) (rt 1 σ) else (if (σ 4 1) ≤ (σ 4 2) then mb ((1 : Int32) = 0 ∨ (1 : Int32) = 1) (rt 1 σ) else bn (sp_32  σ) (fun r2 σ2 => (if r2 = 0 then mb ((0 : Int32) = 0 ∨ (0 : Int32) = 1) (rt 0 σ2) else lp_31_7 n (v1 + 1) σ2))))
def sp_31 (σ : St) : MR := lp_31_7 FU 0 (up σ 4 2 0)
/-- TradeTests$Plan.survey -/
def lp_49_12 : Nat → Int32 → Int32 → St → MR
  | 0, _, _, _ => bad
  | n + 1, v1, v2, σ => (if (σ 3 14) ≤ v2 then rt 0 σ else bn (sp_24 v2 σ) (fun r5 σ5 => (if r5 = v1 then bn (sp_50 v2 σ5) (fun r6 σ6 => bn (sp_59 r6 σ6) (fun r7 σ7 => bn (sp_60 v2 (up σ7 11 6 ((σ5 11 6) + r7))) (fun r8 σ8 => lp_49_12 n v1 (v2 + 1) (up σ8 11 7 ((σ7 11 7) ||| r8))))) else lp_49_12 n v1 (v2 + 1) σ5)))
def sp_49 (x1 : Int32) (σ : St) : MR := lp_49_12 FU x1 0 (up (up σ 11 6 1) 11 7 0)
/-- TradeTests$Rates.figure -/
def sp_62 (x1 x2 : Int32) (σ : St) : MR := bn (sp_63  σ) (fun r5 σ5 => bn (sp_66 x1 σ5) (fun r6 σ6 => (if x2 = 0 then rt (σ6 7 5) σ6 else (if x2 = 1 then rt (σ6 7 6) σ6 else (if x2 = 2 then rt (σ6 7 7) σ6 else (if x2 = 3 then rt (σ6 7 8) σ6 else (if x2 = 4 then bn (sp_68  σ6) (fun r8 σ8 => rt r8 σ8) else bn (sp_69  σ6) (fun r7 σ7 => rt r7 σ7))))))))
/-- TradeTests.share -/
def sp_71 (x1 x2 : Int32) (σ : St) : MR := bn (sp_1 x1 4 σ) (fun r7 σ7 => (if r7 = 0 then bn (sp_2 1 σ7) (fun r8 σ8 => rt r8 σ8) else bn (sp_1 x2 4 σ7) (fun r9 σ9 => (if r9 = 0 then bn (sp_2 1 σ9) (fun r12 σ12 => rt r12 σ12) else bn (sp_72 x1 x2 σ9) (fun r10 σ10 => (if 0 ≤ r10 then rt r10 σ10 else bn (sp_2 2 σ10) (fun r11 σ11 => rt r11 σ11)))))))
/-- TradeTests.signs -/
def sp_73 (x1 : Int32) (σ : St) : MR := bn (sp_1 x1 (σ 3 14) σ) (fun r4 σ4 => (if r4 = 0 then bn (sp_2 1 σ4) (fun r6 σ6 => rt r6 σ6) else bn (sp_50 x1 σ4) (fun r5 σ5 => rt r5 σ5)))
/-- TradeTests.points -/
def sp_84 (x1 : Int32) (σ : St) : MR := bn (sp_1 x1 (σ 3 14) σ) (fun r4 σ4 => (if r4 = 0 then bn (sp_2 1 σ4) (fun r6 σ6 => rt r6 σ6) else bn (sp_85 x1 σ4) (fun r5 σ5 => rt r5 σ5)))
/-- TradeTests$Penalties.fillPoints -/
def lp_89_2 : Nat → Int32 → Int32 → St → MR
  | 0, _, _, _ => bad
  | n + 1, v1, v2, σ => (if (σ 3 14) ≤ v2 then rt 0 σ else mb (vp_in v2 80) ((if (σ 25 (v2).toNatClampNeg) = v1 then bn (sp_85 v2 σ) (fun r2 σ2 => mb (vp_in v2 80) (lp_89_2 n v1 (v2 + 1) (up σ2 47 (v2).toNatClampNeg r2))) else mb (vp_in v2 80) (lp_89_2 n v1 (v2 + 1) (up σ 47 (v2).toNatClampNeg 0)))))
def sp_89 (x1 : Int32) (σ : St) : MR := lp_89_2 FU x1 0 σ
/-- TradeTests.leans -/
def lp_115_59 : Nat → Int32 → Int32 → Int32 → Int32 → St → MR
  | 0, _, _, _, _, _ => bad
  | n + 1, v1, v2, v3, v4, σ => (if (σ 1 3) ≤ v4 then rt v3 σ else bn (sp_116 v4 v2 σ) (fun r7 σ7 => (if r7 = 0 then lp_115_59 n v1 v2 v3 (v4 + 1) σ7 else lp_115_59 n v1 v2 (v3 + 1) (v4 + 1) σ7)))
def sp_115 (x1 x2 : Int32) (σ : St) : MR := (if x1 < (-1) then bn (sp_2 1 σ) (fun r8 σ8 => rt r8 σ8) else (if (σ 1 3) ≤ x1 then bn (sp_2 1 σ) (fun r9 σ9 => rt r9 σ9) else bn (sp_1 x2 10000 σ) (fun r10 σ10 => (if r10 = 0 then bn (sp_2 1 σ10) (fun r12 σ12 => rt r12 σ12) else (if x1 < 0 then lp_115_59 FU x1 x2 0 0 σ10 else bn (sp_116 x1 x2 σ10) (fun r11 σ11 => (if r11 = 0 then rt 0 σ11 else rt 1 σ11)))))))
/-- TradeTests$Signals.testsWithSigns -/
def lp_120_4 : Nat → Int32 → Int32 → St → MR
  | 0, _, _, _ => bad
  | n + 1, v1, v2, σ => (if (σ 3 14) ≤ v2 then rt v1 σ else bn (sp_50 v2 σ) (fun r2 σ2 => (if r2 = 0 then lp_120_4 n v1 (v2 + 1) σ2 else lp_120_4 n (v1 + 1) (v2 + 1) σ2)))
def sp_120 (σ : St) : MR := lp_120_4 FU 0 0 σ
/-- TradeTestsModel.riskOf -/
def lp_161_4 : Nat → Int32 → Int32 → Int32 → St → MR
  | 0, _, _, _, _ => bad
  | n + 1, v1, v2, v3, σ => (if (σ 12 4) ≤ v3 then rt v2 σ else bn (sp_141 v3 σ) (fun r4 σ4 => (if r4 = v1 then bn (sp_162 v3 σ4) (fun r5 σ5 => bn (sp_160 r5 σ5) (fun r6 σ6 => lp_161_4 n v1 (v2 + r6) (v3 + 1) σ6)) else lp_161_4 n v1 (v2 + 0) (v3 + 1) σ4)))
def sp_161 (x1 : Int32) (σ : St) : MR := lp_161_4 FU x1 1 0 σ
/-- TradeTestsModel.signs -/
def sp_168 (x1 : Int32) (σ : St) : MR := bn (sp_140 x1 σ) (fun r4 σ4 => (if r4 = 0 then bn (sp_125 1 σ4) (fun r5 σ5 => rt r5 σ5) else bn (sp_162 x1 σ4) (fun r6 σ6 => rt r6 σ6)))
/-- TradeTestsModel.points -/
def sp_174 (x1 : Int32) (σ : St) : MR := bn (sp_140 x1 σ) (fun r4 σ4 => (if r4 = 0 then bn (sp_125 1 σ4) (fun r5 σ5 => rt r5 σ5) else bn (sp_175 x1 σ4) (fun r6 σ6 => rt r6 σ6)))
/-- TradeTestsModel.findPoints -/
def lp_178_2 : Nat → Int32 → St → MR
  | 0, _, _ => bad
  | n + 1, v1, σ => (if (σ 12 4) ≤ v1 then rt 0 σ else bn (sp_175 v1 σ) (fun r2 σ2 => mb (vp_in v1 80) (lp_178_2 n (v1 + 1) (up σ2 81 (v1).toNatClampNeg r2))))
def sp_178 (σ : St) : MR := lp_178_2 FU 0 σ
/-- TradeTestsModel.leans -/
def lp_189_43 : Nat → Int32 → Int32 → Int32 → Int32 → St → MR
  | 0, _, _, _, _, _ => bad
  | n + 1, v1, v2, v3, v4, σ => (if (σ 12 0) ≤ v4 then rt v3 σ else bn (sp_190 v4 v2 σ) (fun r7 σ7 => lp_189_43 n v1 v2 (v3 + r7) (v4 + 1) σ7))
def sp_189 (x1 x2 : Int32) (σ : St) : MR := bn (sp_123 x1 (-1) ((σ 12 0) - 1) σ) (fun r8 σ8 => (if r8 = 0 then bn (sp_125 1 σ8) (fun r9 σ9 => rt r9 σ9) else bn (sp_124 x2 σ8) (fun r10 σ10 => (if r10 = 0 then bn (sp_125 1 σ10) (fun r12 σ12 => rt r12 σ12) else (if x1 < 0 then lp_189_43 FU x1 x2 0 0 σ10 else bn (sp_190 x1 x2 σ10) (fun r11 σ11 => rt r11 σ11))))))
/-- TradeTestsModel.count -/
def lp_193_112 : Nat → Int32 → Int32 → Int32 → St → MR
  | 0, _, _, _, _ => bad
  | n + 1, v1, v2, v3, σ => (if (σ 12 4) ≤ v3 then rt v2 σ else bn (sp_162 v3 σ) (fun r3 σ3 => (if r3 ≤ 0 then lp_193_112 n v1 (v2 + 0) (v3 + 1) σ3 else lp_193_112 n v1 (v2 + 1) (v3 + 1) σ3)))
def sp_193 (x1 : Int32) (σ : St) : MR := (if x1 = 0 then rt (σ 12 0) σ else (if x1 = 1 then rt (σ 12 1) σ else (if x1 = 2 then rt (σ 12 2) σ else (if x1 = 3 then rt (σ 12 4) σ else (if x1 = 4 then rt (σ 12 5) σ else (if x1 = 5 then rt (σ 12 6) σ else (if x1 = 6 then rt (σ 12 7) σ else (if x1 = 7 then rt (σ 12 8) σ else (if x1 = 8 then rt (σ 12 9) σ else (if x1 = 9 then rt (σ 12 10) σ else (if x1 = 10 then lp_193_112 FU x1 0 0 σ else bn (sp_125 1 σ) (fun r4 σ4 => rt r4 σ4))))))))))))
/-- TradeTests$Texts.takeTape -/
def sp_29 (x1 : Int32) (σ : St) : MR := bn (sp_30  σ) (fun r3 σ3 => bn (sp_31  σ3) (fun r4 σ4 => (if r4 = 0 then rt (σ4 4 2) (up σ4 4 1 0) else mb (vp_in (σ4 4 7) 6) (rt (-1) (up (up (up σ4 4 1 0) 39 (σ4 4 7).toNatClampNeg x1) 4 7 ((σ4 4 7) + 1))))))
/-- TradeTests$Plan.riskOf -/
def sp_48 (x1 : Int32) (σ : St) : MR := bn (sp_49 x1 σ) (fun r2 σ2 => rt (σ2 11 6) σ2)
/-- TradeTests$Penalties.ofTester -/
def sp_88 (x1 x2 : Int32) (σ : St) : MR := bn (sp_89 x1 σ) (fun r3 σ3 => bn (sp_90 x2 σ3) (fun r4 σ4 => rt r4 σ4))
/-- TradeTests$Penalties.isBanned -/
def lp_92_35 : Nat → Int32 → Int32 → Int32 → Int32 → St → MR
  | 0, _, _, _, _, _ => bad
  | n + 1, v1, v2, v3, v4, σ => (if (σ 3 14) ≤ v4 then mb ((0 : Int32) = 0 ∨ (0 : Int32) = 1) (rt 0 σ) else mb (vp_in v4 80) ((if (σ 26 (v4).toNatClampNeg) ≤ v3 then (if (0 : Int32) = 0 then lp_92_35 n v1 v2 v3 (v4 + 1) σ else mb (vp_in v4 80) ((if (σ 47 (v4).toNatClampNeg) ≤ 0 then lp_92_35 n v1 v2 v3 (v4 + 1) σ else mb (vp_in v4 80) (bn (sp_90 (σ 26 (v4).toNatClampNeg) σ) (fun r6 σ6 => mb (vp_in 2 3) ((if r6 < (σ6 46 (2 : Int32).toNatClampNeg) then lp_92_35 n v1 v2 v3 (v4 + 1) σ6 else mb ((1 : Int32) = 0 ∨ (1 : Int32) = 1) (rt 1 σ6)))))))) else mb (vp_in v4 80) ((if v2 < (σ 26 (v4).toNatClampNeg) then (if (0 : Int32) = 0 then lp_92_35 n v1 v2 v3 (v4 + 1) σ else mb (vp_in v4 80) ((if (σ 47 (v4).toNatClampNeg) ≤ 0 then lp_92_35 n v1 v2 v3 (v4 + 1) σ else mb (vp_in v4 80) (bn (sp_90 (σ 26 (v4).toNatClampNeg) σ) (fun r7 σ7 => mb (vp_in 2 3) ((if r7 < (σ7 46 (2 : Int32).toNatClampNeg) then lp_92_35 n v1 v2 v3 (v4 + 1) σ7 else mb ((1 : Int32) = 0 ∨ (1 : Int32) = 1) (rt 1 σ7)))))))) else (if (1 : Int32) = 0 then lp_92_35 n v1 v2 v3 (v4 + 1) σ else mb (vp_in v4 80) ((if (σ 47 (v4).toNatClampNeg) ≤ 0 then lp_92_35 n v1 v2 v3 (v4 + 1) σ else mb (vp_in v4 80) (bn (sp_90 (σ 26 (v4).toNatClampNeg) σ) (fun r8 σ8 => mb (vp_in 2 3) ((if r8 < (σ8 46 (2 : Int32).toNatClampNeg) then lp_92_35 n v1 v2 v3 (v4 + 1) σ8 else mb ((1 : Int32) = 0 ∨ (1 : Int32) = 1) (rt 1 σ8)))))))))))))
def sp_92 (x1 x2 : Int32) (σ : St) : MR := bn (sp_89 x1 σ) (fun r9 σ9 => mb (vp_in 1 3) (bn (sp_90 ((x2 - (σ9 46 (1 : Int32).toNatClampNeg)) + 1) σ9) (fun r10 σ10 => mb (vp_in 2 3) ((if r10 < (σ10 46 (2 : Int32).toNatClampNeg) then lp_92_35 FU x1 x2 ((x2 - (σ9 46 (1 : Int32).toNatClampNeg)) + 1) 0 σ10 else mb ((1 : Int32) = 0 ∨ (1 : Int32) = 1) (rt 1 σ10))))))
/-- TradeTests$Plan.worthOf -/
def sp_98 (x1 x2 : Int32) (σ : St) : MR := bn (sp_49 x2 σ) (fun r3 σ3 => bn (sp_99 x1 σ3) (fun r4 σ4 => rt ((σ3 11 6) * r4) σ4))
/-- TradeTests$Plan.fillWorths -/
def lp_101_20 (ko : Int32 → St → MR) : Nat → Int32 → Int32 → St → MR
  | 0, _, _, _ => bad
  | n + 1, v1, v2, σ => (if (σ 9 3) ≤ v2 then ko (v1 + 1) σ else bn (sp_99 v2 σ) (fun r3 σ3 => mb (vp_in ((v2 * 6) + v1) 36) (lp_101_20 ko n v1 (v2 + 1) (up σ3 48 ((v2 * 6) + v1).toNatClampNeg ((σ 11 6) * r3)))))
def lp_101_2 : Nat → Int32 → St → MR
  | 0, _, _ => bad
  | n + 1, v1, σ => (if (σ 2 2) ≤ v1 then rt 0 σ else bn (sp_49 v1 σ) (fun r4 σ4 => lp_101_20 (fun v1 σ => lp_101_2 n v1 σ) FU v1 0 σ4))
def sp_101 (σ : St) : MR := lp_101_2 FU 0 σ
/-- TradeTests.count -/
def sp_119 (x1 : Int32) (σ : St) : MR := (if x1 = 0 then rt (σ 1 3) σ else (if x1 = 1 then rt (σ 2 2) σ else (if x1 = 2 then rt (σ 2 4) σ else (if x1 = 3 then rt (σ 3 14) σ else (if x1 = 4 then rt (σ 4 7) σ else (if x1 = 5 then rt (σ 9 3) σ else (if x1 = 6 then rt (σ 9 4) σ else (if x1 = 7 then rt (σ 3 15) σ else (if x1 = 8 then rt (σ 4 1) σ else (if x1 = 9 then rt (σ 0 12) σ else (if x1 = 10 then bn (sp_120  σ) (fun r4 σ4 => rt r4 σ4) else bn (sp_2 1 σ) (fun r3 σ3 => rt r3 σ3))))))))))))
/-- TradeTestsModel.rate -/
def lp_158_38 : Nat → Int32 → Int32 → Int32 → Int32 → Int32 → Int32 → Int32 → St → MR
  | 0, _, _, _, _, _, _, _, _ => bad
  | n + 1, v1, v2, v3, v4, v5, v6, v7, σ => (if (σ 12 4) ≤ v7 then (if v2 = 0 then rt v3 σ else (if v2 = 1 then rt v4 σ else (if v2 = 2 then rt v5 σ else (if v2 = 3 then rt v6 σ else (if v2 = 4 then rt ((((Int32.toInt64 1000) * v4.toInt64) - v5.toInt64).toInt32) σ else (if v2 = 5 then bn (sp_159  σ) (fun r11 σ11 => (if 0 < (lg_cmp ((((Int32.toInt64 1000) * v4.toInt64) - v5.toInt64) * (((Int32.toInt64 1000) * v4.toInt64) - v5.toInt64)) (v6.toInt64 * (((4 : Int32) + r11).toInt64))) then (if (lg_cmp (((Int32.toInt64 1000) * v4.toInt64) - v5.toInt64) (Int32.toInt64 0)) ≤ 0 then rt 2 σ11 else rt 1 σ11) else rt 0 σ11)) else bn (sp_161 v1 σ) (fun r10 σ10 => rt r10 σ10))))))) else bn (sp_141 v7 σ) (fun r12 σ12 => (if r12 = v1 then bn (sp_157 v7 σ12) (fun r13 σ13 => bn (sp_156 r13 σ13) (fun r14 σ14 => mb (vp_in v7 80) ((if (σ14 70 (v7).toNatClampNeg) = 0 then lp_158_38 n v1 v2 (v3 + 1) (v4 + 0) (v5 + r14) (v6 + (r14 * ((1000 : Int32) - r14))) (v7 + 1) σ14 else lp_158_38 n v1 v2 (v3 + 1) (v4 + 1) (v5 + r14) (v6 + (r14 * ((1000 : Int32) - r14))) (v7 + 1) σ14)))) else lp_158_38 n v1 v2 v3 v4 v5 v6 (v7 + 1) σ12)))
def sp_158 (x1 x2 : Int32) (σ : St) : MR := bn (sp_132 x1 σ) (fun r15 σ15 => (if r15 = 0 then bn (sp_125 1 σ15) (fun r16 σ16 => rt r16 σ16) else bn (sp_123 x2 0 6 σ15) (fun r17 σ17 => (if r17 = 0 then bn (sp_125 1 σ17) (fun r18 σ18 => rt r18 σ18) else lp_158_38 FU x1 x2 0 0 0 0 0 σ17))))
/-- TradeTestsModel.sum -/
def sp_177 (x1 x2 : Int32) (σ : St) : MR := bn (sp_134 x1 σ) (fun r7 σ7 => (if r7 = 0 then bn (sp_125 1 σ7) (fun r8 σ8 => rt r8 σ8) else bn (sp_124 x2 σ7) (fun r9 σ9 => (if r9 = 0 then bn (sp_125 1 σ9) (fun r12 σ12 => rt r12 σ12) else bn (sp_178  σ9) (fun r10 σ10 => bn (sp_179 x1 x2 σ10) (fun r11 σ11 => rt r11 σ11))))))
/-- TradeTestsModel.banned -/
def lp_180_27 : Nat → Int32 → Int32 → Int32 → St → MR
  | 0, _, _, _, _ => bad
  | n + 1, v1, v2, v3, σ => (if v3 ≤ (v2 - (σ 12 12)) then rt 0 σ else (if v3 < 0 then rt 0 σ else bn (sp_179 v1 v3 σ) (fun r7 σ7 => (if r7 < (σ7 12 13) then lp_180_27 n v1 v2 (v3 + (-1)) σ7 else rt 1 σ7))))
def sp_180 (x1 x2 : Int32) (σ : St) : MR := bn (sp_134 x1 σ) (fun r8 σ8 => (if r8 = 0 then bn (sp_125 1 σ8) (fun r9 σ9 => rt r9 σ9) else bn (sp_124 x2 σ8) (fun r10 σ10 => (if r10 = 0 then bn (sp_125 1 σ10) (fun r12 σ12 => rt r12 σ12) else bn (sp_178  σ10) (fun r11 σ11 => lp_180_27 FU x1 x2 x2 σ11)))))
/-- TradeTestsModel.worthOf -/
def lp_184_5 : Nat → Int32 → Int32 → Int32 → Int32 → St → MR
  | 0, _, _, _, _, _ => bad
  | n + 1, v1, v2, v3, v4, σ => (if (σ 12 4) ≤ v4 then bn (sp_161 v2 σ) (fun r4 σ4 => mb (vp_in v1 6) (bn (sp_160 ((σ4 77 (v1).toNatClampNeg) &&& (v3 ^^^ (-1))) σ4) (fun r5 σ5 => rt (r4 * r5) σ5))) else mb (vp_in v4 80) ((if (σ 68 (v4).toNatClampNeg) < 0 then lp_184_5 n v1 v2 (v3 ||| 0) (v4 + 1) σ else bn (sp_141 v4 σ) (fun r6 σ6 => (if r6 = v2 then mb (vp_in v4 80) (mb (vp_in (σ6 68 (v4).toNatClampNeg) 6) (lp_184_5 n v1 v2 (v3 ||| (σ6 77 (σ6 68 (v4).toNatClampNeg).toNatClampNeg)) (v4 + 1) σ6)) else lp_184_5 n v1 v2 (v3 ||| 0) (v4 + 1) σ6)))))
def sp_184 (x1 x2 : Int32) (σ : St) : MR := lp_184_5 FU x1 x2 0 0 σ
/-- TradeTestsModel.check -/
def lp_192_29 : Nat → Int32 → Int32 → Int32 → St → MR
  | 0, _, _, _, _ => bad
  | n + 1, v1, v2, v3, σ => (if v2 ≤ v3 then rt 0 σ else (if (σ 12 2) ≤ v3 then rt ((1 : Int32) + v3) σ else bn (sp_179 v3 v1 σ) (fun r5 σ5 => mb (vp_in v3 8) ((if r5 = (σ5 79 (v3).toNatClampNeg) then lp_192_29 n v1 v2 (v3 + 1) σ5 else rt ((1 : Int32) + v3) σ5)))))
def sp_192 (x1 : Int32) (σ : St) : MR := bn (sp_124 x1 (up σ 12 10 0)) (fun r6 σ6 => (if r6 = 0 then bn (sp_125 1 σ6) (fun r8 σ8 => rt r8 σ8) else bn (sp_178  σ6) (fun r7 σ7 => lp_192_29 FU x1 (σ 12 10) 0 σ7)))
/-- TradeTests.text -/
def sp_28 (x1 : Int32) (σ : St) : MR := bn (sp_1 x1 10000 σ) (fun r5 σ5 => (if r5 = 0 then bn (sp_2 1 σ5) (fun r8 σ8 => rt r8 σ8) else (if (σ5 4 7) < 6 then bn (sp_29 x1 σ5) (fun r6 σ6 => (if 0 ≤ r6 then rt ((-10 : Int32) - r6) σ6 else rt (σ6 4 7) σ6)) else bn (sp_2 4 σ5) (fun r7 σ7 => rt r7 σ7))))
/-- TradeTests.rate -/
def sp_47 (x1 x2 : Int32) (σ : St) : MR := bn (sp_1 x1 (σ 2 2) σ) (fun r7 σ7 => (if r7 = 0 then bn (sp_2 1 σ7) (fun r8 σ8 => rt r8 σ8) else bn (sp_1 x2 7 σ7) (fun r9 σ9 => (if r9 = 0 then bn (sp_2 1 σ9) (fun r12 σ12 => rt r12 σ12) else (if x2 = 6 then bn (sp_48 x1 σ9) (fun r11 σ11 => rt r11 σ11) else bn (sp_62 x1 x2 σ9) (fun r10 σ10 => rt r10 σ10))))))
/-- TradeTests.sum -/
def sp_87 (x1 x2 : Int32) (σ : St) : MR := bn (sp_1 x1 (σ 2 4) σ) (fun r6 σ6 => (if r6 = 0 then bn (sp_2 1 σ6) (fun r7 σ7 => rt r7 σ7) else bn (sp_1 x2 10000 σ6) (fun r8 σ8 => (if r8 = 0 then bn (sp_2 1 σ8) (fun r10 σ10 => rt r10 σ10) else bn (sp_88 x1 x2 σ8) (fun r9 σ9 => rt r9 σ9)))))
/-- TradeTests.banned -/
def sp_91 (x1 x2 : Int32) (σ : St) : MR := bn (sp_1 x1 (σ 2 4) σ) (fun r6 σ6 => (if r6 = 0 then bn (sp_2 1 σ6) (fun r7 σ7 => rt r7 σ7) else bn (sp_1 x2 10000 σ6) (fun r8 σ8 => (if r8 = 0 then bn (sp_2 1 σ8) (fun r10 σ10 => rt r10 σ10) else bn (sp_92 x1 x2 σ8) (fun r9 σ9 => (if r9 = 0 then rt 0 σ9 else rt 1 σ9))))))
/-- TradeTests.worth -/
def sp_97 (x1 x2 : Int32) (σ : St) : MR := bn (sp_1 x1 (σ 9 3) σ) (fun r6 σ6 => (if r6 = 0 then bn (sp_2 1 σ6) (fun r7 σ7 => rt r7 σ7) else bn (sp_1 x2 (σ6 2 2) σ6) (fun r8 σ8 => (if r8 = 0 then bn (sp_2 1 σ8) (fun r10 σ10 => rt r10 σ10) else bn (sp_98 x1 x2 σ8) (fun r9 σ9 => rt r9 σ9)))))
/-- TradeTests.plan -/
def sp_100 (x1 : Int32) (σ : St) : MR := (if x1 < (-1) then bn (sp_2 1 σ) (fun r8 σ8 => rt r8 σ8) else (if x1 < (σ 9 3) then bn (sp_101  σ) (fun r9 σ9 => bn (sp_102  σ9) (fun r10 σ10 => (if x1 = (-1) then bn (sp_107  σ10) (fun r13 σ13 => rt r13 σ13) else bn (sp_108 x1 σ10) (fun r11 σ11 => (if 0 ≤ r11 then rt r11 σ11 else bn (sp_2 2 σ11) (fun r12 σ12 => rt r12 σ12)))))) else bn (sp_2 1 σ) (fun r14 σ14 => rt r14 σ14)))
/-- TradeTests.check -/
def lp_118_28 : Nat → Int32 → Int32 → Int32 → St → MR
  | 0, _, _, _, _ => bad
  | n + 1, v1, v2, v3, σ => (if v2 ≤ v3 then rt 0 σ else (if (σ 2 4) ≤ v3 then rt ((1 : Int32) + v3) σ else mb (vp_in v3 8) (bn (sp_88 v3 v1 σ) (fun r4 σ4 => (if (σ 13 (v3).toNatClampNeg) = r4 then lp_118_28 n v1 v2 (v3 + 1) σ4 else rt ((1 : Int32) + v3) σ4)))))
def sp_118 (x1 : Int32) (σ : St) : MR := bn (sp_1 x1 10000 (up σ 0 12 0)) (fun r5 σ5 => (if r5 = 0 then bn (sp_2 1 σ5) (fun r6 σ6 => rt r6 σ6) else lp_118_28 FU x1 (σ 0 12) 0 σ5))
/-- TradeTestsModel.worth -/
def sp_183 (x1 x2 : Int32) (σ : St) : MR := bn (sp_123 x1 0 ((σ 12 6) - 1) σ) (fun r6 σ6 => (if r6 = 0 then bn (sp_125 1 σ6) (fun r7 σ7 => rt r7 σ7) else bn (sp_132 x2 σ6) (fun r8 σ8 => (if r8 = 0 then bn (sp_125 1 σ8) (fun r9 σ9 => rt r9 σ9) else bn (sp_184 x1 x2 σ8) (fun r10 σ10 => rt r10 σ10)))))
/-- TradeTestsModel.findPlan -/
def lp_186_241 (ko : Int32 → Int32 → St → MR) : Nat → Int32 → Int32 → Int32 → St → MR
  | 0, _, _, _, _ => bad
  | n + 1, v1, v2, v3, σ => (if v3 < 0 then mb (vp_in v2 6) ((if 0 ≤ (σ 84 (v2).toNatClampNeg) then mb (vp_in v2 6) (ko (v1 ||| ((1 : Int32) <<< ((σ 84 (v2).toNatClampNeg) &&& 31))) (v2 + 1) σ) else ko (v1 ||| 0) (v2 + 1) σ)) else (if ((v1 >>> (v3 &&& 31)) &&& 1) = 0 then mb (vp_in (((6 : Int32) * v2) + v3) 36) (mb (vp_in ((((64 : Int32) * v2) + 64) + (v1 ||| ((1 : Int32) <<< (v3 &&& 31)))) 448) (mb (vp_in (((64 : Int32) * v2) + v1) 448) ((if ((σ 83 (((6 : Int32) * v2) + v3).toNatClampNeg) + (σ 82 ((((64 : Int32) * v2) + 64) + (v1 ||| ((1 : Int32) <<< (v3 &&& 31)))).toNatClampNeg)) = (σ 82 (((64 : Int32) * v2) + v1).toNatClampNeg) then mb (vp_in v2 6) (lp_186_241 ko n v1 v2 (v3 + (-1)) (up σ 84 (v2).toNatClampNeg v3)) else lp_186_241 ko n v1 v2 (v3 + (-1)) σ)))) else lp_186_241 ko n v1 v2 (v3 + (-1)) σ))
def lp_186_219 : Nat → Int32 → Int32 → St → MR
  | 0, _, _, _ => bad
  | n + 1, v1, v2, σ => (if (σ 12 6) ≤ v2 then mb (vp_in 0 448) (rt (σ 82 (0 : Int32).toNatClampNeg) σ) else mb (vp_in v2 6) (lp_186_241 (fun v1 v2 σ => lp_186_219 n v1 v2 σ) FU v1 v2 ((σ 12 1) - 1) (up σ 84 (v2).toNatClampNeg (-1))))
def lp_186_115 (ko : Int32 → Int32 → St → MR) : Nat → Int32 → Int32 → Int32 → Int32 → St → MR
  | 0, _, _, _, _, _ => bad
  | n + 1, v1, v2, v3, v4, σ => (if (σ 12 1) ≤ v4 then mb (vp_in (((64 : Int32) * v1) + v2) 448) (ko v1 (v2 + 1) (up σ 82 (((64 : Int32) * v1) + v2).toNatClampNeg v3)) else (if ((v2 >>> (v4 &&& 31)) &&& 1) = 1 then (if (0 : Int32) ≤ v3 then lp_186_115 ko n v1 v2 v3 (v4 + 1) σ else lp_186_115 ko n v1 v2 0 (v4 + 1) σ) else mb (vp_in (((6 : Int32) * v1) + v4) 36) (mb (vp_in ((((64 : Int32) * v1) + 64) + (v2 ||| ((1 : Int32) <<< (v4 &&& 31)))) 448) ((if ((σ 83 (((6 : Int32) * v1) + v4).toNatClampNeg) + (σ 82 ((((64 : Int32) * v1) + 64) + (v2 ||| ((1 : Int32) <<< (v4 &&& 31)))).toNatClampNeg)) ≤ v3 then lp_186_115 ko n v1 v2 v3 (v4 + 1) σ else lp_186_115 ko n v1 v2 ((σ 83 (((6 : Int32) * v1) + v4).toNatClampNeg) + (σ 82 ((((64 : Int32) * v1) + 64) + (v2 ||| ((1 : Int32) <<< (v4 &&& 31)))).toNatClampNeg)) (v4 + 1) σ)))))
def lp_186_91 (ko : Int32 → St → MR) : Nat → Int32 → Int32 → St → MR
  | 0, _, _, _ => bad
  | n + 1, v1, v2, σ => (if 64 ≤ v2 then ko (v1 + (-1)) σ else mb (vp_in ((((64 : Int32) * v1) + 64) + v2) 448) (lp_186_115 (fun v1 v2 σ => lp_186_91 ko n v1 v2 σ) FU v1 v2 (σ 82 ((((64 : Int32) * v1) + 64) + v2).toNatClampNeg) 0 σ))
def lp_186_85 : Nat → Int32 → St → MR
  | 0, _, _ => bad
  | n + 1, v1, σ => (if v1 < 0 then lp_186_219 FU 0 0 σ else lp_186_91 (fun v1 σ => lp_186_85 n v1 σ) FU v1 0 σ)
def lp_186_51 : Nat → Int32 → St → MR
  | 0, _, _ => bad
  | n + 1, v1, σ => (if 64 ≤ v1 then lp_186_85 FU ((σ 12 6) - 1) σ else mb (vp_in (((64 : Int32) * (σ 12 6)) + v1) 448) (lp_186_51 n (v1 + 1) (up σ 82 (((64 : Int32) * (σ 12 6)) + v1).toNatClampNeg 0)))
def lp_186_12 (ko : Int32 → St → MR) : Nat → Int32 → Int32 → St → MR
  | 0, _, _, _ => bad
  | n + 1, v1, v2, σ => (if (σ 12 1) ≤ v2 then ko (v1 + 1) σ else bn (sp_184 v1 v2 σ) (fun r2 σ2 => mb (vp_in (((6 : Int32) * v1) + v2) 36) (lp_186_12 ko n v1 (v2 + 1) (up σ2 83 (((6 : Int32) * v1) + v2).toNatClampNeg r2))))
def lp_186_2 : Nat → Int32 → St → MR
  | 0, _, _ => bad
  | n + 1, v1, σ => (if (σ 12 6) ≤ v1 then lp_186_51 FU 0 σ else lp_186_12 (fun v1 σ => lp_186_2 n v1 σ) FU v1 0 σ)
def sp_186 (σ : St) : MR := lp_186_2 FU 0 σ
/-- TradeTestsModel.plan -/
def sp_185 (x1 : Int32) (σ : St) : MR := bn (sp_123 x1 (-1) ((σ 12 6) - 1) σ) (fun r5 σ5 => (if r5 = 0 then bn (sp_125 1 σ5) (fun r8 σ8 => rt r8 σ8) else bn (sp_186  σ5) (fun r6 σ6 => (if 0 ≤ x1 then mb (vp_in x1 6) ((if 0 ≤ (σ6 84 (x1).toNatClampNeg) then mb (vp_in x1 6) (rt (σ6 84 (x1).toNatClampNeg) σ6) else bn (sp_125 2 σ6) (fun r7 σ7 => rt r7 σ7))) else rt r6 σ6))))
end
section
/-! the table of the answers -/
def ad_1 (as : List Value) (σ : St) : MR := match as with
  | [.int x1, .int x2] => sp_1 x1 x2 σ
  | _ => bad
def ad_2 (as : List Value) (σ : St) : MR := match as with
  | [.ref 0, .int x1] => sp_2 x1 σ
  | _ => bad
def ad_3 (as : List Value) (σ : St) : MR := match as with
  | [.ref 1, .int x1, .int x2, .int x3] => sp_3 x1 x2 x3 σ
  | _ => bad
def ad_5 (as : List Value) (σ : St) : MR := match as with
  | [.int x1, .int x2] => sp_5 x1 x2 σ
  | _ => bad
def ad_6 (as : List Value) (σ : St) : MR := match as with
  | [.ref 1, .int x1] => sp_6 x1 σ
  | _ => bad
def ad_8 (as : List Value) (σ : St) : MR := match as with
  | [.ref 2, .int x1, .int x2] => sp_8 x1 x2 σ
  | _ => bad
def ad_10 (as : List Value) (σ : St) : MR := match as with
  | [.ref 2, .int x1] => sp_10 x1 σ
  | _ => bad
def ad_12 (as : List Value) (σ : St) : MR := match as with
  | [.ref 2, .int x1] => sp_12 x1 σ
  | _ => bad
def ad_13 (as : List Value) (σ : St) : MR := match as with
  | [.ref 2, .int x1, .int x2, .int x3] => sp_13 x1 x2 x3 σ
  | _ => bad
def ad_14 (as : List Value) (σ : St) : MR := match as with
  | [.ref 2, .int x1, .int x2] => sp_14 x1 x2 σ
  | _ => bad
def ad_17 (as : List Value) (σ : St) : MR := match as with
  | [.ref 0, .int x1] => sp_17 x1 σ
  | _ => bad
def ad_19 (as : List Value) (σ : St) : MR := match as with
  | [.ref 3] => sp_19  σ
  | _ => bad
def ad_20 (as : List Value) (σ : St) : MR := match as with
  | [.int x1, .int x2] => sp_20 x1 x2 σ
  | _ => bad
def ad_22 (as : List Value) (σ : St) : MR := match as with
  | [.ref 3, .int x1, .int x2, .int x3, .int x4, .int x5] => sp_22 x1 x2 x3 x4 x5 σ
  | _ => bad
def ad_25 (as : List Value) (σ : St) : MR := match as with
  | [.ref 3, .int x1, .int x2] => sp_25 x1 x2 σ
  | _ => bad
def ad_27 (as : List Value) (σ : St) : MR := match as with
  | [.ref 4, .int x1] => sp_27 x1 σ
  | _ => bad
def ad_30 (as : List Value) (σ : St) : MR := match as with
  | [.ref 4] => sp_30  σ
  | _ => bad
def ad_33 (as : List Value) (σ : St) : MR := match as with
  | [.ref 4] => sp_33  σ
  | _ => bad
def ad_35 (as : List Value) (σ : St) : MR := match as with
  | [.int x1, .int x2] => sp_35 x1 x2 σ
  | _ => bad
def ad_36 (as : List Value) (σ : St) : MR := match as with
  | [.int x1] => sp_36 x1 σ
  | _ => bad
def ad_40 (as : List Value) (σ : St) : MR := match as with
  | [.ref 4, .int x1] => sp_40 x1 σ
  | _ => bad
def ad_41 (as : List Value) (σ : St) : MR := match as with
  | [.ref 4, .int x1, .int x2] => sp_41 x1 x2 σ
  | _ => bad
def ad_44 (as : List Value) (σ : St) : MR := match as with
  | [.ref 5, .int x1, .int x2, .int x3] => sp_44 x1 x2 x3 σ
  | _ => bad
def ad_54 (as : List Value) (σ : St) : MR := match as with
  | [.ref 6, .int x1] => sp_54 x1 σ
  | _ => bad
def ad_56 (as : List Value) (σ : St) : MR := match as with
  | [.ref 6, .int x1, .int x2] => sp_56 x1 x2 σ
  | _ => bad
def ad_59 (as : List Value) (σ : St) : MR := match as with
  | [.int x1] => sp_59 x1 σ
  | _ => bad
def ad_61 (as : List Value) (σ : St) : MR := match as with
  | [.ref 9, .int x1] => sp_61 x1 σ
  | _ => bad
def ad_65 (as : List Value) (σ : St) : MR := match as with
  | [.ref 1, .int x1, .int x2] => sp_65 x1 x2 σ
  | _ => bad
def ad_67 (as : List Value) (σ : St) : MR := match as with
  | [.ref 7, .int x1] => sp_67 x1 σ
  | _ => bad
def ad_68 (as : List Value) (σ : St) : MR := match as with
  | [.ref 7] => sp_68  σ
  | _ => bad
def ad_77 (as : List Value) (σ : St) : MR := match as with
  | [.ref 8, .int x1] => sp_77 x1 σ
  | _ => bad
def ad_78 (as : List Value) (σ : St) : MR := match as with
  | [.ref 8, .int x1] => sp_78 x1 σ
  | _ => bad
def ad_79 (as : List Value) (σ : St) : MR := match as with
  | [.int x1, .int x2, .int x3] => sp_79 x1 x2 x3 σ
  | _ => bad
def ad_82 (as : List Value) (σ : St) : MR := match as with
  | [.ref 10, .int x1, .int x2] => sp_82 x1 x2 σ
  | _ => bad
def ad_90 (as : List Value) (σ : St) : MR := match as with
  | [.ref 10, .int x1] => sp_90 x1 σ
  | _ => bad
def ad_94 (as : List Value) (σ : St) : MR := match as with
  | [.ref 9, .int x1] => sp_94 x1 σ
  | _ => bad
def ad_96 (as : List Value) (σ : St) : MR := match as with
  | [.ref 9, .int x1, .int x2] => sp_96 x1 x2 σ
  | _ => bad
def ad_104 (as : List Value) (σ : St) : MR := match as with
  | [.int x1, .int x2] => sp_104 x1 x2 σ
  | _ => bad
def ad_105 (as : List Value) (σ : St) : MR := match as with
  | [.ref 11, .int x1, .int x2, .int x3] => sp_105 x1 x2 x3 σ
  | _ => bad
def ad_107 (as : List Value) (σ : St) : MR := match as with
  | [.ref 11] => sp_107  σ
  | _ => bad
def ad_111 (as : List Value) (σ : St) : MR := match as with
  | [.ref 3, .int x1] => sp_111 x1 σ
  | _ => bad
def ad_112 (as : List Value) (σ : St) : MR := match as with
  | [.ref 3, .int x1, .int x2, .int x3] => sp_112 x1 x2 x3 σ
  | _ => bad
def ad_114 (as : List Value) (σ : St) : MR := match as with
  | [.ref 3] => sp_114  σ
  | _ => bad
def ad_123 (as : List Value) (σ : St) : MR := match as with
  | [.int x1, .int x2, .int x3] => sp_123 x1 x2 x3 σ
  | _ => bad
def ad_125 (as : List Value) (σ : St) : MR := match as with
  | [.ref 12, .int x1] => sp_125 x1 σ
  | _ => bad
def ad_128 (as : List Value) (σ : St) : MR := match as with
  | [.int x1, .int x2] => sp_128 x1 x2 σ
  | _ => bad
def ad_129 (as : List Value) (σ : St) : MR := match as with
  | [.ref 12, .int x1] => sp_129 x1 σ
  | _ => bad
def ad_135 (as : List Value) (σ : St) : MR := match as with
  | [.ref 12, .int x1, .int x2] => sp_135 x1 x2 σ
  | _ => bad
def ad_145 (as : List Value) (σ : St) : MR := match as with
  | [.ref 12] => sp_145  σ
  | _ => bad
def ad_148 (as : List Value) (σ : St) : MR := match as with
  | [.int x1] => sp_148 x1 σ
  | _ => bad
def ad_150 (as : List Value) (σ : St) : MR := match as with
  | [.ref 12, .int x1] => sp_150 x1 σ
  | _ => bad
def ad_157 (as : List Value) (σ : St) : MR := match as with
  | [.ref 12, .int x1] => sp_157 x1 σ
  | _ => bad
def ad_160 (as : List Value) (σ : St) : MR := match as with
  | [.int x1] => sp_160 x1 σ
  | _ => bad
def ad_165 (as : List Value) (σ : St) : MR := match as with
  | [.ref 12, .int x1] => sp_165 x1 σ
  | _ => bad
def ad_166 (as : List Value) (σ : St) : MR := match as with
  | [.ref 12, .int x1] => sp_166 x1 σ
  | _ => bad
def ad_0 (as : List Value) (σ : St) : MR := match as with
  | [.ref 0, .int x1, .int x2, .int x3] => sp_0 x1 x2 x3 σ
  | _ => bad
def ad_4 (as : List Value) (σ : St) : MR := match as with
  | [.ref 0, .int x1, .int x2] => sp_4 x1 x2 σ
  | _ => bad
def ad_7 (as : List Value) (σ : St) : MR := match as with
  | [.ref 0, .int x1, .int x2] => sp_7 x1 x2 σ
  | _ => bad
def ad_9 (as : List Value) (σ : St) : MR := match as with
  | [.ref 0, .int x1] => sp_9 x1 σ
  | _ => bad
def ad_11 (as : List Value) (σ : St) : MR := match as with
  | [.ref 0, .int x1, .int x2, .int x3] => sp_11 x1 x2 x3 σ
  | _ => bad
def ad_15 (as : List Value) (σ : St) : MR := match as with
  | [.ref 0, .int x1, .int x2] => sp_15 x1 x2 σ
  | _ => bad
def ad_18 (as : List Value) (σ : St) : MR := match as with
  | [.ref 0, .int x1, .int x2] => sp_18 x1 x2 σ
  | _ => bad
def ad_21 (as : List Value) (σ : St) : MR := match as with
  | [.ref 0, .int x1, .int x2] => sp_21 x1 x2 σ
  | _ => bad
def ad_24 (as : List Value) (σ : St) : MR := match as with
  | [.ref 2, .ref 3, .int x2] => sp_24 x2 σ
  | _ => bad
def ad_26 (as : List Value) (σ : St) : MR := match as with
  | [.ref 0, .int x1] => sp_26 x1 σ
  | _ => bad
def ad_37 (as : List Value) (σ : St) : MR := match as with
  | [.ref 4] => sp_37  σ
  | _ => bad
def ad_39 (as : List Value) (σ : St) : MR := match as with
  | [.ref 0, .int x1, .int x2] => sp_39 x1 x2 σ
  | _ => bad
def ad_43 (as : List Value) (σ : St) : MR := match as with
  | [.ref 5, .int x1] => sp_43 x1 σ
  | _ => bad
def ad_52 (as : List Value) (σ : St) : MR := match as with
  | [.ref 6, .int x1, .int x2] => sp_52 x1 x2 σ
  | _ => bad
def ad_55 (as : List Value) (σ : St) : MR := match as with
  | [.ref 6, .int x1] => sp_55 x1 σ
  | _ => bad
def ad_60 (as : List Value) (σ : St) : MR := match as with
  | [.ref 9, .int x1] => sp_60 x1 σ
  | _ => bad
def ad_64 (as : List Value) (σ : St) : MR := match as with
  | [.ref 7, .int x1] => sp_64 x1 σ
  | _ => bad
def ad_76 (as : List Value) (σ : St) : MR := match as with
  | [.ref 8, .int x1] => sp_76 x1 σ
  | _ => bad
def ad_81 (as : List Value) (σ : St) : MR := match as with
  | [.ref 10, .int x1, .int x2] => sp_81 x1 x2 σ
  | _ => bad
def ad_83 (as : List Value) (σ : St) : MR := match as with
  | [.ref 0, .int x1, .int x2] => sp_83 x1 x2 σ
  | _ => bad
def ad_93 (as : List Value) (σ : St) : MR := match as with
  | [.ref 0, .int x1] => sp_93 x1 σ
  | _ => bad
def ad_99 (as : List Value) (σ : St) : MR := match as with
  | [.ref 11, .int x1] => sp_99 x1 σ
  | _ => bad
def ad_103 (as : List Value) (σ : St) : MR := match as with
  | [.ref 11, .int x1, .int x2] => sp_103 x1 x2 σ
  | _ => bad
def ad_109 (as : List Value) (σ : St) : MR := match as with
  | [.ref 11, .int x1, .int x2] => sp_109 x1 x2 σ
  | _ => bad
def ad_110 (as : List Value) (σ : St) : MR := match as with
  | [.ref 0, .int x1, .int x2, .int x3] => sp_110 x1 x2 x3 σ
  | _ => bad
def ad_113 (as : List Value) (σ : St) : MR := match as with
  | [.ref 0] => sp_113  σ
  | _ => bad
def ad_117 (as : List Value) (σ : St) : MR := match as with
  | [.ref 0, .int x1] => sp_117 x1 σ
  | _ => bad
def ad_121 (as : List Value) (σ : St) : MR := match as with
  | [.ref 0, .int x1] => sp_121 x1 σ
  | _ => bad
def ad_124 (as : List Value) (σ : St) : MR := match as with
  | [.int x1] => sp_124 x1 σ
  | _ => bad
def ad_127 (as : List Value) (σ : St) : MR := match as with
  | [.ref 12, .int x1] => sp_127 x1 σ
  | _ => bad
def ad_130 (as : List Value) (σ : St) : MR := match as with
  | [.ref 12, .int x1, .int x2] => sp_130 x1 x2 σ
  | _ => bad
def ad_132 (as : List Value) (σ : St) : MR := match as with
  | [.ref 12, .int x1] => sp_132 x1 σ
  | _ => bad
def ad_134 (as : List Value) (σ : St) : MR := match as with
  | [.ref 12, .int x1] => sp_134 x1 σ
  | _ => bad
def ad_140 (as : List Value) (σ : St) : MR := match as with
  | [.ref 12, .int x1] => sp_140 x1 σ
  | _ => bad
def ad_141 (as : List Value) (σ : St) : MR := match as with
  | [.ref 12, .int x1] => sp_141 x1 σ
  | _ => bad
def ad_142 (as : List Value) (σ : St) : MR := match as with
  | [.ref 12, .int x1] => sp_142 x1 σ
  | _ => bad
def ad_146 (as : List Value) (σ : St) : MR := match as with
  | [.ref 12, .int x1] => sp_146 x1 σ
  | _ => bad
def ad_147 (as : List Value) (σ : St) : MR := match as with
  | [.ref 12, .int x1] => sp_147 x1 σ
  | _ => bad
def ad_152 (as : List Value) (σ : St) : MR := match as with
  | [.ref 12, .int x1] => sp_152 x1 σ
  | _ => bad
def ad_156 (as : List Value) (σ : St) : MR := match as with
  | [.ref 12, .int x1] => sp_156 x1 σ
  | _ => bad
def ad_164 (as : List Value) (σ : St) : MR := match as with
  | [.int x1, .int x2, .int x3] => sp_164 x1 x2 x3 σ
  | _ => bad
def ad_171 (as : List Value) (σ : St) : MR := match as with
  | [.int x1, .int x2, .int x3] => sp_171 x1 x2 x3 σ
  | _ => bad
def ad_172 (as : List Value) (σ : St) : MR := match as with
  | [.ref 12, .int x1, .int x2] => sp_172 x1 x2 σ
  | _ => bad
def ad_176 (as : List Value) (σ : St) : MR := match as with
  | [.ref 12, .int x1] => sp_176 x1 σ
  | _ => bad
def ad_179 (as : List Value) (σ : St) : MR := match as with
  | [.ref 12, .int x1, .int x2] => sp_179 x1 x2 σ
  | _ => bad
def ad_181 (as : List Value) (σ : St) : MR := match as with
  | [.ref 12, .int x1] => sp_181 x1 σ
  | _ => bad
def ad_188 (as : List Value) (σ : St) : MR := match as with
  | [.ref 12] => sp_188  σ
  | _ => bad
def ad_191 (as : List Value) (σ : St) : MR := match as with
  | [.ref 12, .int x1] => sp_191 x1 σ
  | _ => bad
def ad_194 (as : List Value) (σ : St) : MR := match as with
  | [.ref 12, .int x1] => sp_194 x1 σ
  | _ => bad
def ad_16 (as : List Value) (σ : St) : MR := match as with
  | [.ref 0, .int x1, .int x2, .int x3, .int x4, .int x5] => sp_16 x1 x2 x3 x4 x5 σ
  | _ => bad
def ad_23 (as : List Value) (σ : St) : MR := match as with
  | [.ref 0, .int x1, .int x2] => sp_23 x1 x2 σ
  | _ => bad
def ad_34 (as : List Value) (σ : St) : MR := match as with
  | [.ref 4] => sp_34  σ
  | _ => bad
def ad_38 (as : List Value) (σ : St) : MR := match as with
  | [.ref 4, .int x1] => sp_38 x1 σ
  | _ => bad
def ad_42 (as : List Value) (σ : St) : MR := match as with
  | [.ref 0, .int x1] => sp_42 x1 σ
  | _ => bad
def ad_46 (as : List Value) (σ : St) : MR := match as with
  | [.ref 5, .int x1] => sp_46 x1 σ
  | _ => bad
def ad_51 (as : List Value) (σ : St) : MR := match as with
  | [.ref 6, .int x1] => sp_51 x1 σ
  | _ => bad
def ad_57 (as : List Value) (σ : St) : MR := match as with
  | [.ref 6, .int x1] => sp_57 x1 σ
  | _ => bad
def ad_58 (as : List Value) (σ : St) : MR := match as with
  | [.ref 5, .int x1] => sp_58 x1 σ
  | _ => bad
def ad_63 (as : List Value) (σ : St) : MR := match as with
  | [.ref 7] => sp_63  σ
  | _ => bad
def ad_66 (as : List Value) (σ : St) : MR := match as with
  | [.ref 7, .int x1] => sp_66 x1 σ
  | _ => bad
def ad_70 (as : List Value) (σ : St) : MR := match as with
  | [.ref 7] => sp_70  σ
  | _ => bad
def ad_75 (as : List Value) (σ : St) : MR := match as with
  | [.ref 0, .int x1] => sp_75 x1 σ
  | _ => bad
def ad_80 (as : List Value) (σ : St) : MR := match as with
  | [.ref 0, .int x1, .int x2] => sp_80 x1 x2 σ
  | _ => bad
def ad_86 (as : List Value) (σ : St) : MR := match as with
  | [.ref 9, .int x1] => sp_86 x1 σ
  | _ => bad
def ad_102 (as : List Value) (σ : St) : MR := match as with
  | [.ref 11] => sp_102  σ
  | _ => bad
def ad_108 (as : List Value) (σ : St) : MR := match as with
  | [.ref 11, .int x1] => sp_108 x1 σ
  | _ => bad
def ad_122 (as : List Value) (σ : St) : MR := match as with
  | [.ref 12, .int x1, .int x2, .int x3] => sp_122 x1 x2 x3 σ
  | _ => bad
def ad_126 (as : List Value) (σ : St) : MR := match as with
  | [.ref 12, .int x1, .int x2] => sp_126 x1 x2 σ
  | _ => bad
def ad_131 (as : List Value) (σ : St) : MR := match as with
  | [.ref 12, .int x1] => sp_131 x1 σ
  | _ => bad
def ad_133 (as : List Value) (σ : St) : MR := match as with
  | [.ref 12, .int x1, .int x2, .int x3] => sp_133 x1 x2 x3 σ
  | _ => bad
def ad_136 (as : List Value) (σ : St) : MR := match as with
  | [.ref 12, .int x1, .int x2] => sp_136 x1 x2 σ
  | _ => bad
def ad_138 (as : List Value) (σ : St) : MR := match as with
  | [.ref 12, .int x1, .int x2, .int x3, .int x4, .int x5] => sp_138 x1 x2 x3 x4 x5 σ
  | _ => bad
def ad_139 (as : List Value) (σ : St) : MR := match as with
  | [.ref 12, .int x1, .int x2] => sp_139 x1 x2 σ
  | _ => bad
def ad_144 (as : List Value) (σ : St) : MR := match as with
  | [.ref 12] => sp_144  σ
  | _ => bad
def ad_149 (as : List Value) (σ : St) : MR := match as with
  | [.ref 12, .int x1, .int x2] => sp_149 x1 x2 σ
  | _ => bad
def ad_151 (as : List Value) (σ : St) : MR := match as with
  | [.ref 12, .int x1] => sp_151 x1 σ
  | _ => bad
def ad_154 (as : List Value) (σ : St) : MR := match as with
  | [.ref 12, .int x1] => sp_154 x1 σ
  | _ => bad
def ad_155 (as : List Value) (σ : St) : MR := match as with
  | [.ref 12, .int x1, .int x2] => sp_155 x1 x2 σ
  | _ => bad
def ad_159 (as : List Value) (σ : St) : MR := match as with
  | [.ref 12] => sp_159  σ
  | _ => bad
def ad_163 (as : List Value) (σ : St) : MR := match as with
  | [.ref 12, .int x1] => sp_163 x1 σ
  | _ => bad
def ad_167 (as : List Value) (σ : St) : MR := match as with
  | [.ref 12, .int x1] => sp_167 x1 σ
  | _ => bad
def ad_170 (as : List Value) (σ : St) : MR := match as with
  | [.ref 12, .int x1] => sp_170 x1 σ
  | _ => bad
def ad_173 (as : List Value) (σ : St) : MR := match as with
  | [.ref 12, .int x1, .int x2] => sp_173 x1 x2 σ
  | _ => bad
def ad_182 (as : List Value) (σ : St) : MR := match as with
  | [.ref 12, .int x1, .int x2] => sp_182 x1 x2 σ
  | _ => bad
def ad_187 (as : List Value) (σ : St) : MR := match as with
  | [.ref 12, .int x1, .int x2, .int x3] => sp_187 x1 x2 x3 σ
  | _ => bad
def ad_32 (as : List Value) (σ : St) : MR := match as with
  | [.ref 4] => sp_32  σ
  | _ => bad
def ad_45 (as : List Value) (σ : St) : MR := match as with
  | [.ref 0, .int x1] => sp_45 x1 σ
  | _ => bad
def ad_50 (as : List Value) (σ : St) : MR := match as with
  | [.ref 6, .int x1] => sp_50 x1 σ
  | _ => bad
def ad_69 (as : List Value) (σ : St) : MR := match as with
  | [.ref 7] => sp_69  σ
  | _ => bad
def ad_72 (as : List Value) (σ : St) : MR := match as with
  | [.ref 7, .int x1, .int x2] => sp_72 x1 x2 σ
  | _ => bad
def ad_74 (as : List Value) (σ : St) : MR := match as with
  | [.ref 0, .int x1] => sp_74 x1 σ
  | _ => bad
def ad_85 (as : List Value) (σ : St) : MR := match as with
  | [.ref 10, .int x1] => sp_85 x1 σ
  | _ => bad
def ad_95 (as : List Value) (σ : St) : MR := match as with
  | [.ref 0, .int x1, .int x2] => sp_95 x1 x2 σ
  | _ => bad
def ad_116 (as : List Value) (σ : St) : MR := match as with
  | [.ref 5, .int x1, .int x2] => sp_116 x1 x2 σ
  | _ => bad
def ad_137 (as : List Value) (σ : St) : MR := match as with
  | [.ref 12, .int x1, .int x2, .int x3, .int x4, .int x5] => sp_137 x1 x2 x3 x4 x5 σ
  | _ => bad
def ad_143 (as : List Value) (σ : St) : MR := match as with
  | [.ref 12, .int x1] => sp_143 x1 σ
  | _ => bad
def ad_153 (as : List Value) (σ : St) : MR := match as with
  | [.ref 12, .int x1] => sp_153 x1 σ
  | _ => bad
def ad_162 (as : List Value) (σ : St) : MR := match as with
  | [.ref 12, .int x1] => sp_162 x1 σ
  | _ => bad
def ad_169 (as : List Value) (σ : St) : MR := match as with
  | [.ref 12, .int x1] => sp_169 x1 σ
  | _ => bad
def ad_175 (as : List Value) (σ : St) : MR := match as with
  | [.ref 12, .int x1] => sp_175 x1 σ
  | _ => bad
def ad_190 (as : List Value) (σ : St) : MR := match as with
  | [.ref 12, .int x1, .int x2] => sp_190 x1 x2 σ
  | _ => bad
def ad_31 (as : List Value) (σ : St) : MR := match as with
  | [.ref 4] => sp_31  σ
  | _ => bad
def ad_49 (as : List Value) (σ : St) : MR := match as with
  | [.ref 11, .int x1] => sp_49 x1 σ
  | _ => bad
def ad_62 (as : List Value) (σ : St) : MR := match as with
  | [.ref 7, .int x1, .int x2] => sp_62 x1 x2 σ
  | _ => bad
def ad_71 (as : List Value) (σ : St) : MR := match as with
  | [.ref 0, .int x1, .int x2] => sp_71 x1 x2 σ
  | _ => bad
def ad_73 (as : List Value) (σ : St) : MR := match as with
  | [.ref 0, .int x1] => sp_73 x1 σ
  | _ => bad
def ad_84 (as : List Value) (σ : St) : MR := match as with
  | [.ref 0, .int x1] => sp_84 x1 σ
  | _ => bad
def ad_89 (as : List Value) (σ : St) : MR := match as with
  | [.ref 10, .int x1] => sp_89 x1 σ
  | _ => bad
def ad_115 (as : List Value) (σ : St) : MR := match as with
  | [.ref 0, .int x1, .int x2] => sp_115 x1 x2 σ
  | _ => bad
def ad_120 (as : List Value) (σ : St) : MR := match as with
  | [.ref 6] => sp_120  σ
  | _ => bad
def ad_161 (as : List Value) (σ : St) : MR := match as with
  | [.ref 12, .int x1] => sp_161 x1 σ
  | _ => bad
def ad_168 (as : List Value) (σ : St) : MR := match as with
  | [.ref 12, .int x1] => sp_168 x1 σ
  | _ => bad
def ad_174 (as : List Value) (σ : St) : MR := match as with
  | [.ref 12, .int x1] => sp_174 x1 σ
  | _ => bad
def ad_178 (as : List Value) (σ : St) : MR := match as with
  | [.ref 12] => sp_178  σ
  | _ => bad
def ad_189 (as : List Value) (σ : St) : MR := match as with
  | [.ref 12, .int x1, .int x2] => sp_189 x1 x2 σ
  | _ => bad
def ad_193 (as : List Value) (σ : St) : MR := match as with
  | [.ref 12, .int x1] => sp_193 x1 σ
  | _ => bad
def ad_29 (as : List Value) (σ : St) : MR := match as with
  | [.ref 4, .int x1] => sp_29 x1 σ
  | _ => bad
def ad_48 (as : List Value) (σ : St) : MR := match as with
  | [.ref 11, .int x1] => sp_48 x1 σ
  | _ => bad
def ad_88 (as : List Value) (σ : St) : MR := match as with
  | [.ref 10, .int x1, .int x2] => sp_88 x1 x2 σ
  | _ => bad
def ad_92 (as : List Value) (σ : St) : MR := match as with
  | [.ref 10, .int x1, .int x2] => sp_92 x1 x2 σ
  | _ => bad
def ad_98 (as : List Value) (σ : St) : MR := match as with
  | [.ref 11, .int x1, .int x2] => sp_98 x1 x2 σ
  | _ => bad
def ad_101 (as : List Value) (σ : St) : MR := match as with
  | [.ref 11] => sp_101  σ
  | _ => bad
def ad_119 (as : List Value) (σ : St) : MR := match as with
  | [.ref 0, .int x1] => sp_119 x1 σ
  | _ => bad
def ad_158 (as : List Value) (σ : St) : MR := match as with
  | [.ref 12, .int x1, .int x2] => sp_158 x1 x2 σ
  | _ => bad
def ad_177 (as : List Value) (σ : St) : MR := match as with
  | [.ref 12, .int x1, .int x2] => sp_177 x1 x2 σ
  | _ => bad
def ad_180 (as : List Value) (σ : St) : MR := match as with
  | [.ref 12, .int x1, .int x2] => sp_180 x1 x2 σ
  | _ => bad
def ad_184 (as : List Value) (σ : St) : MR := match as with
  | [.ref 12, .int x1, .int x2] => sp_184 x1 x2 σ
  | _ => bad
def ad_192 (as : List Value) (σ : St) : MR := match as with
  | [.ref 12, .int x1] => sp_192 x1 σ
  | _ => bad
def ad_28 (as : List Value) (σ : St) : MR := match as with
  | [.ref 0, .int x1] => sp_28 x1 σ
  | _ => bad
def ad_47 (as : List Value) (σ : St) : MR := match as with
  | [.ref 0, .int x1, .int x2] => sp_47 x1 x2 σ
  | _ => bad
def ad_87 (as : List Value) (σ : St) : MR := match as with
  | [.ref 0, .int x1, .int x2] => sp_87 x1 x2 σ
  | _ => bad
def ad_91 (as : List Value) (σ : St) : MR := match as with
  | [.ref 0, .int x1, .int x2] => sp_91 x1 x2 σ
  | _ => bad
def ad_97 (as : List Value) (σ : St) : MR := match as with
  | [.ref 0, .int x1, .int x2] => sp_97 x1 x2 σ
  | _ => bad
def ad_100 (as : List Value) (σ : St) : MR := match as with
  | [.ref 0, .int x1] => sp_100 x1 σ
  | _ => bad
def ad_118 (as : List Value) (σ : St) : MR := match as with
  | [.ref 0, .int x1] => sp_118 x1 σ
  | _ => bad
def ad_183 (as : List Value) (σ : St) : MR := match as with
  | [.ref 12, .int x1, .int x2] => sp_183 x1 x2 σ
  | _ => bad
def ad_186 (as : List Value) (σ : St) : MR := match as with
  | [.ref 12] => sp_186  σ
  | _ => bad
def ad_185 (as : List Value) (σ : St) : MR := match as with
  | [.ref 12, .int x1] => sp_185 x1 σ
  | _ => bad
def spL_0 : List (List Value → St → MR) := [ad_0, ad_1, ad_2, ad_3, ad_4, ad_5, ad_6, ad_7, ad_8, ad_9, ad_10, ad_11, ad_12, ad_13, ad_14, ad_15, ad_16, ad_17, ad_18, ad_19, ad_20, ad_21, ad_22, ad_23, ad_24, ad_25, ad_26, ad_27, ad_28, ad_29, ad_30, ad_31, ad_32, ad_33, ad_34, ad_35, ad_36, ad_37, ad_38, ad_39]
def spL_1 : List (List Value → St → MR) := [ad_40, ad_41, ad_42, ad_43, ad_44, ad_45, ad_46, ad_47, ad_48, ad_49, ad_50, ad_51, ad_52, (fun _ _ => bad), ad_54, ad_55, ad_56, ad_57, ad_58, ad_59, ad_60, ad_61, ad_62, ad_63, ad_64, ad_65, ad_66, ad_67, ad_68, ad_69, ad_70, ad_71, ad_72, ad_73, ad_74, ad_75, ad_76, ad_77, ad_78, ad_79]
def spL_2 : List (List Value → St → MR) := [ad_80, ad_81, ad_82, ad_83, ad_84, ad_85, ad_86, ad_87, ad_88, ad_89, ad_90, ad_91, ad_92, ad_93, ad_94, ad_95, ad_96, ad_97, ad_98, ad_99, ad_100, ad_101, ad_102, ad_103, ad_104, ad_105, (fun _ _ => bad), ad_107, ad_108, ad_109, ad_110, ad_111, ad_112, ad_113, ad_114, ad_115, ad_116, ad_117, ad_118, ad_119]
def spL_3 : List (List Value → St → MR) := [ad_120, ad_121, ad_122, ad_123, ad_124, ad_125, ad_126, ad_127, ad_128, ad_129, ad_130, ad_131, ad_132, ad_133, ad_134, ad_135, ad_136, ad_137, ad_138, ad_139, ad_140, ad_141, ad_142, ad_143, ad_144, ad_145, ad_146, ad_147, ad_148, ad_149, ad_150, ad_151, ad_152, ad_153, ad_154, ad_155, ad_156, ad_157, ad_158, ad_159]
def spL_4 : List (List Value → St → MR) := [ad_160, ad_161, ad_162, ad_163, ad_164, ad_165, ad_166, ad_167, ad_168, ad_169, ad_170, ad_171, ad_172, ad_173, ad_174, ad_175, ad_176, ad_177, ad_178, ad_179, ad_180, ad_181, ad_182, ad_183, ad_184, ad_185, ad_186, ad_187, ad_188, ad_189, ad_190, ad_191, ad_192, ad_193, ad_194]
def spL : List (List Value → St → MR) := spL_0 ++ (spL_1 ++ (spL_2 ++ (spL_3 ++ (spL_4))))
def okA (k : Nat) (as : List Value) : Bool := Nat.beq as.length (mA k) && as.all (fun v => Nat.beq v.category 1)
def CC : CT := fun k as σ Q => match okA k as with
  | true => Ap (spL.getD k (fun _ _ => bad) as σ) Q
  | false => False
theorem monCC : MonC CC := by
  intro k as σ Q Q' hQ h
  unfold CC at *
  split at h
  · exact ⟨h.1, hQ _ _ h.2⟩
  · exact h.elim
theorem argCC : ∀ k as σ Q, CC k as σ Q → as.length = mA k ∧ ∀ v ∈ as, v.category = 1 := by
  intro k as σ Q h
  unfold CC at h
  split at h
  · rename_i hz
    unfold okA at hz
    simp only [Bool.and_eq_true, List.all_eq_true] at hz
    exact ⟨Nat.eq_of_beq_eq_true hz.1, fun v hv => Nat.eq_of_beq_eq_true (hz.2 v hv)⟩
  · exact h.elim
theorem getCC {k : Nat} {as : List Value} {σ : St} {Q : Int32 → St → Prop} (h : CC k as σ Q) : Ap (spL.getD k (fun _ _ => bad) as σ) Q := by
  unfold CC at h
  split at h
  · exact h
  · exact h.elim
theorem cc_1 {x1 x2 : Int32} {σ : St} {Q : Int32 → St → Prop} (h : Ap (sp_1 x1 x2 σ) Q) : CC 1 [.int x1, .int x2] σ Q := h
theorem cc_2 {x1 : Int32} {σ : St} {Q : Int32 → St → Prop} (h : Ap (sp_2 x1 σ) Q) : CC 2 [.ref 0, .int x1] σ Q := h
theorem cc_3 {x1 x2 x3 : Int32} {σ : St} {Q : Int32 → St → Prop} (h : Ap (sp_3 x1 x2 x3 σ) Q) : CC 3 [.ref 1, .int x1, .int x2, .int x3] σ Q := h
theorem cc_5 {x1 x2 : Int32} {σ : St} {Q : Int32 → St → Prop} (h : Ap (sp_5 x1 x2 σ) Q) : CC 5 [.int x1, .int x2] σ Q := h
theorem cc_6 {x1 : Int32} {σ : St} {Q : Int32 → St → Prop} (h : Ap (sp_6 x1 σ) Q) : CC 6 [.ref 1, .int x1] σ Q := h
theorem cc_8 {x1 x2 : Int32} {σ : St} {Q : Int32 → St → Prop} (h : Ap (sp_8 x1 x2 σ) Q) : CC 8 [.ref 2, .int x1, .int x2] σ Q := h
theorem cc_10 {x1 : Int32} {σ : St} {Q : Int32 → St → Prop} (h : Ap (sp_10 x1 σ) Q) : CC 10 [.ref 2, .int x1] σ Q := h
theorem cc_12 {x1 : Int32} {σ : St} {Q : Int32 → St → Prop} (h : Ap (sp_12 x1 σ) Q) : CC 12 [.ref 2, .int x1] σ Q := h
theorem cc_13 {x1 x2 x3 : Int32} {σ : St} {Q : Int32 → St → Prop} (h : Ap (sp_13 x1 x2 x3 σ) Q) : CC 13 [.ref 2, .int x1, .int x2, .int x3] σ Q := h
theorem cc_14 {x1 x2 : Int32} {σ : St} {Q : Int32 → St → Prop} (h : Ap (sp_14 x1 x2 σ) Q) : CC 14 [.ref 2, .int x1, .int x2] σ Q := h
theorem cc_17 {x1 : Int32} {σ : St} {Q : Int32 → St → Prop} (h : Ap (sp_17 x1 σ) Q) : CC 17 [.ref 0, .int x1] σ Q := h
theorem cc_19  {σ : St} {Q : Int32 → St → Prop} (h : Ap (sp_19  σ) Q) : CC 19 [.ref 3] σ Q := h
theorem cc_20 {x1 x2 : Int32} {σ : St} {Q : Int32 → St → Prop} (h : Ap (sp_20 x1 x2 σ) Q) : CC 20 [.int x1, .int x2] σ Q := h
theorem cc_22 {x1 x2 x3 x4 x5 : Int32} {σ : St} {Q : Int32 → St → Prop} (h : Ap (sp_22 x1 x2 x3 x4 x5 σ) Q) : CC 22 [.ref 3, .int x1, .int x2, .int x3, .int x4, .int x5] σ Q := h
theorem cc_25 {x1 x2 : Int32} {σ : St} {Q : Int32 → St → Prop} (h : Ap (sp_25 x1 x2 σ) Q) : CC 25 [.ref 3, .int x1, .int x2] σ Q := h
theorem cc_27 {x1 : Int32} {σ : St} {Q : Int32 → St → Prop} (h : Ap (sp_27 x1 σ) Q) : CC 27 [.ref 4, .int x1] σ Q := h
theorem cc_30  {σ : St} {Q : Int32 → St → Prop} (h : Ap (sp_30  σ) Q) : CC 30 [.ref 4] σ Q := h
theorem cc_33  {σ : St} {Q : Int32 → St → Prop} (h : Ap (sp_33  σ) Q) : CC 33 [.ref 4] σ Q := h
theorem cc_35 {x1 x2 : Int32} {σ : St} {Q : Int32 → St → Prop} (h : Ap (sp_35 x1 x2 σ) Q) : CC 35 [.int x1, .int x2] σ Q := h
theorem cc_36 {x1 : Int32} {σ : St} {Q : Int32 → St → Prop} (h : Ap (sp_36 x1 σ) Q) : CC 36 [.int x1] σ Q := h
theorem cc_40 {x1 : Int32} {σ : St} {Q : Int32 → St → Prop} (h : Ap (sp_40 x1 σ) Q) : CC 40 [.ref 4, .int x1] σ Q := h
theorem cc_41 {x1 x2 : Int32} {σ : St} {Q : Int32 → St → Prop} (h : Ap (sp_41 x1 x2 σ) Q) : CC 41 [.ref 4, .int x1, .int x2] σ Q := h
theorem cc_44 {x1 x2 x3 : Int32} {σ : St} {Q : Int32 → St → Prop} (h : Ap (sp_44 x1 x2 x3 σ) Q) : CC 44 [.ref 5, .int x1, .int x2, .int x3] σ Q := h
theorem cc_54 {x1 : Int32} {σ : St} {Q : Int32 → St → Prop} (h : Ap (sp_54 x1 σ) Q) : CC 54 [.ref 6, .int x1] σ Q := h
theorem cc_56 {x1 x2 : Int32} {σ : St} {Q : Int32 → St → Prop} (h : Ap (sp_56 x1 x2 σ) Q) : CC 56 [.ref 6, .int x1, .int x2] σ Q := h
theorem cc_59 {x1 : Int32} {σ : St} {Q : Int32 → St → Prop} (h : Ap (sp_59 x1 σ) Q) : CC 59 [.int x1] σ Q := h
theorem cc_61 {x1 : Int32} {σ : St} {Q : Int32 → St → Prop} (h : Ap (sp_61 x1 σ) Q) : CC 61 [.ref 9, .int x1] σ Q := h
theorem cc_65 {x1 x2 : Int32} {σ : St} {Q : Int32 → St → Prop} (h : Ap (sp_65 x1 x2 σ) Q) : CC 65 [.ref 1, .int x1, .int x2] σ Q := h
theorem cc_67 {x1 : Int32} {σ : St} {Q : Int32 → St → Prop} (h : Ap (sp_67 x1 σ) Q) : CC 67 [.ref 7, .int x1] σ Q := h
theorem cc_68  {σ : St} {Q : Int32 → St → Prop} (h : Ap (sp_68  σ) Q) : CC 68 [.ref 7] σ Q := h
theorem cc_77 {x1 : Int32} {σ : St} {Q : Int32 → St → Prop} (h : Ap (sp_77 x1 σ) Q) : CC 77 [.ref 8, .int x1] σ Q := h
theorem cc_78 {x1 : Int32} {σ : St} {Q : Int32 → St → Prop} (h : Ap (sp_78 x1 σ) Q) : CC 78 [.ref 8, .int x1] σ Q := h
theorem cc_79 {x1 x2 x3 : Int32} {σ : St} {Q : Int32 → St → Prop} (h : Ap (sp_79 x1 x2 x3 σ) Q) : CC 79 [.int x1, .int x2, .int x3] σ Q := h
theorem cc_82 {x1 x2 : Int32} {σ : St} {Q : Int32 → St → Prop} (h : Ap (sp_82 x1 x2 σ) Q) : CC 82 [.ref 10, .int x1, .int x2] σ Q := h
theorem cc_90 {x1 : Int32} {σ : St} {Q : Int32 → St → Prop} (h : Ap (sp_90 x1 σ) Q) : CC 90 [.ref 10, .int x1] σ Q := h
theorem cc_94 {x1 : Int32} {σ : St} {Q : Int32 → St → Prop} (h : Ap (sp_94 x1 σ) Q) : CC 94 [.ref 9, .int x1] σ Q := h
theorem cc_96 {x1 x2 : Int32} {σ : St} {Q : Int32 → St → Prop} (h : Ap (sp_96 x1 x2 σ) Q) : CC 96 [.ref 9, .int x1, .int x2] σ Q := h
theorem cc_104 {x1 x2 : Int32} {σ : St} {Q : Int32 → St → Prop} (h : Ap (sp_104 x1 x2 σ) Q) : CC 104 [.int x1, .int x2] σ Q := h
theorem cc_105 {x1 x2 x3 : Int32} {σ : St} {Q : Int32 → St → Prop} (h : Ap (sp_105 x1 x2 x3 σ) Q) : CC 105 [.ref 11, .int x1, .int x2, .int x3] σ Q := h
theorem cc_107  {σ : St} {Q : Int32 → St → Prop} (h : Ap (sp_107  σ) Q) : CC 107 [.ref 11] σ Q := h
theorem cc_111 {x1 : Int32} {σ : St} {Q : Int32 → St → Prop} (h : Ap (sp_111 x1 σ) Q) : CC 111 [.ref 3, .int x1] σ Q := h
theorem cc_112 {x1 x2 x3 : Int32} {σ : St} {Q : Int32 → St → Prop} (h : Ap (sp_112 x1 x2 x3 σ) Q) : CC 112 [.ref 3, .int x1, .int x2, .int x3] σ Q := h
theorem cc_114  {σ : St} {Q : Int32 → St → Prop} (h : Ap (sp_114  σ) Q) : CC 114 [.ref 3] σ Q := h
theorem cc_123 {x1 x2 x3 : Int32} {σ : St} {Q : Int32 → St → Prop} (h : Ap (sp_123 x1 x2 x3 σ) Q) : CC 123 [.int x1, .int x2, .int x3] σ Q := h
theorem cc_125 {x1 : Int32} {σ : St} {Q : Int32 → St → Prop} (h : Ap (sp_125 x1 σ) Q) : CC 125 [.ref 12, .int x1] σ Q := h
theorem cc_128 {x1 x2 : Int32} {σ : St} {Q : Int32 → St → Prop} (h : Ap (sp_128 x1 x2 σ) Q) : CC 128 [.int x1, .int x2] σ Q := h
theorem cc_129 {x1 : Int32} {σ : St} {Q : Int32 → St → Prop} (h : Ap (sp_129 x1 σ) Q) : CC 129 [.ref 12, .int x1] σ Q := h
theorem cc_135 {x1 x2 : Int32} {σ : St} {Q : Int32 → St → Prop} (h : Ap (sp_135 x1 x2 σ) Q) : CC 135 [.ref 12, .int x1, .int x2] σ Q := h
theorem cc_145  {σ : St} {Q : Int32 → St → Prop} (h : Ap (sp_145  σ) Q) : CC 145 [.ref 12] σ Q := h
theorem cc_148 {x1 : Int32} {σ : St} {Q : Int32 → St → Prop} (h : Ap (sp_148 x1 σ) Q) : CC 148 [.int x1] σ Q := h
theorem cc_150 {x1 : Int32} {σ : St} {Q : Int32 → St → Prop} (h : Ap (sp_150 x1 σ) Q) : CC 150 [.ref 12, .int x1] σ Q := h
theorem cc_157 {x1 : Int32} {σ : St} {Q : Int32 → St → Prop} (h : Ap (sp_157 x1 σ) Q) : CC 157 [.ref 12, .int x1] σ Q := h
theorem cc_160 {x1 : Int32} {σ : St} {Q : Int32 → St → Prop} (h : Ap (sp_160 x1 σ) Q) : CC 160 [.int x1] σ Q := h
theorem cc_165 {x1 : Int32} {σ : St} {Q : Int32 → St → Prop} (h : Ap (sp_165 x1 σ) Q) : CC 165 [.ref 12, .int x1] σ Q := h
theorem cc_166 {x1 : Int32} {σ : St} {Q : Int32 → St → Prop} (h : Ap (sp_166 x1 σ) Q) : CC 166 [.ref 12, .int x1] σ Q := h
theorem cc_0 {x1 x2 x3 : Int32} {σ : St} {Q : Int32 → St → Prop} (h : Ap (sp_0 x1 x2 x3 σ) Q) : CC 0 [.ref 0, .int x1, .int x2, .int x3] σ Q := h
theorem cc_4 {x1 x2 : Int32} {σ : St} {Q : Int32 → St → Prop} (h : Ap (sp_4 x1 x2 σ) Q) : CC 4 [.ref 0, .int x1, .int x2] σ Q := h
theorem cc_7 {x1 x2 : Int32} {σ : St} {Q : Int32 → St → Prop} (h : Ap (sp_7 x1 x2 σ) Q) : CC 7 [.ref 0, .int x1, .int x2] σ Q := h
theorem cc_9 {x1 : Int32} {σ : St} {Q : Int32 → St → Prop} (h : Ap (sp_9 x1 σ) Q) : CC 9 [.ref 0, .int x1] σ Q := h
theorem cc_11 {x1 x2 x3 : Int32} {σ : St} {Q : Int32 → St → Prop} (h : Ap (sp_11 x1 x2 x3 σ) Q) : CC 11 [.ref 0, .int x1, .int x2, .int x3] σ Q := h
theorem cc_15 {x1 x2 : Int32} {σ : St} {Q : Int32 → St → Prop} (h : Ap (sp_15 x1 x2 σ) Q) : CC 15 [.ref 0, .int x1, .int x2] σ Q := h
theorem cc_18 {x1 x2 : Int32} {σ : St} {Q : Int32 → St → Prop} (h : Ap (sp_18 x1 x2 σ) Q) : CC 18 [.ref 0, .int x1, .int x2] σ Q := h
theorem cc_21 {x1 x2 : Int32} {σ : St} {Q : Int32 → St → Prop} (h : Ap (sp_21 x1 x2 σ) Q) : CC 21 [.ref 0, .int x1, .int x2] σ Q := h
theorem cc_24 {x2 : Int32} {σ : St} {Q : Int32 → St → Prop} (h : Ap (sp_24 x2 σ) Q) : CC 24 [.ref 2, .ref 3, .int x2] σ Q := h
theorem cc_26 {x1 : Int32} {σ : St} {Q : Int32 → St → Prop} (h : Ap (sp_26 x1 σ) Q) : CC 26 [.ref 0, .int x1] σ Q := h
theorem cc_37  {σ : St} {Q : Int32 → St → Prop} (h : Ap (sp_37  σ) Q) : CC 37 [.ref 4] σ Q := h
theorem cc_39 {x1 x2 : Int32} {σ : St} {Q : Int32 → St → Prop} (h : Ap (sp_39 x1 x2 σ) Q) : CC 39 [.ref 0, .int x1, .int x2] σ Q := h
theorem cc_43 {x1 : Int32} {σ : St} {Q : Int32 → St → Prop} (h : Ap (sp_43 x1 σ) Q) : CC 43 [.ref 5, .int x1] σ Q := h
theorem cc_52 {x1 x2 : Int32} {σ : St} {Q : Int32 → St → Prop} (h : Ap (sp_52 x1 x2 σ) Q) : CC 52 [.ref 6, .int x1, .int x2] σ Q := h
theorem cc_55 {x1 : Int32} {σ : St} {Q : Int32 → St → Prop} (h : Ap (sp_55 x1 σ) Q) : CC 55 [.ref 6, .int x1] σ Q := h
theorem cc_60 {x1 : Int32} {σ : St} {Q : Int32 → St → Prop} (h : Ap (sp_60 x1 σ) Q) : CC 60 [.ref 9, .int x1] σ Q := h
theorem cc_64 {x1 : Int32} {σ : St} {Q : Int32 → St → Prop} (h : Ap (sp_64 x1 σ) Q) : CC 64 [.ref 7, .int x1] σ Q := h
theorem cc_76 {x1 : Int32} {σ : St} {Q : Int32 → St → Prop} (h : Ap (sp_76 x1 σ) Q) : CC 76 [.ref 8, .int x1] σ Q := h
theorem cc_81 {x1 x2 : Int32} {σ : St} {Q : Int32 → St → Prop} (h : Ap (sp_81 x1 x2 σ) Q) : CC 81 [.ref 10, .int x1, .int x2] σ Q := h
theorem cc_83 {x1 x2 : Int32} {σ : St} {Q : Int32 → St → Prop} (h : Ap (sp_83 x1 x2 σ) Q) : CC 83 [.ref 0, .int x1, .int x2] σ Q := h
theorem cc_93 {x1 : Int32} {σ : St} {Q : Int32 → St → Prop} (h : Ap (sp_93 x1 σ) Q) : CC 93 [.ref 0, .int x1] σ Q := h
theorem cc_99 {x1 : Int32} {σ : St} {Q : Int32 → St → Prop} (h : Ap (sp_99 x1 σ) Q) : CC 99 [.ref 11, .int x1] σ Q := h
theorem cc_103 {x1 x2 : Int32} {σ : St} {Q : Int32 → St → Prop} (h : Ap (sp_103 x1 x2 σ) Q) : CC 103 [.ref 11, .int x1, .int x2] σ Q := h
theorem cc_109 {x1 x2 : Int32} {σ : St} {Q : Int32 → St → Prop} (h : Ap (sp_109 x1 x2 σ) Q) : CC 109 [.ref 11, .int x1, .int x2] σ Q := h
theorem cc_110 {x1 x2 x3 : Int32} {σ : St} {Q : Int32 → St → Prop} (h : Ap (sp_110 x1 x2 x3 σ) Q) : CC 110 [.ref 0, .int x1, .int x2, .int x3] σ Q := h
theorem cc_113  {σ : St} {Q : Int32 → St → Prop} (h : Ap (sp_113  σ) Q) : CC 113 [.ref 0] σ Q := h
theorem cc_117 {x1 : Int32} {σ : St} {Q : Int32 → St → Prop} (h : Ap (sp_117 x1 σ) Q) : CC 117 [.ref 0, .int x1] σ Q := h
theorem cc_121 {x1 : Int32} {σ : St} {Q : Int32 → St → Prop} (h : Ap (sp_121 x1 σ) Q) : CC 121 [.ref 0, .int x1] σ Q := h
theorem cc_124 {x1 : Int32} {σ : St} {Q : Int32 → St → Prop} (h : Ap (sp_124 x1 σ) Q) : CC 124 [.int x1] σ Q := h
theorem cc_127 {x1 : Int32} {σ : St} {Q : Int32 → St → Prop} (h : Ap (sp_127 x1 σ) Q) : CC 127 [.ref 12, .int x1] σ Q := h
theorem cc_130 {x1 x2 : Int32} {σ : St} {Q : Int32 → St → Prop} (h : Ap (sp_130 x1 x2 σ) Q) : CC 130 [.ref 12, .int x1, .int x2] σ Q := h
theorem cc_132 {x1 : Int32} {σ : St} {Q : Int32 → St → Prop} (h : Ap (sp_132 x1 σ) Q) : CC 132 [.ref 12, .int x1] σ Q := h
theorem cc_134 {x1 : Int32} {σ : St} {Q : Int32 → St → Prop} (h : Ap (sp_134 x1 σ) Q) : CC 134 [.ref 12, .int x1] σ Q := h
theorem cc_140 {x1 : Int32} {σ : St} {Q : Int32 → St → Prop} (h : Ap (sp_140 x1 σ) Q) : CC 140 [.ref 12, .int x1] σ Q := h
theorem cc_141 {x1 : Int32} {σ : St} {Q : Int32 → St → Prop} (h : Ap (sp_141 x1 σ) Q) : CC 141 [.ref 12, .int x1] σ Q := h
theorem cc_142 {x1 : Int32} {σ : St} {Q : Int32 → St → Prop} (h : Ap (sp_142 x1 σ) Q) : CC 142 [.ref 12, .int x1] σ Q := h
theorem cc_146 {x1 : Int32} {σ : St} {Q : Int32 → St → Prop} (h : Ap (sp_146 x1 σ) Q) : CC 146 [.ref 12, .int x1] σ Q := h
theorem cc_147 {x1 : Int32} {σ : St} {Q : Int32 → St → Prop} (h : Ap (sp_147 x1 σ) Q) : CC 147 [.ref 12, .int x1] σ Q := h
theorem cc_152 {x1 : Int32} {σ : St} {Q : Int32 → St → Prop} (h : Ap (sp_152 x1 σ) Q) : CC 152 [.ref 12, .int x1] σ Q := h
theorem cc_156 {x1 : Int32} {σ : St} {Q : Int32 → St → Prop} (h : Ap (sp_156 x1 σ) Q) : CC 156 [.ref 12, .int x1] σ Q := h
theorem cc_164 {x1 x2 x3 : Int32} {σ : St} {Q : Int32 → St → Prop} (h : Ap (sp_164 x1 x2 x3 σ) Q) : CC 164 [.int x1, .int x2, .int x3] σ Q := h
theorem cc_171 {x1 x2 x3 : Int32} {σ : St} {Q : Int32 → St → Prop} (h : Ap (sp_171 x1 x2 x3 σ) Q) : CC 171 [.int x1, .int x2, .int x3] σ Q := h
theorem cc_172 {x1 x2 : Int32} {σ : St} {Q : Int32 → St → Prop} (h : Ap (sp_172 x1 x2 σ) Q) : CC 172 [.ref 12, .int x1, .int x2] σ Q := h
theorem cc_176 {x1 : Int32} {σ : St} {Q : Int32 → St → Prop} (h : Ap (sp_176 x1 σ) Q) : CC 176 [.ref 12, .int x1] σ Q := h
theorem cc_179 {x1 x2 : Int32} {σ : St} {Q : Int32 → St → Prop} (h : Ap (sp_179 x1 x2 σ) Q) : CC 179 [.ref 12, .int x1, .int x2] σ Q := h
theorem cc_181 {x1 : Int32} {σ : St} {Q : Int32 → St → Prop} (h : Ap (sp_181 x1 σ) Q) : CC 181 [.ref 12, .int x1] σ Q := h
theorem cc_188  {σ : St} {Q : Int32 → St → Prop} (h : Ap (sp_188  σ) Q) : CC 188 [.ref 12] σ Q := h
theorem cc_191 {x1 : Int32} {σ : St} {Q : Int32 → St → Prop} (h : Ap (sp_191 x1 σ) Q) : CC 191 [.ref 12, .int x1] σ Q := h
theorem cc_194 {x1 : Int32} {σ : St} {Q : Int32 → St → Prop} (h : Ap (sp_194 x1 σ) Q) : CC 194 [.ref 12, .int x1] σ Q := h
theorem cc_16 {x1 x2 x3 x4 x5 : Int32} {σ : St} {Q : Int32 → St → Prop} (h : Ap (sp_16 x1 x2 x3 x4 x5 σ) Q) : CC 16 [.ref 0, .int x1, .int x2, .int x3, .int x4, .int x5] σ Q := h
theorem cc_23 {x1 x2 : Int32} {σ : St} {Q : Int32 → St → Prop} (h : Ap (sp_23 x1 x2 σ) Q) : CC 23 [.ref 0, .int x1, .int x2] σ Q := h
theorem cc_34  {σ : St} {Q : Int32 → St → Prop} (h : Ap (sp_34  σ) Q) : CC 34 [.ref 4] σ Q := h
theorem cc_38 {x1 : Int32} {σ : St} {Q : Int32 → St → Prop} (h : Ap (sp_38 x1 σ) Q) : CC 38 [.ref 4, .int x1] σ Q := h
theorem cc_42 {x1 : Int32} {σ : St} {Q : Int32 → St → Prop} (h : Ap (sp_42 x1 σ) Q) : CC 42 [.ref 0, .int x1] σ Q := h
theorem cc_46 {x1 : Int32} {σ : St} {Q : Int32 → St → Prop} (h : Ap (sp_46 x1 σ) Q) : CC 46 [.ref 5, .int x1] σ Q := h
theorem cc_51 {x1 : Int32} {σ : St} {Q : Int32 → St → Prop} (h : Ap (sp_51 x1 σ) Q) : CC 51 [.ref 6, .int x1] σ Q := h
theorem cc_57 {x1 : Int32} {σ : St} {Q : Int32 → St → Prop} (h : Ap (sp_57 x1 σ) Q) : CC 57 [.ref 6, .int x1] σ Q := h
theorem cc_58 {x1 : Int32} {σ : St} {Q : Int32 → St → Prop} (h : Ap (sp_58 x1 σ) Q) : CC 58 [.ref 5, .int x1] σ Q := h
theorem cc_63  {σ : St} {Q : Int32 → St → Prop} (h : Ap (sp_63  σ) Q) : CC 63 [.ref 7] σ Q := h
theorem cc_66 {x1 : Int32} {σ : St} {Q : Int32 → St → Prop} (h : Ap (sp_66 x1 σ) Q) : CC 66 [.ref 7, .int x1] σ Q := h
theorem cc_70  {σ : St} {Q : Int32 → St → Prop} (h : Ap (sp_70  σ) Q) : CC 70 [.ref 7] σ Q := h
theorem cc_75 {x1 : Int32} {σ : St} {Q : Int32 → St → Prop} (h : Ap (sp_75 x1 σ) Q) : CC 75 [.ref 0, .int x1] σ Q := h
theorem cc_80 {x1 x2 : Int32} {σ : St} {Q : Int32 → St → Prop} (h : Ap (sp_80 x1 x2 σ) Q) : CC 80 [.ref 0, .int x1, .int x2] σ Q := h
theorem cc_86 {x1 : Int32} {σ : St} {Q : Int32 → St → Prop} (h : Ap (sp_86 x1 σ) Q) : CC 86 [.ref 9, .int x1] σ Q := h
theorem cc_102  {σ : St} {Q : Int32 → St → Prop} (h : Ap (sp_102  σ) Q) : CC 102 [.ref 11] σ Q := h
theorem cc_108 {x1 : Int32} {σ : St} {Q : Int32 → St → Prop} (h : Ap (sp_108 x1 σ) Q) : CC 108 [.ref 11, .int x1] σ Q := h
theorem cc_122 {x1 x2 x3 : Int32} {σ : St} {Q : Int32 → St → Prop} (h : Ap (sp_122 x1 x2 x3 σ) Q) : CC 122 [.ref 12, .int x1, .int x2, .int x3] σ Q := h
theorem cc_126 {x1 x2 : Int32} {σ : St} {Q : Int32 → St → Prop} (h : Ap (sp_126 x1 x2 σ) Q) : CC 126 [.ref 12, .int x1, .int x2] σ Q := h
theorem cc_131 {x1 : Int32} {σ : St} {Q : Int32 → St → Prop} (h : Ap (sp_131 x1 σ) Q) : CC 131 [.ref 12, .int x1] σ Q := h
theorem cc_133 {x1 x2 x3 : Int32} {σ : St} {Q : Int32 → St → Prop} (h : Ap (sp_133 x1 x2 x3 σ) Q) : CC 133 [.ref 12, .int x1, .int x2, .int x3] σ Q := h
theorem cc_136 {x1 x2 : Int32} {σ : St} {Q : Int32 → St → Prop} (h : Ap (sp_136 x1 x2 σ) Q) : CC 136 [.ref 12, .int x1, .int x2] σ Q := h
theorem cc_138 {x1 x2 x3 x4 x5 : Int32} {σ : St} {Q : Int32 → St → Prop} (h : Ap (sp_138 x1 x2 x3 x4 x5 σ) Q) : CC 138 [.ref 12, .int x1, .int x2, .int x3, .int x4, .int x5] σ Q := h
theorem cc_139 {x1 x2 : Int32} {σ : St} {Q : Int32 → St → Prop} (h : Ap (sp_139 x1 x2 σ) Q) : CC 139 [.ref 12, .int x1, .int x2] σ Q := h
theorem cc_144  {σ : St} {Q : Int32 → St → Prop} (h : Ap (sp_144  σ) Q) : CC 144 [.ref 12] σ Q := h
theorem cc_149 {x1 x2 : Int32} {σ : St} {Q : Int32 → St → Prop} (h : Ap (sp_149 x1 x2 σ) Q) : CC 149 [.ref 12, .int x1, .int x2] σ Q := h
theorem cc_151 {x1 : Int32} {σ : St} {Q : Int32 → St → Prop} (h : Ap (sp_151 x1 σ) Q) : CC 151 [.ref 12, .int x1] σ Q := h
theorem cc_154 {x1 : Int32} {σ : St} {Q : Int32 → St → Prop} (h : Ap (sp_154 x1 σ) Q) : CC 154 [.ref 12, .int x1] σ Q := h
theorem cc_155 {x1 x2 : Int32} {σ : St} {Q : Int32 → St → Prop} (h : Ap (sp_155 x1 x2 σ) Q) : CC 155 [.ref 12, .int x1, .int x2] σ Q := h
theorem cc_159  {σ : St} {Q : Int32 → St → Prop} (h : Ap (sp_159  σ) Q) : CC 159 [.ref 12] σ Q := h
theorem cc_163 {x1 : Int32} {σ : St} {Q : Int32 → St → Prop} (h : Ap (sp_163 x1 σ) Q) : CC 163 [.ref 12, .int x1] σ Q := h
theorem cc_167 {x1 : Int32} {σ : St} {Q : Int32 → St → Prop} (h : Ap (sp_167 x1 σ) Q) : CC 167 [.ref 12, .int x1] σ Q := h
theorem cc_170 {x1 : Int32} {σ : St} {Q : Int32 → St → Prop} (h : Ap (sp_170 x1 σ) Q) : CC 170 [.ref 12, .int x1] σ Q := h
theorem cc_173 {x1 x2 : Int32} {σ : St} {Q : Int32 → St → Prop} (h : Ap (sp_173 x1 x2 σ) Q) : CC 173 [.ref 12, .int x1, .int x2] σ Q := h
theorem cc_182 {x1 x2 : Int32} {σ : St} {Q : Int32 → St → Prop} (h : Ap (sp_182 x1 x2 σ) Q) : CC 182 [.ref 12, .int x1, .int x2] σ Q := h
theorem cc_187 {x1 x2 x3 : Int32} {σ : St} {Q : Int32 → St → Prop} (h : Ap (sp_187 x1 x2 x3 σ) Q) : CC 187 [.ref 12, .int x1, .int x2, .int x3] σ Q := h
theorem cc_32  {σ : St} {Q : Int32 → St → Prop} (h : Ap (sp_32  σ) Q) : CC 32 [.ref 4] σ Q := h
theorem cc_45 {x1 : Int32} {σ : St} {Q : Int32 → St → Prop} (h : Ap (sp_45 x1 σ) Q) : CC 45 [.ref 0, .int x1] σ Q := h
theorem cc_50 {x1 : Int32} {σ : St} {Q : Int32 → St → Prop} (h : Ap (sp_50 x1 σ) Q) : CC 50 [.ref 6, .int x1] σ Q := h
theorem cc_69  {σ : St} {Q : Int32 → St → Prop} (h : Ap (sp_69  σ) Q) : CC 69 [.ref 7] σ Q := h
theorem cc_72 {x1 x2 : Int32} {σ : St} {Q : Int32 → St → Prop} (h : Ap (sp_72 x1 x2 σ) Q) : CC 72 [.ref 7, .int x1, .int x2] σ Q := h
theorem cc_74 {x1 : Int32} {σ : St} {Q : Int32 → St → Prop} (h : Ap (sp_74 x1 σ) Q) : CC 74 [.ref 0, .int x1] σ Q := h
theorem cc_85 {x1 : Int32} {σ : St} {Q : Int32 → St → Prop} (h : Ap (sp_85 x1 σ) Q) : CC 85 [.ref 10, .int x1] σ Q := h
theorem cc_95 {x1 x2 : Int32} {σ : St} {Q : Int32 → St → Prop} (h : Ap (sp_95 x1 x2 σ) Q) : CC 95 [.ref 0, .int x1, .int x2] σ Q := h
theorem cc_116 {x1 x2 : Int32} {σ : St} {Q : Int32 → St → Prop} (h : Ap (sp_116 x1 x2 σ) Q) : CC 116 [.ref 5, .int x1, .int x2] σ Q := h
theorem cc_137 {x1 x2 x3 x4 x5 : Int32} {σ : St} {Q : Int32 → St → Prop} (h : Ap (sp_137 x1 x2 x3 x4 x5 σ) Q) : CC 137 [.ref 12, .int x1, .int x2, .int x3, .int x4, .int x5] σ Q := h
theorem cc_143 {x1 : Int32} {σ : St} {Q : Int32 → St → Prop} (h : Ap (sp_143 x1 σ) Q) : CC 143 [.ref 12, .int x1] σ Q := h
theorem cc_153 {x1 : Int32} {σ : St} {Q : Int32 → St → Prop} (h : Ap (sp_153 x1 σ) Q) : CC 153 [.ref 12, .int x1] σ Q := h
theorem cc_162 {x1 : Int32} {σ : St} {Q : Int32 → St → Prop} (h : Ap (sp_162 x1 σ) Q) : CC 162 [.ref 12, .int x1] σ Q := h
theorem cc_169 {x1 : Int32} {σ : St} {Q : Int32 → St → Prop} (h : Ap (sp_169 x1 σ) Q) : CC 169 [.ref 12, .int x1] σ Q := h
theorem cc_175 {x1 : Int32} {σ : St} {Q : Int32 → St → Prop} (h : Ap (sp_175 x1 σ) Q) : CC 175 [.ref 12, .int x1] σ Q := h
theorem cc_190 {x1 x2 : Int32} {σ : St} {Q : Int32 → St → Prop} (h : Ap (sp_190 x1 x2 σ) Q) : CC 190 [.ref 12, .int x1, .int x2] σ Q := h
theorem cc_31  {σ : St} {Q : Int32 → St → Prop} (h : Ap (sp_31  σ) Q) : CC 31 [.ref 4] σ Q := h
theorem cc_49 {x1 : Int32} {σ : St} {Q : Int32 → St → Prop} (h : Ap (sp_49 x1 σ) Q) : CC 49 [.ref 11, .int x1] σ Q := h
theorem cc_62 {x1 x2 : Int32} {σ : St} {Q : Int32 → St → Prop} (h : Ap (sp_62 x1 x2 σ) Q) : CC 62 [.ref 7, .int x1, .int x2] σ Q := h
theorem cc_71 {x1 x2 : Int32} {σ : St} {Q : Int32 → St → Prop} (h : Ap (sp_71 x1 x2 σ) Q) : CC 71 [.ref 0, .int x1, .int x2] σ Q := h
theorem cc_73 {x1 : Int32} {σ : St} {Q : Int32 → St → Prop} (h : Ap (sp_73 x1 σ) Q) : CC 73 [.ref 0, .int x1] σ Q := h
theorem cc_84 {x1 : Int32} {σ : St} {Q : Int32 → St → Prop} (h : Ap (sp_84 x1 σ) Q) : CC 84 [.ref 0, .int x1] σ Q := h
theorem cc_89 {x1 : Int32} {σ : St} {Q : Int32 → St → Prop} (h : Ap (sp_89 x1 σ) Q) : CC 89 [.ref 10, .int x1] σ Q := h
theorem cc_115 {x1 x2 : Int32} {σ : St} {Q : Int32 → St → Prop} (h : Ap (sp_115 x1 x2 σ) Q) : CC 115 [.ref 0, .int x1, .int x2] σ Q := h
theorem cc_120  {σ : St} {Q : Int32 → St → Prop} (h : Ap (sp_120  σ) Q) : CC 120 [.ref 6] σ Q := h
theorem cc_161 {x1 : Int32} {σ : St} {Q : Int32 → St → Prop} (h : Ap (sp_161 x1 σ) Q) : CC 161 [.ref 12, .int x1] σ Q := h
theorem cc_168 {x1 : Int32} {σ : St} {Q : Int32 → St → Prop} (h : Ap (sp_168 x1 σ) Q) : CC 168 [.ref 12, .int x1] σ Q := h
theorem cc_174 {x1 : Int32} {σ : St} {Q : Int32 → St → Prop} (h : Ap (sp_174 x1 σ) Q) : CC 174 [.ref 12, .int x1] σ Q := h
theorem cc_178  {σ : St} {Q : Int32 → St → Prop} (h : Ap (sp_178  σ) Q) : CC 178 [.ref 12] σ Q := h
theorem cc_189 {x1 x2 : Int32} {σ : St} {Q : Int32 → St → Prop} (h : Ap (sp_189 x1 x2 σ) Q) : CC 189 [.ref 12, .int x1, .int x2] σ Q := h
theorem cc_193 {x1 : Int32} {σ : St} {Q : Int32 → St → Prop} (h : Ap (sp_193 x1 σ) Q) : CC 193 [.ref 12, .int x1] σ Q := h
theorem cc_29 {x1 : Int32} {σ : St} {Q : Int32 → St → Prop} (h : Ap (sp_29 x1 σ) Q) : CC 29 [.ref 4, .int x1] σ Q := h
theorem cc_48 {x1 : Int32} {σ : St} {Q : Int32 → St → Prop} (h : Ap (sp_48 x1 σ) Q) : CC 48 [.ref 11, .int x1] σ Q := h
theorem cc_88 {x1 x2 : Int32} {σ : St} {Q : Int32 → St → Prop} (h : Ap (sp_88 x1 x2 σ) Q) : CC 88 [.ref 10, .int x1, .int x2] σ Q := h
theorem cc_92 {x1 x2 : Int32} {σ : St} {Q : Int32 → St → Prop} (h : Ap (sp_92 x1 x2 σ) Q) : CC 92 [.ref 10, .int x1, .int x2] σ Q := h
theorem cc_98 {x1 x2 : Int32} {σ : St} {Q : Int32 → St → Prop} (h : Ap (sp_98 x1 x2 σ) Q) : CC 98 [.ref 11, .int x1, .int x2] σ Q := h
theorem cc_101  {σ : St} {Q : Int32 → St → Prop} (h : Ap (sp_101  σ) Q) : CC 101 [.ref 11] σ Q := h
theorem cc_119 {x1 : Int32} {σ : St} {Q : Int32 → St → Prop} (h : Ap (sp_119 x1 σ) Q) : CC 119 [.ref 0, .int x1] σ Q := h
theorem cc_158 {x1 x2 : Int32} {σ : St} {Q : Int32 → St → Prop} (h : Ap (sp_158 x1 x2 σ) Q) : CC 158 [.ref 12, .int x1, .int x2] σ Q := h
theorem cc_177 {x1 x2 : Int32} {σ : St} {Q : Int32 → St → Prop} (h : Ap (sp_177 x1 x2 σ) Q) : CC 177 [.ref 12, .int x1, .int x2] σ Q := h
theorem cc_180 {x1 x2 : Int32} {σ : St} {Q : Int32 → St → Prop} (h : Ap (sp_180 x1 x2 σ) Q) : CC 180 [.ref 12, .int x1, .int x2] σ Q := h
theorem cc_184 {x1 x2 : Int32} {σ : St} {Q : Int32 → St → Prop} (h : Ap (sp_184 x1 x2 σ) Q) : CC 184 [.ref 12, .int x1, .int x2] σ Q := h
theorem cc_192 {x1 : Int32} {σ : St} {Q : Int32 → St → Prop} (h : Ap (sp_192 x1 σ) Q) : CC 192 [.ref 12, .int x1] σ Q := h
theorem cc_28 {x1 : Int32} {σ : St} {Q : Int32 → St → Prop} (h : Ap (sp_28 x1 σ) Q) : CC 28 [.ref 0, .int x1] σ Q := h
theorem cc_47 {x1 x2 : Int32} {σ : St} {Q : Int32 → St → Prop} (h : Ap (sp_47 x1 x2 σ) Q) : CC 47 [.ref 0, .int x1, .int x2] σ Q := h
theorem cc_87 {x1 x2 : Int32} {σ : St} {Q : Int32 → St → Prop} (h : Ap (sp_87 x1 x2 σ) Q) : CC 87 [.ref 0, .int x1, .int x2] σ Q := h
theorem cc_91 {x1 x2 : Int32} {σ : St} {Q : Int32 → St → Prop} (h : Ap (sp_91 x1 x2 σ) Q) : CC 91 [.ref 0, .int x1, .int x2] σ Q := h
theorem cc_97 {x1 x2 : Int32} {σ : St} {Q : Int32 → St → Prop} (h : Ap (sp_97 x1 x2 σ) Q) : CC 97 [.ref 0, .int x1, .int x2] σ Q := h
theorem cc_100 {x1 : Int32} {σ : St} {Q : Int32 → St → Prop} (h : Ap (sp_100 x1 σ) Q) : CC 100 [.ref 0, .int x1] σ Q := h
theorem cc_118 {x1 : Int32} {σ : St} {Q : Int32 → St → Prop} (h : Ap (sp_118 x1 σ) Q) : CC 118 [.ref 0, .int x1] σ Q := h
theorem cc_183 {x1 x2 : Int32} {σ : St} {Q : Int32 → St → Prop} (h : Ap (sp_183 x1 x2 σ) Q) : CC 183 [.ref 12, .int x1, .int x2] σ Q := h
theorem cc_186  {σ : St} {Q : Int32 → St → Prop} (h : Ap (sp_186  σ) Q) : CC 186 [.ref 12] σ Q := h
theorem cc_185 {x1 : Int32} {σ : St} {Q : Int32 → St → Prop} (h : Ap (sp_185 x1 σ) Q) : CC 185 [.ref 12, .int x1] σ Q := h
end
section
/-! the code does what the functions say (written by wip/whole/gen/spec.py) -/
-- TradeTests.isBelow
set_option maxHeartbeats 20000000 in
set_option maxRecDepth 100000 in
theorem hp_1 {sc : Nat × (Nat → Int32)} {Q : Int32 → St → Prop} {x1 x2 : Int32} {σ : St} (h : Ap (sp_1 x1 x2 σ) Q) : Ex sc CC 2 cd_1 Q 0 [some (.int x1), some (.int x2)] [] σ := by
  have v : (x1 < 0 → ((0 : Int32) = 0 ∨ (0 : Int32) = 1) ∧ Q 0 σ) ∧ (¬ x1 < 0 → (x2 ≤ x1 → ((0 : Int32) = 0 ∨ (0 : Int32) = 1) ∧ Q 0 σ) ∧ (¬ x2 ≤ x1 → ((1 : Int32) = 0 ∨ (1 : Int32) = 1) ∧ Q 1 σ)) := n_if h (fun h => n_rb h) (fun h => n_if h (fun h => n_rb h) (fun h => n_rb h))
  exact wpn_Ex (cuts := []) monCC (fun _ _ _ _ z => z) 9 0 _ _ _ v
-- TradeTests.finding
set_option maxHeartbeats 20000000 in
set_option maxRecDepth 100000 in
theorem hp_2 {sc : Nat × (Nat → Int32)} {Q : Int32 → St → Prop} {x1 : Int32} {σ : St} (h : Ap (sp_2 x1 σ) Q) : Ex sc CC 1 cd_2 Q 0 [some (.ref 0), some (.int x1)] [] σ := by
  have v : vp_in x1 6 ∧ (vp_in x1 6 ∧ (Q ((-1000000 : Int32) - x1) (up σ 14 (x1).toNatClampNeg ((σ 14 (x1).toNatClampNeg) + 1)))) := n_mb h (fun h => n_mb h (fun h => n_rt h))
  exact wpn_Ex (cuts := []) monCC (fun _ _ _ _ z => z) 13 0 _ _ _ v
-- TradeTests$Vehicles.add
set_option maxHeartbeats 20000000 in
set_option maxRecDepth 100000 in
theorem hp_3 {sc : Nat × (Nat → Int32)} {Q : Int32 → St → Prop} {x1 x2 x3 : Int32} {σ : St} (h : Ap (sp_3 x1 x2 x3 σ) Q) : Ex sc CC 1 cd_3 Q 0 [some (.ref 1), some (.int x1), some (.int x2), some (.int x3)] [] σ := by
  have v : vp_in (σ 1 3) 24 ∧ (vp_in (σ 1 3) 24 ∧ (vp_in (σ 1 3) 24 ∧ (Q (((σ 1 3) + 1) - 1) (up (up (up (up σ 15 (σ 1 3).toNatClampNeg x1) 16 (σ 1 3).toNatClampNeg x2) 17 (σ 1 3).toNatClampNeg x3) 1 3 ((σ 1 3) + 1))))) := n_mb h (fun h => n_mb h (fun h => n_mb h (fun h => n_rt h)))
  exact wpn_Ex (cuts := []) monCC (fun _ _ _ _ z => z) 30 0 _ _ _ v
-- TradeTests.isUnder
set_option maxHeartbeats 20000000 in
set_option maxRecDepth 100000 in
theorem hp_5 {sc : Nat × (Nat → Int32)} {Q : Int32 → St → Prop} {x1 x2 : Int32} {σ : St} (h : Ap (sp_5 x1 x2 σ) Q) : Ex sc CC 2 cd_5 Q 0 [some (.int x1), some (.int x2)] [] σ := by
  have v : (x1 = x2 → ((1 : Int32) = 0 ∨ (1 : Int32) = 1) ∧ Q 1 σ) ∧ (¬ x1 = x2 → (x2 = 0 → ((1 : Int32) = 0 ∨ (1 : Int32) = 1) ∧ Q 1 σ) ∧ (¬ x2 = 0 → (¬ x2 = 1 → ((0 : Int32) = 0 ∨ (0 : Int32) = 1) ∧ Q 0 σ) ∧ (x2 = 1 → (¬ x1 = 2 → ((0 : Int32) = 0 ∨ (0 : Int32) = 1) ∧ Q 0 σ) ∧ (x1 = 2 → ((1 : Int32) = 0 ∨ (1 : Int32) = 1) ∧ Q 1 σ)))) := n_if h (fun h => n_rb h) (fun h => n_if h (fun h => n_rb h) (fun h => n_ne h (fun h => n_ne h (fun h => n_rb h) (fun h => n_rb h)) (fun h => n_rb h)))
  exact wpn_Ex (cuts := []) monCC (fun _ _ _ _ z => z) 15 0 _ _ _ v
-- TradeTests$Vehicles.dueDays
set_option maxHeartbeats 20000000 in
set_option maxRecDepth 100000 in
theorem hp_6 {sc : Nat × (Nat → Int32)} {Q : Int32 → St → Prop} {x1 : Int32} {σ : St} (h : Ap (sp_6 x1 σ) Q) : Ex sc CC 1 cd_6 Q 0 [some (.ref 1), some (.int x1)] [] σ := by
  have v : vp_in x1 24 ∧ (vp_in (σ 15 (x1).toNatClampNeg) 4 ∧ (Q ((sV 0).getD (σ 15 (x1).toNatClampNeg).toNatClampNeg 0) σ)) := n_mb h (fun h => n_mb h (fun h => n_rt h))
  exact wpn_Ex (cuts := []) monCC (fun _ _ _ _ z => z) 8 0 _ _ _ v
-- TradeTests$Trade.addGarage
set_option maxHeartbeats 20000000 in
set_option maxRecDepth 100000 in
theorem hp_8 {sc : Nat × (Nat → Int32)} {Q : Int32 → St → Prop} {x1 x2 : Int32} {σ : St} (h : Ap (sp_8 x1 x2 σ) Q) : Ex sc CC 1 cd_8 Q 0 [some (.ref 2), some (.int x1), some (.int x2)] [] σ := by
  have v : vp_in (σ 2 2) 6 ∧ (vp_in (σ 2 2) 6 ∧ (Q (((σ 2 2) + 1) - 1) (up (up (up σ 18 (σ 2 2).toNatClampNeg x1) 19 (σ 2 2).toNatClampNeg x2) 2 2 ((σ 2 2) + 1)))) := n_mb h (fun h => n_mb h (fun h => n_rt h))
  exact wpn_Ex (cuts := []) monCC (fun _ _ _ _ z => z) 24 0 _ _ _ v
-- TradeTests$Trade.addTester
set_option maxHeartbeats 20000000 in
set_option maxRecDepth 100000 in
theorem hp_10 {sc : Nat × (Nat → Int32)} {Q : Int32 → St → Prop} {x1 : Int32} {σ : St} (h : Ap (sp_10 x1 σ) Q) : Ex sc CC 1 cd_10 Q 0 [some (.ref 2), some (.int x1)] [] σ := by
  have v : vp_in (σ 2 4) 8 ∧ (Q (((σ 2 4) + 1) - 1) (up (up σ 20 (σ 2 4).toNatClampNeg x1) 2 4 ((σ 2 4) + 1))) := n_mb h (fun h => n_rt h)
  exact wpn_Ex (cuts := []) monCC (fun _ _ _ _ z => z) 18 0 _ _ _ v
-- TradeTests$Trade.lastMoveDay
set_option maxHeartbeats 20000000 in
set_option maxRecDepth 100000 in
theorem hl_12_4 {sc : Nat × (Nat → Int32)} {Q : Int32 → St → Prop} : ∀ (n : Nat) (v1 : Int32) (v2 : Int32) (v3 : Int32) (σ : St), Ap (lp_12_4 n v1 v2 v3 σ) Q → Ex sc CC 1 cd_12 Q 4 [some (.ref 2), some (.int v1), some (.int v2), some (.int v3)] [] σ := by
  intro n
  induction n with
  | zero => intro v1 v2 v3 σ h; exact n_no h
  | succ n ih =>
    intro v1 v2 v3 σ h
    have v : ((σ 2 8) ≤ v3 → Q v2 σ) ∧ (¬ (σ 2 8) ≤ v3 → vp_in v3 30 ∧ ((¬ (σ 21 (v3).toNatClampNeg) = v1 → Ex sc CC 1 cd_12 Q 4 [some (.ref 2), some (.int v1), some (.int v2), some (.int (v3 + 1))] [] σ) ∧ ((σ 21 (v3).toNatClampNeg) = v1 → vp_in v3 30 ∧ (Ex sc CC 1 cd_12 Q 4 [some (.ref 2), some (.int v1), some (.int (σ 23 (v3).toNatClampNeg)), some (.int (v3 + 1))] [] σ)))) := n_if h (fun h => n_rt h) (fun h => n_mb h (fun h => n_ne h (fun h => n_mb h (fun h => ih v1 (σ 23 (v3).toNatClampNeg) (v3 + 1) σ h)) (fun h => ih v1 v2 (v3 + 1) σ h)))
    exact stw_Ex (cuts := [4]) monCC 18 v
set_option maxHeartbeats 20000000 in
set_option maxRecDepth 100000 in
theorem hp_12 {sc : Nat × (Nat → Int32)} {Q : Int32 → St → Prop} {x1 : Int32} {σ : St} (h : Ap (sp_12 x1 σ) Q) : Ex sc CC 1 cd_12 Q 0 [some (.ref 2), some (.int x1), none, none] [] σ := by
  have v : Ex sc CC 1 cd_12 Q 4 [some (.ref 2), some (.int x1), some (.int 0), some (.int 0)] [] σ := hl_12_4 FU x1 0 0 σ h
  exact wpn_Ex (cuts := [4]) monCC (fun _ _ _ _ z => z) 6 0 _ _ _ v
-- TradeTests$Trade.addMove
set_option maxHeartbeats 20000000 in
set_option maxRecDepth 100000 in
theorem hp_13 {sc : Nat × (Nat → Int32)} {Q : Int32 → St → Prop} {x1 x2 x3 : Int32} {σ : St} (h : Ap (sp_13 x1 x2 x3 σ) Q) : Ex sc CC 0 cd_13 Q 0 [some (.ref 2), some (.int x1), some (.int x2), some (.int x3)] [] σ := by
  have v : vp_in (σ 2 8) 30 ∧ (vp_in (σ 2 8) 30 ∧ (vp_in (σ 2 8) 30 ∧ (Q 0 (up (up (up (up σ 21 (σ 2 8).toNatClampNeg x1) 22 (σ 2 8).toNatClampNeg x2) 23 (σ 2 8).toNatClampNeg x3) 2 8 ((σ 2 8) + 1))))) := n_mb h (fun h => n_mb h (fun h => n_mb h (fun h => n_rt h)))
  exact wpn_Ex (cuts := []) monCC (fun _ _ _ _ z => z) 26 0 _ _ _ v
-- TradeTests$Trade.garageOn
set_option maxHeartbeats 20000000 in
set_option maxRecDepth 100000 in
theorem hl_14_10 {sc : Nat × (Nat → Int32)} {Q : Int32 → St → Prop} : ∀ (n : Nat) (v1 : Int32) (v2 : Int32) (v3 : Int32) (v4 : Int32) (σ : St), Ap (lp_14_10 n v1 v2 v3 v4 σ) Q → Ex sc CC 1 cd_14 Q 10 [some (.ref 2), some (.int v1), some (.int v2), some (.int v3), some (.int v4)] [] σ := by
  intro n
  induction n with
  | zero => intro v1 v2 v3 v4 σ h; exact n_no h
  | succ n ih =>
    intro v1 v2 v3 v4 σ h
    have v : ((σ 2 8) ≤ v4 → Q v3 σ) ∧ (¬ (σ 2 8) ≤ v4 → vp_in v4 30 ∧ ((¬ (σ 21 (v4).toNatClampNeg) = v1 → Ex sc CC 1 cd_14 Q 10 [some (.ref 2), some (.int v1), some (.int v2), some (.int v3), some (.int (v4 + 1))] [] σ) ∧ ((σ 21 (v4).toNatClampNeg) = v1 → vp_in v4 30 ∧ ((v2 < (σ 23 (v4).toNatClampNeg) → Ex sc CC 1 cd_14 Q 10 [some (.ref 2), some (.int v1), some (.int v2), some (.int v3), some (.int (v4 + 1))] [] σ) ∧ (¬ v2 < (σ 23 (v4).toNatClampNeg) → vp_in v4 30 ∧ (Ex sc CC 1 cd_14 Q 10 [some (.ref 2), some (.int v1), some (.int v2), some (.int (σ 22 (v4).toNatClampNeg)), some (.int (v4 + 1))] [] σ)))))) := n_if h (fun h => n_rt h) (fun h => n_mb h (fun h => n_ne h (fun h => n_mb h (fun h => n_if h (fun h => ih v1 v2 v3 (v4 + 1) σ h) (fun h => n_mb h (fun h => ih v1 v2 (σ 22 (v4).toNatClampNeg) (v4 + 1) σ h)))) (fun h => ih v1 v2 v3 (v4 + 1) σ h)))
    exact stw_Ex (cuts := [10]) monCC 24 v
set_option maxHeartbeats 20000000 in
set_option maxRecDepth 100000 in
theorem hp_14 {sc : Nat × (Nat → Int32)} {Q : Int32 → St → Prop} {x1 x2 : Int32} {σ : St} (h : Ap (sp_14 x1 x2 σ) Q) : Ex sc CC 1 cd_14 Q 0 [some (.ref 2), some (.int x1), some (.int x2), none, none] [] σ := by
  have v : vp_in x1 8 ∧ (Ex sc CC 1 cd_14 Q 10 [some (.ref 2), some (.int x1), some (.int x2), some (.int (σ 20 (x1).toNatClampNeg)), some (.int 0)] [] σ) := n_mb h (fun h => hl_14_10 FU x1 x2 (σ 20 (x1).toNatClampNeg) 0 σ h)
  exact wpn_Ex (cuts := [10]) monCC (fun _ _ _ _ z => z) 9 0 _ _ _ v
-- TradeTests.isWho
set_option maxHeartbeats 20000000 in
set_option maxRecDepth 100000 in
theorem hp_17 {sc : Nat × (Nat → Int32)} {Q : Int32 → St → Prop} {x1 : Int32} {σ : St} (h : Ap (sp_17 x1 σ) Q) : Ex sc CC 2 cd_17 Q 0 [some (.ref 0), some (.int x1)] [] σ := by
  have v : (x1 < 0 → ((0 : Int32) = 0 ∨ (0 : Int32) = 1) ∧ Q 0 σ) ∧ (¬ x1 < 0 → ¬ (100 : Int32) = 0 ∧ (((σ 1 3) ≤ (x1 / 100) → ((0 : Int32) = 0 ∨ (0 : Int32) = 1) ∧ Q 0 σ) ∧ (¬ (σ 1 3) ≤ (x1 / 100) → ¬ (100 : Int32) = 0 ∧ (((σ 2 4) ≤ (x1 - x1 / 100 * 100) → ((0 : Int32) = 0 ∨ (0 : Int32) = 1) ∧ Q 0 σ) ∧ (¬ (σ 2 4) ≤ (x1 - x1 / 100 * 100) → ((1 : Int32) = 0 ∨ (1 : Int32) = 1) ∧ Q 1 σ))))) := n_if h (fun h => n_rb h) (fun h => n_mb h (fun h => n_if h (fun h => n_rb h) (fun h => n_mb h (fun h => n_if h (fun h => n_rb h) (fun h => n_rb h)))))
  exact wpn_Ex (cuts := []) monCC (fun _ _ _ _ z => z) 20 0 _ _ _ v
-- TradeTests$Tests.lastDay
set_option maxHeartbeats 20000000 in
set_option maxRecDepth 100000 in
theorem hp_19 {sc : Nat × (Nat → Int32)} {Q : Int32 → St → Prop}  {σ : St} (h : Ap (sp_19  σ) Q) : Ex sc CC 1 cd_19 Q 0 [some (.ref 3)] [] σ := by
  have v : ((σ 3 14) ≤ 0 → Q 0 σ) ∧ (¬ (σ 3 14) ≤ 0 → vp_in ((σ 3 14) - 1) 80 ∧ (Q (σ 26 ((σ 3 14) - 1).toNatClampNeg) σ)) := n_if h (fun h => n_rt h) (fun h => n_mb h (fun h => n_rt h))
  exact wpn_Ex (cuts := []) monCC (fun _ _ _ _ z => z) 13 0 _ _ _ v
-- TradeTests.isHow
set_option maxHeartbeats 20000000 in
set_option maxRecDepth 100000 in
theorem hp_20 {sc : Nat × (Nat → Int32)} {Q : Int32 → St → Prop} {x1 x2 : Int32} {σ : St} (h : Ap (sp_20 x1 x2 σ) Q) : Ex sc CC 2 cd_20 Q 0 [some (.int x1), some (.int x2), none] [] σ := by
  have v : (x2 < 0 → ((0 : Int32) = 0 ∨ (0 : Int32) = 1) ∧ Q 0 σ) ∧ (¬ x2 < 0 → ¬ (1000 : Int32) = 0 ∧ (((x2 - x2 / 1000 * 1000) < 512 → ¬ (1000 : Int32) = 0 ∧ (((x2 / 1000) < 1 → ((0 : Int32) = 0 ∨ (0 : Int32) = 1) ∧ Q 0 σ) ∧ (¬ (x2 / 1000) < 1 → (240 < (x2 / 1000) → ((0 : Int32) = 0 ∨ (0 : Int32) = 1) ∧ Q 0 σ) ∧ (¬ 240 < (x2 / 1000) → ¬ (10000 : Int32) = 0 ∧ ((1440 < ((x1 / 10000) + (x2 / 1000)) → ((0 : Int32) = 0 ∨ (0 : Int32) = 1) ∧ Q 0 σ) ∧ (¬ 1440 < ((x1 / 10000) + (x2 / 1000)) → ((1 : Int32) = 0 ∨ (1 : Int32) = 1) ∧ Q 1 σ)))))) ∧ (¬ (x2 - x2 / 1000 * 1000) < 512 → ((0 : Int32) = 0 ∨ (0 : Int32) = 1) ∧ Q 0 σ))) := n_if h (fun h => n_rb h) (fun h => n_mb h (fun h => n_if h (fun h => n_mb h (fun h => n_if h (fun h => n_rb h) (fun h => n_if h (fun h => n_rb h) (fun h => n_mb h (fun h => n_if h (fun h => n_rb h) (fun h => n_rb h)))))) (fun h => n_rb h)))
  exact wpn_Ex (cuts := []) monCC (fun _ _ _ _ z => z) 28 0 _ _ _ v
-- TradeTests$Tests.add
set_option maxHeartbeats 20000000 in
set_option maxRecDepth 100000 in
theorem hp_22 {sc : Nat × (Nat → Int32)} {Q : Int32 → St → Prop} {x1 x2 x3 x4 x5 : Int32} {σ : St} (h : Ap (sp_22 x1 x2 x3 x4 x5 σ) Q) : Ex sc CC 1 cd_22 Q 0 [some (.ref 3), some (.int x1), some (.int x2), some (.int x3), some (.int x4), some (.int x5)] [] σ := by
  have v : ¬ (100 : Int32) = 0 ∧ (vp_in (σ 3 14) 80 ∧ (¬ (100 : Int32) = 0 ∧ (vp_in (σ 3 14) 80 ∧ (¬ (10000 : Int32) = 0 ∧ (vp_in (σ 3 14) 80 ∧ (¬ (10000 : Int32) = 0 ∧ (vp_in (σ 3 14) 80 ∧ (¬ (1000 : Int32) = 0 ∧ (vp_in (σ 3 14) 80 ∧ (vp_in (σ 3 14) 80 ∧ (¬ (1000 : Int32) = 0 ∧ (vp_in (σ 3 14) 80 ∧ (¬ (1000 : Int32) = 0 ∧ (vp_in (σ 3 14) 80 ∧ (¬ (1000 : Int32) = 0 ∧ (¬ (256 : Int32) = 0 ∧ (vp_in (σ 3 14) 80 ∧ (¬ (1000 : Int32) = 0 ∧ (¬ (256 : Int32) = 0 ∧ (vp_in (σ 3 14) 80 ∧ (Q (((σ 3 14) + 1) - 1) (up (up (up (up (up (up (up (up (up (up (up σ 24 (σ 3 14).toNatClampNeg (x1 / 100)) 25 (σ 3 14).toNatClampNeg (x1 - x1 / 100 * 100)) 26 (σ 3 14).toNatClampNeg (x2 - x2 / 10000 * 10000)) 27 (σ 3 14).toNatClampNeg (x2 / 10000)) 28 (σ 3 14).toNatClampNeg (x3 / 1000)) 29 (σ 3 14).toNatClampNeg x4) 30 (σ 3 14).toNatClampNeg (x5 / 1000)) 31 (σ 3 14).toNatClampNeg (x5 - x5 / 1000 * 1000)) 32 (σ 3 14).toNatClampNeg ((x3 - x3 / 1000 * 1000) - (x3 - x3 / 1000 * 1000) / 256 * 256)) 33 (σ 3 14).toNatClampNeg ((x3 - x3 / 1000 * 1000) / 256)) 3 14 ((σ 3 14) + 1))))))))))))))))))))))) := n_mb h (fun h => n_mb h (fun h => n_mb h (fun h => n_mb h (fun h => n_mb h (fun h => n_mb h (fun h => n_mb h (fun h => n_mb h (fun h => n_mb h (fun h => n_mb h (fun h => n_mb h (fun h => n_mb h (fun h => n_mb h (fun h => n_mb h (fun h => n_mb h (fun h => n_mb h (fun h => n_mb h (fun h => n_mb h (fun h => n_mb h (fun h => n_mb h (fun h => n_mb h (fun h => n_rt h)))))))))))))))))))))
  exact wpn_Ex (cuts := []) monCC (fun _ _ _ _ z => z) 94 0 _ _ _ v
-- TradeTests$Tests.detail
set_option maxHeartbeats 20000000 in
set_option maxRecDepth 100000 in
theorem hp_25 {sc : Nat × (Nat → Int32)} {Q : Int32 → St → Prop} {x1 x2 : Int32} {σ : St} (h : Ap (sp_25 x1 x2 σ) Q) : Ex sc CC 1 cd_25 Q 0 [some (.ref 3), some (.int x1), some (.int x2)] [] σ := by
  have v : (x2 = 0 → vp_in x1 80 ∧ (Q (σ 24 (x1).toNatClampNeg) σ)) ∧ (¬ x2 = 0 → (x2 = 1 → vp_in x1 80 ∧ (Q (σ 25 (x1).toNatClampNeg) σ)) ∧ (¬ x2 = 1 → (x2 = 2 → vp_in x1 80 ∧ (Q (σ 26 (x1).toNatClampNeg) σ)) ∧ (¬ x2 = 2 → (x2 = 3 → vp_in x1 80 ∧ (Q (σ 27 (x1).toNatClampNeg) σ)) ∧ (¬ x2 = 3 → (x2 = 4 → vp_in x1 80 ∧ (Q (σ 28 (x1).toNatClampNeg) σ)) ∧ (¬ x2 = 4 → (x2 = 5 → vp_in x1 80 ∧ (Q (σ 29 (x1).toNatClampNeg) σ)) ∧ (¬ x2 = 5 → (x2 = 6 → vp_in x1 80 ∧ (Q (σ 30 (x1).toNatClampNeg) σ)) ∧ (¬ x2 = 6 → (x2 = 7 → vp_in x1 80 ∧ (Q (σ 31 (x1).toNatClampNeg) σ)) ∧ (¬ x2 = 7 → (x2 = 8 → vp_in x1 80 ∧ (Q (σ 32 (x1).toNatClampNeg) σ)) ∧ (¬ x2 = 8 → vp_in x1 80 ∧ (Q (σ 33 (x1).toNatClampNeg) σ)))))))))) := n_if h (fun h => n_mb h (fun h => n_rt h)) (fun h => n_if h (fun h => n_mb h (fun h => n_rt h)) (fun h => n_if h (fun h => n_mb h (fun h => n_rt h)) (fun h => n_if h (fun h => n_mb h (fun h => n_rt h)) (fun h => n_if h (fun h => n_mb h (fun h => n_rt h)) (fun h => n_if h (fun h => n_mb h (fun h => n_rt h)) (fun h => n_if h (fun h => n_mb h (fun h => n_rt h)) (fun h => n_if h (fun h => n_mb h (fun h => n_rt h)) (fun h => n_if h (fun h => n_mb h (fun h => n_rt h)) (fun h => n_mb h (fun h => n_rt h))))))))))
  exact wpn_Ex (cuts := []) monCC (fun _ _ _ _ z => z) 8 0 _ _ _ v
-- TradeTests$Texts.addByte
set_option maxHeartbeats 20000000 in
set_option maxRecDepth 100000 in
theorem hp_27 {sc : Nat × (Nat → Int32)} {Q : Int32 → St → Prop} {x1 : Int32} {σ : St} (h : Ap (sp_27 x1 σ) Q) : Ex sc CC 1 cd_27 Q 0 [some (.ref 4), some (.int x1)] [] σ := by
  have v : vp_in (σ 4 1) 60 ∧ (Q ((σ 4 1) + 1) (up (up σ 38 (σ 4 1).toNatClampNeg x1) 4 1 ((σ 4 1) + 1))) := n_mb h (fun h => n_rt h)
  exact wpn_Ex (cuts := []) monCC (fun _ _ _ _ z => z) 16 0 _ _ _ v
-- TradeTests$Texts.clearNext
set_option maxHeartbeats 20000000 in
set_option maxRecDepth 100000 in
theorem hl_30_23 {sc : Nat × (Nat → Int32)} {Q : Int32 → St → Prop} : ∀ (n : Nat) (v1 : Int32) (σ : St), Ap (lp_30_23 n v1 σ) Q → Ex sc CC 0 cd_30 Q 23 [some (.ref 4), some (.int v1)] [] σ := by
  intro n
  induction n with
  | zero => intro v1 σ h; exact n_no h
  | succ n ih =>
    intro v1 σ h
    have v : (4 ≤ v1 → Q 0 σ) ∧ (¬ 4 ≤ v1 → vp_in (((σ 4 7) * 4) + v1) 24 ∧ (Ex sc CC 0 cd_30 Q 23 [some (.ref 4), some (.int (v1 + 1))] [] (up σ 42 (((σ 4 7) * 4) + v1).toNatClampNeg 0))) := n_if h (fun h => n_rt h) (fun h => n_mb h (fun h => ih (v1 + 1) (up σ 42 (((σ 4 7) * 4) + v1).toNatClampNeg 0) h))
    exact stw_Ex (cuts := [23]) monCC 16 v
set_option maxHeartbeats 20000000 in
set_option maxRecDepth 100000 in
theorem hp_30 {sc : Nat × (Nat → Int32)} {Q : Int32 → St → Prop}  {σ : St} (h : Ap (sp_30  σ) Q) : Ex sc CC 0 cd_30 Q 0 [some (.ref 4), none] [] σ := by
  have v : vp_in (σ 4 7) 6 ∧ (vp_in (σ 4 7) 6 ∧ (Ex sc CC 0 cd_30 Q 23 [some (.ref 4), some (.int 0)] [] (up (up σ 40 (σ 4 7).toNatClampNeg 0) 41 (σ 4 7).toNatClampNeg 100))) := n_mb h (fun h => n_mb h (fun h => hl_30_23 FU 0 (up (up σ 40 (σ 4 7).toNatClampNeg 0) 41 (σ 4 7).toNatClampNeg 100) h))
  exact wpn_Ex (cuts := [23]) monCC (fun _ _ _ _ z => z) 16 0 _ _ _ v
-- TradeTests$Texts.next
set_option maxHeartbeats 20000000 in
set_option maxRecDepth 100000 in
theorem hp_33 {sc : Nat × (Nat → Int32)} {Q : Int32 → St → Prop}  {σ : St} (h : Ap (sp_33  σ) Q) : Ex sc CC 1 cd_33 Q 0 [some (.ref 4)] [] σ := by
  have v : ((σ 4 1) ≤ (σ 4 2) → Q (-1) σ) ∧ (¬ (σ 4 1) ≤ (σ 4 2) → vp_in (σ 4 2) 60 ∧ (Q (σ 38 (σ 4 2).toNatClampNeg) σ)) := n_if h (fun h => n_rt h) (fun h => n_mb h (fun h => n_rt h))
  exact wpn_Ex (cuts := []) monCC (fun _ _ _ _ z => z) 13 0 _ _ _ v
-- TradeTests$Texts.isDigit
set_option maxHeartbeats 20000000 in
set_option maxRecDepth 100000 in
theorem hp_35 {sc : Nat × (Nat → Int32)} {Q : Int32 → St → Prop} {x1 x2 : Int32} {σ : St} (h : Ap (sp_35 x1 x2 σ) Q) : Ex sc CC 2 cd_35 Q 0 [some (.int x1), some (.int x2)] [] σ := by
  have v : (x1 < 48 → ((0 : Int32) = 0 ∨ (0 : Int32) = 1) ∧ Q 0 σ) ∧ (¬ x1 < 48 → (x2 < x1 → ((0 : Int32) = 0 ∨ (0 : Int32) = 1) ∧ Q 0 σ) ∧ (¬ x2 < x1 → ((1 : Int32) = 0 ∨ (1 : Int32) = 1) ∧ Q 1 σ)) := n_if h (fun h => n_rb h) (fun h => n_if h (fun h => n_rb h) (fun h => n_rb h))
  exact wpn_Ex (cuts := []) monCC (fun _ _ _ _ z => z) 10 0 _ _ _ v
-- TradeTests$Texts.kindOf
set_option maxHeartbeats 20000000 in
set_option maxRecDepth 100000 in
theorem hp_36 {sc : Nat × (Nat → Int32)} {Q : Int32 → St → Prop} {x1 : Int32} {σ : St} (h : Ap (sp_36 x1 σ) Q) : Ex sc CC 1 cd_36 Q 0 [some (.int x1)] [] σ := by
  have v : (x1 = 99 → Q 1 σ) ∧ (¬ x1 = 99 → (x1 = 114 → Q 3 σ) ∧ (¬ x1 = 114 → (x1 = 116 → Q 2 σ) ∧ (¬ x1 = 116 → (x1 = 118 → Q 0 σ) ∧ (¬ x1 = 118 → Q (-1) σ)))) := n_if h (fun h => n_rt h) (fun h => n_if h (fun h => n_rt h) (fun h => n_if h (fun h => n_rt h) (fun h => n_if h (fun h => n_rt h) (fun h => n_rt h))))
  exact wpn_Ex (cuts := []) monCC (fun _ _ _ _ z => z) 5 0 _ _ _ v
-- TradeTests$Texts.inForce
set_option maxHeartbeats 20000000 in
set_option maxRecDepth 100000 in
theorem hl_40_7 {sc : Nat × (Nat → Int32)} {Q : Int32 → St → Prop} : ∀ (n : Nat) (v1 : Int32) (v2 : Int32) (σ : St), Ap (lp_40_7 n v1 v2 σ) Q → Ex sc CC 1 cd_40 Q 7 [some (.ref 4), some (.int v1), some (.int v2)] [] σ := by
  intro n
  induction n with
  | zero => intro v1 v2 σ h; exact n_no h
  | succ n ih =>
    intro v1 v2 σ h
    have v : (v2 < 0 → Q (-1) σ) ∧ (¬ v2 < 0 → vp_in v2 6 ∧ ((v1 < (σ 39 (v2).toNatClampNeg) → Ex sc CC 1 cd_40 Q 7 [some (.ref 4), some (.int v1), some (.int (v2 + (-1)))] [] σ) ∧ (¬ v1 < (σ 39 (v2).toNatClampNeg) → Q v2 σ))) := n_if h (fun h => n_rt h) (fun h => n_mb h (fun h => n_if h (fun h => ih v1 (v2 + (-1)) σ h) (fun h => n_rt h)))
    exact stw_Ex (cuts := [7]) monCC 11 v
set_option maxHeartbeats 20000000 in
set_option maxRecDepth 100000 in
theorem hp_40 {sc : Nat × (Nat → Int32)} {Q : Int32 → St → Prop} {x1 : Int32} {σ : St} (h : Ap (sp_40 x1 σ) Q) : Ex sc CC 1 cd_40 Q 0 [some (.ref 4), some (.int x1), none] [] σ := by
  have v : Ex sc CC 1 cd_40 Q 7 [some (.ref 4), some (.int x1), some (.int ((σ 4 7) - 1))] [] σ := hl_40_7 FU x1 ((σ 4 7) - 1) σ h
  exact wpn_Ex (cuts := [7]) monCC (fun _ _ _ _ z => z) 7 0 _ _ _ v
-- TradeTests$Texts.failing
set_option maxHeartbeats 20000000 in
set_option maxRecDepth 100000 in
theorem hp_41 {sc : Nat × (Nat → Int32)} {Q : Int32 → St → Prop} {x1 x2 : Int32} {σ : St} (h : Ap (sp_41 x1 x2 σ) Q) : Ex sc CC 1 cd_41 Q 0 [some (.ref 4), some (.int x1), some (.int x2)] [] σ := by
  have v : vp_in ((x1 * 4) + x2) 24 ∧ (Q (σ 42 ((x1 * 4) + x2).toNatClampNeg) σ) := n_mb h (fun h => n_rt h)
  exact wpn_Ex (cuts := []) monCC (fun _ _ _ _ z => z) 10 0 _ _ _ v
-- TradeTests$Judge.brakesDo
set_option maxHeartbeats 20000000 in
set_option maxRecDepth 100000 in
theorem hp_44 {sc : Nat × (Nat → Int32)} {Q : Int32 → St → Prop} {x1 x2 x3 : Int32} {σ : St} (h : Ap (sp_44 x1 x2 x3 σ) Q) : Ex sc CC 2 cd_44 Q 0 [some (.ref 5), some (.int x1), some (.int x2), some (.int x3), none, none] [] σ := by
  have v : (x3 ≤ x2 → (x3 ≤ x2 → vp_in x1 6 ∧ ((x3 < (σ 40 (x1).toNatClampNeg) → ((0 : Int32) = 0 ∨ (0 : Int32) = 1) ∧ Q 0 σ) ∧ (¬ x3 < (σ 40 (x1).toNatClampNeg) → vp_in x1 6 ∧ (((x3 * 100) < (((100 : Int32) - (σ 41 (x1).toNatClampNeg)) * x2) → ((0 : Int32) = 0 ∨ (0 : Int32) = 1) ∧ Q 0 σ) ∧ (¬ (x3 * 100) < (((100 : Int32) - (σ 41 (x1).toNatClampNeg)) * x2) → ((1 : Int32) = 0 ∨ (1 : Int32) = 1) ∧ Q 1 σ))))) ∧ (¬ x3 ≤ x2 → vp_in x1 6 ∧ ((x3 < (σ 40 (x1).toNatClampNeg) → ((0 : Int32) = 0 ∨ (0 : Int32) = 1) ∧ Q 0 σ) ∧ (¬ x3 < (σ 40 (x1).toNatClampNeg) → vp_in x1 6 ∧ (((x3 * 100) < (((100 : Int32) - (σ 41 (x1).toNatClampNeg)) * x3) → ((0 : Int32) = 0 ∨ (0 : Int32) = 1) ∧ Q 0 σ) ∧ (¬ (x3 * 100) < (((100 : Int32) - (σ 41 (x1).toNatClampNeg)) * x3) → ((1 : Int32) = 0 ∨ (1 : Int32) = 1) ∧ Q 1 σ)))))) ∧ (¬ x3 ≤ x2 → (x3 ≤ x2 → vp_in x1 6 ∧ ((x2 < (σ 40 (x1).toNatClampNeg) → ((0 : Int32) = 0 ∨ (0 : Int32) = 1) ∧ Q 0 σ) ∧ (¬ x2 < (σ 40 (x1).toNatClampNeg) → vp_in x1 6 ∧ (((x2 * 100) < (((100 : Int32) - (σ 41 (x1).toNatClampNeg)) * x2) → ((0 : Int32) = 0 ∨ (0 : Int32) = 1) ∧ Q 0 σ) ∧ (¬ (x2 * 100) < (((100 : Int32) - (σ 41 (x1).toNatClampNeg)) * x2) → ((1 : Int32) = 0 ∨ (1 : Int32) = 1) ∧ Q 1 σ))))) ∧ (¬ x3 ≤ x2 → vp_in x1 6 ∧ ((x2 < (σ 40 (x1).toNatClampNeg) → ((0 : Int32) = 0 ∨ (0 : Int32) = 1) ∧ Q 0 σ) ∧ (¬ x2 < (σ 40 (x1).toNatClampNeg) → vp_in x1 6 ∧ (((x2 * 100) < (((100 : Int32) - (σ 41 (x1).toNatClampNeg)) * x3) → ((0 : Int32) = 0 ∨ (0 : Int32) = 1) ∧ Q 0 σ) ∧ (¬ (x2 * 100) < (((100 : Int32) - (σ 41 (x1).toNatClampNeg)) * x3) → ((1 : Int32) = 0 ∨ (1 : Int32) = 1) ∧ Q 1 σ)))))) := n_if h (fun h => n_if h (fun h => n_mb h (fun h => n_if h (fun h => n_rb h) (fun h => n_mb h (fun h => n_if h (fun h => n_rb h) (fun h => n_rb h))))) (fun h => n_mb h (fun h => n_if h (fun h => n_rb h) (fun h => n_mb h (fun h => n_if h (fun h => n_rb h) (fun h => n_rb h)))))) (fun h => n_if h (fun h => n_mb h (fun h => n_if h (fun h => n_rb h) (fun h => n_mb h (fun h => n_if h (fun h => n_rb h) (fun h => n_rb h))))) (fun h => n_mb h (fun h => n_if h (fun h => n_rb h) (fun h => n_mb h (fun h => n_if h (fun h => n_rb h) (fun h => n_rb h))))))
  exact wpn_Ex (cuts := []) monCC (fun _ _ _ _ z => z) 36 0 _ _ _ v
-- TradeTests$Signals.isQuick
set_option maxHeartbeats 20000000 in
set_option maxRecDepth 100000 in
theorem hp_54 {sc : Nat × (Nat → Int32)} {Q : Int32 → St → Prop} {x1 : Int32} {σ : St} (h : Ap (sp_54 x1 σ) Q) : Ex sc CC 2 cd_54 Q 0 [some (.ref 6), some (.int x1)] [] σ := by
  have v : vp_in x1 80 ∧ (vp_in x1 80 ∧ (vp_in (σ 24 (x1).toNatClampNeg) 24 ∧ (vp_in (σ 15 (σ 24 (x1).toNatClampNeg).toNatClampNeg) 4 ∧ ((((sV 1).getD (σ 15 (σ 24 (x1).toNatClampNeg).toNatClampNeg).toNatClampNeg 0) ≤ (σ 28 (x1).toNatClampNeg) → ((0 : Int32) = 0 ∨ (0 : Int32) = 1) ∧ Q 0 σ) ∧ (¬ ((sV 1).getD (σ 15 (σ 24 (x1).toNatClampNeg).toNatClampNeg).toNatClampNeg 0) ≤ (σ 28 (x1).toNatClampNeg) → ((1 : Int32) = 0 ∨ (1 : Int32) = 1) ∧ Q 1 σ))))) := n_mb h (fun h => n_mb h (fun h => n_mb h (fun h => n_mb h (fun h => n_if h (fun h => n_rb h) (fun h => n_rb h)))))
  exact wpn_Ex (cuts := []) monCC (fun _ _ _ _ z => z) 21 0 _ _ _ v
-- TradeTests$Signals.isMeeting
set_option maxHeartbeats 20000000 in
set_option maxRecDepth 100000 in
theorem hp_56 {sc : Nat × (Nat → Int32)} {Q : Int32 → St → Prop} {x1 x2 : Int32} {σ : St} (h : Ap (sp_56 x1 x2 σ) Q) : Ex sc CC 2 cd_56 Q 0 [some (.ref 6), some (.int x1), some (.int x2)] [] σ := by
  have v : vp_in x1 80 ∧ (vp_in x2 80 ∧ ((¬ (σ 26 (x1).toNatClampNeg) = (σ 26 (x2).toNatClampNeg) → ((0 : Int32) = 0 ∨ (0 : Int32) = 1) ∧ Q 0 σ) ∧ ((σ 26 (x1).toNatClampNeg) = (σ 26 (x2).toNatClampNeg) → vp_in x1 80 ∧ (vp_in x2 80 ∧ (vp_in x2 80 ∧ ((((σ 27 (x2).toNatClampNeg) + (σ 28 (x2).toNatClampNeg)) ≤ (σ 27 (x1).toNatClampNeg) → ((0 : Int32) = 0 ∨ (0 : Int32) = 1) ∧ Q 0 σ) ∧ (¬ ((σ 27 (x2).toNatClampNeg) + (σ 28 (x2).toNatClampNeg)) ≤ (σ 27 (x1).toNatClampNeg) → vp_in x2 80 ∧ (vp_in x1 80 ∧ (vp_in x1 80 ∧ ((((σ 27 (x1).toNatClampNeg) + (σ 28 (x1).toNatClampNeg)) ≤ (σ 27 (x2).toNatClampNeg) → ((0 : Int32) = 0 ∨ (0 : Int32) = 1) ∧ Q 0 σ) ∧ (¬ ((σ 27 (x1).toNatClampNeg) + (σ 28 (x1).toNatClampNeg)) ≤ (σ 27 (x2).toNatClampNeg) → ((1 : Int32) = 0 ∨ (1 : Int32) = 1) ∧ Q 1 σ))))))))))) := n_mb h (fun h => n_mb h (fun h => n_ne h (fun h => n_mb h (fun h => n_mb h (fun h => n_mb h (fun h => n_if h (fun h => n_rb h) (fun h => n_mb h (fun h => n_mb h (fun h => n_mb h (fun h => n_if h (fun h => n_rb h) (fun h => n_rb h))))))))) (fun h => n_rb h)))
  exact wpn_Ex (cuts := []) monCC (fun _ _ _ _ z => z) 49 0 _ _ _ v
-- java/lang/Integer.bitCount
set_option maxHeartbeats 20000000 in
set_option maxRecDepth 100000 in
theorem hp_59 {sc : Nat × (Nat → Int32)} {Q : Int32 → St → Prop} {x1 : Int32} {σ : St} (h : Ap (sp_59 x1 σ) Q) : Ex sc CC 1 cd_59 Q 0 [some (.int x1)] [] σ := by
  have v : Q ((((((((x1 - (((x1.toUInt32 >>> ((1 : Int32).toUInt32 &&& Int32.toUInt32 31)).toInt32) &&& 1431655765)) &&& 858993459) + ((((x1 - (((x1.toUInt32 >>> ((1 : Int32).toUInt32 &&& Int32.toUInt32 31)).toInt32) &&& 1431655765)).toUInt32 >>> ((2 : Int32).toUInt32 &&& Int32.toUInt32 31)).toInt32) &&& 858993459)) + (((((x1 - (((x1.toUInt32 >>> ((1 : Int32).toUInt32 &&& Int32.toUInt32 31)).toInt32) &&& 1431655765)) &&& 858993459) + ((((x1 - (((x1.toUInt32 >>> ((1 : Int32).toUInt32 &&& Int32.toUInt32 31)).toInt32) &&& 1431655765)).toUInt32 >>> ((2 : Int32).toUInt32 &&& Int32.toUInt32 31)).toInt32) &&& 858993459)).toUInt32 >>> ((4 : Int32).toUInt32 &&& Int32.toUInt32 31)).toInt32)) &&& 252645135) + (((((((x1 - (((x1.toUInt32 >>> ((1 : Int32).toUInt32 &&& Int32.toUInt32 31)).toInt32) &&& 1431655765)) &&& 858993459) + ((((x1 - (((x1.toUInt32 >>> ((1 : Int32).toUInt32 &&& Int32.toUInt32 31)).toInt32) &&& 1431655765)).toUInt32 >>> ((2 : Int32).toUInt32 &&& Int32.toUInt32 31)).toInt32) &&& 858993459)) + (((((x1 - (((x1.toUInt32 >>> ((1 : Int32).toUInt32 &&& Int32.toUInt32 31)).toInt32) &&& 1431655765)) &&& 858993459) + ((((x1 - (((x1.toUInt32 >>> ((1 : Int32).toUInt32 &&& Int32.toUInt32 31)).toInt32) &&& 1431655765)).toUInt32 >>> ((2 : Int32).toUInt32 &&& Int32.toUInt32 31)).toInt32) &&& 858993459)).toUInt32 >>> ((4 : Int32).toUInt32 &&& Int32.toUInt32 31)).toInt32)) &&& 252645135).toUInt32 >>> ((8 : Int32).toUInt32 &&& Int32.toUInt32 31)).toInt32)) + ((((((((x1 - (((x1.toUInt32 >>> ((1 : Int32).toUInt32 &&& Int32.toUInt32 31)).toInt32) &&& 1431655765)) &&& 858993459) + ((((x1 - (((x1.toUInt32 >>> ((1 : Int32).toUInt32 &&& Int32.toUInt32 31)).toInt32) &&& 1431655765)).toUInt32 >>> ((2 : Int32).toUInt32 &&& Int32.toUInt32 31)).toInt32) &&& 858993459)) + (((((x1 - (((x1.toUInt32 >>> ((1 : Int32).toUInt32 &&& Int32.toUInt32 31)).toInt32) &&& 1431655765)) &&& 858993459) + ((((x1 - (((x1.toUInt32 >>> ((1 : Int32).toUInt32 &&& Int32.toUInt32 31)).toInt32) &&& 1431655765)).toUInt32 >>> ((2 : Int32).toUInt32 &&& Int32.toUInt32 31)).toInt32) &&& 858993459)).toUInt32 >>> ((4 : Int32).toUInt32 &&& Int32.toUInt32 31)).toInt32)) &&& 252645135) + (((((((x1 - (((x1.toUInt32 >>> ((1 : Int32).toUInt32 &&& Int32.toUInt32 31)).toInt32) &&& 1431655765)) &&& 858993459) + ((((x1 - (((x1.toUInt32 >>> ((1 : Int32).toUInt32 &&& Int32.toUInt32 31)).toInt32) &&& 1431655765)).toUInt32 >>> ((2 : Int32).toUInt32 &&& Int32.toUInt32 31)).toInt32) &&& 858993459)) + (((((x1 - (((x1.toUInt32 >>> ((1 : Int32).toUInt32 &&& Int32.toUInt32 31)).toInt32) &&& 1431655765)) &&& 858993459) + ((((x1 - (((x1.toUInt32 >>> ((1 : Int32).toUInt32 &&& Int32.toUInt32 31)).toInt32) &&& 1431655765)).toUInt32 >>> ((2 : Int32).toUInt32 &&& Int32.toUInt32 31)).toInt32) &&& 858993459)).toUInt32 >>> ((4 : Int32).toUInt32 &&& Int32.toUInt32 31)).toInt32)) &&& 252645135).toUInt32 >>> ((8 : Int32).toUInt32 &&& Int32.toUInt32 31)).toInt32)).toUInt32 >>> ((16 : Int32).toUInt32 &&& Int32.toUInt32 31)).toInt32)) &&& 63) σ := n_rt h
  exact wpn_Ex (cuts := []) monCC (fun _ _ _ _ z => z) 43 0 _ _ _ v
-- TradeTests$Secrets.isVisited
set_option maxHeartbeats 20000000 in
set_option maxRecDepth 100000 in
theorem hp_61 {sc : Nat × (Nat → Int32)} {Q : Int32 → St → Prop} {x1 : Int32} {σ : St} (h : Ap (sp_61 x1 σ) Q) : Ex sc CC 2 cd_61 Q 0 [some (.ref 9), some (.int x1)] [] σ := by
  have v : vp_in x1 80 ∧ (((σ 35 (x1).toNatClampNeg) ≤ 0 → ((0 : Int32) = 0 ∨ (0 : Int32) = 1) ∧ Q 0 σ) ∧ (¬ (σ 35 (x1).toNatClampNeg) ≤ 0 → ((1 : Int32) = 0 ∨ (1 : Int32) = 1) ∧ Q 1 σ)) := n_mb h (fun h => n_if h (fun h => n_rb h) (fun h => n_rb h))
  exact wpn_Ex (cuts := []) monCC (fun _ _ _ _ z => z) 10 0 _ _ _ v
-- TradeTests$Vehicles.ageClass
set_option maxHeartbeats 20000000 in
set_option maxRecDepth 100000 in
theorem hp_65 {sc : Nat × (Nat → Int32)} {Q : Int32 → St → Prop} {x1 x2 : Int32} {σ : St} (h : Ap (sp_65 x1 x2 σ) Q) : Ex sc CC 1 cd_65 Q 0 [some (.ref 1), some (.int x1), some (.int x2), none] [] σ := by
  have v : vp_in x1 24 ∧ (¬ (365 : Int32) = 0 ∧ ((3 ≤ ((x2 - (σ 17 (x1).toNatClampNeg)) / 365) → (6 ≤ ((x2 - (σ 17 (x1).toNatClampNeg)) / 365) → (10 ≤ ((x2 - (σ 17 (x1).toNatClampNeg)) / 365) → Q 3 σ) ∧ (¬ 10 ≤ ((x2 - (σ 17 (x1).toNatClampNeg)) / 365) → Q 2 σ)) ∧ (¬ 6 ≤ ((x2 - (σ 17 (x1).toNatClampNeg)) / 365) → Q 1 σ)) ∧ (¬ 3 ≤ ((x2 - (σ 17 (x1).toNatClampNeg)) / 365) → Q 0 σ))) := n_mb h (fun h => n_mb h (fun h => n_if h (fun h => n_if h (fun h => n_if h (fun h => n_rt h) (fun h => n_rt h)) (fun h => n_rt h)) (fun h => n_rt h)))
  exact wpn_Ex (cuts := []) monCC (fun _ _ _ _ z => z) 22 0 _ _ _ v
-- TradeTests$Rates.cellShare
set_option maxHeartbeats 20000000 in
set_option maxRecDepth 100000 in
theorem hp_67 {sc : Nat × (Nat → Int32)} {Q : Int32 → St → Prop} {x1 : Int32} {σ : St} (h : Ap (sp_67 x1 σ) Q) : Ex sc CC 1 cd_67 Q 0 [some (.ref 7), some (.int x1)] [] σ := by
  have v : vp_in x1 16 ∧ (((σ 43 (x1).toNatClampNeg) ≤ 0 → Q (-1) σ) ∧ (¬ (σ 43 (x1).toNatClampNeg) ≤ 0 → vp_in x1 16 ∧ (vp_in x1 16 ∧ (¬ (σ 43 (x1).toNatClampNeg) = 0 ∧ (Q (((1000 : Int32) * (σ 44 (x1).toNatClampNeg)) / (σ 43 (x1).toNatClampNeg)) σ))))) := n_mb h (fun h => n_if h (fun h => n_rt h) (fun h => n_mb h (fun h => n_mb h (fun h => n_mb h (fun h => n_rt h)))))
  exact wpn_Ex (cuts := []) monCC (fun _ _ _ _ z => z) 19 0 _ _ _ v
-- TradeTests$Rates.more
set_option maxHeartbeats 20000000 in
set_option maxRecDepth 100000 in
theorem hp_68 {sc : Nat × (Nat → Int32)} {Q : Int32 → St → Prop}  {σ : St} (h : Ap (sp_68  σ) Q) : Ex sc CC 1 cd_68 Q 0 [some (.ref 7)] [] σ := by
  have v : Q (((1000 : Int32) * (σ 7 6)) - (σ 7 7)) σ := n_rt h
  exact wpn_Ex (cuts := []) monCC (fun _ _ _ _ z => z) 9 0 _ _ _ v
-- TradeTests$Odometer.milesAhead
set_option maxHeartbeats 20000000 in
set_option maxRecDepth 100000 in
theorem hl_77_4 {sc : Nat × (Nat → Int32)} {Q : Int32 → St → Prop} : ∀ (n : Nat) (v1 : Int32) (v2 : Int32) (σ : St), Ap (lp_77_4 n v1 v2 σ) Q → Ex sc CC 1 cd_77 Q 4 [some (.ref 8), some (.int v1), some (.int v2)] [] σ := by
  intro n
  induction n with
  | zero => intro v1 v2 σ h; exact n_no h
  | succ n ih =>
    intro v1 v2 σ h
    have v : (v2 < 0 → Q 0 σ) ∧ (¬ v2 < 0 → vp_in v2 80 ∧ (vp_in v1 80 ∧ ((¬ (σ 24 (v2).toNatClampNeg) = (σ 24 (v1).toNatClampNeg) → Ex sc CC 1 cd_77 Q 4 [some (.ref 8), some (.int v1), some (.int (v2 + (-1)))] [] σ) ∧ ((σ 24 (v2).toNatClampNeg) = (σ 24 (v1).toNatClampNeg) → vp_in v2 80 ∧ (Q (σ 29 (v2).toNatClampNeg) σ))))) := n_if h (fun h => n_rt h) (fun h => n_mb h (fun h => n_mb h (fun h => n_ne h (fun h => n_mb h (fun h => n_rt h)) (fun h => ih v1 (v2 + (-1)) σ h))))
    exact stw_Ex (cuts := [4]) monCC 19 v
set_option maxHeartbeats 20000000 in
set_option maxRecDepth 100000 in
theorem hp_77 {sc : Nat × (Nat → Int32)} {Q : Int32 → St → Prop} {x1 : Int32} {σ : St} (h : Ap (sp_77 x1 σ) Q) : Ex sc CC 1 cd_77 Q 0 [some (.ref 8), some (.int x1), none] [] σ := by
  have v : Ex sc CC 1 cd_77 Q 4 [some (.ref 8), some (.int x1), some (.int (x1 - 1))] [] σ := hl_77_4 FU x1 (x1 - 1) σ h
  exact wpn_Ex (cuts := [4]) monCC (fun _ _ _ _ z => z) 6 0 _ _ _ v
-- TradeTests$Odometer.milesBehind
set_option maxHeartbeats 20000000 in
set_option maxRecDepth 100000 in
theorem hl_78_4 {sc : Nat × (Nat → Int32)} {Q : Int32 → St → Prop} : ∀ (n : Nat) (v1 : Int32) (v2 : Int32) (σ : St), Ap (lp_78_4 n v1 v2 σ) Q → Ex sc CC 1 cd_78 Q 4 [some (.ref 8), some (.int v1), some (.int v2)] [] σ := by
  intro n
  induction n with
  | zero => intro v1 v2 σ h; exact n_no h
  | succ n ih =>
    intro v1 v2 σ h
    have v : ((σ 3 14) ≤ v2 → Q 999999 σ) ∧ (¬ (σ 3 14) ≤ v2 → vp_in v2 80 ∧ (vp_in v1 80 ∧ ((¬ (σ 24 (v2).toNatClampNeg) = (σ 24 (v1).toNatClampNeg) → Ex sc CC 1 cd_78 Q 4 [some (.ref 8), some (.int v1), some (.int (v2 + 1))] [] σ) ∧ ((σ 24 (v2).toNatClampNeg) = (σ 24 (v1).toNatClampNeg) → vp_in v2 80 ∧ (Q (σ 29 (v2).toNatClampNeg) σ))))) := n_if h (fun h => n_rt h) (fun h => n_mb h (fun h => n_mb h (fun h => n_ne h (fun h => n_mb h (fun h => n_rt h)) (fun h => ih v1 (v2 + 1) σ h))))
    exact stw_Ex (cuts := [4]) monCC 22 v
set_option maxHeartbeats 20000000 in
set_option maxRecDepth 100000 in
theorem hp_78 {sc : Nat × (Nat → Int32)} {Q : Int32 → St → Prop} {x1 : Int32} {σ : St} (h : Ap (sp_78 x1 σ) Q) : Ex sc CC 1 cd_78 Q 0 [some (.ref 8), some (.int x1), none] [] σ := by
  have v : Ex sc CC 1 cd_78 Q 4 [some (.ref 8), some (.int x1), some (.int (x1 + 1))] [] σ := hl_78_4 FU x1 (x1 + 1) σ h
  exact wpn_Ex (cuts := [4]) monCC (fun _ _ _ _ z => z) 6 0 _ _ _ v
-- TradeTests$Odometer.isTyped
set_option maxHeartbeats 20000000 in
set_option maxRecDepth 100000 in
theorem hl_79_31 {sc : Nat × (Nat → Int32)} {Q : Int32 → St → Prop} (ko : Int32 → Int32 → Int32 → Int32 → St → MR) (hko : ∀ (v0 : Int32) (v1 : Int32) (v2 : Int32) (v3 : Int32) (σ : St), Ap (ko v0 v1 v2 v3 σ) Q → Ex sc CC 2 cd_79 Q 2 [some (.int v0), some (.int v1), some (.int v2), some (.int v3), none, none] [] σ) : ∀ (n : Nat) (v0 : Int32) (v1 : Int32) (v2 : Int32) (v3 : Int32) (v4 : Int32) (v5 : Int32) (σ : St), Ap (lp_79_31 ko n v0 v1 v2 v3 v4 v5 σ) Q → Ex sc CC 2 cd_79 Q 31 [some (.int v0), some (.int v1), some (.int v2), some (.int v3), some (.int v4), some (.int v5)] [] σ := by
  intro n
  induction n with
  | zero => intro v0 v1 v2 v3 v4 v5 σ h; exact n_no h
  | succ n ih =>
    intro v0 v1 v2 v3 v4 v5 σ h
    have v : (10 ≤ v5 → Ex sc CC 2 cd_79 Q 2 [some (.int v0), some (.int v1), some (.int v2), some (.int (v3 * 10)), some (.int v4), some (.int v5)] [] σ) ∧ (¬ 10 ≤ v5 → ((v4 + v3) < v1 → Ex sc CC 2 cd_79 Q 31 [some (.int v0), some (.int v1), some (.int v2), some (.int v3), some (.int (v4 + v3)), some (.int (v5 + 1))] [] σ) ∧ (¬ (v4 + v3) < v1 → (v2 < (v4 + v3) → Ex sc CC 2 cd_79 Q 31 [some (.int v0), some (.int v1), some (.int v2), some (.int v3), some (.int (v4 + v3)), some (.int (v5 + 1))] [] σ) ∧ (¬ v2 < (v4 + v3) → ((1 : Int32) = 0 ∨ (1 : Int32) = 1) ∧ Q 1 σ))) := n_if h (fun h => Ex_fg [true, true, true, true, false, false] (hko v0 v1 v2 (v3 * 10) σ h)) (fun h => n_if h (fun h => ih v0 v1 v2 v3 (v4 + v3) (v5 + 1) σ h) (fun h => n_if h (fun h => ih v0 v1 v2 v3 (v4 + v3) (v5 + 1) σ h) (fun h => n_rb h)))
    exact stw_Ex (cuts := [2, 31]) monCC 16 v
set_option maxHeartbeats 20000000 in
set_option maxRecDepth 100000 in
theorem hl_79_2 {sc : Nat × (Nat → Int32)} {Q : Int32 → St → Prop} : ∀ (n : Nat) (v0 : Int32) (v1 : Int32) (v2 : Int32) (v3 : Int32) (σ : St), Ap (lp_79_2 n v0 v1 v2 v3 σ) Q → Ex sc CC 2 cd_79 Q 2 [some (.int v0), some (.int v1), some (.int v2), some (.int v3), none, none] [] σ := by
  intro n
  induction n with
  | zero => intro v0 v1 v2 v3 σ h; exact n_no h
  | succ n ih =>
    intro v0 v1 v2 v3 σ h
    have v : (1000000 ≤ v3 → ((0 : Int32) = 0 ∨ (0 : Int32) = 1) ∧ Q 0 σ) ∧ (¬ 1000000 ≤ v3 → (v3 = 1 → ¬ v3 = 0 ∧ (¬ (10 : Int32) = 0 ∧ (Ex sc CC 2 cd_79 Q 31 [some (.int v0), some (.int v1), some (.int v2), some (.int v3), some (.int v0), some (.int (((v0 / v3) - (v0 / v3) / 10 * 10) + 1))] [] σ))) ∧ (¬ v3 = 1 → (v0 < v3 → ((0 : Int32) = 0 ∨ (0 : Int32) = 1) ∧ Q 0 σ) ∧ (¬ v0 < v3 → ¬ v3 = 0 ∧ (¬ (10 : Int32) = 0 ∧ (Ex sc CC 2 cd_79 Q 31 [some (.int v0), some (.int v1), some (.int v2), some (.int v3), some (.int v0), some (.int (((v0 / v3) - (v0 / v3) / 10 * 10) + 1))] [] σ))))) := n_if h (fun h => n_rb h) (fun h => n_if h (fun h => n_mb h (fun h => n_mb h (fun h => hl_79_31 (fun v0 v1 v2 v3 σ => lp_79_2 n v0 v1 v2 v3 σ) ih FU v0 v1 v2 v3 v0 (((v0 / v3) - (v0 / v3) / 10 * 10) + 1) σ h))) (fun h => n_if h (fun h => n_rb h) (fun h => n_mb h (fun h => n_mb h (fun h => hl_79_31 (fun v0 v1 v2 v3 σ => lp_79_2 n v0 v1 v2 v3 σ) ih FU v0 v1 v2 v3 v0 (((v0 / v3) - (v0 / v3) / 10 * 10) + 1) σ h)))))
    exact stw_Ex (cuts := [2, 31]) monCC 20 v
set_option maxHeartbeats 20000000 in
set_option maxRecDepth 100000 in
theorem hp_79 {sc : Nat × (Nat → Int32)} {Q : Int32 → St → Prop} {x1 x2 x3 : Int32} {σ : St} (h : Ap (sp_79 x1 x2 x3 σ) Q) : Ex sc CC 2 cd_79 Q 0 [some (.int x1), some (.int x2), some (.int x3), none, none, none] [] σ := by
  have v : Ex sc CC 2 cd_79 Q 2 [some (.int x1), some (.int x2), some (.int x3), some (.int 1), none, none] [] σ := hl_79_2 FU x1 x2 x3 1 σ h
  exact wpn_Ex (cuts := [2, 31]) monCC (fun _ _ _ _ z => z) 4 0 _ _ _ v
-- TradeTests$Penalties.setRule
set_option maxHeartbeats 20000000 in
set_option maxRecDepth 100000 in
theorem hp_82 {sc : Nat × (Nat → Int32)} {Q : Int32 → St → Prop} {x1 x2 : Int32} {σ : St} (h : Ap (sp_82 x1 x2 σ) Q) : Ex sc CC 1 cd_82 Q 0 [some (.ref 10), some (.int x1), some (.int x2), none] [] σ := by
  have v : vp_in x1 3 ∧ (vp_in x1 3 ∧ (Q (σ 46 (x1).toNatClampNeg) (up σ 46 (x1).toNatClampNeg x2))) := n_mb h (fun h => n_mb h (fun h => n_rt h))
  exact wpn_Ex (cuts := []) monCC (fun _ _ _ _ z => z) 13 0 _ _ _ v
-- TradeTests$Penalties.rowSum
set_option maxHeartbeats 20000000 in
set_option maxRecDepth 100000 in
theorem hl_90_4 {sc : Nat × (Nat → Int32)} {Q : Int32 → St → Prop} : ∀ (n : Nat) (v1 : Int32) (v2 : Int32) (v3 : Int32) (σ : St), Ap (lp_90_4 n v1 v2 v3 σ) Q → Ex sc CC 1 cd_90 Q 4 [some (.ref 10), some (.int v1), some (.int v2), some (.int v3)] [] σ := by
  intro n
  induction n with
  | zero => intro v1 v2 v3 σ h; exact n_no h
  | succ n ih =>
    intro v1 v2 v3 σ h
    have v : ((σ 3 14) ≤ v3 → Q v2 σ) ∧ (¬ (σ 3 14) ≤ v3 → vp_in v3 80 ∧ ((v1 < (σ 26 (v3).toNatClampNeg) → Ex sc CC 1 cd_90 Q 4 [some (.ref 10), some (.int v1), some (.int v2), some (.int (v3 + 1))] [] σ) ∧ (¬ v1 < (σ 26 (v3).toNatClampNeg) → vp_in v3 80 ∧ (vp_in 0 3 ∧ (((σ 26 (v3).toNatClampNeg) ≤ (v1 - (σ 46 (0 : Int32).toNatClampNeg)) → Ex sc CC 1 cd_90 Q 4 [some (.ref 10), some (.int v1), some (.int v2), some (.int (v3 + 1))] [] σ) ∧ (¬ (σ 26 (v3).toNatClampNeg) ≤ (v1 - (σ 46 (0 : Int32).toNatClampNeg)) → vp_in v3 80 ∧ (Ex sc CC 1 cd_90 Q 4 [some (.ref 10), some (.int v1), some (.int (v2 + (σ 47 (v3).toNatClampNeg))), some (.int (v3 + 1))] [] σ))))))) := n_if h (fun h => n_rt h) (fun h => n_mb h (fun h => n_if h (fun h => ih v1 v2 (v3 + 1) σ h) (fun h => n_mb h (fun h => n_mb h (fun h => n_if h (fun h => ih v1 v2 (v3 + 1) σ h) (fun h => n_mb h (fun h => ih v1 (v2 + (σ 47 (v3).toNatClampNeg)) (v3 + 1) σ h)))))))
    exact stw_Ex (cuts := [4]) monCC 34 v
set_option maxHeartbeats 20000000 in
set_option maxRecDepth 100000 in
theorem hp_90 {sc : Nat × (Nat → Int32)} {Q : Int32 → St → Prop} {x1 : Int32} {σ : St} (h : Ap (sp_90 x1 σ) Q) : Ex sc CC 1 cd_90 Q 0 [some (.ref 10), some (.int x1), none, none] [] σ := by
  have v : Ex sc CC 1 cd_90 Q 4 [some (.ref 10), some (.int x1), some (.int 0), some (.int 0)] [] σ := hl_90_4 FU x1 0 0 σ h
  exact wpn_Ex (cuts := [4]) monCC (fun _ _ _ _ z => z) 6 0 _ _ _ v
-- TradeTests$Secrets.add
set_option maxHeartbeats 20000000 in
set_option maxRecDepth 100000 in
theorem hp_94 {sc : Nat × (Nat → Int32)} {Q : Int32 → St → Prop} {x1 : Int32} {σ : St} (h : Ap (sp_94 x1 σ) Q) : Ex sc CC 1 cd_94 Q 0 [some (.ref 9), some (.int x1)] [] σ := by
  have v : vp_in (σ 9 3) 6 ∧ (Q (((σ 9 3) + 1) - 1) (up (up σ 45 (σ 9 3).toNatClampNeg x1) 9 3 ((σ 9 3) + 1))) := n_mb h (fun h => n_rt h)
  exact wpn_Ex (cuts := []) monCC (fun _ _ _ _ z => z) 18 0 _ _ _ v
-- TradeTests$Secrets.send
set_option maxHeartbeats 20000000 in
set_option maxRecDepth 100000 in
theorem hp_96 {sc : Nat × (Nat → Int32)} {Q : Int32 → St → Prop} {x1 x2 : Int32} {σ : St} (h : Ap (sp_96 x1 x2 σ) Q) : Ex sc CC 0 cd_96 Q 0 [some (.ref 9), some (.int x1), some (.int x2)] [] σ := by
  have v : vp_in x2 80 ∧ (Q 0 (up (up σ 35 (x2).toNatClampNeg ((1 : Int32) + x1)) 9 4 ((σ 9 4) + 1))) := n_mb h (fun h => n_rt h)
  exact wpn_Ex (cuts := []) monCC (fun _ _ _ _ z => z) 16 0 _ _ _ v
-- TradeTests$Plan.isFree
set_option maxHeartbeats 20000000 in
set_option maxRecDepth 100000 in
theorem hp_104 {sc : Nat × (Nat → Int32)} {Q : Int32 → St → Prop} {x1 x2 : Int32} {σ : St} (h : Ap (sp_104 x1 x2 σ) Q) : Ex sc CC 2 cd_104 Q 0 [some (.int x1), some (.int x2)] [] σ := by
  have v : (¬ ((x1 >>> (x2 &&& 31)) &&& 1) = 0 → ((0 : Int32) = 0 ∨ (0 : Int32) = 1) ∧ Q 0 σ) ∧ (((x1 >>> (x2 &&& 31)) &&& 1) = 0 → ((1 : Int32) = 0 ∨ (1 : Int32) = 1) ∧ Q 1 σ) := n_ne h (fun h => n_rb h) (fun h => n_rb h)
  exact wpn_Ex (cuts := []) monCC (fun _ _ _ _ z => z) 10 0 _ _ _ v
-- TradeTests$Plan.mostWith
set_option maxHeartbeats 20000000 in
set_option maxRecDepth 100000 in
theorem hp_105 {sc : Nat × (Nat → Int32)} {Q : Int32 → St → Prop} {x1 x2 x3 : Int32} {σ : St} (h : Ap (sp_105 x1 x2 x3 σ) Q) : Ex sc CC 1 cd_105 Q 0 [some (.ref 11), some (.int x1), some (.int x2), some (.int x3)] [] σ := by
  have v : vp_in ((x1 * 6) + x2) 36 ∧ (vp_in (((x1 + 1) * 64) + (x3 ||| ((1 : Int32) <<< (x2 &&& 31)))) 448 ∧ (Q ((σ 48 ((x1 * 6) + x2).toNatClampNeg) + (σ 49 (((x1 + 1) * 64) + (x3 ||| ((1 : Int32) <<< (x2 &&& 31)))).toNatClampNeg)) σ)) := n_mb h (fun h => n_mb h (fun h => n_rt h))
  exact wpn_Ex (cuts := []) monCC (fun _ _ _ _ z => z) 25 0 _ _ _ v
-- TradeTests$Plan.most
set_option maxHeartbeats 20000000 in
set_option maxRecDepth 100000 in
theorem hp_107 {sc : Nat × (Nat → Int32)} {Q : Int32 → St → Prop}  {σ : St} (h : Ap (sp_107  σ) Q) : Ex sc CC 1 cd_107 Q 0 [some (.ref 11)] [] σ := by
  have v : vp_in 0 448 ∧ (Q (σ 49 (0 : Int32).toNatClampNeg) σ) := n_mb h (fun h => n_rt h)
  exact wpn_Ex (cuts := []) monCC (fun _ _ _ _ z => z) 6 0 _ _ _ v
-- TradeTests$Tests.isDrawn
set_option maxHeartbeats 20000000 in
set_option maxRecDepth 100000 in
theorem hp_111 {sc : Nat × (Nat → Int32)} {Q : Int32 → St → Prop} {x1 : Int32} {σ : St} (h : Ap (sp_111 x1 σ) Q) : Ex sc CC 2 cd_111 Q 0 [some (.ref 3), some (.int x1)] [] σ := by
  have v : vp_in x1 80 ∧ (((σ 36 (x1).toNatClampNeg) ≤ 0 → ((0 : Int32) = 0 ∨ (0 : Int32) = 1) ∧ Q 0 σ) ∧ (¬ (σ 36 (x1).toNatClampNeg) ≤ 0 → ((1 : Int32) = 0 ∨ (1 : Int32) = 1) ∧ Q 1 σ)) := n_mb h (fun h => n_if h (fun h => n_rb h) (fun h => n_rb h))
  exact wpn_Ex (cuts := []) monCC (fun _ _ _ _ z => z) 9 0 _ _ _ v
-- TradeTests$Tests.addDraw
set_option maxHeartbeats 20000000 in
set_option maxRecDepth 100000 in
theorem hp_112 {sc : Nat × (Nat → Int32)} {Q : Int32 → St → Prop} {x1 x2 x3 : Int32} {σ : St} (h : Ap (sp_112 x1 x2 x3 σ) Q) : Ex sc CC 1 cd_112 Q 0 [some (.ref 3), some (.int x1), some (.int x2), some (.int x3)] [] σ := by
  have v : vp_in x1 80 ∧ (vp_in x1 80 ∧ (Q ((σ 3 15) + 1) (up (up (up σ 36 (x1).toNatClampNeg x2) 37 (x1).toNatClampNeg x3) 3 15 ((σ 3 15) + 1)))) := n_mb h (fun h => n_mb h (fun h => n_rt h))
  exact wpn_Ex (cuts := []) monCC (fun _ _ _ _ z => z) 20 0 _ _ _ v
-- TradeTests$Tests.drawnError
set_option maxHeartbeats 20000000 in
set_option maxRecDepth 100000 in
theorem hl_114_6 {sc : Nat × (Nat → Int32)} {Q : Int32 → St → Prop} : ∀ (n : Nat) (v1 : Int32) (v2 : Int32) (v3 : Int32) (σ : St), Ap (lp_114_6 n v1 v2 v3 σ) Q → Ex sc CC 1 cd_114 Q 6 [some (.ref 3), some (.int v1), some (.int v2), some (.int v3), none] [] σ := by
  intro n
  induction n with
  | zero => intro v1 v2 v3 σ h; exact n_no h
  | succ n ih =>
    intro v1 v2 v3 σ h
    have v : ((σ 3 14) ≤ v3 → (v1 ≤ 0 → Q (-1) σ) ∧ (¬ v1 ≤ 0 → ¬ v1 = 0 ∧ (Q ((v2 * 1000) / v1) σ))) ∧ (¬ (σ 3 14) ≤ v3 → vp_in v3 80 ∧ (((σ 36 (v3).toNatClampNeg) ≤ 0 → Ex sc CC 1 cd_114 Q 6 [some (.ref 3), some (.int v1), some (.int v2), some (.int (v3 + 1)), none] [] σ) ∧ (¬ (σ 36 (v3).toNatClampNeg) ≤ 0 → vp_in v3 80 ∧ (¬ (σ 36 (v3).toNatClampNeg) = 0 ∧ (vp_in v3 80 ∧ (Ex sc CC 1 cd_114 Q 6 [some (.ref 3), some (.int (v1 + ((10000 : Int32) / (σ 36 (v3).toNatClampNeg)))), some (.int (v2 + ((σ 37 (v3).toNatClampNeg) * ((10000 : Int32) / (σ 36 (v3).toNatClampNeg))))), some (.int (v3 + 1)), some (.int ((10000 : Int32) / (σ 36 (v3).toNatClampNeg)))] [] σ)))))) := n_if h (fun h => n_if h (fun h => n_rt h) (fun h => n_mb h (fun h => n_rt h))) (fun h => n_mb h (fun h => n_if h (fun h => ih v1 v2 (v3 + 1) σ h) (fun h => n_mb h (fun h => n_mb h (fun h => n_mb h (fun h => Ex_fg [true, true, true, true, false] (ih (v1 + ((10000 : Int32) / (σ 36 (v3).toNatClampNeg))) (v2 + ((σ 37 (v3).toNatClampNeg) * ((10000 : Int32) / (σ 36 (v3).toNatClampNeg)))) (v3 + 1) σ h)))))))
    exact stw_Ex (cuts := [6]) monCC 32 v
set_option maxHeartbeats 20000000 in
set_option maxRecDepth 100000 in
theorem hp_114 {sc : Nat × (Nat → Int32)} {Q : Int32 → St → Prop}  {σ : St} (h : Ap (sp_114  σ) Q) : Ex sc CC 1 cd_114 Q 0 [some (.ref 3), none, none, none, none] [] σ := by
  have v : Ex sc CC 1 cd_114 Q 6 [some (.ref 3), some (.int 0), some (.int 0), some (.int 0), none] [] σ := hl_114_6 FU 0 0 0 σ h
  exact wpn_Ex (cuts := [6]) monCC (fun _ _ _ _ z => z) 8 0 _ _ _ v
-- TradeTestsModel.in
set_option maxHeartbeats 20000000 in
set_option maxRecDepth 100000 in
theorem hp_123 {sc : Nat × (Nat → Int32)} {Q : Int32 → St → Prop} {x1 x2 x3 : Int32} {σ : St} (h : Ap (sp_123 x1 x2 x3 σ) Q) : Ex sc CC 2 cd_123 Q 0 [some (.int x1), some (.int x2), some (.int x3)] [] σ := by
  have v : (x1 < x2 → ((0 : Int32) = 0 ∨ (0 : Int32) = 1) ∧ Q 0 σ) ∧ (¬ x1 < x2 → (x3 < x1 → ((0 : Int32) = 0 ∨ (0 : Int32) = 1) ∧ Q 0 σ) ∧ (¬ x3 < x1 → ((1 : Int32) = 0 ∨ (1 : Int32) = 1) ∧ Q 1 σ)) := n_if h (fun h => n_rb h) (fun h => n_if h (fun h => n_rb h) (fun h => n_rb h))
  exact wpn_Ex (cuts := []) monCC (fun _ _ _ _ z => z) 10 0 _ _ _ v
-- TradeTestsModel.finds
set_option maxHeartbeats 20000000 in
set_option maxRecDepth 100000 in
theorem hp_125 {sc : Nat × (Nat → Int32)} {Q : Int32 → St → Prop} {x1 : Int32} {σ : St} (h : Ap (sp_125 x1 σ) Q) : Ex sc CC 1 cd_125 Q 0 [some (.ref 12), some (.int x1)] [] σ := by
  have v : vp_in x1 6 ∧ (vp_in x1 6 ∧ (Q ((-1000000 : Int32) - x1) (up σ 80 (x1).toNatClampNeg ((σ 80 (x1).toNatClampNeg) + 1)))) := n_mb h (fun h => n_mb h (fun h => n_rt h))
  exact wpn_Ex (cuts := []) monCC (fun _ _ _ _ z => z) 13 0 _ _ _ v
-- TradeTestsModel.isUnder
set_option maxHeartbeats 20000000 in
set_option maxRecDepth 100000 in
theorem hp_128 {sc : Nat × (Nat → Int32)} {Q : Int32 → St → Prop} {x1 x2 : Int32} {σ : St} (h : Ap (sp_128 x1 x2 σ) Q) : Ex sc CC 2 cd_128 Q 0 [some (.int x1), some (.int x2)] [] σ := by
  have v : (x2 = 0 → ((1 : Int32) = 0 ∨ (1 : Int32) = 1) ∧ Q 1 σ) ∧ (¬ x2 = 0 → (x1 = x2 → ((1 : Int32) = 0 ∨ (1 : Int32) = 1) ∧ Q 1 σ) ∧ (¬ x1 = x2 → (¬ x2 = 1 → ((0 : Int32) = 0 ∨ (0 : Int32) = 1) ∧ Q 0 σ) ∧ (x2 = 1 → (¬ x1 = 2 → ((0 : Int32) = 0 ∨ (0 : Int32) = 1) ∧ Q 0 σ) ∧ (x1 = 2 → ((1 : Int32) = 0 ∨ (1 : Int32) = 1) ∧ Q 1 σ)))) := n_if h (fun h => n_rb h) (fun h => n_if h (fun h => n_rb h) (fun h => n_ne h (fun h => n_ne h (fun h => n_rb h) (fun h => n_rb h)) (fun h => n_rb h)))
  exact wpn_Ex (cuts := []) monCC (fun _ _ _ _ z => z) 15 0 _ _ _ v
-- TradeTestsModel.dueOf
set_option maxHeartbeats 20000000 in
set_option maxRecDepth 100000 in
theorem hp_129 {sc : Nat × (Nat → Int32)} {Q : Int32 → St → Prop} {x1 : Int32} {σ : St} (h : Ap (sp_129 x1 σ) Q) : Ex sc CC 1 cd_129 Q 0 [some (.ref 12), some (.int x1)] [] σ := by
  have v : vp_in x1 24 ∧ ((¬ (σ 50 (x1).toNatClampNeg) = 2 → vp_in x1 24 ∧ ((¬ (σ 50 (x1).toNatClampNeg) = 3 → Q 365 σ) ∧ ((σ 50 (x1).toNatClampNeg) = 3 → Q 730 σ))) ∧ ((σ 50 (x1).toNatClampNeg) = 2 → Q 182 σ)) := n_mb h (fun h => n_ne h (fun h => n_rt h) (fun h => n_mb h (fun h => n_ne h (fun h => n_rt h) (fun h => n_rt h))))
  exact wpn_Ex (cuts := []) monCC (fun _ _ _ _ z => z) 16 0 _ _ _ v
-- TradeTestsModel.placeOf
set_option maxHeartbeats 20000000 in
set_option maxRecDepth 100000 in
theorem hl_135_10 {sc : Nat × (Nat → Int32)} {Q : Int32 → St → Prop} : ∀ (n : Nat) (v1 : Int32) (v2 : Int32) (v3 : Int32) (v4 : Int32) (σ : St), Ap (lp_135_10 n v1 v2 v3 v4 σ) Q → Ex sc CC 1 cd_135 Q 10 [some (.ref 12), some (.int v1), some (.int v2), some (.int v3), some (.int v4)] [] σ := by
  intro n
  induction n with
  | zero => intro v1 v2 v3 v4 σ h; exact n_no h
  | succ n ih =>
    intro v1 v2 v3 v4 σ h
    have v : ((σ 12 3) ≤ v4 → Q v3 σ) ∧ (¬ (σ 12 3) ≤ v4 → vp_in v4 30 ∧ ((¬ (σ 56 (v4).toNatClampNeg) = v1 → Ex sc CC 1 cd_135 Q 10 [some (.ref 12), some (.int v1), some (.int v2), some (.int v3), some (.int (v4 + 1))] [] σ) ∧ ((σ 56 (v4).toNatClampNeg) = v1 → vp_in v4 30 ∧ ((v2 < (σ 58 (v4).toNatClampNeg) → Ex sc CC 1 cd_135 Q 10 [some (.ref 12), some (.int v1), some (.int v2), some (.int v3), some (.int (v4 + 1))] [] σ) ∧ (¬ v2 < (σ 58 (v4).toNatClampNeg) → vp_in v4 30 ∧ (Ex sc CC 1 cd_135 Q 10 [some (.ref 12), some (.int v1), some (.int v2), some (.int (σ 57 (v4).toNatClampNeg)), some (.int (v4 + 1))] [] σ)))))) := n_if h (fun h => n_rt h) (fun h => n_mb h (fun h => n_ne h (fun h => n_mb h (fun h => n_if h (fun h => ih v1 v2 v3 (v4 + 1) σ h) (fun h => n_mb h (fun h => ih v1 v2 (σ 57 (v4).toNatClampNeg) (v4 + 1) σ h)))) (fun h => ih v1 v2 v3 (v4 + 1) σ h)))
    exact stw_Ex (cuts := [10]) monCC 25 v
set_option maxHeartbeats 20000000 in
set_option maxRecDepth 100000 in
theorem hp_135 {sc : Nat × (Nat → Int32)} {Q : Int32 → St → Prop} {x1 x2 : Int32} {σ : St} (h : Ap (sp_135 x1 x2 σ) Q) : Ex sc CC 1 cd_135 Q 0 [some (.ref 12), some (.int x1), some (.int x2), none, none] [] σ := by
  have v : vp_in x1 8 ∧ (Ex sc CC 1 cd_135 Q 10 [some (.ref 12), some (.int x1), some (.int x2), some (.int (σ 55 (x1).toNatClampNeg)), some (.int 0)] [] σ) := n_mb h (fun h => hl_135_10 FU x1 x2 (σ 55 (x1).toNatClampNeg) 0 σ h)
  exact wpn_Ex (cuts := [10]) monCC (fun _ _ _ _ z => z) 9 0 _ _ _ v
-- TradeTestsModel.here
set_option maxHeartbeats 20000000 in
set_option maxRecDepth 100000 in
theorem hp_145 {sc : Nat × (Nat → Int32)} {Q : Int32 → St → Prop}  {σ : St} (h : Ap (sp_145  σ) Q) : Ex sc CC 1 cd_145 Q 0 [some (.ref 12)] [] σ := by
  have v : ((σ 12 9) ≤ (σ 12 45) → Q (-1) σ) ∧ (¬ (σ 12 9) ≤ (σ 12 45) → vp_in (σ 12 45) 60 ∧ (Q (σ 78 (σ 12 45).toNatClampNeg) σ)) := n_if h (fun h => n_rt h) (fun h => n_mb h (fun h => n_rt h))
  exact wpn_Ex (cuts := []) monCC (fun _ _ _ _ z => z) 13 0 _ _ _ v
-- TradeTestsModel.isDigit
set_option maxHeartbeats 20000000 in
set_option maxRecDepth 100000 in
theorem hp_148 {sc : Nat × (Nat → Int32)} {Q : Int32 → St → Prop} {x1 : Int32} {σ : St} (h : Ap (sp_148 x1 σ) Q) : Ex sc CC 2 cd_148 Q 0 [some (.int x1)] [] σ := by
  have v : (x1 < 48 → ((0 : Int32) = 0 ∨ (0 : Int32) = 1) ∧ Q 0 σ) ∧ (¬ x1 < 48 → (57 < x1 → ((0 : Int32) = 0 ∨ (0 : Int32) = 1) ∧ Q 0 σ) ∧ (¬ 57 < x1 → ((1 : Int32) = 0 ∨ (1 : Int32) = 1) ∧ Q 1 σ)) := n_if h (fun h => n_rb h) (fun h => n_if h (fun h => n_rb h) (fun h => n_rb h))
  exact wpn_Ex (cuts := []) monCC (fun _ _ _ _ z => z) 10 0 _ _ _ v
-- TradeTestsModel.textOn
set_option maxHeartbeats 20000000 in
set_option maxRecDepth 100000 in
theorem hl_150_4 {sc : Nat × (Nat → Int32)} {Q : Int32 → St → Prop} : ∀ (n : Nat) (v1 : Int32) (v2 : Int32) (v3 : Int32) (σ : St), Ap (lp_150_4 n v1 v2 v3 σ) Q → Ex sc CC 1 cd_150 Q 4 [some (.ref 12), some (.int v1), some (.int v2), some (.int v3)] [] σ := by
  intro n
  induction n with
  | zero => intro v1 v2 v3 σ h; exact n_no h
  | succ n ih =>
    intro v1 v2 v3 σ h
    have v : ((σ 12 5) ≤ v3 → Q v2 σ) ∧ (¬ (σ 12 5) ≤ v3 → vp_in v3 7 ∧ ((v1 < (σ 73 (v3).toNatClampNeg) → Ex sc CC 1 cd_150 Q 4 [some (.ref 12), some (.int v1), some (.int v2), some (.int (v3 + 1))] [] σ) ∧ (¬ v1 < (σ 73 (v3).toNatClampNeg) → Ex sc CC 1 cd_150 Q 4 [some (.ref 12), some (.int v1), some (.int v3), some (.int (v3 + 1))] [] σ))) := n_if h (fun h => n_rt h) (fun h => n_mb h (fun h => n_if h (fun h => ih v1 v2 (v3 + 1) σ h) (fun h => ih v1 v3 (v3 + 1) σ h)))
    exact stw_Ex (cuts := [4]) monCC 16 v
set_option maxHeartbeats 20000000 in
set_option maxRecDepth 100000 in
theorem hp_150 {sc : Nat × (Nat → Int32)} {Q : Int32 → St → Prop} {x1 : Int32} {σ : St} (h : Ap (sp_150 x1 σ) Q) : Ex sc CC 1 cd_150 Q 0 [some (.ref 12), some (.int x1), none, none] [] σ := by
  have v : Ex sc CC 1 cd_150 Q 4 [some (.ref 12), some (.int x1), some (.int (-1)), some (.int 0)] [] σ := hl_150_4 FU x1 (-1) 0 σ h
  exact wpn_Ex (cuts := [4]) monCC (fun _ _ _ _ z => z) 6 0 _ _ _ v
-- TradeTestsModel.cellOf
set_option maxHeartbeats 20000000 in
set_option maxRecDepth 100000 in
theorem hp_157 {sc : Nat × (Nat → Int32)} {Q : Int32 → St → Prop} {x1 : Int32} {σ : St} (h : Ap (sp_157 x1 σ) Q) : Ex sc CC 1 cd_157 Q 0 [some (.ref 12), some (.int x1), none] [] σ := by
  have v : vp_in x1 80 ∧ (vp_in x1 80 ∧ (vp_in (σ 59 (x1).toNatClampNeg) 24 ∧ (¬ (365 : Int32) = 0 ∧ ((3 ≤ (((σ 61 (x1).toNatClampNeg) - (σ 52 (σ 59 (x1).toNatClampNeg).toNatClampNeg)) / 365) → (6 ≤ (((σ 61 (x1).toNatClampNeg) - (σ 52 (σ 59 (x1).toNatClampNeg).toNatClampNeg)) / 365) → (10 ≤ (((σ 61 (x1).toNatClampNeg) - (σ 52 (σ 59 (x1).toNatClampNeg).toNatClampNeg)) / 365) → vp_in x1 80 ∧ (vp_in (σ 59 (x1).toNatClampNeg) 24 ∧ (Q (((4 : Int32) * 3) + (σ 51 (σ 59 (x1).toNatClampNeg).toNatClampNeg)) σ))) ∧ (¬ 10 ≤ (((σ 61 (x1).toNatClampNeg) - (σ 52 (σ 59 (x1).toNatClampNeg).toNatClampNeg)) / 365) → vp_in x1 80 ∧ (vp_in (σ 59 (x1).toNatClampNeg) 24 ∧ (Q (((4 : Int32) * 2) + (σ 51 (σ 59 (x1).toNatClampNeg).toNatClampNeg)) σ)))) ∧ (¬ 6 ≤ (((σ 61 (x1).toNatClampNeg) - (σ 52 (σ 59 (x1).toNatClampNeg).toNatClampNeg)) / 365) → vp_in x1 80 ∧ (vp_in (σ 59 (x1).toNatClampNeg) 24 ∧ (Q (((4 : Int32) * 1) + (σ 51 (σ 59 (x1).toNatClampNeg).toNatClampNeg)) σ)))) ∧ (¬ 3 ≤ (((σ 61 (x1).toNatClampNeg) - (σ 52 (σ 59 (x1).toNatClampNeg).toNatClampNeg)) / 365) → vp_in x1 80 ∧ (vp_in (σ 59 (x1).toNatClampNeg) 24 ∧ (Q (((4 : Int32) * 0) + (σ 51 (σ 59 (x1).toNatClampNeg).toNatClampNeg)) σ))))))) := n_mb h (fun h => n_mb h (fun h => n_mb h (fun h => n_mb h (fun h => n_if h (fun h => n_if h (fun h => n_if h (fun h => n_mb h (fun h => n_mb h (fun h => n_rt h))) (fun h => n_mb h (fun h => n_mb h (fun h => n_rt h)))) (fun h => n_mb h (fun h => n_mb h (fun h => n_rt h)))) (fun h => n_mb h (fun h => n_mb h (fun h => n_rt h)))))))
  exact wpn_Ex (cuts := []) monCC (fun _ _ _ _ z => z) 38 0 _ _ _ v
-- TradeTestsModel.ones
set_option maxHeartbeats 20000000 in
set_option maxRecDepth 100000 in
theorem hl_160_4 {sc : Nat × (Nat → Int32)} {Q : Int32 → St → Prop} : ∀ (n : Nat) (v0 : Int32) (v1 : Int32) (v2 : Int32) (σ : St), Ap (lp_160_4 n v0 v1 v2 σ) Q → Ex sc CC 1 cd_160 Q 4 [some (.int v0), some (.int v1), some (.int v2)] [] σ := by
  intro n
  induction n with
  | zero => intro v0 v1 v2 σ h; exact n_no h
  | succ n ih =>
    intro v0 v1 v2 σ h
    have v : (v2 = 0 → Q v1 σ) ∧ (¬ v2 = 0 → Ex sc CC 1 cd_160 Q 4 [some (.int v0), some (.int (v1 + 1)), some (.int (v2 &&& (v2 - 1)))] [] σ) := n_if h (fun h => n_rt h) (fun h => ih v0 (v1 + 1) (v2 &&& (v2 - 1)) σ h)
    exact stw_Ex (cuts := [4]) monCC 11 v
set_option maxHeartbeats 20000000 in
set_option maxRecDepth 100000 in
theorem hp_160 {sc : Nat × (Nat → Int32)} {Q : Int32 → St → Prop} {x1 : Int32} {σ : St} (h : Ap (sp_160 x1 σ) Q) : Ex sc CC 1 cd_160 Q 0 [some (.int x1), none, none] [] σ := by
  have v : Ex sc CC 1 cd_160 Q 4 [some (.int x1), some (.int 0), some (.int x1)] [] σ := hl_160_4 FU x1 0 x1 σ h
  exact wpn_Ex (cuts := [4]) monCC (fun _ _ _ _ z => z) 6 0 _ _ _ v
-- TradeTestsModel.isQuick
set_option maxHeartbeats 20000000 in
set_option maxRecDepth 100000 in
theorem hp_165 {sc : Nat × (Nat → Int32)} {Q : Int32 → St → Prop} {x1 : Int32} {σ : St} (h : Ap (sp_165 x1 σ) Q) : Ex sc CC 2 cd_165 Q 0 [some (.ref 12), some (.int x1), none] [] σ := by
  have v : vp_in x1 80 ∧ (vp_in (σ 59 (x1).toNatClampNeg) 24 ∧ (vp_in x1 80 ∧ ((¬ (σ 50 (σ 59 (x1).toNatClampNeg).toNatClampNeg) = 2 → (¬ (σ 50 (σ 59 (x1).toNatClampNeg).toNatClampNeg) = 3 → (20 ≤ (σ 63 (x1).toNatClampNeg) → ((0 : Int32) = 0 ∨ (0 : Int32) = 1) ∧ Q 0 σ) ∧ (¬ 20 ≤ (σ 63 (x1).toNatClampNeg) → ((1 : Int32) = 0 ∨ (1 : Int32) = 1) ∧ Q 1 σ)) ∧ ((σ 50 (σ 59 (x1).toNatClampNeg).toNatClampNeg) = 3 → (10 ≤ (σ 63 (x1).toNatClampNeg) → ((0 : Int32) = 0 ∨ (0 : Int32) = 1) ∧ Q 0 σ) ∧ (¬ 10 ≤ (σ 63 (x1).toNatClampNeg) → ((1 : Int32) = 0 ∨ (1 : Int32) = 1) ∧ Q 1 σ))) ∧ ((σ 50 (σ 59 (x1).toNatClampNeg).toNatClampNeg) = 2 → (30 ≤ (σ 63 (x1).toNatClampNeg) → ((0 : Int32) = 0 ∨ (0 : Int32) = 1) ∧ Q 0 σ) ∧ (¬ 30 ≤ (σ 63 (x1).toNatClampNeg) → ((1 : Int32) = 0 ∨ (1 : Int32) = 1) ∧ Q 1 σ))))) := n_mb h (fun h => n_mb h (fun h => n_mb h (fun h => n_ne h (fun h => n_if h (fun h => n_rb h) (fun h => n_rb h)) (fun h => n_ne h (fun h => n_if h (fun h => n_rb h) (fun h => n_rb h)) (fun h => n_if h (fun h => n_rb h) (fun h => n_rb h))))))
  exact wpn_Ex (cuts := []) monCC (fun _ _ _ _ z => z) 25 0 _ _ _ v
-- TradeTestsModel.overlaps
set_option maxHeartbeats 20000000 in
set_option maxRecDepth 100000 in
theorem hl_166_2 {sc : Nat × (Nat → Int32)} {Q : Int32 → St → Prop} : ∀ (n : Nat) (v1 : Int32) (v2 : Int32) (σ : St), Ap (lp_166_2 n v1 v2 σ) Q → Ex sc CC 2 cd_166 Q 2 [some (.ref 12), some (.int v1), some (.int v2)] [] σ := by
  intro n
  induction n with
  | zero => intro v1 v2 σ h; exact n_no h
  | succ n ih =>
    intro v1 v2 σ h
    have v : ((σ 12 4) ≤ v2 → ((0 : Int32) = 0 ∨ (0 : Int32) = 1) ∧ Q 0 σ) ∧ (¬ (σ 12 4) ≤ v2 → (v2 = v1 → Ex sc CC 2 cd_166 Q 2 [some (.ref 12), some (.int v1), some (.int (v2 + 1))] [] σ) ∧ (¬ v2 = v1 → vp_in v2 80 ∧ (vp_in v1 80 ∧ ((¬ (σ 60 (v2).toNatClampNeg) = (σ 60 (v1).toNatClampNeg) → Ex sc CC 2 cd_166 Q 2 [some (.ref 12), some (.int v1), some (.int (v2 + 1))] [] σ) ∧ ((σ 60 (v2).toNatClampNeg) = (σ 60 (v1).toNatClampNeg) → vp_in v2 80 ∧ (vp_in v1 80 ∧ ((¬ (σ 61 (v2).toNatClampNeg) = (σ 61 (v1).toNatClampNeg) → Ex sc CC 2 cd_166 Q 2 [some (.ref 12), some (.int v1), some (.int (v2 + 1))] [] σ) ∧ ((σ 61 (v2).toNatClampNeg) = (σ 61 (v1).toNatClampNeg) → vp_in v2 80 ∧ (vp_in v1 80 ∧ (vp_in v1 80 ∧ ((((σ 62 (v1).toNatClampNeg) + (σ 63 (v1).toNatClampNeg)) ≤ (σ 62 (v2).toNatClampNeg) → Ex sc CC 2 cd_166 Q 2 [some (.ref 12), some (.int v1), some (.int (v2 + 1))] [] σ) ∧ (¬ ((σ 62 (v1).toNatClampNeg) + (σ 63 (v1).toNatClampNeg)) ≤ (σ 62 (v2).toNatClampNeg) → vp_in v1 80 ∧ (vp_in v2 80 ∧ (vp_in v2 80 ∧ ((((σ 62 (v2).toNatClampNeg) + (σ 63 (v2).toNatClampNeg)) ≤ (σ 62 (v1).toNatClampNeg) → Ex sc CC 2 cd_166 Q 2 [some (.ref 12), some (.int v1), some (.int (v2 + 1))] [] σ) ∧ (¬ ((σ 62 (v2).toNatClampNeg) + (σ 63 (v2).toNatClampNeg)) ≤ (σ 62 (v1).toNatClampNeg) → ((1 : Int32) = 0 ∨ (1 : Int32) = 1) ∧ Q 1 σ)))))))))))))))) := n_if h (fun h => n_rb h) (fun h => n_if h (fun h => ih v1 (v2 + 1) σ h) (fun h => n_mb h (fun h => n_mb h (fun h => n_ne h (fun h => n_mb h (fun h => n_mb h (fun h => n_ne h (fun h => n_mb h (fun h => n_mb h (fun h => n_mb h (fun h => n_if h (fun h => ih v1 (v2 + 1) σ h) (fun h => n_mb h (fun h => n_mb h (fun h => n_mb h (fun h => n_if h (fun h => ih v1 (v2 + 1) σ h) (fun h => n_rb h))))))))) (fun h => ih v1 (v2 + 1) σ h)))) (fun h => ih v1 (v2 + 1) σ h)))))
    exact stw_Ex (cuts := [2]) monCC 56 v
set_option maxHeartbeats 20000000 in
set_option maxRecDepth 100000 in
theorem hp_166 {sc : Nat × (Nat → Int32)} {Q : Int32 → St → Prop} {x1 : Int32} {σ : St} (h : Ap (sp_166 x1 σ) Q) : Ex sc CC 2 cd_166 Q 0 [some (.ref 12), some (.int x1), none] [] σ := by
  have v : Ex sc CC 2 cd_166 Q 2 [some (.ref 12), some (.int x1), some (.int 0)] [] σ := hl_166_2 FU x1 0 σ h
  exact wpn_Ex (cuts := [2]) monCC (fun _ _ _ _ z => z) 4 0 _ _ _ v
end
section
/-! the code does what the functions say (written by wip/whole/gen/spec.py) -/
-- TradeTests.vehicle
set_option maxHeartbeats 20000000 in
set_option maxRecDepth 100000 in
theorem hp_0 {sc : Nat × (Nat → Int32)} {Q : Int32 → St → Prop} {x1 x2 x3 : Int32} {σ : St} (h : Ap (sp_0 x1 x2 x3 σ) Q) : Ex sc CC 1 cd_0 Q 0 [some (.ref 0), some (.int x1), some (.int x2), some (.int x3)] [] σ := by
  have v : CC 1 [.int x1, .int 4] σ (fun r17 σ17 => (r17 = 0 → CC 2 [.ref 0, .int 1] σ17 (fun r18 σ18 => Q r18 σ18)) ∧ (¬ r17 = 0 → CC 1 [.int x2, .int 4] σ17 (fun r19 σ19 => (r19 = 0 → CC 2 [.ref 0, .int 1] σ19 (fun r20 σ20 => Q r20 σ20)) ∧ (¬ r19 = 0 → CC 1 [.int x3, .int 10000] σ19 (fun r21 σ21 => (¬ r21 = 0 → ((σ21 1 3) < 24 → CC 3 [.ref 1, .int x1, .int x2, .int x3] σ21 (fun r22 σ22 => Q r22 σ22)) ∧ (¬ (σ21 1 3) < 24 → CC 2 [.ref 0, .int 4] σ21 (fun r23 σ23 => Q r23 σ23))) ∧ (r21 = 0 → CC 2 [.ref 0, .int 1] σ21 (fun r24 σ24 => Q r24 σ24))))))) := cc_1 (n_bn h (fun r17 σ17 h => n_if h (fun h => cc_2 (n_bn h (fun r18 σ18 h => n_rt h))) (fun h => cc_1 (n_bn h (fun r19 σ19 h => n_if h (fun h => cc_2 (n_bn h (fun r20 σ20 h => n_rt h))) (fun h => cc_1 (n_bn h (fun r21 σ21 h => n_ne h (fun h => cc_2 (n_bn h (fun r24 σ24 h => n_rt h))) (fun h => n_if h (fun h => cc_3 (n_bn h (fun r22 σ22 h => n_rt h))) (fun h => cc_2 (n_bn h (fun r23 σ23 h => n_rt h))))))))))))
  exact wpn_Ex (cuts := []) monCC (fun _ _ _ _ z => z) 25 0 _ _ _ v
-- TradeTests.as
set_option maxHeartbeats 20000000 in
set_option maxRecDepth 100000 in
theorem hp_4 {sc : Nat × (Nat → Int32)} {Q : Int32 → St → Prop} {x1 x2 : Int32} {σ : St} (h : Ap (sp_4 x1 x2 σ) Q) : Ex sc CC 1 cd_4 Q 0 [some (.ref 0), some (.int x1), some (.int x2)] [] σ := by
  have v : CC 1 [.int x1, .int (σ 1 3)] σ (fun r15 σ15 => (r15 = 0 → CC 2 [.ref 0, .int 1] σ15 (fun r16 σ16 => Q r16 σ16)) ∧ (¬ r15 = 0 → CC 1 [.int x2, .int 4] σ15 (fun r17 σ17 => (¬ r17 = 0 → vp_in x1 24 ∧ (CC 5 [.int (σ17 15 (x1).toNatClampNeg), .int x2] σ17 (fun r18 σ18 => (¬ r18 = 0 → CC 6 [.ref 1, .int x1] σ18 (fun r19 σ19 => Q r19 σ19)) ∧ (r18 = 0 → CC 2 [.ref 0, .int 5] σ18 (fun r20 σ20 => Q r20 σ20))))) ∧ (r17 = 0 → CC 2 [.ref 0, .int 1] σ17 (fun r21 σ21 => Q r21 σ21))))) := cc_1 (n_bn h (fun r15 σ15 h => n_if h (fun h => cc_2 (n_bn h (fun r16 σ16 h => n_rt h))) (fun h => cc_1 (n_bn h (fun r17 σ17 h => n_ne h (fun h => cc_2 (n_bn h (fun r21 σ21 h => n_rt h))) (fun h => n_mb h (fun h => cc_5 (n_bn h (fun r18 σ18 h => n_ne h (fun h => cc_2 (n_bn h (fun r20 σ20 h => n_rt h))) (fun h => cc_6 (n_bn h (fun r19 σ19 h => n_rt h))))))))))))
  exact wpn_Ex (cuts := []) monCC (fun _ _ _ _ z => z) 24 0 _ _ _ v
-- TradeTests.garage
set_option maxHeartbeats 20000000 in
set_option maxRecDepth 100000 in
theorem hp_7 {sc : Nat × (Nat → Int32)} {Q : Int32 → St → Prop} {x1 x2 : Int32} {σ : St} (h : Ap (sp_7 x1 x2 σ) Q) : Ex sc CC 1 cd_7 Q 0 [some (.ref 0), some (.int x1), some (.int x2)] [] σ := by
  have v : CC 1 [.int x1, .int 1440] σ (fun r13 σ13 => (r13 = 0 → CC 2 [.ref 0, .int 1] σ13 (fun r14 σ14 => Q r14 σ14)) ∧ (¬ r13 = 0 → (x2 ≤ x1 → CC 2 [.ref 0, .int 1] σ13 (fun r15 σ15 => Q r15 σ15)) ∧ (¬ x2 ≤ x1 → (x2 ≤ 1440 → ((σ13 2 2) < 6 → CC 8 [.ref 2, .int x1, .int x2] σ13 (fun r16 σ16 => Q r16 σ16)) ∧ (¬ (σ13 2 2) < 6 → CC 2 [.ref 0, .int 4] σ13 (fun r17 σ17 => Q r17 σ17))) ∧ (¬ x2 ≤ 1440 → CC 2 [.ref 0, .int 1] σ13 (fun r18 σ18 => Q r18 σ18))))) := cc_1 (n_bn h (fun r13 σ13 h => n_if h (fun h => cc_2 (n_bn h (fun r14 σ14 h => n_rt h))) (fun h => n_if h (fun h => cc_2 (n_bn h (fun r15 σ15 h => n_rt h))) (fun h => n_if h (fun h => n_if h (fun h => cc_8 (n_bn h (fun r16 σ16 h => n_rt h))) (fun h => cc_2 (n_bn h (fun r17 σ17 h => n_rt h)))) (fun h => cc_2 (n_bn h (fun r18 σ18 h => n_rt h)))))))
  exact wpn_Ex (cuts := []) monCC (fun _ _ _ _ z => z) 22 0 _ _ _ v
-- TradeTests.tester
set_option maxHeartbeats 20000000 in
set_option maxRecDepth 100000 in
theorem hp_9 {sc : Nat × (Nat → Int32)} {Q : Int32 → St → Prop} {x1 : Int32} {σ : St} (h : Ap (sp_9 x1 σ) Q) : Ex sc CC 1 cd_9 Q 0 [some (.ref 0), some (.int x1)] [] σ := by
  have v : CC 1 [.int x1, .int (σ 2 2)] σ (fun r9 σ9 => (¬ r9 = 0 → ((σ9 2 4) < 8 → CC 10 [.ref 2, .int x1] σ9 (fun r10 σ10 => Q r10 σ10)) ∧ (¬ (σ9 2 4) < 8 → CC 2 [.ref 0, .int 4] σ9 (fun r11 σ11 => Q r11 σ11))) ∧ (r9 = 0 → CC 2 [.ref 0, .int 1] σ9 (fun r12 σ12 => Q r12 σ12))) := cc_1 (n_bn h (fun r9 σ9 h => n_ne h (fun h => cc_2 (n_bn h (fun r12 σ12 h => n_rt h))) (fun h => n_if h (fun h => cc_10 (n_bn h (fun r10 σ10 h => n_rt h))) (fun h => cc_2 (n_bn h (fun r11 σ11 h => n_rt h))))))
  exact wpn_Ex (cuts := []) monCC (fun _ _ _ _ z => z) 17 0 _ _ _ v
-- TradeTests.move
set_option maxHeartbeats 20000000 in
set_option maxRecDepth 100000 in
theorem hp_11 {sc : Nat × (Nat → Int32)} {Q : Int32 → St → Prop} {x1 x2 x3 : Int32} {σ : St} (h : Ap (sp_11 x1 x2 x3 σ) Q) : Ex sc CC 1 cd_11 Q 0 [some (.ref 0), some (.int x1), some (.int x2), some (.int x3)] [] σ := by
  have v : CC 1 [.int x1, .int (σ 2 4)] σ (fun r23 σ23 => (r23 = 0 → CC 2 [.ref 0, .int 1] σ23 (fun r24 σ24 => Q r24 σ24)) ∧ (¬ r23 = 0 → CC 1 [.int x2, .int (σ23 2 2)] σ23 (fun r25 σ25 => (r25 = 0 → CC 2 [.ref 0, .int 1] σ25 (fun r26 σ26 => Q r26 σ26)) ∧ (¬ r25 = 0 → CC 1 [.int x3, .int 10000] σ25 (fun r27 σ27 => (¬ r27 = 0 → CC 12 [.ref 2, .int x1] σ27 (fun r28 σ28 => (r28 ≤ x3 → ((σ28 2 8) < 30 → CC 13 [.ref 2, .int x1, .int x2, .int x3] σ28 (fun r29 σ29 => CC 14 [.ref 2, .int x1, .int (x3 - 1)] σ29 (fun r30 σ30 => Q r30 σ30))) ∧ (¬ (σ28 2 8) < 30 → CC 2 [.ref 0, .int 4] σ28 (fun r31 σ31 => Q r31 σ31))) ∧ (¬ r28 ≤ x3 → CC 2 [.ref 0, .int 1] σ28 (fun r32 σ32 => Q r32 σ32)))) ∧ (r27 = 0 → CC 2 [.ref 0, .int 1] σ27 (fun r33 σ33 => Q r33 σ33))))))) := cc_1 (n_bn h (fun r23 σ23 h => n_if h (fun h => cc_2 (n_bn h (fun r24 σ24 h => n_rt h))) (fun h => cc_1 (n_bn h (fun r25 σ25 h => n_if h (fun h => cc_2 (n_bn h (fun r26 σ26 h => n_rt h))) (fun h => cc_1 (n_bn h (fun r27 σ27 h => n_ne h (fun h => cc_2 (n_bn h (fun r33 σ33 h => n_rt h))) (fun h => cc_12 (n_bn h (fun r28 σ28 h => n_if h (fun h => n_if h (fun h => cc_13 (n_bn h (fun r29 σ29 h => cc_14 (n_bn h (fun r30 σ30 h => n_rt h))))) (fun h => cc_2 (n_bn h (fun r31 σ31 h => n_rt h)))) (fun h => cc_2 (n_bn h (fun r32 σ32 h => n_rt h))))))))))))))
  exact wpn_Ex (cuts := []) monCC (fun _ _ _ _ z => z) 42 0 _ _ _ v
-- TradeTests.at
set_option maxHeartbeats 20000000 in
set_option maxRecDepth 100000 in
theorem hp_15 {sc : Nat × (Nat → Int32)} {Q : Int32 → St → Prop} {x1 x2 : Int32} {σ : St} (h : Ap (sp_15 x1 x2 σ) Q) : Ex sc CC 1 cd_15 Q 0 [some (.ref 0), some (.int x1), some (.int x2)] [] σ := by
  have v : CC 1 [.int x1, .int (σ 2 4)] σ (fun r11 σ11 => (r11 = 0 → CC 2 [.ref 0, .int 1] σ11 (fun r12 σ12 => Q r12 σ12)) ∧ (¬ r11 = 0 → CC 1 [.int x2, .int 10000] σ11 (fun r13 σ13 => (¬ r13 = 0 → CC 14 [.ref 2, .int x1, .int x2] σ13 (fun r14 σ14 => Q r14 σ14)) ∧ (r13 = 0 → CC 2 [.ref 0, .int 1] σ13 (fun r15 σ15 => Q r15 σ15))))) := cc_1 (n_bn h (fun r11 σ11 h => n_if h (fun h => cc_2 (n_bn h (fun r12 σ12 h => n_rt h))) (fun h => cc_1 (n_bn h (fun r13 σ13 h => n_ne h (fun h => cc_2 (n_bn h (fun r15 σ15 h => n_rt h))) (fun h => cc_14 (n_bn h (fun r14 σ14 h => n_rt h))))))))
  exact wpn_Ex (cuts := []) monCC (fun _ _ _ _ z => z) 17 0 _ _ _ v
-- TradeTests.isWhen
set_option maxHeartbeats 20000000 in
set_option maxRecDepth 100000 in
theorem hp_18 {sc : Nat × (Nat → Int32)} {Q : Int32 → St → Prop} {x1 x2 : Int32} {σ : St} (h : Ap (sp_18 x1 x2 σ) Q) : Ex sc CC 2 cd_18 Q 0 [some (.ref 0), some (.int x1), some (.int x2), none] [] σ := by
  have v : (x2 < 0 → ((0 : Int32) = 0 ∨ (0 : Int32) = 1) ∧ Q 0 σ) ∧ (¬ x2 < 0 → ¬ (10000 : Int32) = 0 ∧ (((x2 / 10000) < 1440 → ¬ (10000 : Int32) = 0 ∧ (CC 19 [.ref 3] σ (fun r3 σ3 => ((x2 - x2 / 10000 * 10000) < r3 → ((0 : Int32) = 0 ∨ (0 : Int32) = 1) ∧ Q 0 σ3) ∧ (¬ (x2 - x2 / 10000 * 10000) < r3 → ¬ (100 : Int32) = 0 ∧ (vp_in (x1 / 100) 24 ∧ (((x2 - x2 / 10000 * 10000) < (σ3 17 (x1 / 100).toNatClampNeg) → ((0 : Int32) = 0 ∨ (0 : Int32) = 1) ∧ Q 0 σ3) ∧ (¬ (x2 - x2 / 10000 * 10000) < (σ3 17 (x1 / 100).toNatClampNeg) → ((1 : Int32) = 0 ∨ (1 : Int32) = 1) ∧ Q 1 σ3))))))) ∧ (¬ (x2 / 10000) < 1440 → ((0 : Int32) = 0 ∨ (0 : Int32) = 1) ∧ Q 0 σ))) := n_if h (fun h => n_rb h) (fun h => n_mb h (fun h => n_if h (fun h => n_mb h (fun h => cc_19 (n_bn h (fun r3 σ3 h => n_if h (fun h => n_rb h) (fun h => n_mb h (fun h => n_mb h (fun h => n_if h (fun h => n_rb h) (fun h => n_rb h)))))))) (fun h => n_rb h)))
  exact wpn_Ex (cuts := []) monCC (fun _ _ _ _ z => z) 29 0 _ _ _ v
-- TradeTests.isMiles
set_option maxHeartbeats 20000000 in
set_option maxRecDepth 100000 in
theorem hp_21 {sc : Nat × (Nat → Int32)} {Q : Int32 → St → Prop} {x1 x2 : Int32} {σ : St} (h : Ap (sp_21 x1 x2 σ) Q) : Ex sc CC 2 cd_21 Q 0 [some (.ref 0), some (.int x1), some (.int x2)] [] σ := by
  have v : ¬ (100 : Int32) = 0 ∧ (vp_in (x1 / 100) 24 ∧ ((¬ (σ 15 (x1 / 100).toNatClampNeg) = 3 → CC 1 [.int x2, .int 1000000] σ (fun r3 σ3 => (r3 = 0 ∨ r3 = 1) ∧ Q r3 σ3)) ∧ ((σ 15 (x1 / 100).toNatClampNeg) = 3 → (¬ x2 = 0 → ((0 : Int32) = 0 ∨ (0 : Int32) = 1) ∧ Q 0 σ) ∧ (x2 = 0 → ((1 : Int32) = 0 ∨ (1 : Int32) = 1) ∧ Q 1 σ)))) := n_mb h (fun h => n_mb h (fun h => n_ne h (fun h => n_ne h (fun h => n_rb h) (fun h => n_rb h)) (fun h => cc_1 (n_bn h (fun r3 σ3 h => n_rb h)))))
  exact wpn_Ex (cuts := []) monCC (fun _ _ _ _ z => z) 15 0 _ _ _ v
-- TradeTests$Trade.garageOf
set_option maxHeartbeats 20000000 in
set_option maxRecDepth 100000 in
theorem hp_24 {sc : Nat × (Nat → Int32)} {Q : Int32 → St → Prop} {x2 : Int32} {σ : St} (h : Ap (sp_24 x2 σ) Q) : Ex sc CC 1 cd_24 Q 0 [some (.ref 2), some (.ref 3), some (.int x2)] [] σ := by
  have v : vp_in x2 80 ∧ (vp_in x2 80 ∧ (CC 14 [.ref 2, .int (σ 25 (x2).toNatClampNeg), .int (σ 26 (x2).toNatClampNeg)] σ (fun r3 σ3 => Q r3 σ3))) := n_mb h (fun h => n_mb h (fun h => cc_14 (n_bn h (fun r3 σ3 h => n_rt h))))
  exact wpn_Ex (cuts := []) monCC (fun _ _ _ _ z => z) 12 0 _ _ _ v
-- TradeTests.feed
set_option maxHeartbeats 20000000 in
set_option maxRecDepth 100000 in
theorem hp_26 {sc : Nat × (Nat → Int32)} {Q : Int32 → St → Prop} {x1 : Int32} {σ : St} (h : Ap (sp_26 x1 σ) Q) : Ex sc CC 1 cd_26 Q 0 [some (.ref 0), some (.int x1)] [] σ := by
  have v : CC 1 [.int x1, .int 256] σ (fun r9 σ9 => (¬ r9 = 0 → ((σ9 4 1) < 60 → CC 27 [.ref 4, .int x1] σ9 (fun r10 σ10 => Q r10 σ10)) ∧ (¬ (σ9 4 1) < 60 → CC 2 [.ref 0, .int 4] σ9 (fun r11 σ11 => Q r11 σ11))) ∧ (r9 = 0 → CC 2 [.ref 0, .int 1] σ9 (fun r12 σ12 => Q r12 σ12))) := cc_1 (n_bn h (fun r9 σ9 h => n_ne h (fun h => cc_2 (n_bn h (fun r12 σ12 h => n_rt h))) (fun h => n_if h (fun h => cc_27 (n_bn h (fun r10 σ10 h => n_rt h))) (fun h => cc_2 (n_bn h (fun r11 σ11 h => n_rt h))))))
  exact wpn_Ex (cuts := []) monCC (fun _ _ _ _ z => z) 15 0 _ _ _ v
-- TradeTests$Texts.readEnd
set_option maxHeartbeats 20000000 in
set_option maxRecDepth 100000 in
theorem hp_37 {sc : Nat × (Nat → Int32)} {Q : Int32 → St → Prop}  {σ : St} (h : Ap (sp_37  σ) Q) : Ex sc CC 2 cd_37 Q 0 [some (.ref 4)] [] σ := by
  have v : CC 33 [.ref 4] σ (fun r3 σ3 => (r3 = 59 → ((1 : Int32) = 0 ∨ (1 : Int32) = 1) ∧ Q 1 (up σ3 4 2 ((σ3 4 2) + 1))) ∧ (¬ r3 = 59 → ((0 : Int32) = 0 ∨ (0 : Int32) = 1) ∧ Q 0 σ3)) := cc_33 (n_bn h (fun r3 σ3 h => n_if h (fun h => n_rb h) (fun h => n_rb h)))
  exact wpn_Ex (cuts := []) monCC (fun _ _ _ _ z => z) 13 0 _ _ _ v
-- TradeTests.says
set_option maxHeartbeats 20000000 in
set_option maxRecDepth 100000 in
theorem hp_39 {sc : Nat × (Nat → Int32)} {Q : Int32 → St → Prop} {x1 x2 : Int32} {σ : St} (h : Ap (sp_39 x1 x2 σ) Q) : Ex sc CC 1 cd_39 Q 0 [some (.ref 0), some (.int x1), some (.int x2), none, none] [] σ := by
  have v : (x2 = 0 → CC 1 [.int x1, .int 10000] σ (fun r61 σ61 => (r61 = 0 → CC 2 [.ref 0, .int 1] σ61 (fun r62 σ62 => Q r62 σ62)) ∧ (¬ r61 = 0 → (¬ (1 : Int32) = 0 → CC 40 [.ref 4, .int x1] σ61 (fun r63 σ63 => (0 ≤ r63 → (x2 < 10 → (¬ x2 = 0 → vp_in r63 6 ∧ (Q (σ63 41 (r63).toNatClampNeg) σ63)) ∧ (x2 = 0 → vp_in r63 6 ∧ (Q (σ63 40 (r63).toNatClampNeg) σ63))) ∧ (¬ x2 < 10 → CC 41 [.ref 4, .int r63, .int (x2 - 10)] σ63 (fun r64 σ64 => Q r64 σ64))) ∧ (¬ 0 ≤ r63 → CC 2 [.ref 0, .int 2] σ63 (fun r65 σ65 => Q r65 σ65)))) ∧ ((1 : Int32) = 0 → CC 2 [.ref 0, .int 1] σ61 (fun r66 σ66 => Q r66 σ66))))) ∧ (¬ x2 = 0 → (x2 = 1 → CC 1 [.int x1, .int 10000] σ (fun r67 σ67 => (r67 = 0 → CC 2 [.ref 0, .int 1] σ67 (fun r68 σ68 => Q r68 σ68)) ∧ (¬ r67 = 0 → (¬ (1 : Int32) = 0 → CC 40 [.ref 4, .int x1] σ67 (fun r69 σ69 => (0 ≤ r69 → (x2 < 10 → (¬ x2 = 0 → vp_in r69 6 ∧ (Q (σ69 41 (r69).toNatClampNeg) σ69)) ∧ (x2 = 0 → vp_in r69 6 ∧ (Q (σ69 40 (r69).toNatClampNeg) σ69))) ∧ (¬ x2 < 10 → CC 41 [.ref 4, .int r69, .int (x2 - 10)] σ69 (fun r70 σ70 => Q r70 σ70))) ∧ (¬ 0 ≤ r69 → CC 2 [.ref 0, .int 2] σ69 (fun r71 σ71 => Q r71 σ71)))) ∧ ((1 : Int32) = 0 → CC 2 [.ref 0, .int 1] σ67 (fun r72 σ72 => Q r72 σ72))))) ∧ (¬ x2 = 1 → (x2 < 10 → CC 1 [.int x1, .int 10000] σ (fun r73 σ73 => (r73 = 0 → CC 2 [.ref 0, .int 1] σ73 (fun r74 σ74 => Q r74 σ74)) ∧ (¬ r73 = 0 → (¬ (0 : Int32) = 0 → CC 40 [.ref 4, .int x1] σ73 (fun r75 σ75 => (0 ≤ r75 → (x2 < 10 → (¬ x2 = 0 → vp_in r75 6 ∧ (Q (σ75 41 (r75).toNatClampNeg) σ75)) ∧ (x2 = 0 → vp_in r75 6 ∧ (Q (σ75 40 (r75).toNatClampNeg) σ75))) ∧ (¬ x2 < 10 → CC 41 [.ref 4, .int r75, .int (x2 - 10)] σ75 (fun r76 σ76 => Q r76 σ76))) ∧ (¬ 0 ≤ r75 → CC 2 [.ref 0, .int 2] σ75 (fun r77 σ77 => Q r77 σ77)))) ∧ ((0 : Int32) = 0 → CC 2 [.ref 0, .int 1] σ73 (fun r78 σ78 => Q r78 σ78))))) ∧ (¬ x2 < 10 → (14 ≤ x2 → CC 1 [.int x1, .int 10000] σ (fun r79 σ79 => (r79 = 0 → CC 2 [.ref 0, .int 1] σ79 (fun r80 σ80 => Q r80 σ80)) ∧ (¬ r79 = 0 → (¬ (0 : Int32) = 0 → CC 40 [.ref 4, .int x1] σ79 (fun r81 σ81 => (0 ≤ r81 → (x2 < 10 → (¬ x2 = 0 → vp_in r81 6 ∧ (Q (σ81 41 (r81).toNatClampNeg) σ81)) ∧ (x2 = 0 → vp_in r81 6 ∧ (Q (σ81 40 (r81).toNatClampNeg) σ81))) ∧ (¬ x2 < 10 → CC 41 [.ref 4, .int r81, .int (x2 - 10)] σ81 (fun r82 σ82 => Q r82 σ82))) ∧ (¬ 0 ≤ r81 → CC 2 [.ref 0, .int 2] σ81 (fun r83 σ83 => Q r83 σ83)))) ∧ ((0 : Int32) = 0 → CC 2 [.ref 0, .int 1] σ79 (fun r84 σ84 => Q r84 σ84))))) ∧ (¬ 14 ≤ x2 → CC 1 [.int x1, .int 10000] σ (fun r85 σ85 => (r85 = 0 → CC 2 [.ref 0, .int 1] σ85 (fun r86 σ86 => Q r86 σ86)) ∧ (¬ r85 = 0 → (¬ (1 : Int32) = 0 → CC 40 [.ref 4, .int x1] σ85 (fun r87 σ87 => (0 ≤ r87 → (x2 < 10 → (¬ x2 = 0 → vp_in r87 6 ∧ (Q (σ87 41 (r87).toNatClampNeg) σ87)) ∧ (x2 = 0 → vp_in r87 6 ∧ (Q (σ87 40 (r87).toNatClampNeg) σ87))) ∧ (¬ x2 < 10 → CC 41 [.ref 4, .int r87, .int (x2 - 10)] σ87 (fun r88 σ88 => Q r88 σ88))) ∧ (¬ 0 ≤ r87 → CC 2 [.ref 0, .int 2] σ87 (fun r89 σ89 => Q r89 σ89)))) ∧ ((1 : Int32) = 0 → CC 2 [.ref 0, .int 1] σ85 (fun r90 σ90 => Q r90 σ90)))))))) := n_if h (fun h => cc_1 (n_bn h (fun r61 σ61 h => n_if h (fun h => cc_2 (n_bn h (fun r62 σ62 h => n_rt h))) (fun h => n_ne h (fun h => cc_2 (n_bn h (fun r66 σ66 h => n_rt h))) (fun h => cc_40 (n_bn h (fun r63 σ63 h => n_if h (fun h => n_if h (fun h => n_ne h (fun h => n_mb h (fun h => n_rt h)) (fun h => n_mb h (fun h => n_rt h))) (fun h => cc_41 (n_bn h (fun r64 σ64 h => n_rt h)))) (fun h => cc_2 (n_bn h (fun r65 σ65 h => n_rt h)))))))))) (fun h => n_if h (fun h => cc_1 (n_bn h (fun r67 σ67 h => n_if h (fun h => cc_2 (n_bn h (fun r68 σ68 h => n_rt h))) (fun h => n_ne h (fun h => cc_2 (n_bn h (fun r72 σ72 h => n_rt h))) (fun h => cc_40 (n_bn h (fun r69 σ69 h => n_if h (fun h => n_if h (fun h => n_ne h (fun h => n_mb h (fun h => n_rt h)) (fun h => n_mb h (fun h => n_rt h))) (fun h => cc_41 (n_bn h (fun r70 σ70 h => n_rt h)))) (fun h => cc_2 (n_bn h (fun r71 σ71 h => n_rt h)))))))))) (fun h => n_if h (fun h => cc_1 (n_bn h (fun r73 σ73 h => n_if h (fun h => cc_2 (n_bn h (fun r74 σ74 h => n_rt h))) (fun h => n_ne h (fun h => cc_2 (n_bn h (fun r78 σ78 h => n_rt h))) (fun h => cc_40 (n_bn h (fun r75 σ75 h => n_if h (fun h => n_if h (fun h => n_ne h (fun h => n_mb h (fun h => n_rt h)) (fun h => n_mb h (fun h => n_rt h))) (fun h => cc_41 (n_bn h (fun r76 σ76 h => n_rt h)))) (fun h => cc_2 (n_bn h (fun r77 σ77 h => n_rt h)))))))))) (fun h => n_if h (fun h => cc_1 (n_bn h (fun r79 σ79 h => n_if h (fun h => cc_2 (n_bn h (fun r80 σ80 h => n_rt h))) (fun h => n_ne h (fun h => cc_2 (n_bn h (fun r84 σ84 h => n_rt h))) (fun h => cc_40 (n_bn h (fun r81 σ81 h => n_if h (fun h => n_if h (fun h => n_ne h (fun h => n_mb h (fun h => n_rt h)) (fun h => n_mb h (fun h => n_rt h))) (fun h => cc_41 (n_bn h (fun r82 σ82 h => n_rt h)))) (fun h => cc_2 (n_bn h (fun r83 σ83 h => n_rt h)))))))))) (fun h => cc_1 (n_bn h (fun r85 σ85 h => n_if h (fun h => cc_2 (n_bn h (fun r86 σ86 h => n_rt h))) (fun h => n_ne h (fun h => cc_2 (n_bn h (fun r90 σ90 h => n_rt h))) (fun h => cc_40 (n_bn h (fun r87 σ87 h => n_if h (fun h => n_if h (fun h => n_ne h (fun h => n_mb h (fun h => n_rt h)) (fun h => n_mb h (fun h => n_rt h))) (fun h => cc_41 (n_bn h (fun r88 σ88 h => n_rt h)))) (fun h => cc_2 (n_bn h (fun r89 σ89 h => n_rt h)))))))))))))
  exact wpn_Ex (cuts := []) monCC (fun _ _ _ _ z => z) 40 0 _ _ _ v
-- TradeTests$Judge.passes
set_option maxHeartbeats 20000000 in
set_option maxRecDepth 100000 in
theorem hp_43 {sc : Nat × (Nat → Int32)} {Q : Int32 → St → Prop} {x1 : Int32} {σ : St} (h : Ap (sp_43 x1 σ) Q) : Ex sc CC 2 cd_43 Q 0 [some (.ref 5), some (.int x1), none, none] [] σ := by
  have v : vp_in x1 80 ∧ (CC 40 [.ref 4, .int (σ 26 (x1).toNatClampNeg)] σ (fun r7 σ7 => (0 ≤ r7 → vp_in x1 80 ∧ (vp_in (σ7 24 (x1).toNatClampNeg) 24 ∧ (CC 41 [.ref 4, .int r7, .int (σ7 15 (σ7 24 (x1).toNatClampNeg).toNatClampNeg)] σ7 (fun r8 σ8 => vp_in x1 80 ∧ (((r8 &&& (σ8 32 (x1).toNatClampNeg)) = 0 → ((σ7 15 (σ7 24 (x1).toNatClampNeg).toNatClampNeg) = 3 → ((1 : Int32) = 0 ∨ (1 : Int32) = 1) ∧ Q 1 σ8) ∧ (¬ (σ7 15 (σ7 24 (x1).toNatClampNeg).toNatClampNeg) = 3 → vp_in x1 80 ∧ (vp_in x1 80 ∧ (CC 44 [.ref 5, .int r7, .int (σ8 30 (x1).toNatClampNeg), .int (σ8 31 (x1).toNatClampNeg)] σ8 (fun r9 σ9 => (r9 = 0 → ((0 : Int32) = 0 ∨ (0 : Int32) = 1) ∧ Q 0 σ9) ∧ (¬ r9 = 0 → ((1 : Int32) = 0 ∨ (1 : Int32) = 1) ∧ Q 1 σ9)))))) ∧ (¬ (r8 &&& (σ8 32 (x1).toNatClampNeg)) = 0 → ((0 : Int32) = 0 ∨ (0 : Int32) = 1) ∧ Q 0 σ8)))))) ∧ (¬ 0 ≤ r7 → ((1 : Int32) = 0 ∨ (1 : Int32) = 1) ∧ Q 1 σ7))) := n_mb h (fun h => cc_40 (n_bn h (fun r7 σ7 h => n_if h (fun h => n_mb h (fun h => n_mb h (fun h => cc_41 (n_bn h (fun r8 σ8 h => n_mb h (fun h => n_if h (fun h => n_if h (fun h => n_rb h) (fun h => n_mb h (fun h => n_mb h (fun h => cc_44 (n_bn h (fun r9 σ9 h => n_if h (fun h => n_rb h) (fun h => n_rb h))))))) (fun h => n_rb h))))))) (fun h => n_rb h))))
  exact wpn_Ex (cuts := []) monCC (fun _ _ _ _ z => z) 54 0 _ _ _ v
-- TradeTests$Signals.isAlike
set_option maxHeartbeats 20000000 in
set_option maxRecDepth 100000 in
theorem hp_52 {sc : Nat × (Nat → Int32)} {Q : Int32 → St → Prop} {x1 x2 : Int32} {σ : St} (h : Ap (sp_52 x1 x2 σ) Q) : Ex sc CC 2 cd_52 Q 0 [some (.ref 6), some (.int x1), some (.int x2)] [] σ := by
  have v : vp_in x1 80 ∧ (vp_in x2 80 ∧ (((σ 24 (x1).toNatClampNeg) = (σ 24 (x2).toNatClampNeg) → ((0 : Int32) = 0 ∨ (0 : Int32) = 1) ∧ Q 0 σ) ∧ (¬ (σ 24 (x1).toNatClampNeg) = (σ 24 (x2).toNatClampNeg) → vp_in x1 80 ∧ (vp_in x2 80 ∧ ((30 < (absI ((σ 26 (x1).toNatClampNeg) - (σ 26 (x2).toNatClampNeg))) → ((0 : Int32) = 0 ∨ (0 : Int32) = 1) ∧ Q 0 σ) ∧ (¬ 30 < (absI ((σ 26 (x1).toNatClampNeg) - (σ 26 (x2).toNatClampNeg))) → vp_in x1 80 ∧ (vp_in x2 80 ∧ ((1 < (absI ((σ 30 (x1).toNatClampNeg) - (σ 30 (x2).toNatClampNeg))) → ((0 : Int32) = 0 ∨ (0 : Int32) = 1) ∧ Q 0 σ) ∧ (¬ 1 < (absI ((σ 30 (x1).toNatClampNeg) - (σ 30 (x2).toNatClampNeg))) → vp_in x1 80 ∧ (vp_in x2 80 ∧ ((1 < (absI ((σ 31 (x1).toNatClampNeg) - (σ 31 (x2).toNatClampNeg))) → ((0 : Int32) = 0 ∨ (0 : Int32) = 1) ∧ Q 0 σ) ∧ (¬ 1 < (absI ((σ 31 (x1).toNatClampNeg) - (σ 31 (x2).toNatClampNeg))) → ((1 : Int32) = 0 ∨ (1 : Int32) = 1) ∧ Q 1 σ)))))))))))) := n_mb h (fun h => n_mb h (fun h => n_if h (fun h => n_rb h) (fun h => n_mb h (fun h => n_mb h (fun h => n_if h (fun h => n_rb h) (fun h => n_mb h (fun h => n_mb h (fun h => n_if h (fun h => n_rb h) (fun h => n_mb h (fun h => n_mb h (fun h => n_if h (fun h => n_rb h) (fun h => n_rb h))))))))))))
  exact wpn_Ex (cuts := []) monCC (fun _ _ _ _ z => z) 57 0 _ _ _ v
-- TradeTests$Signals.isOverlapping
set_option maxHeartbeats 20000000 in
set_option maxRecDepth 100000 in
theorem hl_55_2 {sc : Nat × (Nat → Int32)} {Q : Int32 → St → Prop} : ∀ (n : Nat) (v1 : Int32) (v2 : Int32) (σ : St), Ap (lp_55_2 n v1 v2 σ) Q → Ex sc CC 2 cd_55 Q 2 [some (.ref 6), some (.int v1), some (.int v2)] [] σ := by
  intro n
  induction n with
  | zero => intro v1 v2 σ h; exact n_no h
  | succ n ih =>
    intro v1 v2 σ h
    have v : ((σ 3 14) ≤ v2 → ((0 : Int32) = 0 ∨ (0 : Int32) = 1) ∧ Q 0 σ) ∧ (¬ (σ 3 14) ≤ v2 → (v2 = v1 → Ex sc CC 2 cd_55 Q 2 [some (.ref 6), some (.int v1), some (.int (v2 + 1))] [] σ) ∧ (¬ v2 = v1 → vp_in v2 80 ∧ (vp_in v1 80 ∧ ((¬ (σ 25 (v2).toNatClampNeg) = (σ 25 (v1).toNatClampNeg) → Ex sc CC 2 cd_55 Q 2 [some (.ref 6), some (.int v1), some (.int (v2 + 1))] [] σ) ∧ ((σ 25 (v2).toNatClampNeg) = (σ 25 (v1).toNatClampNeg) → CC 56 [.ref 6, .int v2, .int v1] σ (fun r3 σ3 => (r3 = 0 → Ex sc CC 2 cd_55 Q 2 [some (.ref 6), some (.int v1), some (.int (v2 + 1))] [] σ3) ∧ (¬ r3 = 0 → ((1 : Int32) = 0 ∨ (1 : Int32) = 1) ∧ Q 1 σ3))))))) := n_if h (fun h => n_rb h) (fun h => n_if h (fun h => ih v1 (v2 + 1) σ h) (fun h => n_mb h (fun h => n_mb h (fun h => n_ne h (fun h => cc_56 (n_bn h (fun r3 σ3 h => n_if h (fun h => ih v1 (v2 + 1) σ3 h) (fun h => n_rb h)))) (fun h => ih v1 (v2 + 1) σ h)))))
    exact stw_Ex (cuts := [2]) monCC 27 v
set_option maxHeartbeats 20000000 in
set_option maxRecDepth 100000 in
theorem hp_55 {sc : Nat × (Nat → Int32)} {Q : Int32 → St → Prop} {x1 : Int32} {σ : St} (h : Ap (sp_55 x1 σ) Q) : Ex sc CC 2 cd_55 Q 0 [some (.ref 6), some (.int x1), none] [] σ := by
  have v : Ex sc CC 2 cd_55 Q 2 [some (.ref 6), some (.int x1), some (.int 0)] [] σ := hl_55_2 FU x1 0 σ h
  exact wpn_Ex (cuts := [2]) monCC (fun _ _ _ _ z => z) 4 0 _ _ _ v
-- TradeTests$Secrets.knownIn
set_option maxHeartbeats 20000000 in
set_option maxRecDepth 100000 in
theorem hp_60 {sc : Nat × (Nat → Int32)} {Q : Int32 → St → Prop} {x1 : Int32} {σ : St} (h : Ap (sp_60 x1 σ) Q) : Ex sc CC 1 cd_60 Q 0 [some (.ref 9), some (.int x1)] [] σ := by
  have v : CC 61 [.ref 9, .int x1] σ (fun r3 σ3 => (r3 = 0 → Q 0 σ3) ∧ (¬ r3 = 0 → vp_in x1 80 ∧ (vp_in ((σ3 35 (x1).toNatClampNeg) - 1) 6 ∧ (Q (σ3 45 ((σ3 35 (x1).toNatClampNeg) - 1).toNatClampNeg) σ3)))) := cc_61 (n_bn h (fun r3 σ3 h => n_if h (fun h => n_rt h) (fun h => n_mb h (fun h => n_mb h (fun h => n_rt h)))))
  exact wpn_Ex (cuts := []) monCC (fun _ _ _ _ z => z) 17 0 _ _ _ v
-- TradeTests$Rates.cellOf
set_option maxHeartbeats 20000000 in
set_option maxRecDepth 100000 in
theorem hp_64 {sc : Nat × (Nat → Int32)} {Q : Int32 → St → Prop} {x1 : Int32} {σ : St} (h : Ap (sp_64 x1 σ) Q) : Ex sc CC 1 cd_64 Q 0 [some (.ref 7), some (.int x1), none] [] σ := by
  have v : vp_in x1 80 ∧ (vp_in x1 80 ∧ (CC 65 [.ref 1, .int (σ 24 (x1).toNatClampNeg), .int (σ 26 (x1).toNatClampNeg)] σ (fun r3 σ3 => vp_in (σ 24 (x1).toNatClampNeg) 24 ∧ (Q ((r3 * 4) + (σ3 16 (σ 24 (x1).toNatClampNeg).toNatClampNeg)) σ3)))) := n_mb h (fun h => n_mb h (fun h => cc_65 (n_bn h (fun r3 σ3 h => n_mb h (fun h => n_rt h)))))
  exact wpn_Ex (cuts := []) monCC (fun _ _ _ _ z => z) 25 0 _ _ _ v
-- TradeTests$Odometer.fall
set_option maxHeartbeats 20000000 in
set_option maxRecDepth 100000 in
theorem hp_76 {sc : Nat × (Nat → Int32)} {Q : Int32 → St → Prop} {x1 : Int32} {σ : St} (h : Ap (sp_76 x1 σ) Q) : Ex sc CC 1 cd_76 Q 0 [some (.ref 8), some (.int x1), none, none] [] σ := by
  have v : vp_in x1 80 ∧ (CC 77 [.ref 8, .int x1] σ (fun r7 σ7 => ((σ 29 (x1).toNatClampNeg) < r7 → CC 78 [.ref 8, .int x1] σ7 (fun r8 σ8 => CC 79 [.int (σ 29 (x1).toNatClampNeg), .int r7, .int r8] σ8 (fun r9 σ9 => (r9 = 0 → Q 2 σ9) ∧ (¬ r9 = 0 → Q 1 σ9)))) ∧ (¬ (σ 29 (x1).toNatClampNeg) < r7 → Q 0 σ7))) := n_mb h (fun h => cc_77 (n_bn h (fun r7 σ7 h => n_if h (fun h => cc_78 (n_bn h (fun r8 σ8 h => cc_79 (n_bn h (fun r9 σ9 h => n_if h (fun h => n_rt h) (fun h => n_rt h)))))) (fun h => n_rt h))))
  exact wpn_Ex (cuts := []) monCC (fun _ _ _ _ z => z) 24 0 _ _ _ v
-- TradeTests$Penalties.isRule
set_option maxHeartbeats 20000000 in
set_option maxRecDepth 100000 in
theorem hp_81 {sc : Nat × (Nat → Int32)} {Q : Int32 → St → Prop} {x1 x2 : Int32} {σ : St} (h : Ap (sp_81 x1 x2 σ) Q) : Ex sc CC 2 cd_81 Q 0 [some (.ref 10), some (.int x1), some (.int x2)] [] σ := by
  have v : CC 1 [.int x1, .int 3] σ (fun r3 σ3 => (r3 = 0 → ((0 : Int32) = 0 ∨ (0 : Int32) = 1) ∧ Q 0 σ3) ∧ (¬ r3 = 0 → (x2 < 1 → ((0 : Int32) = 0 ∨ (0 : Int32) = 1) ∧ Q 0 σ3) ∧ (¬ x2 < 1 → vp_in x1 3 ∧ ((((sV 2).getD (x1).toNatClampNeg 0) < x2 → ((0 : Int32) = 0 ∨ (0 : Int32) = 1) ∧ Q 0 σ3) ∧ (¬ ((sV 2).getD (x1).toNatClampNeg 0) < x2 → ((1 : Int32) = 0 ∨ (1 : Int32) = 1) ∧ Q 1 σ3))))) := cc_1 (n_bn h (fun r3 σ3 h => n_if h (fun h => n_rb h) (fun h => n_if h (fun h => n_rb h) (fun h => n_mb h (fun h => n_if h (fun h => n_rb h) (fun h => n_rb h))))))
  exact wpn_Ex (cuts := []) monCC (fun _ _ _ _ z => z) 16 0 _ _ _ v
-- TradeTests.appeal
set_option maxHeartbeats 20000000 in
set_option maxRecDepth 100000 in
theorem hp_83 {sc : Nat × (Nat → Int32)} {Q : Int32 → St → Prop} {x1 x2 : Int32} {σ : St} (h : Ap (sp_83 x1 x2 σ) Q) : Ex sc CC 1 cd_83 Q 0 [some (.ref 0), some (.int x1), some (.int x2), none] [] σ := by
  have v : CC 1 [.int x1, .int (σ 3 14)] σ (fun r9 σ9 => (r9 = 0 → CC 2 [.ref 0, .int 1] σ9 (fun r10 σ10 => Q r10 σ10)) ∧ (¬ r9 = 0 → CC 1 [.int x2, .int 2] σ9 (fun r11 σ11 => (¬ r11 = 0 → vp_in x1 80 ∧ (vp_in x1 80 ∧ (Q (σ11 34 (x1).toNatClampNeg) (up σ11 34 (x1).toNatClampNeg x2)))) ∧ (r11 = 0 → CC 2 [.ref 0, .int 1] σ11 (fun r12 σ12 => Q r12 σ12))))) := cc_1 (n_bn h (fun r9 σ9 h => n_if h (fun h => cc_2 (n_bn h (fun r10 σ10 h => n_rt h))) (fun h => cc_1 (n_bn h (fun r11 σ11 h => n_ne h (fun h => cc_2 (n_bn h (fun r12 σ12 h => n_rt h))) (fun h => n_mb h (fun h => n_mb h (fun h => n_rt h))))))))
  exact wpn_Ex (cuts := []) monCC (fun _ _ _ _ z => z) 25 0 _ _ _ v
-- TradeTests.secret
set_option maxHeartbeats 20000000 in
set_option maxRecDepth 100000 in
theorem hp_93 {sc : Nat × (Nat → Int32)} {Q : Int32 → St → Prop} {x1 : Int32} {σ : St} (h : Ap (sp_93 x1 σ) Q) : Ex sc CC 1 cd_93 Q 0 [some (.ref 0), some (.int x1)] [] σ := by
  have v : (x1 < 1 → CC 2 [.ref 0, .int 1] σ (fun r9 σ9 => Q r9 σ9)) ∧ (¬ x1 < 1 → (x1 < 256 → ((σ 9 3) < 6 → CC 94 [.ref 9, .int x1] σ (fun r10 σ10 => Q r10 σ10)) ∧ (¬ (σ 9 3) < 6 → CC 2 [.ref 0, .int 4] σ (fun r11 σ11 => Q r11 σ11))) ∧ (¬ x1 < 256 → CC 2 [.ref 0, .int 1] σ (fun r12 σ12 => Q r12 σ12))) := n_if h (fun h => cc_2 (n_bn h (fun r9 σ9 h => n_rt h))) (fun h => n_if h (fun h => n_if h (fun h => cc_94 (n_bn h (fun r10 σ10 h => n_rt h))) (fun h => cc_2 (n_bn h (fun r11 σ11 h => n_rt h)))) (fun h => cc_2 (n_bn h (fun r12 σ12 h => n_rt h))))
  exact wpn_Ex (cuts := []) monCC (fun _ _ _ _ z => z) 17 0 _ _ _ v
-- TradeTests$Plan.newFaults
set_option maxHeartbeats 20000000 in
set_option maxRecDepth 100000 in
theorem hp_99 {sc : Nat × (Nat → Int32)} {Q : Int32 → St → Prop} {x1 : Int32} {σ : St} (h : Ap (sp_99 x1 σ) Q) : Ex sc CC 1 cd_99 Q 0 [some (.ref 11), some (.int x1)] [] σ := by
  have v : vp_in x1 6 ∧ (CC 59 [.int ((σ 45 (x1).toNatClampNeg) &&& ((σ 11 7) ^^^ (-1)))] σ (fun r3 σ3 => Q r3 σ3)) := n_mb h (fun h => cc_59 (n_bn h (fun r3 σ3 h => n_rt h)))
  exact wpn_Ex (cuts := []) monCC (fun _ _ _ _ z => z) 13 0 _ _ _ v
-- TradeTests$Plan.mostFrom
set_option maxHeartbeats 20000000 in
set_option maxRecDepth 100000 in
theorem hl_103_17 {sc : Nat × (Nat → Int32)} {Q : Int32 → St → Prop} : ∀ (n : Nat) (v1 : Int32) (v2 : Int32) (v3 : Int32) (v4 : Int32) (σ : St), Ap (lp_103_17 n v1 v2 v3 v4 σ) Q → Ex sc CC 1 cd_103 Q 17 [some (.ref 11), some (.int v1), some (.int v2), some (.int v3), some (.int v4)] [] σ := by
  intro n
  induction n with
  | zero => intro v1 v2 v3 v4 σ h; exact n_no h
  | succ n ih =>
    intro v1 v2 v3 v4 σ h
    have v : ((σ 2 2) ≤ v4 → Q v3 σ) ∧ (¬ (σ 2 2) ≤ v4 → CC 104 [.int v2, .int v4] σ (fun r5 σ5 => (r5 = 0 → Ex sc CC 1 cd_103 Q 17 [some (.ref 11), some (.int v1), some (.int v2), some (.int v3), some (.int (v4 + 1))] [] σ5) ∧ (¬ r5 = 0 → CC 105 [.ref 11, .int v1, .int v4, .int v2] σ5 (fun r6 σ6 => Ex sc CC 1 cd_103 Q 17 [some (.ref 11), some (.int v1), some (.int v2), some (.int (maxI v3 r6)), some (.int (v4 + 1))] [] σ6)))) := n_if h (fun h => n_rt h) (fun h => cc_104 (n_bn h (fun r5 σ5 h => n_if h (fun h => ih v1 v2 v3 (v4 + 1) σ5 h) (fun h => cc_105 (n_bn h (fun r6 σ6 h => ih v1 v2 (maxI v3 r6) (v4 + 1) σ6 h))))))
    exact stw_Ex (cuts := [17]) monCC 20 v
set_option maxHeartbeats 20000000 in
set_option maxRecDepth 100000 in
theorem hp_103 {sc : Nat × (Nat → Int32)} {Q : Int32 → St → Prop} {x1 x2 : Int32} {σ : St} (h : Ap (sp_103 x1 x2 σ) Q) : Ex sc CC 1 cd_103 Q 0 [some (.ref 11), some (.int x1), some (.int x2), none, none] [] σ := by
  have v : vp_in (((x1 + 1) * 64) + x2) 448 ∧ (Ex sc CC 1 cd_103 Q 17 [some (.ref 11), some (.int x1), some (.int x2), some (.int (σ 49 (((x1 + 1) * 64) + x2).toNatClampNeg)), some (.int 0)] [] σ) := n_mb h (fun h => hl_103_17 FU x1 x2 (σ 49 (((x1 + 1) * 64) + x2).toNatClampNeg) 0 σ h)
  exact wpn_Ex (cuts := [17]) monCC (fun _ _ _ _ z => z) 15 0 _ _ _ v
-- TradeTests$Plan.leastGarage
set_option maxHeartbeats 20000000 in
set_option maxRecDepth 100000 in
theorem hl_109_2 {sc : Nat × (Nat → Int32)} {Q : Int32 → St → Prop} : ∀ (n : Nat) (v1 : Int32) (v2 : Int32) (v3 : Int32) (σ : St), Ap (lp_109_2 n v1 v2 v3 σ) Q → Ex sc CC 1 cd_109 Q 2 [some (.ref 11), some (.int v1), some (.int v2), some (.int v3)] [] σ := by
  intro n
  induction n with
  | zero => intro v1 v2 v3 σ h; exact n_no h
  | succ n ih =>
    intro v1 v2 v3 σ h
    have v : ((σ 2 2) ≤ v3 → Q (-1) σ) ∧ (¬ (σ 2 2) ≤ v3 → CC 104 [.int v2, .int v3] σ (fun r5 σ5 => (r5 = 0 → Ex sc CC 1 cd_109 Q 2 [some (.ref 11), some (.int v1), some (.int v2), some (.int (v3 + 1))] [] σ5) ∧ (¬ r5 = 0 → CC 105 [.ref 11, .int v1, .int v3, .int v2] σ5 (fun r6 σ6 => vp_in ((v1 * 64) + v2) 448 ∧ ((¬ r6 = (σ6 49 ((v1 * 64) + v2).toNatClampNeg) → Ex sc CC 1 cd_109 Q 2 [some (.ref 11), some (.int v1), some (.int v2), some (.int (v3 + 1))] [] σ6) ∧ (r6 = (σ6 49 ((v1 * 64) + v2).toNatClampNeg) → Q v3 σ6)))))) := n_if h (fun h => n_rt h) (fun h => cc_104 (n_bn h (fun r5 σ5 h => n_if h (fun h => ih v1 v2 (v3 + 1) σ5 h) (fun h => cc_105 (n_bn h (fun r6 σ6 h => n_mb h (fun h => n_ne h (fun h => n_rt h) (fun h => ih v1 v2 (v3 + 1) σ6 h))))))))
    exact stw_Ex (cuts := [2]) monCC 26 v
set_option maxHeartbeats 20000000 in
set_option maxRecDepth 100000 in
theorem hp_109 {sc : Nat × (Nat → Int32)} {Q : Int32 → St → Prop} {x1 x2 : Int32} {σ : St} (h : Ap (sp_109 x1 x2 σ) Q) : Ex sc CC 1 cd_109 Q 0 [some (.ref 11), some (.int x1), some (.int x2), none] [] σ := by
  have v : Ex sc CC 1 cd_109 Q 2 [some (.ref 11), some (.int x1), some (.int x2), some (.int 0)] [] σ := hl_109_2 FU x1 x2 0 σ h
  exact wpn_Ex (cuts := [2]) monCC (fun _ _ _ _ z => z) 4 0 _ _ _ v
-- TradeTests.draw
set_option maxHeartbeats 20000000 in
set_option maxRecDepth 100000 in
theorem hp_110 {sc : Nat × (Nat → Int32)} {Q : Int32 → St → Prop} {x1 x2 x3 : Int32} {σ : St} (h : Ap (sp_110 x1 x2 x3 σ) Q) : Ex sc CC 1 cd_110 Q 0 [some (.ref 0), some (.int x1), some (.int x2), some (.int x3)] [] σ := by
  have v : CC 1 [.int x1, .int (σ 3 14)] σ (fun r19 σ19 => (r19 = 0 → CC 2 [.ref 0, .int 1] σ19 (fun r20 σ20 => Q r20 σ20)) ∧ (¬ r19 = 0 → (x2 < 1 → CC 2 [.ref 0, .int 1] σ19 (fun r21 σ21 => Q r21 σ21)) ∧ (¬ x2 < 1 → (100 < x2 → CC 2 [.ref 0, .int 1] σ19 (fun r22 σ22 => Q r22 σ22)) ∧ (¬ 100 < x2 → CC 1 [.int x3, .int 2] σ19 (fun r23 σ23 => (¬ r23 = 0 → CC 111 [.ref 3, .int x1] σ23 (fun r24 σ24 => (r24 = 0 → CC 112 [.ref 3, .int x1, .int x2, .int x3] σ24 (fun r25 σ25 => Q r25 σ25)) ∧ (¬ r24 = 0 → CC 2 [.ref 0, .int 3] σ24 (fun r26 σ26 => Q r26 σ26)))) ∧ (r23 = 0 → CC 2 [.ref 0, .int 1] σ23 (fun r27 σ27 => Q r27 σ27))))))) := cc_1 (n_bn h (fun r19 σ19 h => n_if h (fun h => cc_2 (n_bn h (fun r20 σ20 h => n_rt h))) (fun h => n_if h (fun h => cc_2 (n_bn h (fun r21 σ21 h => n_rt h))) (fun h => n_if h (fun h => cc_2 (n_bn h (fun r22 σ22 h => n_rt h))) (fun h => cc_1 (n_bn h (fun r23 σ23 h => n_ne h (fun h => cc_2 (n_bn h (fun r27 σ27 h => n_rt h))) (fun h => cc_111 (n_bn h (fun r24 σ24 h => n_if h (fun h => cc_112 (n_bn h (fun r25 σ25 h => n_rt h))) (fun h => cc_2 (n_bn h (fun r26 σ26 h => n_rt h)))))))))))))
  exact wpn_Ex (cuts := []) monCC (fun _ _ _ _ z => z) 29 0 _ _ _ v
-- TradeTests.error
set_option maxHeartbeats 20000000 in
set_option maxRecDepth 100000 in
theorem hp_113 {sc : Nat × (Nat → Int32)} {Q : Int32 → St → Prop}  {σ : St} (h : Ap (sp_113  σ) Q) : Ex sc CC 1 cd_113 Q 0 [some (.ref 0), none] [] σ := by
  have v : CC 114 [.ref 3] σ (fun r5 σ5 => (0 ≤ r5 → Q r5 σ5) ∧ (¬ 0 ≤ r5 → CC 2 [.ref 0, .int 2] σ5 (fun r6 σ6 => Q r6 σ6))) := cc_114 (n_bn h (fun r5 σ5 h => n_if h (fun h => n_rt h) (fun h => cc_2 (n_bn h (fun r6 σ6 h => n_rt h)))))
  exact wpn_Ex (cuts := []) monCC (fun _ _ _ _ z => z) 12 0 _ _ _ v
-- TradeTests.tell
set_option maxHeartbeats 20000000 in
set_option maxRecDepth 100000 in
theorem hp_117 {sc : Nat × (Nat → Int32)} {Q : Int32 → St → Prop} {x1 : Int32} {σ : St} (h : Ap (sp_117 x1 σ) Q) : Ex sc CC 1 cd_117 Q 0 [some (.ref 0), some (.int x1)] [] σ := by
  have v : ((σ 0 12) < 8 → vp_in (σ 0 12) 8 ∧ (Q ((σ 0 12) + 1) (up (up σ 13 (σ 0 12).toNatClampNeg x1) 0 12 ((σ 0 12) + 1)))) ∧ (¬ (σ 0 12) < 8 → CC 2 [.ref 0, .int 4] σ (fun r3 σ3 => Q r3 σ3)) := n_if h (fun h => n_mb h (fun h => n_rt h)) (fun h => cc_2 (n_bn h (fun r3 σ3 h => n_rt h)))
  exact wpn_Ex (cuts := []) monCC (fun _ _ _ _ z => z) 20 0 _ _ _ v
-- TradeTests.found
set_option maxHeartbeats 20000000 in
set_option maxRecDepth 100000 in
theorem hp_121 {sc : Nat × (Nat → Int32)} {Q : Int32 → St → Prop} {x1 : Int32} {σ : St} (h : Ap (sp_121 x1 σ) Q) : Ex sc CC 1 cd_121 Q 0 [some (.ref 0), some (.int x1)] [] σ := by
  have v : (x1 < 1 → CC 2 [.ref 0, .int 1] σ (fun r5 σ5 => Q r5 σ5)) ∧ (¬ x1 < 1 → (x1 ≤ 5 → vp_in x1 6 ∧ (Q (σ 14 (x1).toNatClampNeg) σ)) ∧ (¬ x1 ≤ 5 → CC 2 [.ref 0, .int 1] σ (fun r6 σ6 => Q r6 σ6))) := n_if h (fun h => cc_2 (n_bn h (fun r5 σ5 h => n_rt h))) (fun h => n_if h (fun h => n_mb h (fun h => n_rt h)) (fun h => cc_2 (n_bn h (fun r6 σ6 h => n_rt h))))
  exact wpn_Ex (cuts := []) monCC (fun _ _ _ _ z => z) 12 0 _ _ _ v
-- TradeTestsModel.isDay
set_option maxHeartbeats 20000000 in
set_option maxRecDepth 100000 in
theorem hp_124 {sc : Nat × (Nat → Int32)} {Q : Int32 → St → Prop} {x1 : Int32} {σ : St} (h : Ap (sp_124 x1 σ) Q) : Ex sc CC 2 cd_124 Q 0 [some (.int x1)] [] σ := by
  have v : CC 123 [.int x1, .int 0, .int 9999] σ (fun r3 σ3 => (r3 = 0 ∨ r3 = 1) ∧ Q r3 σ3) := cc_123 (n_bn h (fun r3 σ3 h => n_rb h))
  exact wpn_Ex (cuts := []) monCC (fun _ _ _ _ z => z) 6 0 _ _ _ v
-- TradeTestsModel.isVehicle
set_option maxHeartbeats 20000000 in
set_option maxRecDepth 100000 in
theorem hp_127 {sc : Nat × (Nat → Int32)} {Q : Int32 → St → Prop} {x1 : Int32} {σ : St} (h : Ap (sp_127 x1 σ) Q) : Ex sc CC 2 cd_127 Q 0 [some (.ref 12), some (.int x1)] [] σ := by
  have v : CC 123 [.int x1, .int 0, .int ((σ 12 0) - 1)] σ (fun r3 σ3 => (r3 = 0 ∨ r3 = 1) ∧ Q r3 σ3) := cc_123 (n_bn h (fun r3 σ3 h => n_rb h))
  exact wpn_Ex (cuts := []) monCC (fun _ _ _ _ z => z) 9 0 _ _ _ v
-- TradeTestsModel.garage
set_option maxHeartbeats 20000000 in
set_option maxRecDepth 100000 in
theorem hp_130 {sc : Nat × (Nat → Int32)} {Q : Int32 → St → Prop} {x1 x2 : Int32} {σ : St} (h : Ap (sp_130 x1 x2 σ) Q) : Ex sc CC 1 cd_130 Q 0 [some (.ref 12), some (.int x1), some (.int x2)] [] σ := by
  have v : CC 123 [.int x1, .int 0, .int 1439] σ (fun r11 σ11 => (r11 = 0 → CC 125 [.ref 12, .int 1] σ11 (fun r12 σ12 => Q r12 σ12)) ∧ (¬ r11 = 0 → CC 123 [.int x2, .int (x1 + 1), .int 1440] σ11 (fun r13 σ13 => (¬ r13 = 0 → (¬ (σ13 12 1) = 6 → vp_in (σ13 12 1) 6 ∧ (vp_in (σ13 12 1) 6 ∧ (Q (((σ13 12 1) + 1) - 1) (up (up (up σ13 53 (σ13 12 1).toNatClampNeg x1) 54 (σ13 12 1).toNatClampNeg x2) 12 1 ((σ13 12 1) + 1))))) ∧ ((σ13 12 1) = 6 → CC 125 [.ref 12, .int 4] σ13 (fun r14 σ14 => Q r14 σ14))) ∧ (r13 = 0 → CC 125 [.ref 12, .int 1] σ13 (fun r15 σ15 => Q r15 σ15))))) := cc_123 (n_bn h (fun r11 σ11 h => n_if h (fun h => cc_125 (n_bn h (fun r12 σ12 h => n_rt h))) (fun h => cc_123 (n_bn h (fun r13 σ13 h => n_ne h (fun h => cc_125 (n_bn h (fun r15 σ15 h => n_rt h))) (fun h => n_ne h (fun h => cc_125 (n_bn h (fun r14 σ14 h => n_rt h))) (fun h => n_mb h (fun h => n_mb h (fun h => n_rt h)))))))))
  exact wpn_Ex (cuts := []) monCC (fun _ _ _ _ z => z) 40 0 _ _ _ v
-- TradeTestsModel.isGarage
set_option maxHeartbeats 20000000 in
set_option maxRecDepth 100000 in
theorem hp_132 {sc : Nat × (Nat → Int32)} {Q : Int32 → St → Prop} {x1 : Int32} {σ : St} (h : Ap (sp_132 x1 σ) Q) : Ex sc CC 2 cd_132 Q 0 [some (.ref 12), some (.int x1)] [] σ := by
  have v : CC 123 [.int x1, .int 0, .int ((σ 12 1) - 1)] σ (fun r3 σ3 => (r3 = 0 ∨ r3 = 1) ∧ Q r3 σ3) := cc_123 (n_bn h (fun r3 σ3 h => n_rb h))
  exact wpn_Ex (cuts := []) monCC (fun _ _ _ _ z => z) 9 0 _ _ _ v
-- TradeTestsModel.isTester
set_option maxHeartbeats 20000000 in
set_option maxRecDepth 100000 in
theorem hp_134 {sc : Nat × (Nat → Int32)} {Q : Int32 → St → Prop} {x1 : Int32} {σ : St} (h : Ap (sp_134 x1 σ) Q) : Ex sc CC 2 cd_134 Q 0 [some (.ref 12), some (.int x1)] [] σ := by
  have v : CC 123 [.int x1, .int 0, .int ((σ 12 2) - 1)] σ (fun r3 σ3 => (r3 = 0 ∨ r3 = 1) ∧ Q r3 σ3) := cc_123 (n_bn h (fun r3 σ3 h => n_rb h))
  exact wpn_Ex (cuts := []) monCC (fun _ _ _ _ z => z) 9 0 _ _ _ v
-- TradeTestsModel.isTest
set_option maxHeartbeats 20000000 in
set_option maxRecDepth 100000 in
theorem hp_140 {sc : Nat × (Nat → Int32)} {Q : Int32 → St → Prop} {x1 : Int32} {σ : St} (h : Ap (sp_140 x1 σ) Q) : Ex sc CC 2 cd_140 Q 0 [some (.ref 12), some (.int x1)] [] σ := by
  have v : CC 123 [.int x1, .int 0, .int ((σ 12 4) - 1)] σ (fun r3 σ3 => (r3 = 0 ∨ r3 = 1) ∧ Q r3 σ3) := cc_123 (n_bn h (fun r3 σ3 h => n_rb h))
  exact wpn_Ex (cuts := []) monCC (fun _ _ _ _ z => z) 9 0 _ _ _ v
-- TradeTestsModel.garageOf
set_option maxHeartbeats 20000000 in
set_option maxRecDepth 100000 in
theorem hp_141 {sc : Nat × (Nat → Int32)} {Q : Int32 → St → Prop} {x1 : Int32} {σ : St} (h : Ap (sp_141 x1 σ) Q) : Ex sc CC 1 cd_141 Q 0 [some (.ref 12), some (.int x1)] [] σ := by
  have v : vp_in x1 80 ∧ (vp_in x1 80 ∧ (CC 135 [.ref 12, .int (σ 60 (x1).toNatClampNeg), .int (σ 61 (x1).toNatClampNeg)] σ (fun r3 σ3 => Q r3 σ3))) := n_mb h (fun h => n_mb h (fun h => cc_135 (n_bn h (fun r3 σ3 h => n_rt h))))
  exact wpn_Ex (cuts := []) monCC (fun _ _ _ _ z => z) 12 0 _ _ _ v
-- TradeTestsModel.feed
set_option maxHeartbeats 20000000 in
set_option maxRecDepth 100000 in
theorem hp_142 {sc : Nat × (Nat → Int32)} {Q : Int32 → St → Prop} {x1 : Int32} {σ : St} (h : Ap (sp_142 x1 σ) Q) : Ex sc CC 1 cd_142 Q 0 [some (.ref 12), some (.int x1)] [] σ := by
  have v : CC 123 [.int x1, .int 0, .int 255] σ (fun r7 σ7 => (¬ r7 = 0 → (¬ (σ7 12 9) = 60 → vp_in (σ7 12 9) 60 ∧ (Q ((σ7 12 9) + 1) (up (up σ7 78 (σ7 12 9).toNatClampNeg x1) 12 9 ((σ7 12 9) + 1)))) ∧ ((σ7 12 9) = 60 → CC 125 [.ref 12, .int 4] σ7 (fun r8 σ8 => Q r8 σ8))) ∧ (r7 = 0 → CC 125 [.ref 12, .int 1] σ7 (fun r9 σ9 => Q r9 σ9))) := cc_123 (n_bn h (fun r7 σ7 h => n_ne h (fun h => cc_125 (n_bn h (fun r9 σ9 h => n_rt h))) (fun h => n_ne h (fun h => cc_125 (n_bn h (fun r8 σ8 h => n_rt h))) (fun h => n_mb h (fun h => n_rt h)))))
  exact wpn_Ex (cuts := []) monCC (fun _ _ _ _ z => z) 25 0 _ _ _ v
-- TradeTestsModel.readsFault
set_option maxHeartbeats 20000000 in
set_option maxRecDepth 100000 in
theorem hl_146_124 {sc : Nat × (Nat → Int32)} {Q : Int32 → St → Prop} : ∀ (n : Nat) (v1 : Int32) (v2 : Int32) (v3 : Int32) (v4 : Int32) (σ : St), Ap (lp_146_124 n v1 v2 v3 v4 σ) Q → Ex sc CC 2 cd_146 Q 124 [some (.ref 12), some (.int v1), some (.int v2), some (.int v3), some (.int v4)] [] σ := by
  intro n
  induction n with
  | zero => intro v1 v2 v3 v4 σ h; exact n_no h
  | succ n ih =>
    intro v1 v2 v3 v4 σ h
    have v : (4 ≤ v4 → ((1 : Int32) = 0 ∨ (1 : Int32) = 1) ∧ Q 1 σ) ∧ (¬ 4 ≤ v4 → vp_in (((4 : Int32) * v1) + v4) 28 ∧ (CC 128 [.int v4, .int v3] σ (fun r25 σ25 => (r25 = 0 → vp_in (((4 : Int32) * v1) + v4) 28 ∧ (Ex sc CC 2 cd_146 Q 124 [some (.ref 12), some (.int v1), some (.int v2), some (.int v3), some (.int (v4 + 1))] [] (up σ25 76 (((4 : Int32) * v1) + v4).toNatClampNeg ((σ 76 (((4 : Int32) * v1) + v4).toNatClampNeg) ||| 0)))) ∧ (¬ r25 = 0 → vp_in (((4 : Int32) * v1) + v4) 28 ∧ (Ex sc CC 2 cd_146 Q 124 [some (.ref 12), some (.int v1), some (.int v2), some (.int v3), some (.int (v4 + 1))] [] (up σ25 76 (((4 : Int32) * v1) + v4).toNatClampNeg ((σ 76 (((4 : Int32) * v1) + v4).toNatClampNeg) ||| ((1 : Int32) <<< (v2 &&& 31))))))))) := n_if h (fun h => n_rb h) (fun h => n_mb h (fun h => cc_128 (n_bn h (fun r25 σ25 h => n_if h (fun h => n_mb h (fun h => ih v1 v2 v3 (v4 + 1) (up σ25 76 (((4 : Int32) * v1) + v4).toNatClampNeg ((σ 76 (((4 : Int32) * v1) + v4).toNatClampNeg) ||| 0)) h)) (fun h => n_mb h (fun h => ih v1 v2 v3 (v4 + 1) (up σ25 76 (((4 : Int32) * v1) + v4).toNatClampNeg ((σ 76 (((4 : Int32) * v1) + v4).toNatClampNeg) ||| ((1 : Int32) <<< (v2 &&& 31)))) h))))))
    exact stw_Ex (cuts := [124]) monCC 25 v
set_option maxHeartbeats 20000000 in
set_option maxRecDepth 100000 in
theorem hp_146 {sc : Nat × (Nat → Int32)} {Q : Int32 → St → Prop} {x1 : Int32} {σ : St} (h : Ap (sp_146 x1 σ) Q) : Ex sc CC 2 cd_146 Q 0 [some (.ref 12), some (.int x1), none, none, none] [] σ := by
  have v : CC 145 [.ref 12] σ (fun r26 σ26 => CC 123 [.int (r26 - 48), .int 0, .int 7] σ26 (fun r27 σ27 => (¬ r27 = 0 → CC 145 [.ref 12] (up σ27 12 45 ((σ27 12 45) + 1)) (fun r28 σ28 => (¬ r28 = 118 → CC 145 [.ref 12] σ28 (fun r29 σ29 => (¬ r29 = 99 → CC 145 [.ref 12] σ29 (fun r30 σ30 => (¬ r30 = 116 → CC 145 [.ref 12] σ30 (fun r31 σ31 => (¬ r31 = 114 → (0 ≤ (-1 : Int32) → CC 145 [.ref 12] (up σ31 12 45 ((σ31 12 45) + 1)) (fun r32 σ32 => (r32 = 59 → Ex sc CC 2 cd_146 Q 124 [some (.ref 12), some (.int x1), some (.int (r26 - 48)), some (.int (-1)), some (.int 0)] [] (up σ32 12 45 ((σ32 12 45) + 1))) ∧ (¬ r32 = 59 → ((0 : Int32) = 0 ∨ (0 : Int32) = 1) ∧ Q 0 σ32))) ∧ (¬ 0 ≤ (-1 : Int32) → ((0 : Int32) = 0 ∨ (0 : Int32) = 1) ∧ Q 0 σ31)) ∧ (r31 = 114 → (0 ≤ (3 : Int32) → CC 145 [.ref 12] (up σ31 12 45 ((σ31 12 45) + 1)) (fun r33 σ33 => (r33 = 59 → Ex sc CC 2 cd_146 Q 124 [some (.ref 12), some (.int x1), some (.int (r26 - 48)), some (.int 3), some (.int 0)] [] (up σ33 12 45 ((σ33 12 45) + 1))) ∧ (¬ r33 = 59 → ((0 : Int32) = 0 ∨ (0 : Int32) = 1) ∧ Q 0 σ33))) ∧ (¬ 0 ≤ (3 : Int32) → ((0 : Int32) = 0 ∨ (0 : Int32) = 1) ∧ Q 0 σ31)))) ∧ (r30 = 116 → (0 ≤ (2 : Int32) → CC 145 [.ref 12] (up σ30 12 45 ((σ30 12 45) + 1)) (fun r34 σ34 => (r34 = 59 → Ex sc CC 2 cd_146 Q 124 [some (.ref 12), some (.int x1), some (.int (r26 - 48)), some (.int 2), some (.int 0)] [] (up σ34 12 45 ((σ34 12 45) + 1))) ∧ (¬ r34 = 59 → ((0 : Int32) = 0 ∨ (0 : Int32) = 1) ∧ Q 0 σ34))) ∧ (¬ 0 ≤ (2 : Int32) → ((0 : Int32) = 0 ∨ (0 : Int32) = 1) ∧ Q 0 σ30)))) ∧ (r29 = 99 → (0 ≤ (1 : Int32) → CC 145 [.ref 12] (up σ29 12 45 ((σ29 12 45) + 1)) (fun r35 σ35 => (r35 = 59 → Ex sc CC 2 cd_146 Q 124 [some (.ref 12), some (.int x1), some (.int (r26 - 48)), some (.int 1), some (.int 0)] [] (up σ35 12 45 ((σ35 12 45) + 1))) ∧ (¬ r35 = 59 → ((0 : Int32) = 0 ∨ (0 : Int32) = 1) ∧ Q 0 σ35))) ∧ (¬ 0 ≤ (1 : Int32) → ((0 : Int32) = 0 ∨ (0 : Int32) = 1) ∧ Q 0 σ29)))) ∧ (r28 = 118 → (0 ≤ (0 : Int32) → CC 145 [.ref 12] (up σ28 12 45 ((σ28 12 45) + 1)) (fun r36 σ36 => (r36 = 59 → Ex sc CC 2 cd_146 Q 124 [some (.ref 12), some (.int x1), some (.int (r26 - 48)), some (.int 0), some (.int 0)] [] (up σ36 12 45 ((σ36 12 45) + 1))) ∧ (¬ r36 = 59 → ((0 : Int32) = 0 ∨ (0 : Int32) = 1) ∧ Q 0 σ36))) ∧ (¬ 0 ≤ (0 : Int32) → ((0 : Int32) = 0 ∨ (0 : Int32) = 1) ∧ Q 0 σ28)))) ∧ (r27 = 0 → ((0 : Int32) = 0 ∨ (0 : Int32) = 1) ∧ Q 0 σ27))) := cc_145 (n_bn h (fun r26 σ26 h => cc_123 (n_bn h (fun r27 σ27 h => n_ne h (fun h => n_rb h) (fun h => cc_145 (n_bn h (fun r28 σ28 h => n_ne h (fun h => n_if h (fun h => cc_145 (n_bn h (fun r36 σ36 h => n_if h (fun h => hl_146_124 FU x1 (r26 - 48) 0 0 (up σ36 12 45 ((σ36 12 45) + 1)) h) (fun h => n_rb h)))) (fun h => n_rb h)) (fun h => cc_145 (n_bn h (fun r29 σ29 h => n_ne h (fun h => n_if h (fun h => cc_145 (n_bn h (fun r35 σ35 h => n_if h (fun h => hl_146_124 FU x1 (r26 - 48) 1 0 (up σ35 12 45 ((σ35 12 45) + 1)) h) (fun h => n_rb h)))) (fun h => n_rb h)) (fun h => cc_145 (n_bn h (fun r30 σ30 h => n_ne h (fun h => n_if h (fun h => cc_145 (n_bn h (fun r34 σ34 h => n_if h (fun h => hl_146_124 FU x1 (r26 - 48) 2 0 (up σ34 12 45 ((σ34 12 45) + 1)) h) (fun h => n_rb h)))) (fun h => n_rb h)) (fun h => cc_145 (n_bn h (fun r31 σ31 h => n_ne h (fun h => n_if h (fun h => cc_145 (n_bn h (fun r33 σ33 h => n_if h (fun h => hl_146_124 FU x1 (r26 - 48) 3 0 (up σ33 12 45 ((σ33 12 45) + 1)) h) (fun h => n_rb h)))) (fun h => n_rb h)) (fun h => n_if h (fun h => cc_145 (n_bn h (fun r32 σ32 h => n_if h (fun h => hl_146_124 FU x1 (r26 - 48) (-1) 0 (up σ32 12 45 ((σ32 12 45) + 1)) h) (fun h => n_rb h)))) (fun h => n_rb h))))))))))))))))))
  exact wpn_Ex (cuts := [124]) monCC (fun _ _ _ _ z => z) 57 0 _ _ _ v
-- TradeTestsModel.readsNumber
set_option maxHeartbeats 20000000 in
set_option maxRecDepth 100000 in
theorem hl_147_4 {sc : Nat × (Nat → Int32)} {Q : Int32 → St → Prop} : ∀ (n : Nat) (v1 : Int32) (v2 : Int32) (v3 : Int32) (σ : St), Ap (lp_147_4 n v1 v2 v3 σ) Q → Ex sc CC 1 cd_147 Q 4 [some (.ref 12), some (.int v1), some (.int v2), some (.int v3)] [] σ := by
  intro n
  induction n with
  | zero => intro v1 v2 v3 σ h; exact n_no h
  | succ n ih =>
    intro v1 v2 v3 σ h
    have v : (v1 ≤ v3 → (v3 = 0 → Q (-1) σ) ∧ (¬ v3 = 0 → CC 145 [.ref 12] σ (fun r11 σ11 => (r11 = 59 → Q v2 (up σ11 12 45 ((σ11 12 45) + 1))) ∧ (¬ r11 = 59 → Q (-1) σ11)))) ∧ (¬ v1 ≤ v3 → CC 145 [.ref 12] σ (fun r12 σ12 => CC 148 [.int r12] σ12 (fun r13 σ13 => (r13 = 0 → (v3 = 0 → Q (-1) σ13) ∧ (¬ v3 = 0 → CC 145 [.ref 12] σ13 (fun r14 σ14 => (r14 = 59 → Q v2 (up σ14 12 45 ((σ14 12 45) + 1))) ∧ (¬ r14 = 59 → Q (-1) σ14)))) ∧ (¬ r13 = 0 → CC 145 [.ref 12] σ13 (fun r15 σ15 => Ex sc CC 1 cd_147 Q 4 [some (.ref 12), some (.int v1), some (.int ((((10 : Int32) * v2) + r15) - 48)), some (.int (v3 + 1))] [] (up σ15 12 45 ((σ15 12 45) + 1))))))) := n_if h (fun h => n_if h (fun h => n_rt h) (fun h => cc_145 (n_bn h (fun r11 σ11 h => n_if h (fun h => n_rt h) (fun h => n_rt h))))) (fun h => cc_145 (n_bn h (fun r12 σ12 h => cc_148 (n_bn h (fun r13 σ13 h => n_if h (fun h => n_if h (fun h => n_rt h) (fun h => cc_145 (n_bn h (fun r14 σ14 h => n_if h (fun h => n_rt h) (fun h => n_rt h))))) (fun h => cc_145 (n_bn h (fun r15 σ15 h => ih v1 ((((10 : Int32) * v2) + r15) - 48) (v3 + 1) (up σ15 12 45 ((σ15 12 45) + 1)) h))))))))
    exact stw_Ex (cuts := [4]) monCC 25 v
set_option maxHeartbeats 20000000 in
set_option maxRecDepth 100000 in
theorem hp_147 {sc : Nat × (Nat → Int32)} {Q : Int32 → St → Prop} {x1 : Int32} {σ : St} (h : Ap (sp_147 x1 σ) Q) : Ex sc CC 1 cd_147 Q 0 [some (.ref 12), some (.int x1), none, none] [] σ := by
  have v : Ex sc CC 1 cd_147 Q 4 [some (.ref 12), some (.int x1), some (.int 0), some (.int 0)] [] σ := hl_147_4 FU x1 0 0 σ h
  exact wpn_Ex (cuts := [4]) monCC (fun _ _ _ _ z => z) 6 0 _ _ _ v
-- TradeTestsModel.isPass
set_option maxHeartbeats 20000000 in
set_option maxRecDepth 100000 in
theorem hp_152 {sc : Nat × (Nat → Int32)} {Q : Int32 → St → Prop} {x1 : Int32} {σ : St} (h : Ap (sp_152 x1 σ) Q) : Ex sc CC 2 cd_152 Q 0 [some (.ref 12), some (.int x1), none, none, none, none] [] σ := by
  have v : vp_in x1 80 ∧ (CC 150 [.ref 12, .int (σ 61 (x1).toNatClampNeg)] σ (fun r3 σ3 => vp_in x1 80 ∧ (vp_in (σ3 59 (x1).toNatClampNeg) 24 ∧ ((0 ≤ r3 → vp_in x1 80 ∧ (vp_in (((4 : Int32) * r3) + (σ3 50 (σ3 59 (x1).toNatClampNeg).toNatClampNeg)) 28 ∧ ((((σ3 67 (x1).toNatClampNeg) &&& (σ3 76 (((4 : Int32) * r3) + (σ3 50 (σ3 59 (x1).toNatClampNeg).toNatClampNeg)).toNatClampNeg)) = 0 → (¬ (σ3 50 (σ3 59 (x1).toNatClampNeg).toNatClampNeg) = 3 → vp_in x1 80 ∧ (vp_in x1 80 ∧ (((σ3 66 (x1).toNatClampNeg) ≤ (σ3 65 (x1).toNatClampNeg) → vp_in x1 80 ∧ (vp_in x1 80 ∧ (vp_in x1 80 ∧ (((σ3 66 (x1).toNatClampNeg) ≤ (σ3 65 (x1).toNatClampNeg) → vp_in x1 80 ∧ (vp_in r3 7 ∧ (((σ3 66 (x1).toNatClampNeg) < (σ3 74 (r3).toNatClampNeg) → ((0 : Int32) = 0 ∨ (0 : Int32) = 1) ∧ Q 0 σ3) ∧ (¬ (σ3 66 (x1).toNatClampNeg) < (σ3 74 (r3).toNatClampNeg) → vp_in r3 7 ∧ ((((100 : Int32) * (σ3 66 (x1).toNatClampNeg)) < (((100 : Int32) - (σ3 75 (r3).toNatClampNeg)) * (σ3 65 (x1).toNatClampNeg)) → ((0 : Int32) = 0 ∨ (0 : Int32) = 1) ∧ Q 0 σ3) ∧ (¬ ((100 : Int32) * (σ3 66 (x1).toNatClampNeg)) < (((100 : Int32) - (σ3 75 (r3).toNatClampNeg)) * (σ3 65 (x1).toNatClampNeg)) → ((1 : Int32) = 0 ∨ (1 : Int32) = 1) ∧ Q 1 σ3)))))) ∧ (¬ (σ3 66 (x1).toNatClampNeg) ≤ (σ3 65 (x1).toNatClampNeg) → vp_in x1 80 ∧ (vp_in r3 7 ∧ (((σ3 66 (x1).toNatClampNeg) < (σ3 74 (r3).toNatClampNeg) → ((0 : Int32) = 0 ∨ (0 : Int32) = 1) ∧ Q 0 σ3) ∧ (¬ (σ3 66 (x1).toNatClampNeg) < (σ3 74 (r3).toNatClampNeg) → vp_in r3 7 ∧ ((((100 : Int32) * (σ3 66 (x1).toNatClampNeg)) < (((100 : Int32) - (σ3 75 (r3).toNatClampNeg)) * (σ3 66 (x1).toNatClampNeg)) → ((0 : Int32) = 0 ∨ (0 : Int32) = 1) ∧ Q 0 σ3) ∧ (¬ ((100 : Int32) * (σ3 66 (x1).toNatClampNeg)) < (((100 : Int32) - (σ3 75 (r3).toNatClampNeg)) * (σ3 66 (x1).toNatClampNeg)) → ((1 : Int32) = 0 ∨ (1 : Int32) = 1) ∧ Q 1 σ3)))))))))) ∧ (¬ (σ3 66 (x1).toNatClampNeg) ≤ (σ3 65 (x1).toNatClampNeg) → vp_in x1 80 ∧ (vp_in x1 80 ∧ (vp_in x1 80 ∧ (((σ3 66 (x1).toNatClampNeg) ≤ (σ3 65 (x1).toNatClampNeg) → vp_in x1 80 ∧ (vp_in r3 7 ∧ (((σ3 65 (x1).toNatClampNeg) < (σ3 74 (r3).toNatClampNeg) → ((0 : Int32) = 0 ∨ (0 : Int32) = 1) ∧ Q 0 σ3) ∧ (¬ (σ3 65 (x1).toNatClampNeg) < (σ3 74 (r3).toNatClampNeg) → vp_in r3 7 ∧ ((((100 : Int32) * (σ3 65 (x1).toNatClampNeg)) < (((100 : Int32) - (σ3 75 (r3).toNatClampNeg)) * (σ3 65 (x1).toNatClampNeg)) → ((0 : Int32) = 0 ∨ (0 : Int32) = 1) ∧ Q 0 σ3) ∧ (¬ ((100 : Int32) * (σ3 65 (x1).toNatClampNeg)) < (((100 : Int32) - (σ3 75 (r3).toNatClampNeg)) * (σ3 65 (x1).toNatClampNeg)) → ((1 : Int32) = 0 ∨ (1 : Int32) = 1) ∧ Q 1 σ3)))))) ∧ (¬ (σ3 66 (x1).toNatClampNeg) ≤ (σ3 65 (x1).toNatClampNeg) → vp_in x1 80 ∧ (vp_in r3 7 ∧ (((σ3 65 (x1).toNatClampNeg) < (σ3 74 (r3).toNatClampNeg) → ((0 : Int32) = 0 ∨ (0 : Int32) = 1) ∧ Q 0 σ3) ∧ (¬ (σ3 65 (x1).toNatClampNeg) < (σ3 74 (r3).toNatClampNeg) → vp_in r3 7 ∧ ((((100 : Int32) * (σ3 65 (x1).toNatClampNeg)) < (((100 : Int32) - (σ3 75 (r3).toNatClampNeg)) * (σ3 66 (x1).toNatClampNeg)) → ((0 : Int32) = 0 ∨ (0 : Int32) = 1) ∧ Q 0 σ3) ∧ (¬ ((100 : Int32) * (σ3 65 (x1).toNatClampNeg)) < (((100 : Int32) - (σ3 75 (r3).toNatClampNeg)) * (σ3 66 (x1).toNatClampNeg)) → ((1 : Int32) = 0 ∨ (1 : Int32) = 1) ∧ Q 1 σ3))))))))))))) ∧ ((σ3 50 (σ3 59 (x1).toNatClampNeg).toNatClampNeg) = 3 → ((1 : Int32) = 0 ∨ (1 : Int32) = 1) ∧ Q 1 σ3)) ∧ (¬ ((σ3 67 (x1).toNatClampNeg) &&& (σ3 76 (((4 : Int32) * r3) + (σ3 50 (σ3 59 (x1).toNatClampNeg).toNatClampNeg)).toNatClampNeg)) = 0 → ((0 : Int32) = 0 ∨ (0 : Int32) = 1) ∧ Q 0 σ3)))) ∧ (¬ 0 ≤ r3 → ((1 : Int32) = 0 ∨ (1 : Int32) = 1) ∧ Q 1 σ3))))) := n_mb h (fun h => cc_150 (n_bn h (fun r3 σ3 h => n_mb h (fun h => n_mb h (fun h => n_if h (fun h => n_mb h (fun h => n_mb h (fun h => n_if h (fun h => n_ne h (fun h => n_rb h) (fun h => n_mb h (fun h => n_mb h (fun h => n_if h (fun h => n_mb h (fun h => n_mb h (fun h => n_mb h (fun h => n_if h (fun h => n_mb h (fun h => n_mb h (fun h => n_if h (fun h => n_rb h) (fun h => n_mb h (fun h => n_if h (fun h => n_rb h) (fun h => n_rb h)))))) (fun h => n_mb h (fun h => n_mb h (fun h => n_if h (fun h => n_rb h) (fun h => n_mb h (fun h => n_if h (fun h => n_rb h) (fun h => n_rb h)))))))))) (fun h => n_mb h (fun h => n_mb h (fun h => n_mb h (fun h => n_if h (fun h => n_mb h (fun h => n_mb h (fun h => n_if h (fun h => n_rb h) (fun h => n_mb h (fun h => n_if h (fun h => n_rb h) (fun h => n_rb h)))))) (fun h => n_mb h (fun h => n_mb h (fun h => n_if h (fun h => n_rb h) (fun h => n_mb h (fun h => n_if h (fun h => n_rb h) (fun h => n_rb h)))))))))))))) (fun h => n_rb h)))) (fun h => n_rb h))))))
  exact wpn_Ex (cuts := []) monCC (fun _ _ _ _ z => z) 86 0 _ _ _ v
-- TradeTestsModel.shareOf
set_option maxHeartbeats 20000000 in
set_option maxRecDepth 100000 in
theorem hl_156_7 {sc : Nat × (Nat → Int32)} {Q : Int32 → St → Prop} : ∀ (n : Nat) (v1 : Int32) (v2 : Int32) (v3 : Int32) (v4 : Int32) (σ : St), Ap (lp_156_7 n v1 v2 v3 v4 σ) Q → Ex sc CC 1 cd_156 Q 7 [some (.ref 12), some (.int v1), some (.int v2), some (.int v3), some (.int v4)] [] σ := by
  intro n
  induction n with
  | zero => intro v1 v2 v3 v4 σ h; exact n_no h
  | succ n ih =>
    intro v1 v2 v3 v4 σ h
    have v : ((σ 12 4) ≤ v4 → (¬ v2 = 0 → ¬ v2 = 0 ∧ (Q (((1000 : Int32) * v3) / v2) σ)) ∧ (v2 = 0 → Q (-1) σ)) ∧ (¬ (σ 12 4) ≤ v4 → CC 157 [.ref 12, .int v4] σ (fun r3 σ3 => (r3 = v1 → vp_in v4 80 ∧ (((σ3 70 (v4).toNatClampNeg) = 0 → Ex sc CC 1 cd_156 Q 7 [some (.ref 12), some (.int v1), some (.int (v2 + 1)), some (.int (v3 + 0)), some (.int (v4 + 1))] [] σ3) ∧ (¬ (σ3 70 (v4).toNatClampNeg) = 0 → Ex sc CC 1 cd_156 Q 7 [some (.ref 12), some (.int v1), some (.int (v2 + 1)), some (.int (v3 + 1)), some (.int (v4 + 1))] [] σ3))) ∧ (¬ r3 = v1 → Ex sc CC 1 cd_156 Q 7 [some (.ref 12), some (.int v1), some (.int v2), some (.int v3), some (.int (v4 + 1))] [] σ3))) := n_if h (fun h => n_ne h (fun h => n_rt h) (fun h => n_mb h (fun h => n_rt h))) (fun h => cc_157 (n_bn h (fun r3 σ3 h => n_if h (fun h => n_mb h (fun h => n_if h (fun h => ih v1 (v2 + 1) (v3 + 0) (v4 + 1) σ3 h) (fun h => ih v1 (v2 + 1) (v3 + 1) (v4 + 1) σ3 h))) (fun h => ih v1 v2 v3 (v4 + 1) σ3 h))))
    exact stw_Ex (cuts := [7]) monCC 23 v
set_option maxHeartbeats 20000000 in
set_option maxRecDepth 100000 in
theorem hp_156 {sc : Nat × (Nat → Int32)} {Q : Int32 → St → Prop} {x1 : Int32} {σ : St} (h : Ap (sp_156 x1 σ) Q) : Ex sc CC 1 cd_156 Q 0 [some (.ref 12), some (.int x1), none, none, none] [] σ := by
  have v : Ex sc CC 1 cd_156 Q 7 [some (.ref 12), some (.int x1), some (.int 0), some (.int 0), some (.int 0)] [] σ := hl_156_7 FU x1 0 0 0 σ h
  exact wpn_Ex (cuts := [7]) monCC (fun _ _ _ _ z => z) 8 0 _ _ _ v
-- TradeTestsModel.areNear
set_option maxHeartbeats 20000000 in
set_option maxRecDepth 100000 in
theorem hp_164 {sc : Nat × (Nat → Int32)} {Q : Int32 → St → Prop} {x1 x2 x3 : Int32} {σ : St} (h : Ap (sp_164 x1 x2 x3 σ) Q) : Ex sc CC 2 cd_164 Q 0 [some (.int x1), some (.int x2), some (.int x3)] [] σ := by
  have v : CC 123 [.int (x1 - x2), .int (-x3), .int x3] σ (fun r3 σ3 => (r3 = 0 ∨ r3 = 1) ∧ Q r3 σ3) := cc_123 (n_bn h (fun r3 σ3 h => n_rb h))
  exact wpn_Ex (cuts := []) monCC (fun _ _ _ _ z => z) 9 0 _ _ _ v
end
section
/-! the code does what the functions say (written by wip/whole/gen/spec.py) -/
-- TradeTestsModel.isTyped
set_option maxHeartbeats 20000000 in
set_option maxRecDepth 100000 in
theorem hl_171_52 {sc : Nat × (Nat → Int32)} {Q : Int32 → St → Prop} (ko : Int32 → Int32 → Int32 → Int32 → St → MR) (hko : ∀ (v0 : Int32) (v1 : Int32) (v2 : Int32) (v3 : Int32) (σ : St), Ap (ko v0 v1 v2 v3 σ) Q → Ex sc CC 2 cd_171 Q 2 [some (.int v0), some (.int v1), some (.int v2), some (.int v3), none, none, none] [] σ) : ∀ (n : Nat) (v0 : Int32) (v1 : Int32) (v2 : Int32) (v3 : Int32) (v4 : Int32) (v5 : Int32) (v6 : Int32) (σ : St), Ap (lp_171_52 ko n v0 v1 v2 v3 v4 v5 v6 σ) Q → Ex sc CC 2 cd_171 Q 52 [some (.int v0), some (.int v1), some (.int v2), some (.int v3), some (.int v4), some (.int v5), some (.int v6)] [] σ := by
  intro n
  induction n with
  | zero => intro v0 v1 v2 v3 v4 v5 v6 σ h; exact n_no h
  | succ n ih =>
    intro v0 v1 v2 v3 v4 v5 v6 σ h
    have v : (10 ≤ v6 → Ex sc CC 2 cd_171 Q 2 [some (.int v0), some (.int v1), some (.int v2), some (.int (v3 * 10)), some (.int v4), some (.int v5), some (.int v6)] [] σ) ∧ (¬ 10 ≤ v6 → (v6 = v4 → Ex sc CC 2 cd_171 Q 52 [some (.int v0), some (.int v1), some (.int v2), some (.int v3), some (.int v4), some (.int v5), some (.int (v6 + 1))] [] σ) ∧ (¬ v6 = v4 → CC 123 [.int (v0 + ((v6 - v4) * v3)), .int v1, .int v2] σ (fun r3 σ3 => (r3 = 0 → Ex sc CC 2 cd_171 Q 52 [some (.int v0), some (.int v1), some (.int v2), some (.int v3), some (.int v4), some (.int v5), some (.int (v6 + 1))] [] σ3) ∧ (¬ r3 = 0 → ((1 : Int32) = 0 ∨ (1 : Int32) = 1) ∧ Q 1 σ3)))) := n_if h (fun h => Ex_fg [true, true, true, true, false, false, false] (hko v0 v1 v2 (v3 * 10) σ h)) (fun h => n_if h (fun h => ih v0 v1 v2 v3 v4 v5 (v6 + 1) σ h) (fun h => cc_123 (n_bn h (fun r3 σ3 h => n_if h (fun h => ih v0 v1 v2 v3 v4 v5 (v6 + 1) σ3 h) (fun h => n_rb h)))))
    exact stw_Ex (cuts := [2, 52]) monCC 20 v
set_option maxHeartbeats 20000000 in
set_option maxRecDepth 100000 in
theorem hl_171_2 {sc : Nat × (Nat → Int32)} {Q : Int32 → St → Prop} : ∀ (n : Nat) (v0 : Int32) (v1 : Int32) (v2 : Int32) (v3 : Int32) (σ : St), Ap (lp_171_2 n v0 v1 v2 v3 σ) Q → Ex sc CC 2 cd_171 Q 2 [some (.int v0), some (.int v1), some (.int v2), some (.int v3), none, none, none] [] σ := by
  intro n
  induction n with
  | zero => intro v0 v1 v2 v3 σ h; exact n_no h
  | succ n ih =>
    intro v0 v1 v2 v3 σ h
    have v : (v3 = 1 → ¬ v3 = 0 ∧ (¬ (10 : Int32) = 0 ∧ (¬ v3 = 0 ∧ ((10 ≤ (v0 / v3) → ((0 : Int32) = 0 → Ex sc CC 2 cd_171 Q 52 [some (.int v0), some (.int v1), some (.int v2), some (.int v3), some (.int ((v0 / v3) - (v0 / v3) / 10 * 10)), some (.int 0), some (.int 0)] [] σ) ∧ (¬ (0 : Int32) = 0 → (v3 ≤ 1 → Ex sc CC 2 cd_171 Q 52 [some (.int v0), some (.int v1), some (.int v2), some (.int v3), some (.int ((v0 / v3) - (v0 / v3) / 10 * 10)), some (.int 0), some (.int 0)] [] σ) ∧ (¬ v3 ≤ 1 → Ex sc CC 2 cd_171 Q 52 [some (.int v0), some (.int v1), some (.int v2), some (.int v3), some (.int ((v0 / v3) - (v0 / v3) / 10 * 10)), some (.int 0), some (.int 1)] [] σ))) ∧ (¬ 10 ≤ (v0 / v3) → ((1 : Int32) = 0 → Ex sc CC 2 cd_171 Q 52 [some (.int v0), some (.int v1), some (.int v2), some (.int v3), some (.int ((v0 / v3) - (v0 / v3) / 10 * 10)), some (.int 1), some (.int 0)] [] σ) ∧ (¬ (1 : Int32) = 0 → (v3 ≤ 1 → Ex sc CC 2 cd_171 Q 52 [some (.int v0), some (.int v1), some (.int v2), some (.int v3), some (.int ((v0 / v3) - (v0 / v3) / 10 * 10)), some (.int 1), some (.int 0)] [] σ) ∧ (¬ v3 ≤ 1 → Ex sc CC 2 cd_171 Q 52 [some (.int v0), some (.int v1), some (.int v2), some (.int v3), some (.int ((v0 / v3) - (v0 / v3) / 10 * 10)), some (.int 1), some (.int 1)] [] σ))))))) ∧ (¬ v3 = 1 → (v0 < v3 → ((0 : Int32) = 0 ∨ (0 : Int32) = 1) ∧ Q 0 σ) ∧ (¬ v0 < v3 → ¬ v3 = 0 ∧ (¬ (10 : Int32) = 0 ∧ (¬ v3 = 0 ∧ ((10 ≤ (v0 / v3) → ((0 : Int32) = 0 → Ex sc CC 2 cd_171 Q 52 [some (.int v0), some (.int v1), some (.int v2), some (.int v3), some (.int ((v0 / v3) - (v0 / v3) / 10 * 10)), some (.int 0), some (.int 0)] [] σ) ∧ (¬ (0 : Int32) = 0 → (v3 ≤ 1 → Ex sc CC 2 cd_171 Q 52 [some (.int v0), some (.int v1), some (.int v2), some (.int v3), some (.int ((v0 / v3) - (v0 / v3) / 10 * 10)), some (.int 0), some (.int 0)] [] σ) ∧ (¬ v3 ≤ 1 → Ex sc CC 2 cd_171 Q 52 [some (.int v0), some (.int v1), some (.int v2), some (.int v3), some (.int ((v0 / v3) - (v0 / v3) / 10 * 10)), some (.int 0), some (.int 1)] [] σ))) ∧ (¬ 10 ≤ (v0 / v3) → ((1 : Int32) = 0 → Ex sc CC 2 cd_171 Q 52 [some (.int v0), some (.int v1), some (.int v2), some (.int v3), some (.int ((v0 / v3) - (v0 / v3) / 10 * 10)), some (.int 1), some (.int 0)] [] σ) ∧ (¬ (1 : Int32) = 0 → (v3 ≤ 1 → Ex sc CC 2 cd_171 Q 52 [some (.int v0), some (.int v1), some (.int v2), some (.int v3), some (.int ((v0 / v3) - (v0 / v3) / 10 * 10)), some (.int 1), some (.int 0)] [] σ) ∧ (¬ v3 ≤ 1 → Ex sc CC 2 cd_171 Q 52 [some (.int v0), some (.int v1), some (.int v2), some (.int v3), some (.int ((v0 / v3) - (v0 / v3) / 10 * 10)), some (.int 1), some (.int 1)] [] σ)))))))) := n_if h (fun h => n_mb h (fun h => n_mb h (fun h => n_mb h (fun h => n_if h (fun h => n_if h (fun h => hl_171_52 (fun v0 v1 v2 v3 σ => lp_171_2 n v0 v1 v2 v3 σ) ih FU v0 v1 v2 v3 ((v0 / v3) - (v0 / v3) / 10 * 10) 0 0 σ h) (fun h => n_if h (fun h => hl_171_52 (fun v0 v1 v2 v3 σ => lp_171_2 n v0 v1 v2 v3 σ) ih FU v0 v1 v2 v3 ((v0 / v3) - (v0 / v3) / 10 * 10) 0 0 σ h) (fun h => hl_171_52 (fun v0 v1 v2 v3 σ => lp_171_2 n v0 v1 v2 v3 σ) ih FU v0 v1 v2 v3 ((v0 / v3) - (v0 / v3) / 10 * 10) 0 1 σ h))) (fun h => n_if h (fun h => hl_171_52 (fun v0 v1 v2 v3 σ => lp_171_2 n v0 v1 v2 v3 σ) ih FU v0 v1 v2 v3 ((v0 / v3) - (v0 / v3) / 10 * 10) 1 0 σ h) (fun h => n_if h (fun h => hl_171_52 (fun v0 v1 v2 v3 σ => lp_171_2 n v0 v1 v2 v3 σ) ih FU v0 v1 v2 v3 ((v0 / v3) - (v0 / v3) / 10 * 10) 1 0 σ h) (fun h => hl_171_52 (fun v0 v1 v2 v3 σ => lp_171_2 n v0 v1 v2 v3 σ) ih FU v0 v1 v2 v3 ((v0 / v3) - (v0 / v3) / 10 * 10) 1 1 σ h))))))) (fun h => n_if h (fun h => n_rb h) (fun h => n_mb h (fun h => n_mb h (fun h => n_mb h (fun h => n_if h (fun h => n_if h (fun h => hl_171_52 (fun v0 v1 v2 v3 σ => lp_171_2 n v0 v1 v2 v3 σ) ih FU v0 v1 v2 v3 ((v0 / v3) - (v0 / v3) / 10 * 10) 0 0 σ h) (fun h => n_if h (fun h => hl_171_52 (fun v0 v1 v2 v3 σ => lp_171_2 n v0 v1 v2 v3 σ) ih FU v0 v1 v2 v3 ((v0 / v3) - (v0 / v3) / 10 * 10) 0 0 σ h) (fun h => hl_171_52 (fun v0 v1 v2 v3 σ => lp_171_2 n v0 v1 v2 v3 σ) ih FU v0 v1 v2 v3 ((v0 / v3) - (v0 / v3) / 10 * 10) 0 1 σ h))) (fun h => n_if h (fun h => hl_171_52 (fun v0 v1 v2 v3 σ => lp_171_2 n v0 v1 v2 v3 σ) ih FU v0 v1 v2 v3 ((v0 / v3) - (v0 / v3) / 10 * 10) 1 0 σ h) (fun h => n_if h (fun h => hl_171_52 (fun v0 v1 v2 v3 σ => lp_171_2 n v0 v1 v2 v3 σ) ih FU v0 v1 v2 v3 ((v0 / v3) - (v0 / v3) / 10 * 10) 1 0 σ h) (fun h => hl_171_52 (fun v0 v1 v2 v3 σ => lp_171_2 n v0 v1 v2 v3 σ) ih FU v0 v1 v2 v3 ((v0 / v3) - (v0 / v3) / 10 * 10) 1 1 σ h))))))))
    exact stw_Ex (cuts := [2, 52]) monCC 29 v
set_option maxHeartbeats 20000000 in
set_option maxRecDepth 100000 in
theorem hp_171 {sc : Nat × (Nat → Int32)} {Q : Int32 → St → Prop} {x1 x2 x3 : Int32} {σ : St} (h : Ap (sp_171 x1 x2 x3 σ) Q) : Ex sc CC 2 cd_171 Q 0 [some (.int x1), some (.int x2), some (.int x3), none, none, none, none] [] σ := by
  have v : Ex sc CC 2 cd_171 Q 2 [some (.int x1), some (.int x2), some (.int x3), some (.int 1), none, none, none] [] σ := hl_171_2 FU x1 x2 x3 1 σ h
  exact wpn_Ex (cuts := [2, 52]) monCC (fun _ _ _ _ z => z) 4 0 _ _ _ v
-- TradeTestsModel.rule
set_option maxHeartbeats 20000000 in
set_option maxRecDepth 100000 in
theorem hp_172 {sc : Nat × (Nat → Int32)} {Q : Int32 → St → Prop} {x1 x2 : Int32} {σ : St} (h : Ap (sp_172 x1 x2 σ) Q) : Ex sc CC 1 cd_172 Q 0 [some (.ref 12), some (.int x1), some (.int x2), none] [] σ := by
  have v : CC 123 [.int x1, .int 0, .int 2] σ (fun r17 σ17 => (r17 = 0 → CC 125 [.ref 12, .int 1] σ17 (fun r18 σ18 => Q r18 σ18)) ∧ (¬ r17 = 0 → (¬ x1 = 0 → (¬ x1 = 1 → CC 123 [.int x2, .int 1, .int 200] σ17 (fun r19 σ19 => (¬ r19 = 0 → (¬ x1 = 0 → (¬ x1 = 1 → (¬ x1 = 0 → (¬ x1 = 1 → (¬ x1 = 2 → Q (σ19 12 13) (up (up (up σ19 12 11 (σ19 12 11)) 12 12 (σ19 12 12)) 12 13 (σ19 12 13))) ∧ (x1 = 2 → Q (σ19 12 13) (up (up (up σ19 12 11 (σ19 12 11)) 12 12 (σ19 12 12)) 12 13 x2))) ∧ (x1 = 1 → (¬ x1 = 2 → Q (σ19 12 13) (up (up (up σ19 12 11 (σ19 12 11)) 12 12 x2) 12 13 (σ19 12 13))) ∧ (x1 = 2 → Q (σ19 12 13) (up (up (up σ19 12 11 (σ19 12 11)) 12 12 x2) 12 13 x2)))) ∧ (x1 = 0 → (¬ x1 = 1 → (¬ x1 = 2 → Q (σ19 12 13) (up (up (up σ19 12 11 x2) 12 12 (σ19 12 12)) 12 13 (σ19 12 13))) ∧ (x1 = 2 → Q (σ19 12 13) (up (up (up σ19 12 11 x2) 12 12 (σ19 12 12)) 12 13 x2))) ∧ (x1 = 1 → (¬ x1 = 2 → Q (σ19 12 13) (up (up (up σ19 12 11 x2) 12 12 x2) 12 13 (σ19 12 13))) ∧ (x1 = 2 → Q (σ19 12 13) (up (up (up σ19 12 11 x2) 12 12 x2) 12 13 x2))))) ∧ (x1 = 1 → (¬ x1 = 0 → (¬ x1 = 1 → (¬ x1 = 2 → Q (σ19 12 12) (up (up (up σ19 12 11 (σ19 12 11)) 12 12 (σ19 12 12)) 12 13 (σ19 12 13))) ∧ (x1 = 2 → Q (σ19 12 12) (up (up (up σ19 12 11 (σ19 12 11)) 12 12 (σ19 12 12)) 12 13 x2))) ∧ (x1 = 1 → (¬ x1 = 2 → Q (σ19 12 12) (up (up (up σ19 12 11 (σ19 12 11)) 12 12 x2) 12 13 (σ19 12 13))) ∧ (x1 = 2 → Q (σ19 12 12) (up (up (up σ19 12 11 (σ19 12 11)) 12 12 x2) 12 13 x2)))) ∧ (x1 = 0 → (¬ x1 = 1 → (¬ x1 = 2 → Q (σ19 12 12) (up (up (up σ19 12 11 x2) 12 12 (σ19 12 12)) 12 13 (σ19 12 13))) ∧ (x1 = 2 → Q (σ19 12 12) (up (up (up σ19 12 11 x2) 12 12 (σ19 12 12)) 12 13 x2))) ∧ (x1 = 1 → (¬ x1 = 2 → Q (σ19 12 12) (up (up (up σ19 12 11 x2) 12 12 x2) 12 13 (σ19 12 13))) ∧ (x1 = 2 → Q (σ19 12 12) (up (up (up σ19 12 11 x2) 12 12 x2) 12 13 x2)))))) ∧ (x1 = 0 → (¬ x1 = 0 → (¬ x1 = 1 → (¬ x1 = 2 → Q (σ19 12 11) (up (up (up σ19 12 11 (σ19 12 11)) 12 12 (σ19 12 12)) 12 13 (σ19 12 13))) ∧ (x1 = 2 → Q (σ19 12 11) (up (up (up σ19 12 11 (σ19 12 11)) 12 12 (σ19 12 12)) 12 13 x2))) ∧ (x1 = 1 → (¬ x1 = 2 → Q (σ19 12 11) (up (up (up σ19 12 11 (σ19 12 11)) 12 12 x2) 12 13 (σ19 12 13))) ∧ (x1 = 2 → Q (σ19 12 11) (up (up (up σ19 12 11 (σ19 12 11)) 12 12 x2) 12 13 x2)))) ∧ (x1 = 0 → (¬ x1 = 1 → (¬ x1 = 2 → Q (σ19 12 11) (up (up (up σ19 12 11 x2) 12 12 (σ19 12 12)) 12 13 (σ19 12 13))) ∧ (x1 = 2 → Q (σ19 12 11) (up (up (up σ19 12 11 x2) 12 12 (σ19 12 12)) 12 13 x2))) ∧ (x1 = 1 → (¬ x1 = 2 → Q (σ19 12 11) (up (up (up σ19 12 11 x2) 12 12 x2) 12 13 (σ19 12 13))) ∧ (x1 = 2 → Q (σ19 12 11) (up (up (up σ19 12 11 x2) 12 12 x2) 12 13 x2)))))) ∧ (r19 = 0 → CC 125 [.ref 12, .int 1] σ19 (fun r20 σ20 => Q r20 σ20)))) ∧ (x1 = 1 → CC 123 [.int x2, .int 1, .int 1000] σ17 (fun r21 σ21 => (¬ r21 = 0 → (¬ x1 = 0 → (¬ x1 = 1 → (¬ x1 = 0 → (¬ x1 = 1 → (¬ x1 = 2 → Q (σ21 12 13) (up (up (up σ21 12 11 (σ21 12 11)) 12 12 (σ21 12 12)) 12 13 (σ21 12 13))) ∧ (x1 = 2 → Q (σ21 12 13) (up (up (up σ21 12 11 (σ21 12 11)) 12 12 (σ21 12 12)) 12 13 x2))) ∧ (x1 = 1 → (¬ x1 = 2 → Q (σ21 12 13) (up (up (up σ21 12 11 (σ21 12 11)) 12 12 x2) 12 13 (σ21 12 13))) ∧ (x1 = 2 → Q (σ21 12 13) (up (up (up σ21 12 11 (σ21 12 11)) 12 12 x2) 12 13 x2)))) ∧ (x1 = 0 → (¬ x1 = 1 → (¬ x1 = 2 → Q (σ21 12 13) (up (up (up σ21 12 11 x2) 12 12 (σ21 12 12)) 12 13 (σ21 12 13))) ∧ (x1 = 2 → Q (σ21 12 13) (up (up (up σ21 12 11 x2) 12 12 (σ21 12 12)) 12 13 x2))) ∧ (x1 = 1 → (¬ x1 = 2 → Q (σ21 12 13) (up (up (up σ21 12 11 x2) 12 12 x2) 12 13 (σ21 12 13))) ∧ (x1 = 2 → Q (σ21 12 13) (up (up (up σ21 12 11 x2) 12 12 x2) 12 13 x2))))) ∧ (x1 = 1 → (¬ x1 = 0 → (¬ x1 = 1 → (¬ x1 = 2 → Q (σ21 12 12) (up (up (up σ21 12 11 (σ21 12 11)) 12 12 (σ21 12 12)) 12 13 (σ21 12 13))) ∧ (x1 = 2 → Q (σ21 12 12) (up (up (up σ21 12 11 (σ21 12 11)) 12 12 (σ21 12 12)) 12 13 x2))) ∧ (x1 = 1 → (¬ x1 = 2 → Q (σ21 12 12) (up (up (up σ21 12 11 (σ21 12 11)) 12 12 x2) 12 13 (σ21 12 13))) ∧ (x1 = 2 → Q (σ21 12 12) (up (up (up σ21 12 11 (σ21 12 11)) 12 12 x2) 12 13 x2)))) ∧ (x1 = 0 → (¬ x1 = 1 → (¬ x1 = 2 → Q (σ21 12 12) (up (up (up σ21 12 11 x2) 12 12 (σ21 12 12)) 12 13 (σ21 12 13))) ∧ (x1 = 2 → Q (σ21 12 12) (up (up (up σ21 12 11 x2) 12 12 (σ21 12 12)) 12 13 x2))) ∧ (x1 = 1 → (¬ x1 = 2 → Q (σ21 12 12) (up (up (up σ21 12 11 x2) 12 12 x2) 12 13 (σ21 12 13))) ∧ (x1 = 2 → Q (σ21 12 12) (up (up (up σ21 12 11 x2) 12 12 x2) 12 13 x2)))))) ∧ (x1 = 0 → (¬ x1 = 0 → (¬ x1 = 1 → (¬ x1 = 2 → Q (σ21 12 11) (up (up (up σ21 12 11 (σ21 12 11)) 12 12 (σ21 12 12)) 12 13 (σ21 12 13))) ∧ (x1 = 2 → Q (σ21 12 11) (up (up (up σ21 12 11 (σ21 12 11)) 12 12 (σ21 12 12)) 12 13 x2))) ∧ (x1 = 1 → (¬ x1 = 2 → Q (σ21 12 11) (up (up (up σ21 12 11 (σ21 12 11)) 12 12 x2) 12 13 (σ21 12 13))) ∧ (x1 = 2 → Q (σ21 12 11) (up (up (up σ21 12 11 (σ21 12 11)) 12 12 x2) 12 13 x2)))) ∧ (x1 = 0 → (¬ x1 = 1 → (¬ x1 = 2 → Q (σ21 12 11) (up (up (up σ21 12 11 x2) 12 12 (σ21 12 12)) 12 13 (σ21 12 13))) ∧ (x1 = 2 → Q (σ21 12 11) (up (up (up σ21 12 11 x2) 12 12 (σ21 12 12)) 12 13 x2))) ∧ (x1 = 1 → (¬ x1 = 2 → Q (σ21 12 11) (up (up (up σ21 12 11 x2) 12 12 x2) 12 13 (σ21 12 13))) ∧ (x1 = 2 → Q (σ21 12 11) (up (up (up σ21 12 11 x2) 12 12 x2) 12 13 x2)))))) ∧ (r21 = 0 → CC 125 [.ref 12, .int 1] σ21 (fun r22 σ22 => Q r22 σ22))))) ∧ (x1 = 0 → CC 123 [.int x2, .int 1, .int 3650] σ17 (fun r23 σ23 => (¬ r23 = 0 → (¬ x1 = 0 → (¬ x1 = 1 → (¬ x1 = 0 → (¬ x1 = 1 → (¬ x1 = 2 → Q (σ23 12 13) (up (up (up σ23 12 11 (σ23 12 11)) 12 12 (σ23 12 12)) 12 13 (σ23 12 13))) ∧ (x1 = 2 → Q (σ23 12 13) (up (up (up σ23 12 11 (σ23 12 11)) 12 12 (σ23 12 12)) 12 13 x2))) ∧ (x1 = 1 → (¬ x1 = 2 → Q (σ23 12 13) (up (up (up σ23 12 11 (σ23 12 11)) 12 12 x2) 12 13 (σ23 12 13))) ∧ (x1 = 2 → Q (σ23 12 13) (up (up (up σ23 12 11 (σ23 12 11)) 12 12 x2) 12 13 x2)))) ∧ (x1 = 0 → (¬ x1 = 1 → (¬ x1 = 2 → Q (σ23 12 13) (up (up (up σ23 12 11 x2) 12 12 (σ23 12 12)) 12 13 (σ23 12 13))) ∧ (x1 = 2 → Q (σ23 12 13) (up (up (up σ23 12 11 x2) 12 12 (σ23 12 12)) 12 13 x2))) ∧ (x1 = 1 → (¬ x1 = 2 → Q (σ23 12 13) (up (up (up σ23 12 11 x2) 12 12 x2) 12 13 (σ23 12 13))) ∧ (x1 = 2 → Q (σ23 12 13) (up (up (up σ23 12 11 x2) 12 12 x2) 12 13 x2))))) ∧ (x1 = 1 → (¬ x1 = 0 → (¬ x1 = 1 → (¬ x1 = 2 → Q (σ23 12 12) (up (up (up σ23 12 11 (σ23 12 11)) 12 12 (σ23 12 12)) 12 13 (σ23 12 13))) ∧ (x1 = 2 → Q (σ23 12 12) (up (up (up σ23 12 11 (σ23 12 11)) 12 12 (σ23 12 12)) 12 13 x2))) ∧ (x1 = 1 → (¬ x1 = 2 → Q (σ23 12 12) (up (up (up σ23 12 11 (σ23 12 11)) 12 12 x2) 12 13 (σ23 12 13))) ∧ (x1 = 2 → Q (σ23 12 12) (up (up (up σ23 12 11 (σ23 12 11)) 12 12 x2) 12 13 x2)))) ∧ (x1 = 0 → (¬ x1 = 1 → (¬ x1 = 2 → Q (σ23 12 12) (up (up (up σ23 12 11 x2) 12 12 (σ23 12 12)) 12 13 (σ23 12 13))) ∧ (x1 = 2 → Q (σ23 12 12) (up (up (up σ23 12 11 x2) 12 12 (σ23 12 12)) 12 13 x2))) ∧ (x1 = 1 → (¬ x1 = 2 → Q (σ23 12 12) (up (up (up σ23 12 11 x2) 12 12 x2) 12 13 (σ23 12 13))) ∧ (x1 = 2 → Q (σ23 12 12) (up (up (up σ23 12 11 x2) 12 12 x2) 12 13 x2)))))) ∧ (x1 = 0 → (¬ x1 = 0 → (¬ x1 = 1 → (¬ x1 = 2 → Q (σ23 12 11) (up (up (up σ23 12 11 (σ23 12 11)) 12 12 (σ23 12 12)) 12 13 (σ23 12 13))) ∧ (x1 = 2 → Q (σ23 12 11) (up (up (up σ23 12 11 (σ23 12 11)) 12 12 (σ23 12 12)) 12 13 x2))) ∧ (x1 = 1 → (¬ x1 = 2 → Q (σ23 12 11) (up (up (up σ23 12 11 (σ23 12 11)) 12 12 x2) 12 13 (σ23 12 13))) ∧ (x1 = 2 → Q (σ23 12 11) (up (up (up σ23 12 11 (σ23 12 11)) 12 12 x2) 12 13 x2)))) ∧ (x1 = 0 → (¬ x1 = 1 → (¬ x1 = 2 → Q (σ23 12 11) (up (up (up σ23 12 11 x2) 12 12 (σ23 12 12)) 12 13 (σ23 12 13))) ∧ (x1 = 2 → Q (σ23 12 11) (up (up (up σ23 12 11 x2) 12 12 (σ23 12 12)) 12 13 x2))) ∧ (x1 = 1 → (¬ x1 = 2 → Q (σ23 12 11) (up (up (up σ23 12 11 x2) 12 12 x2) 12 13 (σ23 12 13))) ∧ (x1 = 2 → Q (σ23 12 11) (up (up (up σ23 12 11 x2) 12 12 x2) 12 13 x2)))))) ∧ (r23 = 0 → CC 125 [.ref 12, .int 1] σ23 (fun r24 σ24 => Q r24 σ24)))))) := cc_123 (n_bn h (fun r17 σ17 h => n_if h (fun h => cc_125 (n_bn h (fun r18 σ18 h => n_rt h))) (fun h => n_ne h (fun h => cc_123 (n_bn h (fun r23 σ23 h => n_ne h (fun h => cc_125 (n_bn h (fun r24 σ24 h => n_rt h))) (fun h => n_ne h (fun h => n_ne h (fun h => n_ne h (fun h => n_ne h (fun h => n_rt h) (fun h => n_rt h)) (fun h => n_ne h (fun h => n_rt h) (fun h => n_rt h))) (fun h => n_ne h (fun h => n_ne h (fun h => n_rt h) (fun h => n_rt h)) (fun h => n_ne h (fun h => n_rt h) (fun h => n_rt h)))) (fun h => n_ne h (fun h => n_ne h (fun h => n_ne h (fun h => n_ne h (fun h => n_rt h) (fun h => n_rt h)) (fun h => n_ne h (fun h => n_rt h) (fun h => n_rt h))) (fun h => n_ne h (fun h => n_ne h (fun h => n_rt h) (fun h => n_rt h)) (fun h => n_ne h (fun h => n_rt h) (fun h => n_rt h)))) (fun h => n_ne h (fun h => n_ne h (fun h => n_ne h (fun h => n_rt h) (fun h => n_rt h)) (fun h => n_ne h (fun h => n_rt h) (fun h => n_rt h))) (fun h => n_ne h (fun h => n_ne h (fun h => n_rt h) (fun h => n_rt h)) (fun h => n_ne h (fun h => n_rt h) (fun h => n_rt h))))))))) (fun h => n_ne h (fun h => cc_123 (n_bn h (fun r21 σ21 h => n_ne h (fun h => cc_125 (n_bn h (fun r22 σ22 h => n_rt h))) (fun h => n_ne h (fun h => n_ne h (fun h => n_ne h (fun h => n_ne h (fun h => n_rt h) (fun h => n_rt h)) (fun h => n_ne h (fun h => n_rt h) (fun h => n_rt h))) (fun h => n_ne h (fun h => n_ne h (fun h => n_rt h) (fun h => n_rt h)) (fun h => n_ne h (fun h => n_rt h) (fun h => n_rt h)))) (fun h => n_ne h (fun h => n_ne h (fun h => n_ne h (fun h => n_ne h (fun h => n_rt h) (fun h => n_rt h)) (fun h => n_ne h (fun h => n_rt h) (fun h => n_rt h))) (fun h => n_ne h (fun h => n_ne h (fun h => n_rt h) (fun h => n_rt h)) (fun h => n_ne h (fun h => n_rt h) (fun h => n_rt h)))) (fun h => n_ne h (fun h => n_ne h (fun h => n_ne h (fun h => n_rt h) (fun h => n_rt h)) (fun h => n_ne h (fun h => n_rt h) (fun h => n_rt h))) (fun h => n_ne h (fun h => n_ne h (fun h => n_rt h) (fun h => n_rt h)) (fun h => n_ne h (fun h => n_rt h) (fun h => n_rt h))))))))) (fun h => cc_123 (n_bn h (fun r19 σ19 h => n_ne h (fun h => cc_125 (n_bn h (fun r20 σ20 h => n_rt h))) (fun h => n_ne h (fun h => n_ne h (fun h => n_ne h (fun h => n_ne h (fun h => n_rt h) (fun h => n_rt h)) (fun h => n_ne h (fun h => n_rt h) (fun h => n_rt h))) (fun h => n_ne h (fun h => n_ne h (fun h => n_rt h) (fun h => n_rt h)) (fun h => n_ne h (fun h => n_rt h) (fun h => n_rt h)))) (fun h => n_ne h (fun h => n_ne h (fun h => n_ne h (fun h => n_ne h (fun h => n_rt h) (fun h => n_rt h)) (fun h => n_ne h (fun h => n_rt h) (fun h => n_rt h))) (fun h => n_ne h (fun h => n_ne h (fun h => n_rt h) (fun h => n_rt h)) (fun h => n_ne h (fun h => n_rt h) (fun h => n_rt h)))) (fun h => n_ne h (fun h => n_ne h (fun h => n_ne h (fun h => n_rt h) (fun h => n_rt h)) (fun h => n_ne h (fun h => n_rt h) (fun h => n_rt h))) (fun h => n_ne h (fun h => n_ne h (fun h => n_rt h) (fun h => n_rt h)) (fun h => n_ne h (fun h => n_rt h) (fun h => n_rt h)))))))))))))
  exact wpn_Ex (cuts := []) monCC (fun _ _ _ _ z => z) 48 0 _ _ _ v
-- TradeTestsModel.missed
set_option maxHeartbeats 20000000 in
set_option maxRecDepth 100000 in
theorem hp_176 {sc : Nat × (Nat → Int32)} {Q : Int32 → St → Prop} {x1 : Int32} {σ : St} (h : Ap (sp_176 x1 σ) Q) : Ex sc CC 1 cd_176 Q 0 [some (.ref 12), some (.int x1), none] [] σ := by
  have v : vp_in x1 80 ∧ (CC 150 [.ref 12, .int (σ 61 (x1).toNatClampNeg)] σ (fun r3 σ3 => vp_in x1 80 ∧ (((σ3 68 (x1).toNatClampNeg) < 0 → Q 0 σ3) ∧ (¬ (σ3 68 (x1).toNatClampNeg) < 0 → (0 ≤ r3 → vp_in x1 80 ∧ (vp_in (σ3 68 (x1).toNatClampNeg) 6 ∧ (vp_in x1 80 ∧ (vp_in (((4 : Int32) * r3) + 1) 28 ∧ (Q (((σ3 77 (σ3 68 (x1).toNatClampNeg).toNatClampNeg) &&& ((σ3 67 (x1).toNatClampNeg) ^^^ (-1))) &&& (σ3 76 (((4 : Int32) * r3) + 1).toNatClampNeg)) σ3))))) ∧ (¬ 0 ≤ r3 → Q 0 σ3))))) := n_mb h (fun h => cc_150 (n_bn h (fun r3 σ3 h => n_mb h (fun h => n_if h (fun h => n_rt h) (fun h => n_if h (fun h => n_mb h (fun h => n_mb h (fun h => n_mb h (fun h => n_mb h (fun h => n_rt h))))) (fun h => n_rt h))))))
  exact wpn_Ex (cuts := []) monCC (fun _ _ _ _ z => z) 39 0 _ _ _ v
-- TradeTestsModel.sumOf
set_option maxHeartbeats 20000000 in
set_option maxRecDepth 100000 in
theorem hl_179_5 {sc : Nat × (Nat → Int32)} {Q : Int32 → St → Prop} : ∀ (n : Nat) (v1 : Int32) (v2 : Int32) (v3 : Int32) (v4 : Int32) (σ : St), Ap (lp_179_5 n v1 v2 v3 v4 σ) Q → Ex sc CC 1 cd_179 Q 5 [some (.ref 12), some (.int v1), some (.int v2), some (.int v3), some (.int v4)] [] σ := by
  intro n
  induction n with
  | zero => intro v1 v2 v3 v4 σ h; exact n_no h
  | succ n ih =>
    intro v1 v2 v3 v4 σ h
    have v : ((σ 12 4) ≤ v4 → Q v3 σ) ∧ (¬ (σ 12 4) ≤ v4 → vp_in v4 80 ∧ ((¬ (σ 60 (v4).toNatClampNeg) = v1 → Ex sc CC 1 cd_179 Q 5 [some (.ref 12), some (.int v1), some (.int v2), some (.int (v3 + 0)), some (.int (v4 + 1))] [] σ) ∧ ((σ 60 (v4).toNatClampNeg) = v1 → vp_in v4 80 ∧ (CC 123 [.int (σ 61 (v4).toNatClampNeg), .int ((v2 - (σ 12 11)) + 1), .int v2] σ (fun r3 σ3 => (r3 = 0 → Ex sc CC 1 cd_179 Q 5 [some (.ref 12), some (.int v1), some (.int v2), some (.int (v3 + 0)), some (.int (v4 + 1))] [] σ3) ∧ (¬ r3 = 0 → vp_in v4 80 ∧ (Ex sc CC 1 cd_179 Q 5 [some (.ref 12), some (.int v1), some (.int v2), some (.int (v3 + (σ3 81 (v4).toNatClampNeg))), some (.int (v4 + 1))] [] σ3))))))) := n_if h (fun h => n_rt h) (fun h => n_mb h (fun h => n_ne h (fun h => n_mb h (fun h => cc_123 (n_bn h (fun r3 σ3 h => n_if h (fun h => ih v1 v2 (v3 + 0) (v4 + 1) σ3 h) (fun h => n_mb h (fun h => ih v1 v2 (v3 + (σ3 81 (v4).toNatClampNeg)) (v4 + 1) σ3 h)))))) (fun h => ih v1 v2 (v3 + 0) (v4 + 1) σ h)))
    exact stw_Ex (cuts := [5]) monCC 34 v
set_option maxHeartbeats 20000000 in
set_option maxRecDepth 100000 in
theorem hp_179 {sc : Nat × (Nat → Int32)} {Q : Int32 → St → Prop} {x1 x2 : Int32} {σ : St} (h : Ap (sp_179 x1 x2 σ) Q) : Ex sc CC 1 cd_179 Q 0 [some (.ref 12), some (.int x1), some (.int x2), none, none] [] σ := by
  have v : Ex sc CC 1 cd_179 Q 5 [some (.ref 12), some (.int x1), some (.int x2), some (.int 0), some (.int 0)] [] σ := hl_179_5 FU x1 x2 0 0 σ h
  exact wpn_Ex (cuts := [5]) monCC (fun _ _ _ _ z => z) 6 0 _ _ _ v
-- TradeTestsModel.secret
set_option maxHeartbeats 20000000 in
set_option maxRecDepth 100000 in
theorem hp_181 {sc : Nat × (Nat → Int32)} {Q : Int32 → St → Prop} {x1 : Int32} {σ : St} (h : Ap (sp_181 x1 σ) Q) : Ex sc CC 1 cd_181 Q 0 [some (.ref 12), some (.int x1)] [] σ := by
  have v : CC 123 [.int x1, .int 1, .int 255] σ (fun r7 σ7 => (¬ r7 = 0 → (¬ (σ7 12 6) = 6 → vp_in (σ7 12 6) 6 ∧ (Q (((σ7 12 6) + 1) - 1) (up (up σ7 77 (σ7 12 6).toNatClampNeg x1) 12 6 ((σ7 12 6) + 1)))) ∧ ((σ7 12 6) = 6 → CC 125 [.ref 12, .int 4] σ7 (fun r8 σ8 => Q r8 σ8))) ∧ (r7 = 0 → CC 125 [.ref 12, .int 1] σ7 (fun r9 σ9 => Q r9 σ9))) := cc_123 (n_bn h (fun r7 σ7 h => n_ne h (fun h => cc_125 (n_bn h (fun r9 σ9 h => n_rt h))) (fun h => n_ne h (fun h => cc_125 (n_bn h (fun r8 σ8 h => n_rt h))) (fun h => n_mb h (fun h => n_rt h)))))
  exact wpn_Ex (cuts := []) monCC (fun _ _ _ _ z => z) 27 0 _ _ _ v
-- TradeTestsModel.error
set_option maxHeartbeats 20000000 in
set_option maxRecDepth 100000 in
theorem hl_188_19 {sc : Nat × (Nat → Int32)} {Q : Int32 → St → Prop} : ∀ (n : Nat) (v1 : Int32) (v2 : Int32) (v3 : Int32) (σ : St), Ap (lp_188_19 n v1 v2 v3 σ) Q → Ex sc CC 1 cd_188 Q 19 [some (.ref 12), some (.int v1), some (.int v2), some (.int v3), none] [] σ := by
  intro n
  induction n with
  | zero => intro v1 v2 v3 σ h; exact n_no h
  | succ n ih =>
    intro v1 v2 v3 σ h
    have v : ((σ 12 4) ≤ v3 → ¬ v1.toInt64 = 0 ∧ (Q ((((Int32.toInt64 1000) * v2.toInt64) / v1.toInt64).toInt32) σ)) ∧ (¬ (σ 12 4) ≤ v3 → vp_in v3 80 ∧ ((¬ (σ 69 (v3).toNatClampNeg) = 0 → vp_in v3 80 ∧ (¬ (σ 69 (v3).toNatClampNeg) = 0 ∧ (vp_in v3 80 ∧ (((σ 72 (v3).toNatClampNeg) = 0 → Ex sc CC 1 cd_188 Q 19 [some (.ref 12), some (.int (v1 + ((10000 : Int32) / (σ 69 (v3).toNatClampNeg)))), some (.int (v2 + 0)), some (.int (v3 + 1)), some (.int ((10000 : Int32) / (σ 69 (v3).toNatClampNeg)))] [] σ) ∧ (¬ (σ 72 (v3).toNatClampNeg) = 0 → Ex sc CC 1 cd_188 Q 19 [some (.ref 12), some (.int (v1 + ((10000 : Int32) / (σ 69 (v3).toNatClampNeg)))), some (.int (v2 + ((10000 : Int32) / (σ 69 (v3).toNatClampNeg)))), some (.int (v3 + 1)), some (.int ((10000 : Int32) / (σ 69 (v3).toNatClampNeg)))] [] σ))))) ∧ ((σ 69 (v3).toNatClampNeg) = 0 → vp_in v3 80 ∧ (((σ 72 (v3).toNatClampNeg) = 0 → Ex sc CC 1 cd_188 Q 19 [some (.ref 12), some (.int (v1 + 0)), some (.int (v2 + 0)), some (.int (v3 + 1)), some (.int 0)] [] σ) ∧ (¬ (σ 72 (v3).toNatClampNeg) = 0 → Ex sc CC 1 cd_188 Q 19 [some (.ref 12), some (.int (v1 + 0)), some (.int (v2 + 0)), some (.int (v3 + 1)), some (.int 0)] [] σ))))) := n_if h (fun h => n_mb h (fun h => n_rt h)) (fun h => n_mb h (fun h => n_ne h (fun h => n_mb h (fun h => n_if h (fun h => Ex_fg [true, true, true, true, false] (ih (v1 + 0) (v2 + 0) (v3 + 1) σ h)) (fun h => Ex_fg [true, true, true, true, false] (ih (v1 + 0) (v2 + 0) (v3 + 1) σ h)))) (fun h => n_mb h (fun h => n_mb h (fun h => n_mb h (fun h => n_if h (fun h => Ex_fg [true, true, true, true, false] (ih (v1 + ((10000 : Int32) / (σ 69 (v3).toNatClampNeg))) (v2 + 0) (v3 + 1) σ h)) (fun h => Ex_fg [true, true, true, true, false] (ih (v1 + ((10000 : Int32) / (σ 69 (v3).toNatClampNeg))) (v2 + ((10000 : Int32) / (σ 69 (v3).toNatClampNeg))) (v3 + 1) σ h))))))))
    exact stw_Ex (cuts := [19]) monCC 33 v
set_option maxHeartbeats 20000000 in
set_option maxRecDepth 100000 in
theorem hp_188 {sc : Nat × (Nat → Int32)} {Q : Int32 → St → Prop}  {σ : St} (h : Ap (sp_188  σ) Q) : Ex sc CC 1 cd_188 Q 0 [some (.ref 12), none, none, none, none] [] σ := by
  have v : (¬ (σ 12 8) = 0 → Ex sc CC 1 cd_188 Q 19 [some (.ref 12), some (.int 0), some (.int 0), some (.int 0), none] [] σ) ∧ ((σ 12 8) = 0 → CC 125 [.ref 12, .int 2] σ (fun r3 σ3 => Q r3 σ3)) := n_ne h (fun h => cc_125 (n_bn h (fun r3 σ3 h => n_rt h))) (fun h => hl_188_19 FU 0 0 0 σ h)
  exact wpn_Ex (cuts := [19]) monCC (fun _ _ _ _ z => z) 11 0 _ _ _ v
-- TradeTestsModel.tell
set_option maxHeartbeats 20000000 in
set_option maxRecDepth 100000 in
theorem hp_191 {sc : Nat × (Nat → Int32)} {Q : Int32 → St → Prop} {x1 : Int32} {σ : St} (h : Ap (sp_191 x1 σ) Q) : Ex sc CC 1 cd_191 Q 0 [some (.ref 12), some (.int x1)] [] σ := by
  have v : (¬ (σ 12 10) = 8 → vp_in (σ 12 10) 8 ∧ (Q ((σ 12 10) + 1) (up (up σ 79 (σ 12 10).toNatClampNeg x1) 12 10 ((σ 12 10) + 1)))) ∧ ((σ 12 10) = 8 → CC 125 [.ref 12, .int 4] σ (fun r3 σ3 => Q r3 σ3)) := n_ne h (fun h => cc_125 (n_bn h (fun r3 σ3 h => n_rt h))) (fun h => n_mb h (fun h => n_rt h))
  exact wpn_Ex (cuts := []) monCC (fun _ _ _ _ z => z) 20 0 _ _ _ v
-- TradeTestsModel.found
set_option maxHeartbeats 20000000 in
set_option maxRecDepth 100000 in
theorem hp_194 {sc : Nat × (Nat → Int32)} {Q : Int32 → St → Prop} {x1 : Int32} {σ : St} (h : Ap (sp_194 x1 σ) Q) : Ex sc CC 1 cd_194 Q 0 [some (.ref 12), some (.int x1)] [] σ := by
  have v : CC 123 [.int x1, .int 1, .int 5] σ (fun r5 σ5 => (r5 = 0 → CC 125 [.ref 12, .int 1] σ5 (fun r6 σ6 => Q r6 σ6)) ∧ (¬ r5 = 0 → vp_in x1 6 ∧ (Q (σ5 80 (x1).toNatClampNeg) σ5))) := cc_123 (n_bn h (fun r5 σ5 h => n_if h (fun h => cc_125 (n_bn h (fun r6 σ6 h => n_rt h))) (fun h => n_mb h (fun h => n_rt h))))
  exact wpn_Ex (cuts := []) monCC (fun _ _ _ _ z => z) 12 0 _ _ _ v
-- TradeTests.test
set_option maxHeartbeats 20000000 in
set_option maxRecDepth 100000 in
theorem hp_16 {sc : Nat × (Nat → Int32)} {Q : Int32 → St → Prop} {x1 x2 x3 x4 x5 : Int32} {σ : St} (h : Ap (sp_16 x1 x2 x3 x4 x5 σ) Q) : Ex sc CC 1 cd_16 Q 0 [some (.ref 0), some (.int x1), some (.int x2), some (.int x3), some (.int x4), some (.int x5)] [] σ := by
  have v : CC 17 [.ref 0, .int x1] σ (fun r25 σ25 => (r25 = 0 → CC 2 [.ref 0, .int 1] σ25 (fun r26 σ26 => Q r26 σ26)) ∧ (¬ r25 = 0 → CC 18 [.ref 0, .int x1, .int x2] σ25 (fun r27 σ27 => (r27 = 0 → CC 2 [.ref 0, .int 1] σ27 (fun r28 σ28 => Q r28 σ28)) ∧ (¬ r27 = 0 → CC 20 [.int x2, .int x3] σ27 (fun r29 σ29 => (¬ r29 = 0 → CC 21 [.ref 0, .int x1, .int x4] σ29 (fun r30 σ30 => (r30 = 0 → CC 2 [.ref 0, .int 1] σ30 (fun r31 σ31 => Q r31 σ31)) ∧ (¬ r30 = 0 → CC 1 [.int x5, .int 1000000] σ30 (fun r32 σ32 => (¬ r32 = 0 → ((σ32 3 14) < 80 → CC 22 [.ref 3, .int x1, .int x2, .int x3, .int x4, .int x5] σ32 (fun r33 σ33 => Q r33 σ33)) ∧ (¬ (σ32 3 14) < 80 → CC 2 [.ref 0, .int 4] σ32 (fun r34 σ34 => Q r34 σ34))) ∧ (r32 = 0 → CC 2 [.ref 0, .int 1] σ32 (fun r35 σ35 => Q r35 σ35)))))) ∧ (r29 = 0 → CC 2 [.ref 0, .int 1] σ29 (fun r36 σ36 => Q r36 σ36))))))) := cc_17 (n_bn h (fun r25 σ25 h => n_if h (fun h => cc_2 (n_bn h (fun r26 σ26 h => n_rt h))) (fun h => cc_18 (n_bn h (fun r27 σ27 h => n_if h (fun h => cc_2 (n_bn h (fun r28 σ28 h => n_rt h))) (fun h => cc_20 (n_bn h (fun r29 σ29 h => n_ne h (fun h => cc_2 (n_bn h (fun r36 σ36 h => n_rt h))) (fun h => cc_21 (n_bn h (fun r30 σ30 h => n_if h (fun h => cc_2 (n_bn h (fun r31 σ31 h => n_rt h))) (fun h => cc_1 (n_bn h (fun r32 σ32 h => n_ne h (fun h => cc_2 (n_bn h (fun r35 σ35 h => n_rt h))) (fun h => n_if h (fun h => cc_22 (n_bn h (fun r33 σ33 h => n_rt h))) (fun h => cc_2 (n_bn h (fun r34 σ34 h => n_rt h))))))))))))))))))
  exact wpn_Ex (cuts := []) monCC (fun _ _ _ _ z => z) 37 0 _ _ _ v
-- TradeTests.of
set_option maxHeartbeats 20000000 in
set_option maxRecDepth 100000 in
theorem hp_23 {sc : Nat × (Nat → Int32)} {Q : Int32 → St → Prop} {x1 x2 : Int32} {σ : St} (h : Ap (sp_23 x1 x2 σ) Q) : Ex sc CC 1 cd_23 Q 0 [some (.ref 0), some (.int x1), some (.int x2)] [] σ := by
  have v : CC 1 [.int x1, .int (σ 3 14)] σ (fun r13 σ13 => (r13 = 0 → CC 2 [.ref 0, .int 1] σ13 (fun r14 σ14 => Q r14 σ14)) ∧ (¬ r13 = 0 → CC 1 [.int x2, .int 11] σ13 (fun r15 σ15 => (¬ r15 = 0 → (¬ x2 = 10 → CC 25 [.ref 3, .int x1, .int x2] σ15 (fun r16 σ16 => Q r16 σ16)) ∧ (x2 = 10 → CC 24 [.ref 2, .ref 3, .int x1] σ15 (fun r17 σ17 => Q r17 σ17))) ∧ (r15 = 0 → CC 2 [.ref 0, .int 1] σ15 (fun r18 σ18 => Q r18 σ18))))) := cc_1 (n_bn h (fun r13 σ13 h => n_if h (fun h => cc_2 (n_bn h (fun r14 σ14 h => n_rt h))) (fun h => cc_1 (n_bn h (fun r15 σ15 h => n_ne h (fun h => cc_2 (n_bn h (fun r18 σ18 h => n_rt h))) (fun h => n_ne h (fun h => cc_24 (n_bn h (fun r17 σ17 h => n_rt h))) (fun h => cc_25 (n_bn h (fun r16 σ16 h => n_rt h)))))))))
  exact wpn_Ex (cuts := []) monCC (fun _ _ _ _ z => z) 22 0 _ _ _ v
-- TradeTests$Texts.readFault
set_option maxHeartbeats 20000000 in
set_option maxRecDepth 100000 in
theorem hl_34_69 {sc : Nat × (Nat → Int32)} {Q : Int32 → St → Prop} : ∀ (n : Nat) (v1 : Int32) (v2 : Int32) (v3 : Int32) (σ : St), Ap (lp_34_69 n v1 v2 v3 σ) Q → Ex sc CC 2 cd_34 Q 69 [some (.ref 4), some (.int v1), some (.int v2), some (.int v3)] [] σ := by
  intro n
  induction n with
  | zero => intro v1 v2 v3 σ h; exact n_no h
  | succ n ih =>
    intro v1 v2 v3 σ h
    have v : (4 ≤ v3 → ((1 : Int32) = 0 ∨ (1 : Int32) = 1) ∧ Q 1 σ) ∧ (¬ 4 ≤ v3 → CC 5 [.int v3, .int v2] σ (fun r15 σ15 => (r15 = 0 → Ex sc CC 2 cd_34 Q 69 [some (.ref 4), some (.int v1), some (.int v2), some (.int (v3 + 1))] [] σ15) ∧ (¬ r15 = 0 → vp_in (((σ15 4 7) * 4) + v3) 24 ∧ (vp_in (((σ15 4 7) * 4) + v3) 24 ∧ (Ex sc CC 2 cd_34 Q 69 [some (.ref 4), some (.int v1), some (.int v2), some (.int (v3 + 1))] [] (up σ15 42 (((σ15 4 7) * 4) + v3).toNatClampNeg ((σ15 42 (((σ15 4 7) * 4) + v3).toNatClampNeg) ||| v1))))))) := n_if h (fun h => n_rb h) (fun h => cc_5 (n_bn h (fun r15 σ15 h => n_if h (fun h => ih v1 v2 (v3 + 1) σ15 h) (fun h => n_mb h (fun h => n_mb h (fun h => ih v1 v2 (v3 + 1) (up σ15 42 (((σ15 4 7) * 4) + v3).toNatClampNeg ((σ15 42 (((σ15 4 7) * 4) + v3).toNatClampNeg) ||| v1)) h))))))
    exact stw_Ex (cuts := [69]) monCC 23 v
set_option maxHeartbeats 20000000 in
set_option maxRecDepth 100000 in
theorem hp_34 {sc : Nat × (Nat → Int32)} {Q : Int32 → St → Prop}  {σ : St} (h : Ap (sp_34  σ) Q) : Ex sc CC 2 cd_34 Q 0 [some (.ref 4), none, none, none] [] σ := by
  have v : CC 33 [.ref 4] σ (fun r16 σ16 => CC 35 [.int r16, .int 55] σ16 (fun r17 σ17 => (¬ r17 = 0 → CC 33 [.ref 4] σ17 (fun r18 σ18 => CC 33 [.ref 4] (up σ18 4 2 ((σ18 4 2) + 1)) (fun r19 σ19 => CC 36 [.int r19] σ19 (fun r20 σ20 => (0 ≤ r20 → CC 37 [.ref 4] (up σ20 4 2 ((σ20 4 2) + 1)) (fun r21 σ21 => (¬ r21 = 0 → Ex sc CC 2 cd_34 Q 69 [some (.ref 4), some (.int ((1 : Int32) <<< ((r18 - 48) &&& 31))), some (.int r20), some (.int 0)] [] σ21) ∧ (r21 = 0 → ((0 : Int32) = 0 ∨ (0 : Int32) = 1) ∧ Q 0 σ21))) ∧ (¬ 0 ≤ r20 → ((0 : Int32) = 0 ∨ (0 : Int32) = 1) ∧ Q 0 σ20))))) ∧ (r17 = 0 → ((0 : Int32) = 0 ∨ (0 : Int32) = 1) ∧ Q 0 σ17))) := cc_33 (n_bn h (fun r16 σ16 h => cc_35 (n_bn h (fun r17 σ17 h => n_ne h (fun h => n_rb h) (fun h => cc_33 (n_bn h (fun r18 σ18 h => cc_33 (n_bn h (fun r19 σ19 h => cc_36 (n_bn h (fun r20 σ20 h => n_if h (fun h => cc_37 (n_bn h (fun r21 σ21 h => n_ne h (fun h => n_rb h) (fun h => hl_34_69 FU ((1 : Int32) <<< ((r18 - 48) &&& 31)) r20 0 σ21 h)))) (fun h => n_rb h))))))))))))
  exact wpn_Ex (cuts := [69]) monCC (fun _ _ _ _ z => z) 37 0 _ _ _ v
-- TradeTests$Texts.readNumber
set_option maxHeartbeats 20000000 in
set_option maxRecDepth 100000 in
theorem hl_38_4 {sc : Nat × (Nat → Int32)} {Q : Int32 → St → Prop} : ∀ (n : Nat) (v1 : Int32) (v2 : Int32) (v3 : Int32) (σ : St), Ap (lp_38_4 n v1 v2 v3 σ) Q → Ex sc CC 1 cd_38 Q 4 [some (.ref 4), some (.int v1), some (.int v2), some (.int v3)] [] σ := by
  intro n
  induction n with
  | zero => intro v1 v2 v3 σ h; exact n_no h
  | succ n ih =>
    intro v1 v2 v3 σ h
    have v : (v1 ≤ v3 → (v3 ≤ 0 → Q (-1) σ) ∧ (¬ v3 ≤ 0 → CC 37 [.ref 4] σ (fun r11 σ11 => (r11 = 0 → Q (-1) σ11) ∧ (¬ r11 = 0 → Q v2 σ11)))) ∧ (¬ v1 ≤ v3 → CC 33 [.ref 4] σ (fun r12 σ12 => CC 35 [.int r12, .int 57] σ12 (fun r13 σ13 => (r13 = 0 → (v3 ≤ 0 → Q (-1) σ13) ∧ (¬ v3 ≤ 0 → CC 37 [.ref 4] σ13 (fun r14 σ14 => (r14 = 0 → Q (-1) σ14) ∧ (¬ r14 = 0 → Q v2 σ14)))) ∧ (¬ r13 = 0 → CC 33 [.ref 4] σ13 (fun r15 σ15 => Ex sc CC 1 cd_38 Q 4 [some (.ref 4), some (.int v1), some (.int (((v2 * 10) + r15) - 48)), some (.int (v3 + 1))] [] (up σ15 4 2 ((σ15 4 2) + 1))))))) := n_if h (fun h => n_if h (fun h => n_rt h) (fun h => cc_37 (n_bn h (fun r11 σ11 h => n_if h (fun h => n_rt h) (fun h => n_rt h))))) (fun h => cc_33 (n_bn h (fun r12 σ12 h => cc_35 (n_bn h (fun r13 σ13 h => n_if h (fun h => n_if h (fun h => n_rt h) (fun h => cc_37 (n_bn h (fun r14 σ14 h => n_if h (fun h => n_rt h) (fun h => n_rt h))))) (fun h => cc_33 (n_bn h (fun r15 σ15 h => ih v1 (((v2 * 10) + r15) - 48) (v3 + 1) (up σ15 4 2 ((σ15 4 2) + 1)) h))))))))
    exact stw_Ex (cuts := [4]) monCC 26 v
set_option maxHeartbeats 20000000 in
set_option maxRecDepth 100000 in
theorem hp_38 {sc : Nat × (Nat → Int32)} {Q : Int32 → St → Prop} {x1 : Int32} {σ : St} (h : Ap (sp_38 x1 σ) Q) : Ex sc CC 1 cd_38 Q 0 [some (.ref 4), some (.int x1), none, none] [] σ := by
  have v : Ex sc CC 1 cd_38 Q 4 [some (.ref 4), some (.int x1), some (.int 0), some (.int 0)] [] σ := hl_38_4 FU x1 0 0 σ h
  exact wpn_Ex (cuts := [4]) monCC (fun _ _ _ _ z => z) 6 0 _ _ _ v
-- TradeTests.verdict
set_option maxHeartbeats 20000000 in
set_option maxRecDepth 100000 in
theorem hp_42 {sc : Nat × (Nat → Int32)} {Q : Int32 → St → Prop} {x1 : Int32} {σ : St} (h : Ap (sp_42 x1 σ) Q) : Ex sc CC 1 cd_42 Q 0 [some (.ref 0), some (.int x1)] [] σ := by
  have v : CC 1 [.int x1, .int (σ 3 14)] σ (fun r7 σ7 => (¬ r7 = 0 → CC 43 [.ref 5, .int x1] σ7 (fun r8 σ8 => (r8 = 0 → Q 0 σ8) ∧ (¬ r8 = 0 → Q 1 σ8))) ∧ (r7 = 0 → CC 2 [.ref 0, .int 1] σ7 (fun r9 σ9 => Q r9 σ9))) := cc_1 (n_bn h (fun r7 σ7 h => n_ne h (fun h => cc_2 (n_bn h (fun r9 σ9 h => n_rt h))) (fun h => cc_43 (n_bn h (fun r8 σ8 h => n_if h (fun h => n_rt h) (fun h => n_rt h))))))
  exact wpn_Ex (cuts := []) monCC (fun _ _ _ _ z => z) 15 0 _ _ _ v
-- TradeTests$Judge.unlikeness
set_option maxHeartbeats 20000000 in
set_option maxRecDepth 100000 in
theorem hp_46 {sc : Nat × (Nat → Int32)} {Q : Int32 → St → Prop} {x1 : Int32} {σ : St} (h : Ap (sp_46 x1 σ) Q) : Ex sc CC 1 cd_46 Q 0 [some (.ref 5), some (.int x1), none] [] σ := by
  have v : vp_in x1 80 ∧ ((¬ (σ 33 (x1).toNatClampNeg) = 1 → CC 43 [.ref 5, .int x1] σ (fun r5 σ5 => (¬ (0 : Int32) = r5 → ((0 : Int32) = 0 → Q 2 σ5) ∧ (¬ (0 : Int32) = 0 → Q 1 σ5)) ∧ ((0 : Int32) = r5 → Q 0 σ5))) ∧ ((σ 33 (x1).toNatClampNeg) = 1 → CC 43 [.ref 5, .int x1] σ (fun r6 σ6 => (¬ (1 : Int32) = r6 → ((1 : Int32) = 0 → Q 2 σ6) ∧ (¬ (1 : Int32) = 0 → Q 1 σ6)) ∧ ((1 : Int32) = r6 → Q 0 σ6)))) := n_mb h (fun h => n_ne h (fun h => cc_43 (n_bn h (fun r6 σ6 h => n_ne h (fun h => n_rt h) (fun h => n_if h (fun h => n_rt h) (fun h => n_rt h))))) (fun h => cc_43 (n_bn h (fun r5 σ5 h => n_ne h (fun h => n_rt h) (fun h => n_if h (fun h => n_rt h) (fun h => n_rt h))))))
  exact wpn_Ex (cuts := []) monCC (fun _ _ _ _ z => z) 21 0 _ _ _ v
-- TradeTests$Signals.alikeTests
set_option maxHeartbeats 20000000 in
set_option maxRecDepth 100000 in
theorem hl_51_4 {sc : Nat × (Nat → Int32)} {Q : Int32 → St → Prop} : ∀ (n : Nat) (v1 : Int32) (v2 : Int32) (v3 : Int32) (σ : St), Ap (lp_51_4 n v1 v2 v3 σ) Q → Ex sc CC 1 cd_51 Q 4 [some (.ref 6), some (.int v1), some (.int v2), some (.int v3)] [] σ := by
  intro n
  induction n with
  | zero => intro v1 v2 v3 σ h; exact n_no h
  | succ n ih =>
    intro v1 v2 v3 σ h
    have v : ((σ 3 14) ≤ v3 → Q v2 σ) ∧ (¬ (σ 3 14) ≤ v3 → vp_in v3 80 ∧ (vp_in v1 80 ∧ ((¬ (σ 25 (v3).toNatClampNeg) = (σ 25 (v1).toNatClampNeg) → Ex sc CC 1 cd_51 Q 4 [some (.ref 6), some (.int v1), some (.int v2), some (.int (v3 + 1))] [] σ) ∧ ((σ 25 (v3).toNatClampNeg) = (σ 25 (v1).toNatClampNeg) → CC 52 [.ref 6, .int v3, .int v1] σ (fun r3 σ3 => (r3 = 0 → Ex sc CC 1 cd_51 Q 4 [some (.ref 6), some (.int v1), some (.int v2), some (.int (v3 + 1))] [] σ3) ∧ (¬ r3 = 0 → Ex sc CC 1 cd_51 Q 4 [some (.ref 6), some (.int v1), some (.int (v2 + 1)), some (.int (v3 + 1))] [] σ3)))))) := n_if h (fun h => n_rt h) (fun h => n_mb h (fun h => n_mb h (fun h => n_ne h (fun h => cc_52 (n_bn h (fun r3 σ3 h => n_if h (fun h => ih v1 v2 (v3 + 1) σ3 h) (fun h => ih v1 (v2 + 1) (v3 + 1) σ3 h)))) (fun h => ih v1 v2 (v3 + 1) σ h))))
    exact stw_Ex (cuts := [4]) monCC 25 v
set_option maxHeartbeats 20000000 in
set_option maxRecDepth 100000 in
theorem hp_51 {sc : Nat × (Nat → Int32)} {Q : Int32 → St → Prop} {x1 : Int32} {σ : St} (h : Ap (sp_51 x1 σ) Q) : Ex sc CC 1 cd_51 Q 0 [some (.ref 6), some (.int x1), none, none] [] σ := by
  have v : Ex sc CC 1 cd_51 Q 4 [some (.ref 6), some (.int x1), some (.int 0), some (.int 0)] [] σ := hl_51_4 FU x1 0 0 σ h
  exact wpn_Ex (cuts := [4]) monCC (fun _ _ _ _ z => z) 6 0 _ _ _ v
-- TradeTests$Signals.isShut
set_option maxHeartbeats 20000000 in
set_option maxRecDepth 100000 in
theorem hp_57 {sc : Nat × (Nat → Int32)} {Q : Int32 → St → Prop} {x1 : Int32} {σ : St} (h : Ap (sp_57 x1 σ) Q) : Ex sc CC 2 cd_57 Q 0 [some (.ref 6), some (.int x1), none] [] σ := by
  have v : CC 24 [.ref 2, .ref 3, .int x1] σ (fun r3 σ3 => vp_in x1 80 ∧ (vp_in r3 6 ∧ (((σ3 27 (x1).toNatClampNeg) < (σ3 18 (r3).toNatClampNeg) → ((1 : Int32) = 0 ∨ (1 : Int32) = 1) ∧ Q 1 σ3) ∧ (¬ (σ3 27 (x1).toNatClampNeg) < (σ3 18 (r3).toNatClampNeg) → vp_in x1 80 ∧ (vp_in x1 80 ∧ (vp_in r3 6 ∧ ((((σ3 27 (x1).toNatClampNeg) + (σ3 28 (x1).toNatClampNeg)) ≤ (σ3 19 (r3).toNatClampNeg) → ((0 : Int32) = 0 ∨ (0 : Int32) = 1) ∧ Q 0 σ3) ∧ (¬ ((σ3 27 (x1).toNatClampNeg) + (σ3 28 (x1).toNatClampNeg)) ≤ (σ3 19 (r3).toNatClampNeg) → ((1 : Int32) = 0 ∨ (1 : Int32) = 1) ∧ Q 1 σ3)))))))) := cc_24 (n_bn h (fun r3 σ3 h => n_mb h (fun h => n_mb h (fun h => n_if h (fun h => n_rb h) (fun h => n_mb h (fun h => n_mb h (fun h => n_mb h (fun h => n_if h (fun h => n_rb h) (fun h => n_rb h)))))))))
  exact wpn_Ex (cuts := []) monCC (fun _ _ _ _ z => z) 39 0 _ _ _ v
-- TradeTests$Judge.isFalsePass
set_option maxHeartbeats 20000000 in
set_option maxRecDepth 100000 in
theorem hp_58 {sc : Nat × (Nat → Int32)} {Q : Int32 → St → Prop} {x1 : Int32} {σ : St} (h : Ap (sp_58 x1 σ) Q) : Ex sc CC 2 cd_58 Q 0 [some (.ref 5), some (.int x1)] [] σ := by
  have v : vp_in x1 80 ∧ ((¬ (σ 33 (x1).toNatClampNeg) = 1 → ((0 : Int32) = 0 ∨ (0 : Int32) = 1) ∧ Q 0 σ) ∧ ((σ 33 (x1).toNatClampNeg) = 1 → CC 43 [.ref 5, .int x1] σ (fun r3 σ3 => (¬ r3 = 0 → ((0 : Int32) = 0 ∨ (0 : Int32) = 1) ∧ Q 0 σ3) ∧ (r3 = 0 → ((1 : Int32) = 0 ∨ (1 : Int32) = 1) ∧ Q 1 σ3)))) := n_mb h (fun h => n_ne h (fun h => cc_43 (n_bn h (fun r3 σ3 h => n_ne h (fun h => n_rb h) (fun h => n_rb h)))) (fun h => n_rb h))
  exact wpn_Ex (cuts := []) monCC (fun _ _ _ _ z => z) 15 0 _ _ _ v
-- TradeTests$Rates.fillCells
set_option maxHeartbeats 20000000 in
set_option maxRecDepth 100000 in
theorem hl_63_30 {sc : Nat × (Nat → Int32)} {Q : Int32 → St → Prop} : ∀ (n : Nat) (v1 : Int32) (σ : St), Ap (lp_63_30 n v1 σ) Q → Ex sc CC 0 cd_63 Q 30 [some (.ref 7), some (.int v1), none] [] σ := by
  intro n
  induction n with
  | zero => intro v1 σ h; exact n_no h
  | succ n ih =>
    intro v1 σ h
    have v : ((σ 3 14) ≤ v1 → Q 0 σ) ∧ (¬ (σ 3 14) ≤ v1 → CC 64 [.ref 7, .int v1] σ (fun r3 σ3 => vp_in r3 16 ∧ (vp_in r3 16 ∧ (vp_in r3 16 ∧ (vp_in v1 80 ∧ (vp_in r3 16 ∧ (Ex sc CC 0 cd_63 Q 30 [some (.ref 7), some (.int (v1 + 1)), some (.int r3)] [] (up (up σ3 43 (r3).toNatClampNeg ((σ3 43 (r3).toNatClampNeg) + 1)) 44 (r3).toNatClampNeg ((σ3 44 (r3).toNatClampNeg) + (σ3 33 (v1).toNatClampNeg)))))))))) := n_if h (fun h => n_rt h) (fun h => cc_64 (n_bn h (fun r3 σ3 h => n_mb h (fun h => n_mb h (fun h => n_mb h (fun h => n_mb h (fun h => n_mb h (fun h => Ex_fg [true, true, false] (ih (v1 + 1) (up (up σ3 43 (r3).toNatClampNeg ((σ3 43 (r3).toNatClampNeg) + 1)) 44 (r3).toNatClampNeg ((σ3 44 (r3).toNatClampNeg) + (σ3 33 (v1).toNatClampNeg))) h)))))))))
    exact stw_Ex (cuts := [2, 30]) monCC 32 v
set_option maxHeartbeats 20000000 in
set_option maxRecDepth 100000 in
theorem hl_63_2 {sc : Nat × (Nat → Int32)} {Q : Int32 → St → Prop} : ∀ (n : Nat) (v1 : Int32) (σ : St), Ap (lp_63_2 n v1 σ) Q → Ex sc CC 0 cd_63 Q 2 [some (.ref 7), some (.int v1), none] [] σ := by
  intro n
  induction n with
  | zero => intro v1 σ h; exact n_no h
  | succ n ih =>
    intro v1 σ h
    have v : (16 ≤ v1 → Ex sc CC 0 cd_63 Q 30 [some (.ref 7), some (.int 0), none] [] σ) ∧ (¬ 16 ≤ v1 → vp_in v1 16 ∧ (vp_in v1 16 ∧ (Ex sc CC 0 cd_63 Q 2 [some (.ref 7), some (.int (v1 + 1)), none] [] (up (up σ 43 (v1).toNatClampNeg 0) 44 (v1).toNatClampNeg 0)))) := n_if h (fun h => hl_63_30 FU 0 σ h) (fun h => n_mb h (fun h => n_mb h (fun h => ih (v1 + 1) (up (up σ 43 (v1).toNatClampNeg 0) 44 (v1).toNatClampNeg 0) h)))
    exact stw_Ex (cuts := [2, 30]) monCC 16 v
set_option maxHeartbeats 20000000 in
set_option maxRecDepth 100000 in
theorem hp_63 {sc : Nat × (Nat → Int32)} {Q : Int32 → St → Prop}  {σ : St} (h : Ap (sp_63  σ) Q) : Ex sc CC 0 cd_63 Q 0 [some (.ref 7), none, none] [] σ := by
  have v : Ex sc CC 0 cd_63 Q 2 [some (.ref 7), some (.int 0), none] [] σ := hl_63_2 FU 0 σ h
  exact wpn_Ex (cuts := [2, 30]) monCC (fun _ _ _ _ z => z) 4 0 _ _ _ v
-- TradeTests$Rates.measure
set_option maxHeartbeats 20000000 in
set_option maxRecDepth 100000 in
theorem hl_66_22 {sc : Nat × (Nat → Int32)} {Q : Int32 → St → Prop} : ∀ (n : Nat) (v1 : Int32) (v2 : Int32) (σ : St), Ap (lp_66_22 n v1 v2 σ) Q → Ex sc CC 0 cd_66 Q 22 [some (.ref 7), some (.int v1), some (.int v2), none] [] σ := by
  intro n
  induction n with
  | zero => intro v1 v2 σ h; exact n_no h
  | succ n ih =>
    intro v1 v2 σ h
    have v : ((σ 3 14) ≤ v2 → Q 0 σ) ∧ (¬ (σ 3 14) ≤ v2 → CC 24 [.ref 2, .ref 3, .int v2] σ (fun r7 σ7 => (¬ r7 = v1 → Ex sc CC 0 cd_66 Q 22 [some (.ref 7), some (.int v1), some (.int (v2 + 1)), none] [] σ7) ∧ (r7 = v1 → CC 64 [.ref 7, .int v2] σ7 (fun r8 σ8 => CC 67 [.ref 7, .int r8] σ8 (fun r9 σ9 => vp_in v2 80 ∧ (Ex sc CC 0 cd_66 Q 22 [some (.ref 7), some (.int v1), some (.int (v2 + 1)), some (.int r9)] [] (up (up (up (up σ9 7 5 ((σ9 7 5) + 1)) 7 6 ((σ9 7 6) + (σ9 33 (v2).toNatClampNeg))) 7 7 ((σ9 7 7) + r9)) 7 8 ((σ9 7 8) + (r9 * ((1000 : Int32) - r9)))))))))) := n_if h (fun h => n_rt h) (fun h => cc_24 (n_bn h (fun r7 σ7 h => n_ne h (fun h => cc_64 (n_bn h (fun r8 σ8 h => cc_67 (n_bn h (fun r9 σ9 h => n_mb h (fun h => Ex_fg [true, true, true, false] (ih v1 (v2 + 1) (up (up (up (up σ9 7 5 ((σ9 7 5) + 1)) 7 6 ((σ9 7 6) + (σ9 33 (v2).toNatClampNeg))) 7 7 ((σ9 7 7) + r9)) 7 8 ((σ9 7 8) + (r9 * ((1000 : Int32) - r9)))) h))))))) (fun h => ih v1 (v2 + 1) σ7 h))))
    exact stw_Ex (cuts := [22]) monCC 54 v
set_option maxHeartbeats 20000000 in
set_option maxRecDepth 100000 in
theorem hp_66 {sc : Nat × (Nat → Int32)} {Q : Int32 → St → Prop} {x1 : Int32} {σ : St} (h : Ap (sp_66 x1 σ) Q) : Ex sc CC 0 cd_66 Q 0 [some (.ref 7), some (.int x1), none, none] [] σ := by
  have v : Ex sc CC 0 cd_66 Q 22 [some (.ref 7), some (.int x1), some (.int 0), none] [] (up (up (up (up σ 7 5 0) 7 6 0) 7 7 0) 7 8 0) := hl_66_22 FU x1 0 (up (up (up (up σ 7 5 0) 7 6 0) 7 7 0) 7 8 0) h
  exact wpn_Ex (cuts := [22]) monCC (fun _ _ _ _ z => z) 16 0 _ _ _ v
-- TradeTests$Rates.garagesWithTests
set_option maxHeartbeats 20000000 in
set_option maxRecDepth 100000 in
theorem hl_70_4 {sc : Nat × (Nat → Int32)} {Q : Int32 → St → Prop} : ∀ (n : Nat) (v1 : Int32) (v2 : Int32) (σ : St), Ap (lp_70_4 n v1 v2 σ) Q → Ex sc CC 1 cd_70 Q 4 [some (.ref 7), some (.int v1), some (.int v2)] [] σ := by
  intro n
  induction n with
  | zero => intro v1 v2 σ h; exact n_no h
  | succ n ih =>
    intro v1 v2 σ h
    have v : ((σ 3 14) ≤ v2 → CC 59 [.int v1] σ (fun r5 σ5 => Q r5 σ5)) ∧ (¬ (σ 3 14) ≤ v2 → CC 24 [.ref 2, .ref 3, .int v2] σ (fun r6 σ6 => Ex sc CC 1 cd_70 Q 4 [some (.ref 7), some (.int (v1 ||| ((1 : Int32) <<< (r6 &&& 31)))), some (.int (v2 + 1))] [] σ6)) := n_if h (fun h => cc_59 (n_bn h (fun r5 σ5 h => n_rt h))) (fun h => cc_24 (n_bn h (fun r6 σ6 h => ih (v1 ||| ((1 : Int32) <<< (r6 &&& 31))) (v2 + 1) σ6 h)))
    exact stw_Ex (cuts := [4]) monCC 19 v
set_option maxHeartbeats 20000000 in
set_option maxRecDepth 100000 in
theorem hp_70 {sc : Nat × (Nat → Int32)} {Q : Int32 → St → Prop}  {σ : St} (h : Ap (sp_70  σ) Q) : Ex sc CC 1 cd_70 Q 0 [some (.ref 7), none, none] [] σ := by
  have v : Ex sc CC 1 cd_70 Q 4 [some (.ref 7), some (.int 0), some (.int 0)] [] σ := hl_70_4 FU 0 0 σ h
  exact wpn_Ex (cuts := [4]) monCC (fun _ _ _ _ z => z) 6 0 _ _ _ v
-- TradeTests.falls
set_option maxHeartbeats 20000000 in
set_option maxRecDepth 100000 in
theorem hp_75 {sc : Nat × (Nat → Int32)} {Q : Int32 → St → Prop} {x1 : Int32} {σ : St} (h : Ap (sp_75 x1 σ) Q) : Ex sc CC 1 cd_75 Q 0 [some (.ref 0), some (.int x1)] [] σ := by
  have v : CC 1 [.int x1, .int (σ 3 14)] σ (fun r9 σ9 => (¬ r9 = 0 → vp_in x1 80 ∧ (vp_in (σ9 24 (x1).toNatClampNeg) 24 ∧ ((¬ (σ9 15 (σ9 24 (x1).toNatClampNeg).toNatClampNeg) = 3 → CC 76 [.ref 8, .int x1] σ9 (fun r10 σ10 => Q r10 σ10)) ∧ ((σ9 15 (σ9 24 (x1).toNatClampNeg).toNatClampNeg) = 3 → CC 2 [.ref 0, .int 5] σ9 (fun r11 σ11 => Q r11 σ11))))) ∧ (r9 = 0 → CC 2 [.ref 0, .int 1] σ9 (fun r12 σ12 => Q r12 σ12))) := cc_1 (n_bn h (fun r9 σ9 h => n_ne h (fun h => cc_2 (n_bn h (fun r12 σ12 h => n_rt h))) (fun h => n_mb h (fun h => n_mb h (fun h => n_ne h (fun h => cc_2 (n_bn h (fun r11 σ11 h => n_rt h))) (fun h => cc_76 (n_bn h (fun r10 σ10 h => n_rt h))))))))
  exact wpn_Ex (cuts := []) monCC (fun _ _ _ _ z => z) 23 0 _ _ _ v
-- TradeTests.rule
set_option maxHeartbeats 20000000 in
set_option maxRecDepth 100000 in
theorem hp_80 {sc : Nat × (Nat → Int32)} {Q : Int32 → St → Prop} {x1 x2 : Int32} {σ : St} (h : Ap (sp_80 x1 x2 σ) Q) : Ex sc CC 1 cd_80 Q 0 [some (.ref 0), some (.int x1), some (.int x2)] [] σ := by
  have v : CC 81 [.ref 10, .int x1, .int x2] σ (fun r7 σ7 => (¬ r7 = 0 → CC 82 [.ref 10, .int x1, .int x2] σ7 (fun r8 σ8 => Q r8 σ8)) ∧ (r7 = 0 → CC 2 [.ref 0, .int 1] σ7 (fun r9 σ9 => Q r9 σ9))) := cc_81 (n_bn h (fun r7 σ7 h => n_ne h (fun h => cc_2 (n_bn h (fun r9 σ9 h => n_rt h))) (fun h => cc_82 (n_bn h (fun r8 σ8 h => n_rt h)))))
  exact wpn_Ex (cuts := []) monCC (fun _ _ _ _ z => z) 13 0 _ _ _ v
-- TradeTests$Secrets.missed
set_option maxHeartbeats 20000000 in
set_option maxRecDepth 100000 in
theorem hp_86 {sc : Nat × (Nat → Int32)} {Q : Int32 → St → Prop} {x1 : Int32} {σ : St} (h : Ap (sp_86 x1 σ) Q) : Ex sc CC 1 cd_86 Q 0 [some (.ref 9), some (.int x1), none] [] σ := by
  have v : vp_in x1 80 ∧ (CC 40 [.ref 4, .int (σ 26 (x1).toNatClampNeg)] σ (fun r7 σ7 => (0 ≤ r7 → CC 60 [.ref 9, .int x1] σ7 (fun r8 σ8 => vp_in x1 80 ∧ (CC 41 [.ref 4, .int r7, .int 1] σ8 (fun r9 σ9 => Q ((r8 &&& ((σ8 32 (x1).toNatClampNeg) ^^^ (-1))) &&& r9) σ9)))) ∧ (¬ 0 ≤ r7 → Q 0 σ7))) := n_mb h (fun h => cc_40 (n_bn h (fun r7 σ7 h => n_if h (fun h => cc_60 (n_bn h (fun r8 σ8 h => n_mb h (fun h => cc_41 (n_bn h (fun r9 σ9 h => n_rt h)))))) (fun h => n_rt h))))
  exact wpn_Ex (cuts := []) monCC (fun _ _ _ _ z => z) 30 0 _ _ _ v
-- TradeTests$Plan.fillBest
set_option maxHeartbeats 20000000 in
set_option maxRecDepth 100000 in
theorem hl_102_16 {sc : Nat × (Nat → Int32)} {Q : Int32 → St → Prop} (ko : Int32 → St → MR) (hko : ∀ (v1 : Int32) (σ : St), Ap (ko v1 σ) Q → Ex sc CC 0 cd_102 Q 10 [some (.ref 11), some (.int v1), none] [] σ) : ∀ (n : Nat) (v1 : Int32) (v2 : Int32) (σ : St), Ap (lp_102_16 ko n v1 v2 σ) Q → Ex sc CC 0 cd_102 Q 16 [some (.ref 11), some (.int v1), some (.int v2)] [] σ := by
  intro n
  induction n with
  | zero => intro v1 v2 σ h; exact n_no h
  | succ n ih =>
    intro v1 v2 σ h
    have v : (64 ≤ v2 → Ex sc CC 0 cd_102 Q 10 [some (.ref 11), some (.int (v1 + (-1))), some (.int v2)] [] σ) ∧ (¬ 64 ≤ v2 → CC 103 [.ref 11, .int v1, .int v2] σ (fun r3 σ3 => vp_in ((v1 * 64) + v2) 448 ∧ (Ex sc CC 0 cd_102 Q 16 [some (.ref 11), some (.int v1), some (.int (v2 + 1))] [] (up σ3 49 ((v1 * 64) + v2).toNatClampNeg r3)))) := n_if h (fun h => Ex_fg [true, true, false] (hko (v1 + (-1)) σ h)) (fun h => cc_103 (n_bn h (fun r3 σ3 h => n_mb h (fun h => ih v1 (v2 + 1) (up σ3 49 ((v1 * 64) + v2).toNatClampNeg r3) h))))
    exact stw_Ex (cuts := [10, 16]) monCC 18 v
set_option maxHeartbeats 20000000 in
set_option maxRecDepth 100000 in
theorem hl_102_10 {sc : Nat × (Nat → Int32)} {Q : Int32 → St → Prop} : ∀ (n : Nat) (v1 : Int32) (σ : St), Ap (lp_102_10 n v1 σ) Q → Ex sc CC 0 cd_102 Q 10 [some (.ref 11), some (.int v1), none] [] σ := by
  intro n
  induction n with
  | zero => intro v1 σ h; exact n_no h
  | succ n ih =>
    intro v1 σ h
    have v : (v1 < 0 → Q 0 σ) ∧ (¬ v1 < 0 → Ex sc CC 0 cd_102 Q 16 [some (.ref 11), some (.int v1), some (.int 0)] [] σ) := n_if h (fun h => n_rt h) (fun h => hl_102_16 (fun v1 σ => lp_102_10 n v1 σ) ih FU v1 0 σ h)
    exact stw_Ex (cuts := [10, 16]) monCC 5 v
set_option maxHeartbeats 20000000 in
set_option maxRecDepth 100000 in
theorem hp_102 {sc : Nat × (Nat → Int32)} {Q : Int32 → St → Prop}  {σ : St} (h : Ap (sp_102  σ) Q) : Ex sc CC 0 cd_102 Q 0 [some (.ref 11), none, none] [] σ := by
  have v : Ex sc CC 0 cd_102 Q 10 [some (.ref 11), some (.int ((σ 9 3) - 1)), none] [] σ := hl_102_10 FU ((σ 9 3) - 1) σ h
  exact wpn_Ex (cuts := [10, 16]) monCC (fun _ _ _ _ z => z) 8 0 _ _ _ v
-- TradeTests$Plan.garageFor
set_option maxHeartbeats 20000000 in
set_option maxRecDepth 100000 in
theorem hl_108_7 {sc : Nat × (Nat → Int32)} {Q : Int32 → St → Prop} : ∀ (n : Nat) (v1 : Int32) (v2 : Int32) (v3 : Int32) (v4 : Int32) (σ : St), Ap (lp_108_7 n v1 v2 v3 v4 σ) Q → Ex sc CC 1 cd_108 Q 7 [some (.ref 11), some (.int v1), some (.int v2), some (.int v3), some (.int v4)] [] σ := by
  intro n
  induction n with
  | zero => intro v1 v2 v3 v4 σ h; exact n_no h
  | succ n ih =>
    intro v1 v2 v3 v4 σ h
    have v : (v1 < v4 → Q v3 σ) ∧ (¬ v1 < v4 → CC 109 [.ref 11, .int v4, .int v2] σ (fun r3 σ3 => (0 ≤ r3 → Ex sc CC 1 cd_108 Q 7 [some (.ref 11), some (.int v1), some (.int (v2 ||| ((1 : Int32) <<< (r3 &&& 31)))), some (.int r3), some (.int (v4 + 1))] [] σ3) ∧ (¬ 0 ≤ r3 → Ex sc CC 1 cd_108 Q 7 [some (.ref 11), some (.int v1), some (.int v2), some (.int r3), some (.int (v4 + 1))] [] σ3))) := n_if h (fun h => n_rt h) (fun h => cc_109 (n_bn h (fun r3 σ3 h => n_if h (fun h => ih v1 (v2 ||| ((1 : Int32) <<< (r3 &&& 31))) r3 (v4 + 1) σ3 h) (fun h => ih v1 v2 r3 (v4 + 1) σ3 h))))
    exact stw_Ex (cuts := [7]) monCC 19 v
set_option maxHeartbeats 20000000 in
set_option maxRecDepth 100000 in
theorem hp_108 {sc : Nat × (Nat → Int32)} {Q : Int32 → St → Prop} {x1 : Int32} {σ : St} (h : Ap (sp_108 x1 σ) Q) : Ex sc CC 1 cd_108 Q 0 [some (.ref 11), some (.int x1), none, none, none] [] σ := by
  have v : Ex sc CC 1 cd_108 Q 7 [some (.ref 11), some (.int x1), some (.int 0), some (.int (-1)), some (.int 0)] [] σ := hl_108_7 FU x1 0 (-1) 0 σ h
  exact wpn_Ex (cuts := [7]) monCC (fun _ _ _ _ z => z) 8 0 _ _ _ v
-- TradeTestsModel.vehicle
set_option maxHeartbeats 20000000 in
set_option maxRecDepth 100000 in
theorem hp_122 {sc : Nat × (Nat → Int32)} {Q : Int32 → St → Prop} {x1 x2 x3 : Int32} {σ : St} (h : Ap (sp_122 x1 x2 x3 σ) Q) : Ex sc CC 1 cd_122 Q 0 [some (.ref 12), some (.int x1), some (.int x2), some (.int x3)] [] σ := by
  have v : CC 123 [.int x1, .int 0, .int 3] σ (fun r15 σ15 => (r15 = 0 → CC 125 [.ref 12, .int 1] σ15 (fun r16 σ16 => Q r16 σ16)) ∧ (¬ r15 = 0 → CC 123 [.int x2, .int 0, .int 3] σ15 (fun r17 σ17 => (r17 = 0 → CC 125 [.ref 12, .int 1] σ17 (fun r18 σ18 => Q r18 σ18)) ∧ (¬ r17 = 0 → CC 124 [.int x3] σ17 (fun r19 σ19 => (¬ r19 = 0 → (¬ (σ19 12 0) = 24 → vp_in (σ19 12 0) 24 ∧ (vp_in (σ19 12 0) 24 ∧ (vp_in (σ19 12 0) 24 ∧ (Q (((σ19 12 0) + 1) - 1) (up (up (up (up σ19 50 (σ19 12 0).toNatClampNeg x1) 51 (σ19 12 0).toNatClampNeg x2) 52 (σ19 12 0).toNatClampNeg x3) 12 0 ((σ19 12 0) + 1)))))) ∧ ((σ19 12 0) = 24 → CC 125 [.ref 12, .int 4] σ19 (fun r20 σ20 => Q r20 σ20))) ∧ (r19 = 0 → CC 125 [.ref 12, .int 1] σ19 (fun r21 σ21 => Q r21 σ21))))))) := cc_123 (n_bn h (fun r15 σ15 h => n_if h (fun h => cc_125 (n_bn h (fun r16 σ16 h => n_rt h))) (fun h => cc_123 (n_bn h (fun r17 σ17 h => n_if h (fun h => cc_125 (n_bn h (fun r18 σ18 h => n_rt h))) (fun h => cc_124 (n_bn h (fun r19 σ19 h => n_ne h (fun h => cc_125 (n_bn h (fun r21 σ21 h => n_rt h))) (fun h => n_ne h (fun h => cc_125 (n_bn h (fun r20 σ20 h => n_rt h))) (fun h => n_mb h (fun h => n_mb h (fun h => n_mb h (fun h => n_rt h)))))))))))))
  exact wpn_Ex (cuts := []) monCC (fun _ _ _ _ z => z) 47 0 _ _ _ v
-- TradeTestsModel.as
set_option maxHeartbeats 20000000 in
set_option maxRecDepth 100000 in
theorem hp_126 {sc : Nat × (Nat → Int32)} {Q : Int32 → St → Prop} {x1 x2 : Int32} {σ : St} (h : Ap (sp_126 x1 x2 σ) Q) : Ex sc CC 1 cd_126 Q 0 [some (.ref 12), some (.int x1), some (.int x2)] [] σ := by
  have v : CC 127 [.ref 12, .int x1] σ (fun r15 σ15 => (r15 = 0 → CC 125 [.ref 12, .int 1] σ15 (fun r16 σ16 => Q r16 σ16)) ∧ (¬ r15 = 0 → CC 123 [.int x2, .int 0, .int 3] σ15 (fun r17 σ17 => (¬ r17 = 0 → vp_in x1 24 ∧ (CC 128 [.int (σ17 50 (x1).toNatClampNeg), .int x2] σ17 (fun r18 σ18 => (r18 = 0 → CC 125 [.ref 12, .int 5] σ18 (fun r19 σ19 => Q r19 σ19)) ∧ (¬ r18 = 0 → CC 129 [.ref 12, .int x1] σ18 (fun r20 σ20 => Q r20 σ20))))) ∧ (r17 = 0 → CC 125 [.ref 12, .int 1] σ17 (fun r21 σ21 => Q r21 σ21))))) := cc_127 (n_bn h (fun r15 σ15 h => n_if h (fun h => cc_125 (n_bn h (fun r16 σ16 h => n_rt h))) (fun h => cc_123 (n_bn h (fun r17 σ17 h => n_ne h (fun h => cc_125 (n_bn h (fun r21 σ21 h => n_rt h))) (fun h => n_mb h (fun h => cc_128 (n_bn h (fun r18 σ18 h => n_if h (fun h => cc_125 (n_bn h (fun r19 σ19 h => n_rt h))) (fun h => cc_129 (n_bn h (fun r20 σ20 h => n_rt h))))))))))))
  exact wpn_Ex (cuts := []) monCC (fun _ _ _ _ z => z) 22 0 _ _ _ v
-- TradeTestsModel.tester
set_option maxHeartbeats 20000000 in
set_option maxRecDepth 100000 in
theorem hp_131 {sc : Nat × (Nat → Int32)} {Q : Int32 → St → Prop} {x1 : Int32} {σ : St} (h : Ap (sp_131 x1 σ) Q) : Ex sc CC 1 cd_131 Q 0 [some (.ref 12), some (.int x1)] [] σ := by
  have v : CC 132 [.ref 12, .int x1] σ (fun r7 σ7 => (¬ r7 = 0 → (¬ (σ7 12 2) = 8 → vp_in (σ7 12 2) 8 ∧ (Q (((σ7 12 2) + 1) - 1) (up (up σ7 55 (σ7 12 2).toNatClampNeg x1) 12 2 ((σ7 12 2) + 1)))) ∧ ((σ7 12 2) = 8 → CC 125 [.ref 12, .int 4] σ7 (fun r8 σ8 => Q r8 σ8))) ∧ (r7 = 0 → CC 125 [.ref 12, .int 1] σ7 (fun r9 σ9 => Q r9 σ9))) := cc_132 (n_bn h (fun r7 σ7 h => n_ne h (fun h => cc_125 (n_bn h (fun r9 σ9 h => n_rt h))) (fun h => n_ne h (fun h => cc_125 (n_bn h (fun r8 σ8 h => n_rt h))) (fun h => n_mb h (fun h => n_rt h)))))
  exact wpn_Ex (cuts := []) monCC (fun _ _ _ _ z => z) 26 0 _ _ _ v
-- TradeTestsModel.move
set_option maxHeartbeats 20000000 in
set_option maxRecDepth 100000 in
theorem hl_133_32 {sc : Nat × (Nat → Int32)} {Q : Int32 → St → Prop} : ∀ (n : Nat) (v1 : Int32) (v2 : Int32) (v3 : Int32) (v4 : Int32) (σ : St), Ap (lp_133_32 n v1 v2 v3 v4 σ) Q → Ex sc CC 1 cd_133 Q 32 [some (.ref 12), some (.int v1), some (.int v2), some (.int v3), some (.int v4)] [] σ := by
  intro n
  induction n with
  | zero => intro v1 v2 v3 v4 σ h; exact n_no h
  | succ n ih =>
    intro v1 v2 v3 v4 σ h
    have v : ((σ 12 3) ≤ v4 → (¬ (σ 12 3) = 30 → CC 135 [.ref 12, .int v1, .int (v3 - 1)] σ (fun r19 σ19 => vp_in (σ19 12 3) 30 ∧ (vp_in (σ19 12 3) 30 ∧ (vp_in (σ19 12 3) 30 ∧ (Q r19 (up (up (up (up σ19 56 (σ19 12 3).toNatClampNeg v1) 57 (σ19 12 3).toNatClampNeg v2) 58 (σ19 12 3).toNatClampNeg v3) 12 3 ((σ19 12 3) + 1))))))) ∧ ((σ 12 3) = 30 → CC 125 [.ref 12, .int 4] σ (fun r20 σ20 => Q r20 σ20))) ∧ (¬ (σ 12 3) ≤ v4 → vp_in v4 30 ∧ ((¬ (σ 56 (v4).toNatClampNeg) = v1 → Ex sc CC 1 cd_133 Q 32 [some (.ref 12), some (.int v1), some (.int v2), some (.int v3), some (.int (v4 + 1))] [] σ) ∧ ((σ 56 (v4).toNatClampNeg) = v1 → vp_in v4 30 ∧ (((σ 58 (v4).toNatClampNeg) ≤ v3 → Ex sc CC 1 cd_133 Q 32 [some (.ref 12), some (.int v1), some (.int v2), some (.int v3), some (.int (v4 + 1))] [] σ) ∧ (¬ (σ 58 (v4).toNatClampNeg) ≤ v3 → CC 125 [.ref 12, .int 1] σ (fun r21 σ21 => Q r21 σ21)))))) := n_if h (fun h => n_ne h (fun h => cc_125 (n_bn h (fun r20 σ20 h => n_rt h))) (fun h => cc_135 (n_bn h (fun r19 σ19 h => n_mb h (fun h => n_mb h (fun h => n_mb h (fun h => n_rt h))))))) (fun h => n_mb h (fun h => n_ne h (fun h => n_mb h (fun h => n_if h (fun h => ih v1 v2 v3 (v4 + 1) σ h) (fun h => cc_125 (n_bn h (fun r21 σ21 h => n_rt h))))) (fun h => ih v1 v2 v3 (v4 + 1) σ h)))
    exact stw_Ex (cuts := [32]) monCC 41 v
set_option maxHeartbeats 20000000 in
set_option maxRecDepth 100000 in
theorem hp_133 {sc : Nat × (Nat → Int32)} {Q : Int32 → St → Prop} {x1 x2 x3 : Int32} {σ : St} (h : Ap (sp_133 x1 x2 x3 σ) Q) : Ex sc CC 1 cd_133 Q 0 [some (.ref 12), some (.int x1), some (.int x2), some (.int x3), none] [] σ := by
  have v : CC 134 [.ref 12, .int x1] σ (fun r22 σ22 => (r22 = 0 → CC 125 [.ref 12, .int 1] σ22 (fun r23 σ23 => Q r23 σ23)) ∧ (¬ r22 = 0 → CC 132 [.ref 12, .int x2] σ22 (fun r24 σ24 => (r24 = 0 → CC 125 [.ref 12, .int 1] σ24 (fun r25 σ25 => Q r25 σ25)) ∧ (¬ r24 = 0 → CC 124 [.int x3] σ24 (fun r26 σ26 => (¬ r26 = 0 → Ex sc CC 1 cd_133 Q 32 [some (.ref 12), some (.int x1), some (.int x2), some (.int x3), some (.int 0)] [] σ26) ∧ (r26 = 0 → CC 125 [.ref 12, .int 1] σ26 (fun r27 σ27 => Q r27 σ27))))))) := cc_134 (n_bn h (fun r22 σ22 h => n_if h (fun h => cc_125 (n_bn h (fun r23 σ23 h => n_rt h))) (fun h => cc_132 (n_bn h (fun r24 σ24 h => n_if h (fun h => cc_125 (n_bn h (fun r25 σ25 h => n_rt h))) (fun h => cc_124 (n_bn h (fun r26 σ26 h => n_ne h (fun h => cc_125 (n_bn h (fun r27 σ27 h => n_rt h))) (fun h => hl_133_32 FU x1 x2 x3 0 σ26 h)))))))))
  exact wpn_Ex (cuts := [32]) monCC (fun _ _ _ _ z => z) 16 0 _ _ _ v
-- TradeTestsModel.at
set_option maxHeartbeats 20000000 in
set_option maxRecDepth 100000 in
theorem hp_136 {sc : Nat × (Nat → Int32)} {Q : Int32 → St → Prop} {x1 x2 : Int32} {σ : St} (h : Ap (sp_136 x1 x2 σ) Q) : Ex sc CC 1 cd_136 Q 0 [some (.ref 12), some (.int x1), some (.int x2)] [] σ := by
  have v : CC 134 [.ref 12, .int x1] σ (fun r11 σ11 => (r11 = 0 → CC 125 [.ref 12, .int 1] σ11 (fun r12 σ12 => Q r12 σ12)) ∧ (¬ r11 = 0 → CC 124 [.int x2] σ11 (fun r13 σ13 => (r13 = 0 → CC 125 [.ref 12, .int 1] σ13 (fun r14 σ14 => Q r14 σ14)) ∧ (¬ r13 = 0 → CC 135 [.ref 12, .int x1, .int x2] σ13 (fun r15 σ15 => Q r15 σ15))))) := cc_134 (n_bn h (fun r11 σ11 h => n_if h (fun h => cc_125 (n_bn h (fun r12 σ12 h => n_rt h))) (fun h => cc_124 (n_bn h (fun r13 σ13 h => n_if h (fun h => cc_125 (n_bn h (fun r14 σ14 h => n_rt h))) (fun h => cc_135 (n_bn h (fun r15 σ15 h => n_rt h))))))))
  exact wpn_Ex (cuts := []) monCC (fun _ _ _ _ z => z) 14 0 _ _ _ v
end
section
/-! the code does what the functions say (written by wip/whole/gen/spec.py) -/
-- TradeTestsModel.isTold
set_option maxHeartbeats 20000000 in
set_option maxRecDepth 100000 in
theorem hp_138 {sc : Nat × (Nat → Int32)} {Q : Int32 → St → Prop} {x1 x2 x3 x4 x5 : Int32} {σ : St} (h : Ap (sp_138 x1 x2 x3 x4 x5 σ) Q) : Ex sc CC 2 cd_138 Q 0 [some (.ref 12), some (.int x1), some (.int x2), some (.int x3), some (.int x4), some (.int x5), none] [] σ := by
  have v : (x1 < 0 → ((0 : Int32) = 0 ∨ (0 : Int32) = 1) ∧ Q 0 σ) ∧ (¬ x1 < 0 → (x2 < 0 → ((0 : Int32) = 0 ∨ (0 : Int32) = 1) ∧ Q 0 σ) ∧ (¬ x2 < 0 → (x3 < 0 → ((0 : Int32) = 0 ∨ (0 : Int32) = 1) ∧ Q 0 σ) ∧ (¬ x3 < 0 → (x5 < 0 → ((0 : Int32) = 0 ∨ (0 : Int32) = 1) ∧ Q 0 σ) ∧ (¬ x5 < 0 → ¬ (100 : Int32) = 0 ∧ (CC 127 [.ref 12, .int (x1 / 100)] σ (fun r17 σ17 => (r17 = 0 → ((0 : Int32) = 0 ∨ (0 : Int32) = 1) ∧ Q 0 σ17) ∧ (¬ r17 = 0 → ¬ (100 : Int32) = 0 ∧ (CC 134 [.ref 12, .int (x1 - x1 / 100 * 100)] σ17 (fun r18 σ18 => (¬ r18 = 0 → ¬ (10000 : Int32) = 0 ∧ (¬ (100 : Int32) = 0 ∧ (vp_in (x1 / 100) 24 ∧ (((x2 - x2 / 10000 * 10000) < (σ18 52 (x1 / 100).toNatClampNeg) → ((0 : Int32) = 0 ∨ (0 : Int32) = 1) ∧ Q 0 σ18) ∧ (¬ (x2 - x2 / 10000 * 10000) < (σ18 52 (x1 / 100).toNatClampNeg) → ((σ18 12 4) ≤ 0 → ¬ (10000 : Int32) = 0 ∧ ((1439 < (x2 / 10000) → ((0 : Int32) = 0 ∨ (0 : Int32) = 1) ∧ Q 0 σ18) ∧ (¬ 1439 < (x2 / 10000) → ¬ (1000 : Int32) = 0 ∧ (CC 123 [.int (x3 / 1000), .int 1, .int 240] σ18 (fun r19 σ19 => (r19 = 0 → ((0 : Int32) = 0 ∨ (0 : Int32) = 1) ∧ Q 0 σ19) ∧ (¬ r19 = 0 → ¬ (1000 : Int32) = 0 ∧ ((511 < (x3 - x3 / 1000 * 1000) → ((0 : Int32) = 0 ∨ (0 : Int32) = 1) ∧ Q 0 σ19) ∧ (¬ 511 < (x3 - x3 / 1000 * 1000) → ¬ (10000 : Int32) = 0 ∧ (¬ (1000 : Int32) = 0 ∧ ((((x2 / 10000) + (x3 / 1000)) ≤ 1440 → ¬ (100 : Int32) = 0 ∧ (vp_in (x1 / 100) 24 ∧ ((¬ (σ19 50 (x1 / 100).toNatClampNeg) = 3 → CC 123 [.int x4, .int 0, .int 999999] σ19 (fun r20 σ20 => (r20 = 0 → ((0 : Int32) = 0 ∨ (0 : Int32) = 1) ∧ Q 0 σ20) ∧ (¬ r20 = 0 → (1000000 ≤ x5 → ((0 : Int32) = 0 ∨ (0 : Int32) = 1) ∧ Q 0 σ20) ∧ (¬ 1000000 ≤ x5 → ((1 : Int32) = 0 ∨ (1 : Int32) = 1) ∧ Q 1 σ20)))) ∧ ((σ19 50 (x1 / 100).toNatClampNeg) = 3 → CC 123 [.int x4, .int 0, .int 0] σ19 (fun r21 σ21 => (r21 = 0 → ((0 : Int32) = 0 ∨ (0 : Int32) = 1) ∧ Q 0 σ21) ∧ (¬ r21 = 0 → (1000000 ≤ x5 → ((0 : Int32) = 0 ∨ (0 : Int32) = 1) ∧ Q 0 σ21) ∧ (¬ 1000000 ≤ x5 → ((1 : Int32) = 0 ∨ (1 : Int32) = 1) ∧ Q 1 σ21))))))) ∧ (¬ ((x2 / 10000) + (x3 / 1000)) ≤ 1440 → ((0 : Int32) = 0 ∨ (0 : Int32) = 1) ∧ Q 0 σ19))))))))))) ∧ (¬ (σ18 12 4) ≤ 0 → vp_in ((σ18 12 4) - 1) 80 ∧ (((σ18 61 ((σ18 12 4) - 1).toNatClampNeg) ≤ (x2 - x2 / 10000 * 10000) → ¬ (10000 : Int32) = 0 ∧ ((1439 < (x2 / 10000) → ((0 : Int32) = 0 ∨ (0 : Int32) = 1) ∧ Q 0 σ18) ∧ (¬ 1439 < (x2 / 10000) → ¬ (1000 : Int32) = 0 ∧ (CC 123 [.int (x3 / 1000), .int 1, .int 240] σ18 (fun r22 σ22 => (r22 = 0 → ((0 : Int32) = 0 ∨ (0 : Int32) = 1) ∧ Q 0 σ22) ∧ (¬ r22 = 0 → ¬ (1000 : Int32) = 0 ∧ ((511 < (x3 - x3 / 1000 * 1000) → ((0 : Int32) = 0 ∨ (0 : Int32) = 1) ∧ Q 0 σ22) ∧ (¬ 511 < (x3 - x3 / 1000 * 1000) → ¬ (10000 : Int32) = 0 ∧ (¬ (1000 : Int32) = 0 ∧ ((((x2 / 10000) + (x3 / 1000)) ≤ 1440 → ¬ (100 : Int32) = 0 ∧ (vp_in (x1 / 100) 24 ∧ ((¬ (σ22 50 (x1 / 100).toNatClampNeg) = 3 → CC 123 [.int x4, .int 0, .int 999999] σ22 (fun r23 σ23 => (r23 = 0 → ((0 : Int32) = 0 ∨ (0 : Int32) = 1) ∧ Q 0 σ23) ∧ (¬ r23 = 0 → (1000000 ≤ x5 → ((0 : Int32) = 0 ∨ (0 : Int32) = 1) ∧ Q 0 σ23) ∧ (¬ 1000000 ≤ x5 → ((1 : Int32) = 0 ∨ (1 : Int32) = 1) ∧ Q 1 σ23)))) ∧ ((σ22 50 (x1 / 100).toNatClampNeg) = 3 → CC 123 [.int x4, .int 0, .int 0] σ22 (fun r24 σ24 => (r24 = 0 → ((0 : Int32) = 0 ∨ (0 : Int32) = 1) ∧ Q 0 σ24) ∧ (¬ r24 = 0 → (1000000 ≤ x5 → ((0 : Int32) = 0 ∨ (0 : Int32) = 1) ∧ Q 0 σ24) ∧ (¬ 1000000 ≤ x5 → ((1 : Int32) = 0 ∨ (1 : Int32) = 1) ∧ Q 1 σ24))))))) ∧ (¬ ((x2 / 10000) + (x3 / 1000)) ≤ 1440 → ((0 : Int32) = 0 ∨ (0 : Int32) = 1) ∧ Q 0 σ22))))))))))) ∧ (¬ (σ18 61 ((σ18 12 4) - 1).toNatClampNeg) ≤ (x2 - x2 / 10000 * 10000) → ((0 : Int32) = 0 ∨ (0 : Int32) = 1) ∧ Q 0 σ18)))))))) ∧ (r18 = 0 → ((0 : Int32) = 0 ∨ (0 : Int32) = 1) ∧ Q 0 σ18)))))))))) := n_if h (fun h => n_rb h) (fun h => n_if h (fun h => n_rb h) (fun h => n_if h (fun h => n_rb h) (fun h => n_if h (fun h => n_rb h) (fun h => n_mb h (fun h => cc_127 (n_bn h (fun r17 σ17 h => n_if h (fun h => n_rb h) (fun h => n_mb h (fun h => cc_134 (n_bn h (fun r18 σ18 h => n_ne h (fun h => n_rb h) (fun h => n_mb h (fun h => n_mb h (fun h => n_mb h (fun h => n_if h (fun h => n_rb h) (fun h => n_if h (fun h => n_mb h (fun h => n_if h (fun h => n_rb h) (fun h => n_mb h (fun h => cc_123 (n_bn h (fun r19 σ19 h => n_if h (fun h => n_rb h) (fun h => n_mb h (fun h => n_if h (fun h => n_rb h) (fun h => n_mb h (fun h => n_mb h (fun h => n_if h (fun h => n_mb h (fun h => n_mb h (fun h => n_ne h (fun h => cc_123 (n_bn h (fun r21 σ21 h => n_if h (fun h => n_rb h) (fun h => n_if h (fun h => n_rb h) (fun h => n_rb h))))) (fun h => cc_123 (n_bn h (fun r20 σ20 h => n_if h (fun h => n_rb h) (fun h => n_if h (fun h => n_rb h) (fun h => n_rb h)))))))) (fun h => n_rb h)))))))))))) (fun h => n_mb h (fun h => n_if h (fun h => n_mb h (fun h => n_if h (fun h => n_rb h) (fun h => n_mb h (fun h => cc_123 (n_bn h (fun r22 σ22 h => n_if h (fun h => n_rb h) (fun h => n_mb h (fun h => n_if h (fun h => n_rb h) (fun h => n_mb h (fun h => n_mb h (fun h => n_if h (fun h => n_mb h (fun h => n_mb h (fun h => n_ne h (fun h => cc_123 (n_bn h (fun r24 σ24 h => n_if h (fun h => n_rb h) (fun h => n_if h (fun h => n_rb h) (fun h => n_rb h))))) (fun h => cc_123 (n_bn h (fun r23 σ23 h => n_if h (fun h => n_rb h) (fun h => n_if h (fun h => n_rb h) (fun h => n_rb h)))))))) (fun h => n_rb h)))))))))))) (fun h => n_rb h)))))))))))))))))))
  exact wpn_Ex (cuts := []) monCC (fun _ _ _ _ z => z) 91 0 _ _ _ v
-- TradeTestsModel.of
set_option maxHeartbeats 20000000 in
set_option maxRecDepth 100000 in
theorem hp_139 {sc : Nat × (Nat → Int32)} {Q : Int32 → St → Prop} {x1 x2 : Int32} {σ : St} (h : Ap (sp_139 x1 x2 σ) Q) : Ex sc CC 1 cd_139 Q 0 [some (.ref 12), some (.int x1), some (.int x2)] [] σ := by
  have v : CC 140 [.ref 12, .int x1] σ (fun r9 σ9 => (¬ r9 = 0 → (x2 = 0 → vp_in x1 80 ∧ (Q (σ9 59 (x1).toNatClampNeg) σ9)) ∧ (¬ x2 = 0 → (x2 = 1 → vp_in x1 80 ∧ (Q (σ9 60 (x1).toNatClampNeg) σ9)) ∧ (¬ x2 = 1 → (x2 = 2 → vp_in x1 80 ∧ (Q (σ9 61 (x1).toNatClampNeg) σ9)) ∧ (¬ x2 = 2 → (x2 = 3 → vp_in x1 80 ∧ (Q (σ9 62 (x1).toNatClampNeg) σ9)) ∧ (¬ x2 = 3 → (x2 = 4 → vp_in x1 80 ∧ (Q (σ9 63 (x1).toNatClampNeg) σ9)) ∧ (¬ x2 = 4 → (x2 = 5 → vp_in x1 80 ∧ (Q (σ9 64 (x1).toNatClampNeg) σ9)) ∧ (¬ x2 = 5 → (x2 = 6 → vp_in x1 80 ∧ (Q (σ9 65 (x1).toNatClampNeg) σ9)) ∧ (¬ x2 = 6 → (x2 = 7 → vp_in x1 80 ∧ (Q (σ9 66 (x1).toNatClampNeg) σ9)) ∧ (¬ x2 = 7 → (x2 = 8 → vp_in x1 80 ∧ (Q (σ9 67 (x1).toNatClampNeg) σ9)) ∧ (¬ x2 = 8 → (x2 = 9 → vp_in x1 80 ∧ (((σ9 70 (x1).toNatClampNeg) = 0 → Q 0 σ9) ∧ (¬ (σ9 70 (x1).toNatClampNeg) = 0 → Q 1 σ9))) ∧ (¬ x2 = 9 → (x2 = 10 → CC 141 [.ref 12, .int x1] σ9 (fun r11 σ11 => Q r11 σ11)) ∧ (¬ x2 = 10 → CC 125 [.ref 12, .int 1] σ9 (fun r10 σ10 => Q r10 σ10))))))))))))) ∧ (r9 = 0 → CC 125 [.ref 12, .int 1] σ9 (fun r12 σ12 => Q r12 σ12))) := cc_140 (n_bn h (fun r9 σ9 h => n_ne h (fun h => cc_125 (n_bn h (fun r12 σ12 h => n_rt h))) (fun h => n_if h (fun h => n_mb h (fun h => n_rt h)) (fun h => n_if h (fun h => n_mb h (fun h => n_rt h)) (fun h => n_if h (fun h => n_mb h (fun h => n_rt h)) (fun h => n_if h (fun h => n_mb h (fun h => n_rt h)) (fun h => n_if h (fun h => n_mb h (fun h => n_rt h)) (fun h => n_if h (fun h => n_mb h (fun h => n_rt h)) (fun h => n_if h (fun h => n_mb h (fun h => n_rt h)) (fun h => n_if h (fun h => n_mb h (fun h => n_rt h)) (fun h => n_if h (fun h => n_mb h (fun h => n_rt h)) (fun h => n_if h (fun h => n_mb h (fun h => n_if h (fun h => n_rt h) (fun h => n_rt h))) (fun h => n_if h (fun h => cc_141 (n_bn h (fun r11 σ11 h => n_rt h))) (fun h => cc_125 (n_bn h (fun r10 σ10 h => n_rt h))))))))))))))))
  exact wpn_Ex (cuts := []) monCC (fun _ _ _ _ z => z) 15 0 _ _ _ v
-- TradeTestsModel.reads
set_option maxHeartbeats 20000000 in
set_option maxRecDepth 100000 in
theorem hl_144_49 {sc : Nat × (Nat → Int32)} {Q : Int32 → St → Prop} : ∀ (n : Nat) (v1 : Int32) (v2 : Int32) (σ : St), Ap (lp_144_49 n v1 v2 σ) Q → Ex sc CC 2 cd_144 Q 49 [some (.ref 12), some (.int v1), some (.int v2), none] [] σ := by
  intro n
  induction n with
  | zero => intro v1 v2 σ h; exact n_no h
  | succ n ih =>
    intro v1 v2 σ h
    have v : ((σ 12 9) ≤ (σ 12 45) → ((1 : Int32) = 0 ∨ (1 : Int32) = 1) ∧ Q 1 σ) ∧ (¬ (σ 12 9) ≤ (σ 12 45) → CC 145 [.ref 12] σ (fun r21 σ21 => (r21 = 98 → (¬ r21 = 102 → (¬ r21 = 98 → CC 147 [.ref 12, .int 2] (up σ21 12 45 ((σ21 12 45) + 1)) (fun r22 σ22 => (0 ≤ r22 → (¬ r21 = 98 → vp_in v1 7 ∧ (vp_in v1 7 ∧ ((¬ r21 = 100 → vp_in v1 7 ∧ (vp_in v1 7 ∧ (Ex sc CC 2 cd_144 Q 49 [some (.ref 12), some (.int v1), some (.int r21), some (.int r22)] [] (up (up σ22 74 (v1).toNatClampNeg (σ22 74 (v1).toNatClampNeg)) 75 (v1).toNatClampNeg (σ22 75 (v1).toNatClampNeg))))) ∧ (r21 = 100 → vp_in v1 7 ∧ (Ex sc CC 2 cd_144 Q 49 [some (.ref 12), some (.int v1), some (.int r21), some (.int r22)] [] (up (up σ22 74 (v1).toNatClampNeg (σ22 74 (v1).toNatClampNeg)) 75 (v1).toNatClampNeg r22)))))) ∧ (r21 = 98 → vp_in v1 7 ∧ ((¬ r21 = 100 → vp_in v1 7 ∧ (vp_in v1 7 ∧ (Ex sc CC 2 cd_144 Q 49 [some (.ref 12), some (.int v1), some (.int r21), some (.int r22)] [] (up (up σ22 74 (v1).toNatClampNeg r22) 75 (v1).toNatClampNeg (σ22 75 (v1).toNatClampNeg))))) ∧ (r21 = 100 → vp_in v1 7 ∧ (Ex sc CC 2 cd_144 Q 49 [some (.ref 12), some (.int v1), some (.int r21), some (.int r22)] [] (up (up σ22 74 (v1).toNatClampNeg r22) 75 (v1).toNatClampNeg r22)))))) ∧ (¬ 0 ≤ r22 → ((0 : Int32) = 0 ∨ (0 : Int32) = 1) ∧ Q 0 σ22))) ∧ (r21 = 98 → CC 147 [.ref 12, .int 3] (up σ21 12 45 ((σ21 12 45) + 1)) (fun r23 σ23 => (0 ≤ r23 → (¬ r21 = 98 → vp_in v1 7 ∧ (vp_in v1 7 ∧ ((¬ r21 = 100 → vp_in v1 7 ∧ (vp_in v1 7 ∧ (Ex sc CC 2 cd_144 Q 49 [some (.ref 12), some (.int v1), some (.int r21), some (.int r23)] [] (up (up σ23 74 (v1).toNatClampNeg (σ23 74 (v1).toNatClampNeg)) 75 (v1).toNatClampNeg (σ23 75 (v1).toNatClampNeg))))) ∧ (r21 = 100 → vp_in v1 7 ∧ (Ex sc CC 2 cd_144 Q 49 [some (.ref 12), some (.int v1), some (.int r21), some (.int r23)] [] (up (up σ23 74 (v1).toNatClampNeg (σ23 74 (v1).toNatClampNeg)) 75 (v1).toNatClampNeg r23)))))) ∧ (r21 = 98 → vp_in v1 7 ∧ ((¬ r21 = 100 → vp_in v1 7 ∧ (vp_in v1 7 ∧ (Ex sc CC 2 cd_144 Q 49 [some (.ref 12), some (.int v1), some (.int r21), some (.int r23)] [] (up (up σ23 74 (v1).toNatClampNeg r23) 75 (v1).toNatClampNeg (σ23 75 (v1).toNatClampNeg))))) ∧ (r21 = 100 → vp_in v1 7 ∧ (Ex sc CC 2 cd_144 Q 49 [some (.ref 12), some (.int v1), some (.int r21), some (.int r23)] [] (up (up σ23 74 (v1).toNatClampNeg r23) 75 (v1).toNatClampNeg r23)))))) ∧ (¬ 0 ≤ r23 → ((0 : Int32) = 0 ∨ (0 : Int32) = 1) ∧ Q 0 σ23)))) ∧ (r21 = 102 → CC 146 [.ref 12, .int v1] (up σ21 12 45 ((σ21 12 45) + 1)) (fun r24 σ24 => (¬ r24 = 0 → Ex sc CC 2 cd_144 Q 49 [some (.ref 12), some (.int v1), some (.int r21), none] [] σ24) ∧ (r24 = 0 → ((0 : Int32) = 0 ∨ (0 : Int32) = 1) ∧ Q 0 σ24)))) ∧ (¬ r21 = 98 → (r21 = 100 → (¬ r21 = 102 → (¬ r21 = 98 → CC 147 [.ref 12, .int 2] (up σ21 12 45 ((σ21 12 45) + 1)) (fun r25 σ25 => (0 ≤ r25 → (¬ r21 = 98 → vp_in v1 7 ∧ (vp_in v1 7 ∧ ((¬ r21 = 100 → vp_in v1 7 ∧ (vp_in v1 7 ∧ (Ex sc CC 2 cd_144 Q 49 [some (.ref 12), some (.int v1), some (.int r21), some (.int r25)] [] (up (up σ25 74 (v1).toNatClampNeg (σ25 74 (v1).toNatClampNeg)) 75 (v1).toNatClampNeg (σ25 75 (v1).toNatClampNeg))))) ∧ (r21 = 100 → vp_in v1 7 ∧ (Ex sc CC 2 cd_144 Q 49 [some (.ref 12), some (.int v1), some (.int r21), some (.int r25)] [] (up (up σ25 74 (v1).toNatClampNeg (σ25 74 (v1).toNatClampNeg)) 75 (v1).toNatClampNeg r25)))))) ∧ (r21 = 98 → vp_in v1 7 ∧ ((¬ r21 = 100 → vp_in v1 7 ∧ (vp_in v1 7 ∧ (Ex sc CC 2 cd_144 Q 49 [some (.ref 12), some (.int v1), some (.int r21), some (.int r25)] [] (up (up σ25 74 (v1).toNatClampNeg r25) 75 (v1).toNatClampNeg (σ25 75 (v1).toNatClampNeg))))) ∧ (r21 = 100 → vp_in v1 7 ∧ (Ex sc CC 2 cd_144 Q 49 [some (.ref 12), some (.int v1), some (.int r21), some (.int r25)] [] (up (up σ25 74 (v1).toNatClampNeg r25) 75 (v1).toNatClampNeg r25)))))) ∧ (¬ 0 ≤ r25 → ((0 : Int32) = 0 ∨ (0 : Int32) = 1) ∧ Q 0 σ25))) ∧ (r21 = 98 → CC 147 [.ref 12, .int 3] (up σ21 12 45 ((σ21 12 45) + 1)) (fun r26 σ26 => (0 ≤ r26 → (¬ r21 = 98 → vp_in v1 7 ∧ (vp_in v1 7 ∧ ((¬ r21 = 100 → vp_in v1 7 ∧ (vp_in v1 7 ∧ (Ex sc CC 2 cd_144 Q 49 [some (.ref 12), some (.int v1), some (.int r21), some (.int r26)] [] (up (up σ26 74 (v1).toNatClampNeg (σ26 74 (v1).toNatClampNeg)) 75 (v1).toNatClampNeg (σ26 75 (v1).toNatClampNeg))))) ∧ (r21 = 100 → vp_in v1 7 ∧ (Ex sc CC 2 cd_144 Q 49 [some (.ref 12), some (.int v1), some (.int r21), some (.int r26)] [] (up (up σ26 74 (v1).toNatClampNeg (σ26 74 (v1).toNatClampNeg)) 75 (v1).toNatClampNeg r26)))))) ∧ (r21 = 98 → vp_in v1 7 ∧ ((¬ r21 = 100 → vp_in v1 7 ∧ (vp_in v1 7 ∧ (Ex sc CC 2 cd_144 Q 49 [some (.ref 12), some (.int v1), some (.int r21), some (.int r26)] [] (up (up σ26 74 (v1).toNatClampNeg r26) 75 (v1).toNatClampNeg (σ26 75 (v1).toNatClampNeg))))) ∧ (r21 = 100 → vp_in v1 7 ∧ (Ex sc CC 2 cd_144 Q 49 [some (.ref 12), some (.int v1), some (.int r21), some (.int r26)] [] (up (up σ26 74 (v1).toNatClampNeg r26) 75 (v1).toNatClampNeg r26)))))) ∧ (¬ 0 ≤ r26 → ((0 : Int32) = 0 ∨ (0 : Int32) = 1) ∧ Q 0 σ26)))) ∧ (r21 = 102 → CC 146 [.ref 12, .int v1] (up σ21 12 45 ((σ21 12 45) + 1)) (fun r27 σ27 => (¬ r27 = 0 → Ex sc CC 2 cd_144 Q 49 [some (.ref 12), some (.int v1), some (.int r21), none] [] σ27) ∧ (r27 = 0 → ((0 : Int32) = 0 ∨ (0 : Int32) = 1) ∧ Q 0 σ27)))) ∧ (¬ r21 = 100 → (r21 = 102 → (¬ r21 = 102 → (¬ r21 = 98 → CC 147 [.ref 12, .int 2] (up σ21 12 45 ((σ21 12 45) + 1)) (fun r28 σ28 => (0 ≤ r28 → (¬ r21 = 98 → vp_in v1 7 ∧ (vp_in v1 7 ∧ ((¬ r21 = 100 → vp_in v1 7 ∧ (vp_in v1 7 ∧ (Ex sc CC 2 cd_144 Q 49 [some (.ref 12), some (.int v1), some (.int r21), some (.int r28)] [] (up (up σ28 74 (v1).toNatClampNeg (σ28 74 (v1).toNatClampNeg)) 75 (v1).toNatClampNeg (σ28 75 (v1).toNatClampNeg))))) ∧ (r21 = 100 → vp_in v1 7 ∧ (Ex sc CC 2 cd_144 Q 49 [some (.ref 12), some (.int v1), some (.int r21), some (.int r28)] [] (up (up σ28 74 (v1).toNatClampNeg (σ28 74 (v1).toNatClampNeg)) 75 (v1).toNatClampNeg r28)))))) ∧ (r21 = 98 → vp_in v1 7 ∧ ((¬ r21 = 100 → vp_in v1 7 ∧ (vp_in v1 7 ∧ (Ex sc CC 2 cd_144 Q 49 [some (.ref 12), some (.int v1), some (.int r21), some (.int r28)] [] (up (up σ28 74 (v1).toNatClampNeg r28) 75 (v1).toNatClampNeg (σ28 75 (v1).toNatClampNeg))))) ∧ (r21 = 100 → vp_in v1 7 ∧ (Ex sc CC 2 cd_144 Q 49 [some (.ref 12), some (.int v1), some (.int r21), some (.int r28)] [] (up (up σ28 74 (v1).toNatClampNeg r28) 75 (v1).toNatClampNeg r28)))))) ∧ (¬ 0 ≤ r28 → ((0 : Int32) = 0 ∨ (0 : Int32) = 1) ∧ Q 0 σ28))) ∧ (r21 = 98 → CC 147 [.ref 12, .int 3] (up σ21 12 45 ((σ21 12 45) + 1)) (fun r29 σ29 => (0 ≤ r29 → (¬ r21 = 98 → vp_in v1 7 ∧ (vp_in v1 7 ∧ ((¬ r21 = 100 → vp_in v1 7 ∧ (vp_in v1 7 ∧ (Ex sc CC 2 cd_144 Q 49 [some (.ref 12), some (.int v1), some (.int r21), some (.int r29)] [] (up (up σ29 74 (v1).toNatClampNeg (σ29 74 (v1).toNatClampNeg)) 75 (v1).toNatClampNeg (σ29 75 (v1).toNatClampNeg))))) ∧ (r21 = 100 → vp_in v1 7 ∧ (Ex sc CC 2 cd_144 Q 49 [some (.ref 12), some (.int v1), some (.int r21), some (.int r29)] [] (up (up σ29 74 (v1).toNatClampNeg (σ29 74 (v1).toNatClampNeg)) 75 (v1).toNatClampNeg r29)))))) ∧ (r21 = 98 → vp_in v1 7 ∧ ((¬ r21 = 100 → vp_in v1 7 ∧ (vp_in v1 7 ∧ (Ex sc CC 2 cd_144 Q 49 [some (.ref 12), some (.int v1), some (.int r21), some (.int r29)] [] (up (up σ29 74 (v1).toNatClampNeg r29) 75 (v1).toNatClampNeg (σ29 75 (v1).toNatClampNeg))))) ∧ (r21 = 100 → vp_in v1 7 ∧ (Ex sc CC 2 cd_144 Q 49 [some (.ref 12), some (.int v1), some (.int r21), some (.int r29)] [] (up (up σ29 74 (v1).toNatClampNeg r29) 75 (v1).toNatClampNeg r29)))))) ∧ (¬ 0 ≤ r29 → ((0 : Int32) = 0 ∨ (0 : Int32) = 1) ∧ Q 0 σ29)))) ∧ (r21 = 102 → CC 146 [.ref 12, .int v1] (up σ21 12 45 ((σ21 12 45) + 1)) (fun r30 σ30 => (¬ r30 = 0 → Ex sc CC 2 cd_144 Q 49 [some (.ref 12), some (.int v1), some (.int r21), none] [] σ30) ∧ (r30 = 0 → ((0 : Int32) = 0 ∨ (0 : Int32) = 1) ∧ Q 0 σ30)))) ∧ (¬ r21 = 102 → ((0 : Int32) = 0 ∨ (0 : Int32) = 1) ∧ Q 0 σ21))))) := n_if h (fun h => n_rb h) (fun h => cc_145 (n_bn h (fun r21 σ21 h => n_if h (fun h => n_ne h (fun h => cc_146 (n_bn h (fun r24 σ24 h => n_ne h (fun h => n_rb h) (fun h => ih v1 r21 σ24 h)))) (fun h => n_ne h (fun h => cc_147 (n_bn h (fun r23 σ23 h => n_if h (fun h => n_ne h (fun h => n_mb h (fun h => n_ne h (fun h => n_mb h (fun h => Ex_fg [true, true, true, false] (ih v1 r21 (up (up σ23 74 (v1).toNatClampNeg r23) 75 (v1).toNatClampNeg r23) h))) (fun h => n_mb h (fun h => n_mb h (fun h => Ex_fg [true, true, true, false] (ih v1 r21 (up (up σ23 74 (v1).toNatClampNeg r23) 75 (v1).toNatClampNeg (σ23 75 (v1).toNatClampNeg)) h)))))) (fun h => n_mb h (fun h => n_mb h (fun h => n_ne h (fun h => n_mb h (fun h => Ex_fg [true, true, true, false] (ih v1 r21 (up (up σ23 74 (v1).toNatClampNeg (σ23 74 (v1).toNatClampNeg)) 75 (v1).toNatClampNeg r23) h))) (fun h => n_mb h (fun h => n_mb h (fun h => Ex_fg [true, true, true, false] (ih v1 r21 (up (up σ23 74 (v1).toNatClampNeg (σ23 74 (v1).toNatClampNeg)) 75 (v1).toNatClampNeg (σ23 75 (v1).toNatClampNeg)) h)))))))) (fun h => n_rb h)))) (fun h => cc_147 (n_bn h (fun r22 σ22 h => n_if h (fun h => n_ne h (fun h => n_mb h (fun h => n_ne h (fun h => n_mb h (fun h => Ex_fg [true, true, true, false] (ih v1 r21 (up (up σ22 74 (v1).toNatClampNeg r22) 75 (v1).toNatClampNeg r22) h))) (fun h => n_mb h (fun h => n_mb h (fun h => Ex_fg [true, true, true, false] (ih v1 r21 (up (up σ22 74 (v1).toNatClampNeg r22) 75 (v1).toNatClampNeg (σ22 75 (v1).toNatClampNeg)) h)))))) (fun h => n_mb h (fun h => n_mb h (fun h => n_ne h (fun h => n_mb h (fun h => Ex_fg [true, true, true, false] (ih v1 r21 (up (up σ22 74 (v1).toNatClampNeg (σ22 74 (v1).toNatClampNeg)) 75 (v1).toNatClampNeg r22) h))) (fun h => n_mb h (fun h => n_mb h (fun h => Ex_fg [true, true, true, false] (ih v1 r21 (up (up σ22 74 (v1).toNatClampNeg (σ22 74 (v1).toNatClampNeg)) 75 (v1).toNatClampNeg (σ22 75 (v1).toNatClampNeg)) h)))))))) (fun h => n_rb h)))))) (fun h => n_if h (fun h => n_ne h (fun h => cc_146 (n_bn h (fun r27 σ27 h => n_ne h (fun h => n_rb h) (fun h => ih v1 r21 σ27 h)))) (fun h => n_ne h (fun h => cc_147 (n_bn h (fun r26 σ26 h => n_if h (fun h => n_ne h (fun h => n_mb h (fun h => n_ne h (fun h => n_mb h (fun h => Ex_fg [true, true, true, false] (ih v1 r21 (up (up σ26 74 (v1).toNatClampNeg r26) 75 (v1).toNatClampNeg r26) h))) (fun h => n_mb h (fun h => n_mb h (fun h => Ex_fg [true, true, true, false] (ih v1 r21 (up (up σ26 74 (v1).toNatClampNeg r26) 75 (v1).toNatClampNeg (σ26 75 (v1).toNatClampNeg)) h)))))) (fun h => n_mb h (fun h => n_mb h (fun h => n_ne h (fun h => n_mb h (fun h => Ex_fg [true, true, true, false] (ih v1 r21 (up (up σ26 74 (v1).toNatClampNeg (σ26 74 (v1).toNatClampNeg)) 75 (v1).toNatClampNeg r26) h))) (fun h => n_mb h (fun h => n_mb h (fun h => Ex_fg [true, true, true, false] (ih v1 r21 (up (up σ26 74 (v1).toNatClampNeg (σ26 74 (v1).toNatClampNeg)) 75 (v1).toNatClampNeg (σ26 75 (v1).toNatClampNeg)) h)))))))) (fun h => n_rb h)))) (fun h => cc_147 (n_bn h (fun r25 σ25 h => n_if h (fun h => n_ne h (fun h => n_mb h (fun h => n_ne h (fun h => n_mb h (fun h => Ex_fg [true, true, true, false] (ih v1 r21 (up (up σ25 74 (v1).toNatClampNeg r25) 75 (v1).toNatClampNeg r25) h))) (fun h => n_mb h (fun h => n_mb h (fun h => Ex_fg [true, true, true, false] (ih v1 r21 (up (up σ25 74 (v1).toNatClampNeg r25) 75 (v1).toNatClampNeg (σ25 75 (v1).toNatClampNeg)) h)))))) (fun h => n_mb h (fun h => n_mb h (fun h => n_ne h (fun h => n_mb h (fun h => Ex_fg [true, true, true, false] (ih v1 r21 (up (up σ25 74 (v1).toNatClampNeg (σ25 74 (v1).toNatClampNeg)) 75 (v1).toNatClampNeg r25) h))) (fun h => n_mb h (fun h => n_mb h (fun h => Ex_fg [true, true, true, false] (ih v1 r21 (up (up σ25 74 (v1).toNatClampNeg (σ25 74 (v1).toNatClampNeg)) 75 (v1).toNatClampNeg (σ25 75 (v1).toNatClampNeg)) h)))))))) (fun h => n_rb h)))))) (fun h => n_if h (fun h => n_ne h (fun h => cc_146 (n_bn h (fun r30 σ30 h => n_ne h (fun h => n_rb h) (fun h => ih v1 r21 σ30 h)))) (fun h => n_ne h (fun h => cc_147 (n_bn h (fun r29 σ29 h => n_if h (fun h => n_ne h (fun h => n_mb h (fun h => n_ne h (fun h => n_mb h (fun h => Ex_fg [true, true, true, false] (ih v1 r21 (up (up σ29 74 (v1).toNatClampNeg r29) 75 (v1).toNatClampNeg r29) h))) (fun h => n_mb h (fun h => n_mb h (fun h => Ex_fg [true, true, true, false] (ih v1 r21 (up (up σ29 74 (v1).toNatClampNeg r29) 75 (v1).toNatClampNeg (σ29 75 (v1).toNatClampNeg)) h)))))) (fun h => n_mb h (fun h => n_mb h (fun h => n_ne h (fun h => n_mb h (fun h => Ex_fg [true, true, true, false] (ih v1 r21 (up (up σ29 74 (v1).toNatClampNeg (σ29 74 (v1).toNatClampNeg)) 75 (v1).toNatClampNeg r29) h))) (fun h => n_mb h (fun h => n_mb h (fun h => Ex_fg [true, true, true, false] (ih v1 r21 (up (up σ29 74 (v1).toNatClampNeg (σ29 74 (v1).toNatClampNeg)) 75 (v1).toNatClampNeg (σ29 75 (v1).toNatClampNeg)) h)))))))) (fun h => n_rb h)))) (fun h => cc_147 (n_bn h (fun r28 σ28 h => n_if h (fun h => n_ne h (fun h => n_mb h (fun h => n_ne h (fun h => n_mb h (fun h => Ex_fg [true, true, true, false] (ih v1 r21 (up (up σ28 74 (v1).toNatClampNeg r28) 75 (v1).toNatClampNeg r28) h))) (fun h => n_mb h (fun h => n_mb h (fun h => Ex_fg [true, true, true, false] (ih v1 r21 (up (up σ28 74 (v1).toNatClampNeg r28) 75 (v1).toNatClampNeg (σ28 75 (v1).toNatClampNeg)) h)))))) (fun h => n_mb h (fun h => n_mb h (fun h => n_ne h (fun h => n_mb h (fun h => Ex_fg [true, true, true, false] (ih v1 r21 (up (up σ28 74 (v1).toNatClampNeg (σ28 74 (v1).toNatClampNeg)) 75 (v1).toNatClampNeg r28) h))) (fun h => n_mb h (fun h => n_mb h (fun h => Ex_fg [true, true, true, false] (ih v1 r21 (up (up σ28 74 (v1).toNatClampNeg (σ28 74 (v1).toNatClampNeg)) 75 (v1).toNatClampNeg (σ28 75 (v1).toNatClampNeg)) h)))))))) (fun h => n_rb h)))))) (fun h => n_rb h))))))
    exact stw_Ex (cuts := [22, 49]) monCC 60 v
set_option maxHeartbeats 20000000 in
set_option maxRecDepth 100000 in
theorem hl_144_22 {sc : Nat × (Nat → Int32)} {Q : Int32 → St → Prop} : ∀ (n : Nat) (v1 : Int32) (v2 : Int32) (σ : St), Ap (lp_144_22 n v1 v2 σ) Q → Ex sc CC 2 cd_144 Q 22 [some (.ref 12), some (.int v1), some (.int v2), none] [] σ := by
  intro n
  induction n with
  | zero => intro v1 v2 σ h; exact n_no h
  | succ n ih =>
    intro v1 v2 σ h
    have v : (4 ≤ v2 → Ex sc CC 2 cd_144 Q 49 [some (.ref 12), some (.int v1), some (.int v2), none] [] (up σ 12 45 0)) ∧ (¬ 4 ≤ v2 → vp_in (((4 : Int32) * v1) + v2) 28 ∧ (Ex sc CC 2 cd_144 Q 22 [some (.ref 12), some (.int v1), some (.int (v2 + 1)), none] [] (up σ 76 (((4 : Int32) * v1) + v2).toNatClampNeg 0))) := n_if h (fun h => hl_144_49 FU v1 v2 (up σ 12 45 0) h) (fun h => n_mb h (fun h => ih v1 (v2 + 1) (up σ 76 (((4 : Int32) * v1) + v2).toNatClampNeg 0) h))
    exact stw_Ex (cuts := [22, 49]) monCC 15 v
set_option maxHeartbeats 20000000 in
set_option maxRecDepth 100000 in
theorem hp_144 {sc : Nat × (Nat → Int32)} {Q : Int32 → St → Prop}  {σ : St} (h : Ap (sp_144  σ) Q) : Ex sc CC 2 cd_144 Q 0 [some (.ref 12), none, none, none] [] σ := by
  have v : vp_in (σ 12 5) 7 ∧ (vp_in (σ 12 5) 7 ∧ (Ex sc CC 2 cd_144 Q 22 [some (.ref 12), some (.int (σ 12 5)), some (.int 0), none] [] (up (up σ 74 (σ 12 5).toNatClampNeg 0) 75 (σ 12 5).toNatClampNeg 100))) := n_mb h (fun h => n_mb h (fun h => hl_144_22 FU (σ 12 5) 0 (up (up σ 74 (σ 12 5).toNatClampNeg 0) 75 (σ 12 5).toNatClampNeg 100) h))
  exact wpn_Ex (cuts := [22, 49]) monCC (fun _ _ _ _ z => z) 17 0 _ _ _ v
-- TradeTestsModel.says
set_option maxHeartbeats 20000000 in
set_option maxRecDepth 100000 in
theorem hp_149 {sc : Nat × (Nat → Int32)} {Q : Int32 → St → Prop} {x1 x2 : Int32} {σ : St} (h : Ap (sp_149 x1 x2 σ) Q) : Ex sc CC 1 cd_149 Q 0 [some (.ref 12), some (.int x1), some (.int x2), none] [] σ := by
  have v : CC 124 [.int x1] σ (fun r19 σ19 => (r19 = 0 → CC 125 [.ref 12, .int 1] σ19 (fun r20 σ20 => Q r20 σ20)) ∧ (¬ r19 = 0 → CC 123 [.int x2, .int 0, .int 1] σ19 (fun r21 σ21 => (¬ r21 = 0 → CC 150 [.ref 12, .int x1] σ21 (fun r22 σ22 => (0 ≤ r22 → (¬ x2 = 0 → (¬ x2 = 1 → vp_in ((((4 : Int32) * r22) + x2) - 10) 28 ∧ (Q (σ22 76 ((((4 : Int32) * r22) + x2) - 10).toNatClampNeg) σ22)) ∧ (x2 = 1 → vp_in r22 7 ∧ (Q (σ22 75 (r22).toNatClampNeg) σ22))) ∧ (x2 = 0 → vp_in r22 7 ∧ (Q (σ22 74 (r22).toNatClampNeg) σ22))) ∧ (¬ 0 ≤ r22 → CC 125 [.ref 12, .int 2] σ22 (fun r23 σ23 => Q r23 σ23)))) ∧ (r21 = 0 → CC 123 [.int x2, .int 10, .int 13] σ21 (fun r24 σ24 => (¬ r24 = 0 → CC 150 [.ref 12, .int x1] σ24 (fun r25 σ25 => (0 ≤ r25 → (¬ x2 = 0 → (¬ x2 = 1 → vp_in ((((4 : Int32) * r25) + x2) - 10) 28 ∧ (Q (σ25 76 ((((4 : Int32) * r25) + x2) - 10).toNatClampNeg) σ25)) ∧ (x2 = 1 → vp_in r25 7 ∧ (Q (σ25 75 (r25).toNatClampNeg) σ25))) ∧ (x2 = 0 → vp_in r25 7 ∧ (Q (σ25 74 (r25).toNatClampNeg) σ25))) ∧ (¬ 0 ≤ r25 → CC 125 [.ref 12, .int 2] σ25 (fun r26 σ26 => Q r26 σ26)))) ∧ (r24 = 0 → CC 125 [.ref 12, .int 1] σ24 (fun r27 σ27 => Q r27 σ27))))))) := cc_124 (n_bn h (fun r19 σ19 h => n_if h (fun h => cc_125 (n_bn h (fun r20 σ20 h => n_rt h))) (fun h => cc_123 (n_bn h (fun r21 σ21 h => n_ne h (fun h => cc_123 (n_bn h (fun r24 σ24 h => n_ne h (fun h => cc_125 (n_bn h (fun r27 σ27 h => n_rt h))) (fun h => cc_150 (n_bn h (fun r25 σ25 h => n_if h (fun h => n_ne h (fun h => n_mb h (fun h => n_rt h)) (fun h => n_ne h (fun h => n_mb h (fun h => n_rt h)) (fun h => n_mb h (fun h => n_rt h)))) (fun h => cc_125 (n_bn h (fun r26 σ26 h => n_rt h))))))))) (fun h => cc_150 (n_bn h (fun r22 σ22 h => n_if h (fun h => n_ne h (fun h => n_mb h (fun h => n_rt h)) (fun h => n_ne h (fun h => n_mb h (fun h => n_rt h)) (fun h => n_mb h (fun h => n_rt h)))) (fun h => cc_125 (n_bn h (fun r23 σ23 h => n_rt h)))))))))))
  exact wpn_Ex (cuts := []) monCC (fun _ _ _ _ z => z) 36 0 _ _ _ v
-- TradeTestsModel.verdict
set_option maxHeartbeats 20000000 in
set_option maxRecDepth 100000 in
theorem hp_151 {sc : Nat × (Nat → Int32)} {Q : Int32 → St → Prop} {x1 : Int32} {σ : St} (h : Ap (sp_151 x1 σ) Q) : Ex sc CC 1 cd_151 Q 0 [some (.ref 12), some (.int x1)] [] σ := by
  have v : CC 140 [.ref 12, .int x1] σ (fun r7 σ7 => (¬ r7 = 0 → CC 152 [.ref 12, .int x1] σ7 (fun r8 σ8 => (r8 = 0 → Q 0 σ8) ∧ (¬ r8 = 0 → Q 1 σ8))) ∧ (r7 = 0 → CC 125 [.ref 12, .int 1] σ7 (fun r9 σ9 => Q r9 σ9))) := cc_140 (n_bn h (fun r7 σ7 h => n_ne h (fun h => cc_125 (n_bn h (fun r9 σ9 h => n_rt h))) (fun h => cc_152 (n_bn h (fun r8 σ8 h => n_if h (fun h => n_rt h) (fun h => n_rt h))))))
  exact wpn_Ex (cuts := []) monCC (fun _ _ _ _ z => z) 12 0 _ _ _ v
-- TradeTestsModel.unlikeOf
set_option maxHeartbeats 20000000 in
set_option maxRecDepth 100000 in
theorem hp_154 {sc : Nat × (Nat → Int32)} {Q : Int32 → St → Prop} {x1 : Int32} {σ : St} (h : Ap (sp_154 x1 σ) Q) : Ex sc CC 1 cd_154 Q 0 [some (.ref 12), some (.int x1)] [] σ := by
  have v : vp_in x1 80 ∧ (CC 152 [.ref 12, .int x1] σ (fun r3 σ3 => (¬ (σ 70 (x1).toNatClampNeg) = r3 → vp_in x1 80 ∧ (((σ3 70 (x1).toNatClampNeg) = 0 → Q 2 σ3) ∧ (¬ (σ3 70 (x1).toNatClampNeg) = 0 → Q 1 σ3))) ∧ ((σ 70 (x1).toNatClampNeg) = r3 → Q 0 σ3))) := n_mb h (fun h => cc_152 (n_bn h (fun r3 σ3 h => n_ne h (fun h => n_rt h) (fun h => n_mb h (fun h => n_if h (fun h => n_rt h) (fun h => n_rt h))))))
  exact wpn_Ex (cuts := []) monCC (fun _ _ _ _ z => z) 17 0 _ _ _ v
-- TradeTestsModel.share
set_option maxHeartbeats 20000000 in
set_option maxRecDepth 100000 in
theorem hp_155 {sc : Nat × (Nat → Int32)} {Q : Int32 → St → Prop} {x1 x2 : Int32} {σ : St} (h : Ap (sp_155 x1 x2 σ) Q) : Ex sc CC 1 cd_155 Q 0 [some (.ref 12), some (.int x1), some (.int x2), none] [] σ := by
  have v : CC 123 [.int x1, .int 0, .int 3] σ (fun r13 σ13 => (r13 = 0 → CC 125 [.ref 12, .int 1] σ13 (fun r14 σ14 => Q r14 σ14)) ∧ (¬ r13 = 0 → CC 123 [.int x2, .int 0, .int 3] σ13 (fun r15 σ15 => (¬ r15 = 0 → CC 156 [.ref 12, .int (((4 : Int32) * x1) + x2)] σ15 (fun r16 σ16 => (0 ≤ r16 → Q r16 σ16) ∧ (¬ 0 ≤ r16 → CC 125 [.ref 12, .int 2] σ16 (fun r17 σ17 => Q r17 σ17)))) ∧ (r15 = 0 → CC 125 [.ref 12, .int 1] σ15 (fun r18 σ18 => Q r18 σ18))))) := cc_123 (n_bn h (fun r13 σ13 h => n_if h (fun h => cc_125 (n_bn h (fun r14 σ14 h => n_rt h))) (fun h => cc_123 (n_bn h (fun r15 σ15 h => n_ne h (fun h => cc_125 (n_bn h (fun r18 σ18 h => n_rt h))) (fun h => cc_156 (n_bn h (fun r16 σ16 h => n_if h (fun h => n_rt h) (fun h => cc_125 (n_bn h (fun r17 σ17 h => n_rt h)))))))))))
  exact wpn_Ex (cuts := []) monCC (fun _ _ _ _ z => z) 26 0 _ _ _ v
-- TradeTestsModel.looked
set_option maxHeartbeats 20000000 in
set_option maxRecDepth 100000 in
theorem hl_159_4 {sc : Nat × (Nat → Int32)} {Q : Int32 → St → Prop} : ∀ (n : Nat) (v1 : Int32) (v2 : Int32) (σ : St), Ap (lp_159_4 n v1 v2 σ) Q → Ex sc CC 1 cd_159 Q 4 [some (.ref 12), some (.int v1), some (.int v2)] [] σ := by
  intro n
  induction n with
  | zero => intro v1 v2 σ h; exact n_no h
  | succ n ih =>
    intro v1 v2 σ h
    have v : ((σ 12 4) ≤ v2 → CC 160 [.int v1] σ (fun r5 σ5 => Q r5 σ5)) ∧ (¬ (σ 12 4) ≤ v2 → CC 141 [.ref 12, .int v2] σ (fun r6 σ6 => Ex sc CC 1 cd_159 Q 4 [some (.ref 12), some (.int (v1 ||| ((1 : Int32) <<< (r6 &&& 31)))), some (.int (v2 + 1))] [] σ6)) := n_if h (fun h => cc_160 (n_bn h (fun r5 σ5 h => n_rt h))) (fun h => cc_141 (n_bn h (fun r6 σ6 h => ih (v1 ||| ((1 : Int32) <<< (r6 &&& 31))) (v2 + 1) σ6 h)))
    exact stw_Ex (cuts := [4]) monCC 15 v
set_option maxHeartbeats 20000000 in
set_option maxRecDepth 100000 in
theorem hp_159 {sc : Nat × (Nat → Int32)} {Q : Int32 → St → Prop}  {σ : St} (h : Ap (sp_159  σ) Q) : Ex sc CC 1 cd_159 Q 0 [some (.ref 12), none, none] [] σ := by
  have v : Ex sc CC 1 cd_159 Q 4 [some (.ref 12), some (.int 0), some (.int 0)] [] σ := hl_159_4 FU 0 0 σ h
  exact wpn_Ex (cuts := [4]) monCC (fun _ _ _ _ z => z) 6 0 _ _ _ v
-- TradeTestsModel.alikeOf
set_option maxHeartbeats 20000000 in
set_option maxRecDepth 100000 in
theorem hl_163_4 {sc : Nat × (Nat → Int32)} {Q : Int32 → St → Prop} : ∀ (n : Nat) (v1 : Int32) (v2 : Int32) (v3 : Int32) (σ : St), Ap (lp_163_4 n v1 v2 v3 σ) Q → Ex sc CC 1 cd_163 Q 4 [some (.ref 12), some (.int v1), some (.int v2), some (.int v3)] [] σ := by
  intro n
  induction n with
  | zero => intro v1 v2 v3 σ h; exact n_no h
  | succ n ih =>
    intro v1 v2 v3 σ h
    have v : ((σ 12 4) ≤ v3 → Q v2 σ) ∧ (¬ (σ 12 4) ≤ v3 → vp_in v3 80 ∧ (vp_in v1 80 ∧ ((¬ (σ 60 (v3).toNatClampNeg) = (σ 60 (v1).toNatClampNeg) → Ex sc CC 1 cd_163 Q 4 [some (.ref 12), some (.int v1), some (.int (v2 + 0)), some (.int (v3 + 1))] [] σ) ∧ ((σ 60 (v3).toNatClampNeg) = (σ 60 (v1).toNatClampNeg) → vp_in v3 80 ∧ (vp_in v1 80 ∧ (((σ 59 (v3).toNatClampNeg) = (σ 59 (v1).toNatClampNeg) → Ex sc CC 1 cd_163 Q 4 [some (.ref 12), some (.int v1), some (.int (v2 + 0)), some (.int (v3 + 1))] [] σ) ∧ (¬ (σ 59 (v3).toNatClampNeg) = (σ 59 (v1).toNatClampNeg) → vp_in v1 80 ∧ (vp_in v3 80 ∧ (CC 164 [.int (σ 61 (v1).toNatClampNeg), .int (σ 61 (v3).toNatClampNeg), .int 30] σ (fun r7 σ7 => (r7 = 0 → Ex sc CC 1 cd_163 Q 4 [some (.ref 12), some (.int v1), some (.int (v2 + 0)), some (.int (v3 + 1))] [] σ7) ∧ (¬ r7 = 0 → vp_in v1 80 ∧ (vp_in v3 80 ∧ (CC 164 [.int (σ7 65 (v1).toNatClampNeg), .int (σ7 65 (v3).toNatClampNeg), .int 1] σ7 (fun r8 σ8 => (r8 = 0 → Ex sc CC 1 cd_163 Q 4 [some (.ref 12), some (.int v1), some (.int (v2 + 0)), some (.int (v3 + 1))] [] σ8) ∧ (¬ r8 = 0 → vp_in v1 80 ∧ (vp_in v3 80 ∧ (CC 164 [.int (σ8 66 (v1).toNatClampNeg), .int (σ8 66 (v3).toNatClampNeg), .int 1] σ8 (fun r9 σ9 => (r9 = 0 → Ex sc CC 1 cd_163 Q 4 [some (.ref 12), some (.int v1), some (.int (v2 + 0)), some (.int (v3 + 1))] [] σ9) ∧ (¬ r9 = 0 → Ex sc CC 1 cd_163 Q 4 [some (.ref 12), some (.int v1), some (.int (v2 + 1)), some (.int (v3 + 1))] [] σ9))))))))))))))))))) := n_if h (fun h => n_rt h) (fun h => n_mb h (fun h => n_mb h (fun h => n_ne h (fun h => n_mb h (fun h => n_mb h (fun h => n_if h (fun h => ih v1 (v2 + 0) (v3 + 1) σ h) (fun h => n_mb h (fun h => n_mb h (fun h => cc_164 (n_bn h (fun r7 σ7 h => n_if h (fun h => ih v1 (v2 + 0) (v3 + 1) σ7 h) (fun h => n_mb h (fun h => n_mb h (fun h => cc_164 (n_bn h (fun r8 σ8 h => n_if h (fun h => ih v1 (v2 + 0) (v3 + 1) σ8 h) (fun h => n_mb h (fun h => n_mb h (fun h => cc_164 (n_bn h (fun r9 σ9 h => n_if h (fun h => ih v1 (v2 + 0) (v3 + 1) σ9 h) (fun h => ih v1 (v2 + 1) (v3 + 1) σ9 h))))))))))))))))))) (fun h => ih v1 (v2 + 0) (v3 + 1) σ h))))
    exact stw_Ex (cuts := [4]) monCC 63 v
set_option maxHeartbeats 20000000 in
set_option maxRecDepth 100000 in
theorem hp_163 {sc : Nat × (Nat → Int32)} {Q : Int32 → St → Prop} {x1 : Int32} {σ : St} (h : Ap (sp_163 x1 σ) Q) : Ex sc CC 1 cd_163 Q 0 [some (.ref 12), some (.int x1), none, none] [] σ := by
  have v : Ex sc CC 1 cd_163 Q 4 [some (.ref 12), some (.int x1), some (.int 0), some (.int 0)] [] σ := hl_163_4 FU x1 0 0 σ h
  exact wpn_Ex (cuts := [4]) monCC (fun _ _ _ _ z => z) 6 0 _ _ _ v
-- TradeTestsModel.isShut
set_option maxHeartbeats 20000000 in
set_option maxRecDepth 100000 in
theorem hp_167 {sc : Nat × (Nat → Int32)} {Q : Int32 → St → Prop} {x1 : Int32} {σ : St} (h : Ap (sp_167 x1 σ) Q) : Ex sc CC 2 cd_167 Q 0 [some (.ref 12), some (.int x1), none] [] σ := by
  have v : CC 141 [.ref 12, .int x1] σ (fun r3 σ3 => vp_in x1 80 ∧ (vp_in r3 6 ∧ (((σ3 62 (x1).toNatClampNeg) < (σ3 53 (r3).toNatClampNeg) → ((1 : Int32) = 0 ∨ (1 : Int32) = 1) ∧ Q 1 σ3) ∧ (¬ (σ3 62 (x1).toNatClampNeg) < (σ3 53 (r3).toNatClampNeg) → vp_in x1 80 ∧ (vp_in x1 80 ∧ (vp_in r3 6 ∧ ((((σ3 62 (x1).toNatClampNeg) + (σ3 63 (x1).toNatClampNeg)) ≤ (σ3 54 (r3).toNatClampNeg) → ((0 : Int32) = 0 ∨ (0 : Int32) = 1) ∧ Q 0 σ3) ∧ (¬ ((σ3 62 (x1).toNatClampNeg) + (σ3 63 (x1).toNatClampNeg)) ≤ (σ3 54 (r3).toNatClampNeg) → ((1 : Int32) = 0 ∨ (1 : Int32) = 1) ∧ Q 1 σ3)))))))) := cc_141 (n_bn h (fun r3 σ3 h => n_mb h (fun h => n_mb h (fun h => n_if h (fun h => n_rb h) (fun h => n_mb h (fun h => n_mb h (fun h => n_mb h (fun h => n_if h (fun h => n_rb h) (fun h => n_rb h)))))))))
  exact wpn_Ex (cuts := []) monCC (fun _ _ _ _ z => z) 31 0 _ _ _ v
-- TradeTestsModel.falls
set_option maxHeartbeats 20000000 in
set_option maxRecDepth 100000 in
theorem hl_170_105 {sc : Nat × (Nat → Int32)} {Q : Int32 → St → Prop} : ∀ (n : Nat) (v1 : Int32) (v2 : Int32) (v3 : Int32) (v4 : Int32) (σ : St), Ap (lp_170_105 n v1 v2 v3 v4 σ) Q → Ex sc CC 1 cd_170 Q 105 [some (.ref 12), some (.int v1), some (.int v2), some (.int v3), some (.int v4)] [] σ := by
  intro n
  induction n with
  | zero => intro v1 v2 v3 v4 σ h; exact n_no h
  | succ n ih =>
    intro v1 v2 v3 v4 σ h
    have v : (v4 ≤ v1 → vp_in v1 80 ∧ (vp_in v2 80 ∧ (((σ 12 4) ≤ v3 → CC 171 [.int (σ 64 (v1).toNatClampNeg), .int (σ 64 (v2).toNatClampNeg), .int 999999] σ (fun r11 σ11 => (r11 = 0 → Q 2 σ11) ∧ (¬ r11 = 0 → Q 1 σ11))) ∧ (¬ (σ 12 4) ≤ v3 → vp_in v3 80 ∧ (CC 171 [.int (σ 64 (v1).toNatClampNeg), .int (σ 64 (v2).toNatClampNeg), .int (σ 64 (v3).toNatClampNeg)] σ (fun r12 σ12 => (r12 = 0 → Q 2 σ12) ∧ (¬ r12 = 0 → Q 1 σ12))))))) ∧ (¬ v4 ≤ v1 → vp_in v4 80 ∧ (vp_in v1 80 ∧ ((¬ (σ 59 (v4).toNatClampNeg) = (σ 59 (v1).toNatClampNeg) → Ex sc CC 1 cd_170 Q 105 [some (.ref 12), some (.int v1), some (.int v2), some (.int v3), some (.int (v4 + (-1)))] [] σ) ∧ ((σ 59 (v4).toNatClampNeg) = (σ 59 (v1).toNatClampNeg) → Ex sc CC 1 cd_170 Q 105 [some (.ref 12), some (.int v1), some (.int v2), some (.int v4), some (.int (v4 + (-1)))] [] σ)))) := n_if h (fun h => n_mb h (fun h => n_mb h (fun h => n_if h (fun h => cc_171 (n_bn h (fun r11 σ11 h => n_if h (fun h => n_rt h) (fun h => n_rt h)))) (fun h => n_mb h (fun h => cc_171 (n_bn h (fun r12 σ12 h => n_if h (fun h => n_rt h) (fun h => n_rt h)))))))) (fun h => n_mb h (fun h => n_mb h (fun h => n_ne h (fun h => ih v1 v2 v4 (v4 + (-1)) σ h) (fun h => ih v1 v2 v3 (v4 + (-1)) σ h))))
    exact stw_Ex (cuts := [39, 105]) monCC 25 v
set_option maxHeartbeats 20000000 in
set_option maxRecDepth 100000 in
theorem hl_170_39 {sc : Nat × (Nat → Int32)} {Q : Int32 → St → Prop} : ∀ (n : Nat) (v1 : Int32) (v2 : Int32) (v3 : Int32) (σ : St), Ap (lp_170_39 n v1 v2 v3 σ) Q → Ex sc CC 1 cd_170 Q 39 [some (.ref 12), some (.int v1), some (.int v2), some (.int v3), none] [] σ := by
  intro n
  induction n with
  | zero => intro v1 v2 v3 σ h; exact n_no h
  | succ n ih =>
    intro v1 v2 v3 σ h
    have v : (v1 ≤ v3 → (v2 < 0 → Q 0 σ) ∧ (¬ v2 < 0 → vp_in v1 80 ∧ (vp_in v2 80 ∧ (((σ 64 (v1).toNatClampNeg) < (σ 64 (v2).toNatClampNeg) → Ex sc CC 1 cd_170 Q 105 [some (.ref 12), some (.int v1), some (.int v2), some (.int (σ 12 4)), some (.int ((σ 12 4) - 1))] [] σ) ∧ (¬ (σ 64 (v1).toNatClampNeg) < (σ 64 (v2).toNatClampNeg) → Q 0 σ))))) ∧ (¬ v1 ≤ v3 → vp_in v3 80 ∧ (vp_in v1 80 ∧ ((¬ (σ 59 (v3).toNatClampNeg) = (σ 59 (v1).toNatClampNeg) → Ex sc CC 1 cd_170 Q 39 [some (.ref 12), some (.int v1), some (.int v2), some (.int (v3 + 1)), none] [] σ) ∧ ((σ 59 (v3).toNatClampNeg) = (σ 59 (v1).toNatClampNeg) → Ex sc CC 1 cd_170 Q 39 [some (.ref 12), some (.int v1), some (.int v3), some (.int (v3 + 1)), none] [] σ)))) := n_if h (fun h => n_if h (fun h => n_rt h) (fun h => n_mb h (fun h => n_mb h (fun h => n_if h (fun h => hl_170_105 FU v1 v2 (σ 12 4) ((σ 12 4) - 1) σ h) (fun h => n_rt h))))) (fun h => n_mb h (fun h => n_mb h (fun h => n_ne h (fun h => ih v1 v3 (v3 + 1) σ h) (fun h => ih v1 v2 (v3 + 1) σ h))))
    exact stw_Ex (cuts := [39, 105]) monCC 23 v
set_option maxHeartbeats 20000000 in
set_option maxRecDepth 100000 in
theorem hp_170 {sc : Nat × (Nat → Int32)} {Q : Int32 → St → Prop} {x1 : Int32} {σ : St} (h : Ap (sp_170 x1 σ) Q) : Ex sc CC 1 cd_170 Q 0 [some (.ref 12), some (.int x1), none, none, none] [] σ := by
  have v : CC 140 [.ref 12, .int x1] σ (fun r13 σ13 => (¬ r13 = 0 → vp_in x1 80 ∧ (vp_in (σ13 59 (x1).toNatClampNeg) 24 ∧ ((¬ (σ13 50 (σ13 59 (x1).toNatClampNeg).toNatClampNeg) = 3 → Ex sc CC 1 cd_170 Q 39 [some (.ref 12), some (.int x1), some (.int (-1)), some (.int 0), none] [] σ13) ∧ ((σ13 50 (σ13 59 (x1).toNatClampNeg).toNatClampNeg) = 3 → CC 125 [.ref 12, .int 5] σ13 (fun r14 σ14 => Q r14 σ14))))) ∧ (r13 = 0 → CC 125 [.ref 12, .int 1] σ13 (fun r15 σ15 => Q r15 σ15))) := cc_140 (n_bn h (fun r13 σ13 h => n_ne h (fun h => cc_125 (n_bn h (fun r15 σ15 h => n_rt h))) (fun h => n_mb h (fun h => n_mb h (fun h => n_ne h (fun h => cc_125 (n_bn h (fun r14 σ14 h => n_rt h))) (fun h => hl_170_39 FU x1 (-1) 0 σ13 h))))))
  exact wpn_Ex (cuts := [39, 105]) monCC (fun _ _ _ _ z => z) 19 0 _ _ _ v
-- TradeTestsModel.appeal
set_option maxHeartbeats 20000000 in
set_option maxRecDepth 100000 in
theorem hp_173 {sc : Nat × (Nat → Int32)} {Q : Int32 → St → Prop} {x1 x2 : Int32} {σ : St} (h : Ap (sp_173 x1 x2 σ) Q) : Ex sc CC 1 cd_173 Q 0 [some (.ref 12), some (.int x1), some (.int x2), none] [] σ := by
  have v : CC 140 [.ref 12, .int x1] σ (fun r9 σ9 => (r9 = 0 → CC 125 [.ref 12, .int 1] σ9 (fun r10 σ10 => Q r10 σ10)) ∧ (¬ r9 = 0 → CC 123 [.int x2, .int 0, .int 1] σ9 (fun r11 σ11 => (¬ r11 = 0 → vp_in x1 80 ∧ (((σ11 71 (x1).toNatClampNeg) = 0 → (¬ x2 = 1 → vp_in x1 80 ∧ (((0 : Int32) = 0 ∨ (0 : Int32) = 1) ∧ (Q 0 (up σ11 71 (x1).toNatClampNeg 0)))) ∧ (x2 = 1 → vp_in x1 80 ∧ (((1 : Int32) = 0 ∨ (1 : Int32) = 1) ∧ (Q 0 (up σ11 71 (x1).toNatClampNeg 1))))) ∧ (¬ (σ11 71 (x1).toNatClampNeg) = 0 → (¬ x2 = 1 → vp_in x1 80 ∧ (((0 : Int32) = 0 ∨ (0 : Int32) = 1) ∧ (Q 1 (up σ11 71 (x1).toNatClampNeg 0)))) ∧ (x2 = 1 → vp_in x1 80 ∧ (((1 : Int32) = 0 ∨ (1 : Int32) = 1) ∧ (Q 1 (up σ11 71 (x1).toNatClampNeg 1))))))) ∧ (r11 = 0 → CC 125 [.ref 12, .int 1] σ11 (fun r12 σ12 => Q r12 σ12))))) := cc_140 (n_bn h (fun r9 σ9 h => n_if h (fun h => cc_125 (n_bn h (fun r10 σ10 h => n_rt h))) (fun h => cc_123 (n_bn h (fun r11 σ11 h => n_ne h (fun h => cc_125 (n_bn h (fun r12 σ12 h => n_rt h))) (fun h => n_mb h (fun h => n_if h (fun h => n_ne h (fun h => n_mb h (fun h => n_mb h (fun h => n_rt h))) (fun h => n_mb h (fun h => n_mb h (fun h => n_rt h)))) (fun h => n_ne h (fun h => n_mb h (fun h => n_mb h (fun h => n_rt h))) (fun h => n_mb h (fun h => n_mb h (fun h => n_rt h)))))))))))
  exact wpn_Ex (cuts := []) monCC (fun _ _ _ _ z => z) 29 0 _ _ _ v
-- TradeTestsModel.visit
set_option maxHeartbeats 20000000 in
set_option maxRecDepth 100000 in
theorem hp_182 {sc : Nat × (Nat → Int32)} {Q : Int32 → St → Prop} {x1 x2 : Int32} {σ : St} (h : Ap (sp_182 x1 x2 σ) Q) : Ex sc CC 1 cd_182 Q 0 [some (.ref 12), some (.int x1), some (.int x2)] [] σ := by
  have v : CC 123 [.int x1, .int 0, .int ((σ 12 6) - 1)] σ (fun r13 σ13 => (r13 = 0 → CC 125 [.ref 12, .int 1] σ13 (fun r14 σ14 => Q r14 σ14)) ∧ (¬ r13 = 0 → CC 140 [.ref 12, .int x2] σ13 (fun r15 σ15 => (¬ r15 = 0 → vp_in x2 80 ∧ (((σ15 68 (x2).toNatClampNeg) < 0 → vp_in x2 80 ∧ (CC 176 [.ref 12, .int x2] (up (up σ15 68 (x2).toNatClampNeg x1) 12 7 ((σ15 12 7) + 1)) (fun r16 σ16 => Q r16 σ16))) ∧ (¬ (σ15 68 (x2).toNatClampNeg) < 0 → CC 125 [.ref 12, .int 3] σ15 (fun r17 σ17 => Q r17 σ17)))) ∧ (r15 = 0 → CC 125 [.ref 12, .int 1] σ15 (fun r18 σ18 => Q r18 σ18))))) := cc_123 (n_bn h (fun r13 σ13 h => n_if h (fun h => cc_125 (n_bn h (fun r14 σ14 h => n_rt h))) (fun h => cc_140 (n_bn h (fun r15 σ15 h => n_ne h (fun h => cc_125 (n_bn h (fun r18 σ18 h => n_rt h))) (fun h => n_mb h (fun h => n_if h (fun h => n_mb h (fun h => cc_176 (n_bn h (fun r16 σ16 h => n_rt h)))) (fun h => cc_125 (n_bn h (fun r17 σ17 h => n_rt h))))))))))
  exact wpn_Ex (cuts := []) monCC (fun _ _ _ _ z => z) 33 0 _ _ _ v
-- TradeTestsModel.draw
set_option maxHeartbeats 20000000 in
set_option maxRecDepth 100000 in
theorem hp_187 {sc : Nat × (Nat → Int32)} {Q : Int32 → St → Prop} {x1 x2 x3 : Int32} {σ : St} (h : Ap (sp_187 x1 x2 x3 σ) Q) : Ex sc CC 1 cd_187 Q 0 [some (.ref 12), some (.int x1), some (.int x2), some (.int x3)] [] σ := by
  have v : CC 140 [.ref 12, .int x1] σ (fun r15 σ15 => (r15 = 0 → CC 125 [.ref 12, .int 1] σ15 (fun r16 σ16 => Q r16 σ16)) ∧ (¬ r15 = 0 → CC 123 [.int x2, .int 1, .int 100] σ15 (fun r17 σ17 => (r17 = 0 → CC 125 [.ref 12, .int 1] σ17 (fun r18 σ18 => Q r18 σ18)) ∧ (¬ r17 = 0 → CC 123 [.int x3, .int 0, .int 1] σ17 (fun r19 σ19 => (¬ r19 = 0 → vp_in x1 80 ∧ (((σ19 69 (x1).toNatClampNeg) ≤ 0 → vp_in x1 80 ∧ ((¬ x3 = 1 → vp_in x1 80 ∧ (((0 : Int32) = 0 ∨ (0 : Int32) = 1) ∧ (Q ((σ19 12 8) + 1) (up (up (up σ19 69 (x1).toNatClampNeg x2) 72 (x1).toNatClampNeg 0) 12 8 ((σ19 12 8) + 1))))) ∧ (x3 = 1 → vp_in x1 80 ∧ (((1 : Int32) = 0 ∨ (1 : Int32) = 1) ∧ (Q ((σ19 12 8) + 1) (up (up (up σ19 69 (x1).toNatClampNeg x2) 72 (x1).toNatClampNeg 1) 12 8 ((σ19 12 8) + 1))))))) ∧ (¬ (σ19 69 (x1).toNatClampNeg) ≤ 0 → CC 125 [.ref 12, .int 3] σ19 (fun r20 σ20 => Q r20 σ20)))) ∧ (r19 = 0 → CC 125 [.ref 12, .int 1] σ19 (fun r21 σ21 => Q r21 σ21))))))) := cc_140 (n_bn h (fun r15 σ15 h => n_if h (fun h => cc_125 (n_bn h (fun r16 σ16 h => n_rt h))) (fun h => cc_123 (n_bn h (fun r17 σ17 h => n_if h (fun h => cc_125 (n_bn h (fun r18 σ18 h => n_rt h))) (fun h => cc_123 (n_bn h (fun r19 σ19 h => n_ne h (fun h => cc_125 (n_bn h (fun r21 σ21 h => n_rt h))) (fun h => n_mb h (fun h => n_if h (fun h => n_mb h (fun h => n_ne h (fun h => n_mb h (fun h => n_mb h (fun h => n_rt h))) (fun h => n_mb h (fun h => n_mb h (fun h => n_rt h))))) (fun h => cc_125 (n_bn h (fun r20 σ20 h => n_rt h)))))))))))))
  exact wpn_Ex (cuts := []) monCC (fun _ _ _ _ z => z) 43 0 _ _ _ v
-- TradeTests$Texts.readRow
set_option maxHeartbeats 20000000 in
set_option maxRecDepth 100000 in
theorem hp_32 {sc : Nat × (Nat → Int32)} {Q : Int32 → St → Prop}  {σ : St} (h : Ap (sp_32  σ) Q) : Ex sc CC 2 cd_32 Q 0 [some (.ref 4), none, none] [] σ := by
  have v : CC 33 [.ref 4] σ (fun r21 σ21 => (r21 = 98 → (¬ r21 = 102 → (¬ r21 = 98 → CC 38 [.ref 4, .int 2] (up σ21 4 2 ((σ21 4 2) + 1)) (fun r22 σ22 => (0 ≤ r22 → (¬ r21 = 98 → vp_in (σ22 4 7) 6 ∧ (((1 : Int32) = 0 ∨ (1 : Int32) = 1) ∧ Q 1 (up σ22 41 (σ22 4 7).toNatClampNeg r22))) ∧ (r21 = 98 → vp_in (σ22 4 7) 6 ∧ (((1 : Int32) = 0 ∨ (1 : Int32) = 1) ∧ Q 1 (up σ22 40 (σ22 4 7).toNatClampNeg r22)))) ∧ (¬ 0 ≤ r22 → ((0 : Int32) = 0 ∨ (0 : Int32) = 1) ∧ Q 0 σ22))) ∧ (r21 = 98 → CC 38 [.ref 4, .int 3] (up σ21 4 2 ((σ21 4 2) + 1)) (fun r23 σ23 => (0 ≤ r23 → (¬ r21 = 98 → vp_in (σ23 4 7) 6 ∧ (((1 : Int32) = 0 ∨ (1 : Int32) = 1) ∧ Q 1 (up σ23 41 (σ23 4 7).toNatClampNeg r23))) ∧ (r21 = 98 → vp_in (σ23 4 7) 6 ∧ (((1 : Int32) = 0 ∨ (1 : Int32) = 1) ∧ Q 1 (up σ23 40 (σ23 4 7).toNatClampNeg r23)))) ∧ (¬ 0 ≤ r23 → ((0 : Int32) = 0 ∨ (0 : Int32) = 1) ∧ Q 0 σ23)))) ∧ (r21 = 102 → CC 34 [.ref 4] (up σ21 4 2 ((σ21 4 2) + 1)) (fun r24 σ24 => (r24 = 0 ∨ r24 = 1) ∧ Q r24 σ24))) ∧ (¬ r21 = 98 → (r21 = 100 → (¬ r21 = 102 → (¬ r21 = 98 → CC 38 [.ref 4, .int 2] (up σ21 4 2 ((σ21 4 2) + 1)) (fun r25 σ25 => (0 ≤ r25 → (¬ r21 = 98 → vp_in (σ25 4 7) 6 ∧ (((1 : Int32) = 0 ∨ (1 : Int32) = 1) ∧ Q 1 (up σ25 41 (σ25 4 7).toNatClampNeg r25))) ∧ (r21 = 98 → vp_in (σ25 4 7) 6 ∧ (((1 : Int32) = 0 ∨ (1 : Int32) = 1) ∧ Q 1 (up σ25 40 (σ25 4 7).toNatClampNeg r25)))) ∧ (¬ 0 ≤ r25 → ((0 : Int32) = 0 ∨ (0 : Int32) = 1) ∧ Q 0 σ25))) ∧ (r21 = 98 → CC 38 [.ref 4, .int 3] (up σ21 4 2 ((σ21 4 2) + 1)) (fun r26 σ26 => (0 ≤ r26 → (¬ r21 = 98 → vp_in (σ26 4 7) 6 ∧ (((1 : Int32) = 0 ∨ (1 : Int32) = 1) ∧ Q 1 (up σ26 41 (σ26 4 7).toNatClampNeg r26))) ∧ (r21 = 98 → vp_in (σ26 4 7) 6 ∧ (((1 : Int32) = 0 ∨ (1 : Int32) = 1) ∧ Q 1 (up σ26 40 (σ26 4 7).toNatClampNeg r26)))) ∧ (¬ 0 ≤ r26 → ((0 : Int32) = 0 ∨ (0 : Int32) = 1) ∧ Q 0 σ26)))) ∧ (r21 = 102 → CC 34 [.ref 4] (up σ21 4 2 ((σ21 4 2) + 1)) (fun r27 σ27 => (r27 = 0 ∨ r27 = 1) ∧ Q r27 σ27))) ∧ (¬ r21 = 100 → (r21 = 102 → (¬ r21 = 102 → (¬ r21 = 98 → CC 38 [.ref 4, .int 2] (up σ21 4 2 ((σ21 4 2) + 1)) (fun r28 σ28 => (0 ≤ r28 → (¬ r21 = 98 → vp_in (σ28 4 7) 6 ∧ (((1 : Int32) = 0 ∨ (1 : Int32) = 1) ∧ Q 1 (up σ28 41 (σ28 4 7).toNatClampNeg r28))) ∧ (r21 = 98 → vp_in (σ28 4 7) 6 ∧ (((1 : Int32) = 0 ∨ (1 : Int32) = 1) ∧ Q 1 (up σ28 40 (σ28 4 7).toNatClampNeg r28)))) ∧ (¬ 0 ≤ r28 → ((0 : Int32) = 0 ∨ (0 : Int32) = 1) ∧ Q 0 σ28))) ∧ (r21 = 98 → CC 38 [.ref 4, .int 3] (up σ21 4 2 ((σ21 4 2) + 1)) (fun r29 σ29 => (0 ≤ r29 → (¬ r21 = 98 → vp_in (σ29 4 7) 6 ∧ (((1 : Int32) = 0 ∨ (1 : Int32) = 1) ∧ Q 1 (up σ29 41 (σ29 4 7).toNatClampNeg r29))) ∧ (r21 = 98 → vp_in (σ29 4 7) 6 ∧ (((1 : Int32) = 0 ∨ (1 : Int32) = 1) ∧ Q 1 (up σ29 40 (σ29 4 7).toNatClampNeg r29)))) ∧ (¬ 0 ≤ r29 → ((0 : Int32) = 0 ∨ (0 : Int32) = 1) ∧ Q 0 σ29)))) ∧ (r21 = 102 → CC 34 [.ref 4] (up σ21 4 2 ((σ21 4 2) + 1)) (fun r30 σ30 => (r30 = 0 ∨ r30 = 1) ∧ Q r30 σ30))) ∧ (¬ r21 = 102 → ((0 : Int32) = 0 ∨ (0 : Int32) = 1) ∧ Q 0 σ21)))) := cc_33 (n_bn h (fun r21 σ21 h => n_if h (fun h => n_ne h (fun h => cc_34 (n_bn h (fun r24 σ24 h => n_rb h))) (fun h => n_ne h (fun h => cc_38 (n_bn h (fun r23 σ23 h => n_if h (fun h => n_ne h (fun h => n_mb h (fun h => n_rb h)) (fun h => n_mb h (fun h => n_rb h))) (fun h => n_rb h)))) (fun h => cc_38 (n_bn h (fun r22 σ22 h => n_if h (fun h => n_ne h (fun h => n_mb h (fun h => n_rb h)) (fun h => n_mb h (fun h => n_rb h))) (fun h => n_rb h)))))) (fun h => n_if h (fun h => n_ne h (fun h => cc_34 (n_bn h (fun r27 σ27 h => n_rb h))) (fun h => n_ne h (fun h => cc_38 (n_bn h (fun r26 σ26 h => n_if h (fun h => n_ne h (fun h => n_mb h (fun h => n_rb h)) (fun h => n_mb h (fun h => n_rb h))) (fun h => n_rb h)))) (fun h => cc_38 (n_bn h (fun r25 σ25 h => n_if h (fun h => n_ne h (fun h => n_mb h (fun h => n_rb h)) (fun h => n_mb h (fun h => n_rb h))) (fun h => n_rb h)))))) (fun h => n_if h (fun h => n_ne h (fun h => cc_34 (n_bn h (fun r30 σ30 h => n_rb h))) (fun h => n_ne h (fun h => cc_38 (n_bn h (fun r29 σ29 h => n_if h (fun h => n_ne h (fun h => n_mb h (fun h => n_rb h)) (fun h => n_mb h (fun h => n_rb h))) (fun h => n_rb h)))) (fun h => cc_38 (n_bn h (fun r28 σ28 h => n_if h (fun h => n_ne h (fun h => n_mb h (fun h => n_rb h)) (fun h => n_mb h (fun h => n_rb h))) (fun h => n_rb h)))))) (fun h => n_rb h)))))
  exact wpn_Ex (cuts := []) monCC (fun _ _ _ _ z => z) 44 0 _ _ _ v
-- TradeTests.unlike
set_option maxHeartbeats 20000000 in
set_option maxRecDepth 100000 in
theorem hp_45 {sc : Nat × (Nat → Int32)} {Q : Int32 → St → Prop} {x1 : Int32} {σ : St} (h : Ap (sp_45 x1 σ) Q) : Ex sc CC 1 cd_45 Q 0 [some (.ref 0), some (.int x1)] [] σ := by
  have v : CC 1 [.int x1, .int (σ 3 14)] σ (fun r7 σ7 => (¬ r7 = 0 → CC 46 [.ref 5, .int x1] σ7 (fun r8 σ8 => Q r8 σ8)) ∧ (r7 = 0 → CC 2 [.ref 0, .int 1] σ7 (fun r9 σ9 => Q r9 σ9))) := cc_1 (n_bn h (fun r7 σ7 h => n_ne h (fun h => cc_2 (n_bn h (fun r9 σ9 h => n_rt h))) (fun h => cc_46 (n_bn h (fun r8 σ8 h => n_rt h)))))
  exact wpn_Ex (cuts := []) monCC (fun _ _ _ _ z => z) 12 0 _ _ _ v
-- TradeTests$Signals.bits
set_option maxHeartbeats 20000000 in
set_option maxRecDepth 100000 in
theorem hp_50 {sc : Nat × (Nat → Int32)} {Q : Int32 → St → Prop} {x1 : Int32} {σ : St} (h : Ap (sp_50 x1 σ) Q) : Ex sc CC 1 cd_50 Q 0 [some (.ref 6), some (.int x1)] [] σ := by
  have v : CC 51 [.ref 6, .int x1] σ (fun r63 σ63 => (r63 ≤ 2 → CC 54 [.ref 6, .int x1] σ63 (fun r64 σ64 => (r64 = 0 → CC 55 [.ref 6, .int x1] σ64 (fun r65 σ65 => (r65 = 0 → CC 57 [.ref 6, .int x1] σ65 (fun r66 σ66 => (r66 = 0 → CC 58 [.ref 5, .int x1] σ66 (fun r67 σ67 => (r67 = 0 → Q (((((0 : Int32) ||| 0) ||| 0) ||| 0) ||| 0) σ67) ∧ (¬ r67 = 0 → Q (((((0 : Int32) ||| 0) ||| 0) ||| 0) ||| 16) σ67))) ∧ (¬ r66 = 0 → CC 58 [.ref 5, .int x1] σ66 (fun r68 σ68 => (r68 = 0 → Q (((((0 : Int32) ||| 0) ||| 0) ||| 8) ||| 0) σ68) ∧ (¬ r68 = 0 → Q (((((0 : Int32) ||| 0) ||| 0) ||| 8) ||| 16) σ68))))) ∧ (¬ r65 = 0 → CC 57 [.ref 6, .int x1] σ65 (fun r69 σ69 => (r69 = 0 → CC 58 [.ref 5, .int x1] σ69 (fun r70 σ70 => (r70 = 0 → Q (((((0 : Int32) ||| 0) ||| 4) ||| 0) ||| 0) σ70) ∧ (¬ r70 = 0 → Q (((((0 : Int32) ||| 0) ||| 4) ||| 0) ||| 16) σ70))) ∧ (¬ r69 = 0 → CC 58 [.ref 5, .int x1] σ69 (fun r71 σ71 => (r71 = 0 → Q (((((0 : Int32) ||| 0) ||| 4) ||| 8) ||| 0) σ71) ∧ (¬ r71 = 0 → Q (((((0 : Int32) ||| 0) ||| 4) ||| 8) ||| 16) σ71))))))) ∧ (¬ r64 = 0 → CC 55 [.ref 6, .int x1] σ64 (fun r72 σ72 => (r72 = 0 → CC 57 [.ref 6, .int x1] σ72 (fun r73 σ73 => (r73 = 0 → CC 58 [.ref 5, .int x1] σ73 (fun r74 σ74 => (r74 = 0 → Q (((((0 : Int32) ||| 2) ||| 0) ||| 0) ||| 0) σ74) ∧ (¬ r74 = 0 → Q (((((0 : Int32) ||| 2) ||| 0) ||| 0) ||| 16) σ74))) ∧ (¬ r73 = 0 → CC 58 [.ref 5, .int x1] σ73 (fun r75 σ75 => (r75 = 0 → Q (((((0 : Int32) ||| 2) ||| 0) ||| 8) ||| 0) σ75) ∧ (¬ r75 = 0 → Q (((((0 : Int32) ||| 2) ||| 0) ||| 8) ||| 16) σ75))))) ∧ (¬ r72 = 0 → CC 57 [.ref 6, .int x1] σ72 (fun r76 σ76 => (r76 = 0 → CC 58 [.ref 5, .int x1] σ76 (fun r77 σ77 => (r77 = 0 → Q (((((0 : Int32) ||| 2) ||| 4) ||| 0) ||| 0) σ77) ∧ (¬ r77 = 0 → Q (((((0 : Int32) ||| 2) ||| 4) ||| 0) ||| 16) σ77))) ∧ (¬ r76 = 0 → CC 58 [.ref 5, .int x1] σ76 (fun r78 σ78 => (r78 = 0 → Q (((((0 : Int32) ||| 2) ||| 4) ||| 8) ||| 0) σ78) ∧ (¬ r78 = 0 → Q (((((0 : Int32) ||| 2) ||| 4) ||| 8) ||| 16) σ78))))))))) ∧ (¬ r63 ≤ 2 → CC 54 [.ref 6, .int x1] σ63 (fun r79 σ79 => (r79 = 0 → CC 55 [.ref 6, .int x1] σ79 (fun r80 σ80 => (r80 = 0 → CC 57 [.ref 6, .int x1] σ80 (fun r81 σ81 => (r81 = 0 → CC 58 [.ref 5, .int x1] σ81 (fun r82 σ82 => (r82 = 0 → Q (((((1 : Int32) ||| 0) ||| 0) ||| 0) ||| 0) σ82) ∧ (¬ r82 = 0 → Q (((((1 : Int32) ||| 0) ||| 0) ||| 0) ||| 16) σ82))) ∧ (¬ r81 = 0 → CC 58 [.ref 5, .int x1] σ81 (fun r83 σ83 => (r83 = 0 → Q (((((1 : Int32) ||| 0) ||| 0) ||| 8) ||| 0) σ83) ∧ (¬ r83 = 0 → Q (((((1 : Int32) ||| 0) ||| 0) ||| 8) ||| 16) σ83))))) ∧ (¬ r80 = 0 → CC 57 [.ref 6, .int x1] σ80 (fun r84 σ84 => (r84 = 0 → CC 58 [.ref 5, .int x1] σ84 (fun r85 σ85 => (r85 = 0 → Q (((((1 : Int32) ||| 0) ||| 4) ||| 0) ||| 0) σ85) ∧ (¬ r85 = 0 → Q (((((1 : Int32) ||| 0) ||| 4) ||| 0) ||| 16) σ85))) ∧ (¬ r84 = 0 → CC 58 [.ref 5, .int x1] σ84 (fun r86 σ86 => (r86 = 0 → Q (((((1 : Int32) ||| 0) ||| 4) ||| 8) ||| 0) σ86) ∧ (¬ r86 = 0 → Q (((((1 : Int32) ||| 0) ||| 4) ||| 8) ||| 16) σ86))))))) ∧ (¬ r79 = 0 → CC 55 [.ref 6, .int x1] σ79 (fun r87 σ87 => (r87 = 0 → CC 57 [.ref 6, .int x1] σ87 (fun r88 σ88 => (r88 = 0 → CC 58 [.ref 5, .int x1] σ88 (fun r89 σ89 => (r89 = 0 → Q (((((1 : Int32) ||| 2) ||| 0) ||| 0) ||| 0) σ89) ∧ (¬ r89 = 0 → Q (((((1 : Int32) ||| 2) ||| 0) ||| 0) ||| 16) σ89))) ∧ (¬ r88 = 0 → CC 58 [.ref 5, .int x1] σ88 (fun r90 σ90 => (r90 = 0 → Q (((((1 : Int32) ||| 2) ||| 0) ||| 8) ||| 0) σ90) ∧ (¬ r90 = 0 → Q (((((1 : Int32) ||| 2) ||| 0) ||| 8) ||| 16) σ90))))) ∧ (¬ r87 = 0 → CC 57 [.ref 6, .int x1] σ87 (fun r91 σ91 => (r91 = 0 → CC 58 [.ref 5, .int x1] σ91 (fun r92 σ92 => (r92 = 0 → Q (((((1 : Int32) ||| 2) ||| 4) ||| 0) ||| 0) σ92) ∧ (¬ r92 = 0 → Q (((((1 : Int32) ||| 2) ||| 4) ||| 0) ||| 16) σ92))) ∧ (¬ r91 = 0 → CC 58 [.ref 5, .int x1] σ91 (fun r93 σ93 => (r93 = 0 → Q (((((1 : Int32) ||| 2) ||| 4) ||| 8) ||| 0) σ93) ∧ (¬ r93 = 0 → Q (((((1 : Int32) ||| 2) ||| 4) ||| 8) ||| 16) σ93)))))))))) := cc_51 (n_bn h (fun r63 σ63 h => n_if h (fun h => cc_54 (n_bn h (fun r64 σ64 h => n_if h (fun h => cc_55 (n_bn h (fun r65 σ65 h => n_if h (fun h => cc_57 (n_bn h (fun r66 σ66 h => n_if h (fun h => cc_58 (n_bn h (fun r67 σ67 h => n_if h (fun h => n_rt h) (fun h => n_rt h)))) (fun h => cc_58 (n_bn h (fun r68 σ68 h => n_if h (fun h => n_rt h) (fun h => n_rt h))))))) (fun h => cc_57 (n_bn h (fun r69 σ69 h => n_if h (fun h => cc_58 (n_bn h (fun r70 σ70 h => n_if h (fun h => n_rt h) (fun h => n_rt h)))) (fun h => cc_58 (n_bn h (fun r71 σ71 h => n_if h (fun h => n_rt h) (fun h => n_rt h)))))))))) (fun h => cc_55 (n_bn h (fun r72 σ72 h => n_if h (fun h => cc_57 (n_bn h (fun r73 σ73 h => n_if h (fun h => cc_58 (n_bn h (fun r74 σ74 h => n_if h (fun h => n_rt h) (fun h => n_rt h)))) (fun h => cc_58 (n_bn h (fun r75 σ75 h => n_if h (fun h => n_rt h) (fun h => n_rt h))))))) (fun h => cc_57 (n_bn h (fun r76 σ76 h => n_if h (fun h => cc_58 (n_bn h (fun r77 σ77 h => n_if h (fun h => n_rt h) (fun h => n_rt h)))) (fun h => cc_58 (n_bn h (fun r78 σ78 h => n_if h (fun h => n_rt h) (fun h => n_rt h))))))))))))) (fun h => cc_54 (n_bn h (fun r79 σ79 h => n_if h (fun h => cc_55 (n_bn h (fun r80 σ80 h => n_if h (fun h => cc_57 (n_bn h (fun r81 σ81 h => n_if h (fun h => cc_58 (n_bn h (fun r82 σ82 h => n_if h (fun h => n_rt h) (fun h => n_rt h)))) (fun h => cc_58 (n_bn h (fun r83 σ83 h => n_if h (fun h => n_rt h) (fun h => n_rt h))))))) (fun h => cc_57 (n_bn h (fun r84 σ84 h => n_if h (fun h => cc_58 (n_bn h (fun r85 σ85 h => n_if h (fun h => n_rt h) (fun h => n_rt h)))) (fun h => cc_58 (n_bn h (fun r86 σ86 h => n_if h (fun h => n_rt h) (fun h => n_rt h)))))))))) (fun h => cc_55 (n_bn h (fun r87 σ87 h => n_if h (fun h => cc_57 (n_bn h (fun r88 σ88 h => n_if h (fun h => cc_58 (n_bn h (fun r89 σ89 h => n_if h (fun h => n_rt h) (fun h => n_rt h)))) (fun h => cc_58 (n_bn h (fun r90 σ90 h => n_if h (fun h => n_rt h) (fun h => n_rt h))))))) (fun h => cc_57 (n_bn h (fun r91 σ91 h => n_if h (fun h => cc_58 (n_bn h (fun r92 σ92 h => n_if h (fun h => n_rt h) (fun h => n_rt h)))) (fun h => cc_58 (n_bn h (fun r93 σ93 h => n_if h (fun h => n_rt h) (fun h => n_rt h)))))))))))))))
  exact wpn_Ex (cuts := []) monCC (fun _ _ _ _ z => z) 38 0 _ _ _ v
-- TradeTests$Rates.beyondChance
set_option maxHeartbeats 20000000 in
set_option maxRecDepth 100000 in
theorem hp_69 {sc : Nat × (Nat → Int32)} {Q : Int32 → St → Prop}  {σ : St} (h : Ap (sp_69  σ) Q) : Ex sc CC 1 cd_69 Q 0 [some (.ref 7), none, none, none, none] [] σ := by
  have v : CC 68 [.ref 7] σ (fun r5 σ5 => CC 70 [.ref 7] σ5 (fun r6 σ6 => (0 < (lg_cmp (r5.toInt64 * r5.toInt64) (((σ5 7 8).toInt64) * (((4 : Int32) + r6).toInt64))) → ((lg_cmp r5.toInt64 (Int32.toInt64 0)) ≤ 0 → Q 2 σ6) ∧ (¬ (lg_cmp r5.toInt64 (Int32.toInt64 0)) ≤ 0 → Q 1 σ6)) ∧ (¬ 0 < (lg_cmp (r5.toInt64 * r5.toInt64) (((σ5 7 8).toInt64) * (((4 : Int32) + r6).toInt64))) → Q 0 σ6))) := cc_68 (n_bn h (fun r5 σ5 h => cc_70 (n_bn h (fun r6 σ6 h => n_if h (fun h => n_if h (fun h => n_rt h) (fun h => n_rt h)) (fun h => n_rt h)))))
  exact wpn_Ex (cuts := []) monCC (fun _ _ _ _ z => z) 28 0 _ _ _ v
-- TradeTests$Rates.shareOf
set_option maxHeartbeats 20000000 in
set_option maxRecDepth 100000 in
theorem hp_72 {sc : Nat × (Nat → Int32)} {Q : Int32 → St → Prop} {x1 x2 : Int32} {σ : St} (h : Ap (sp_72 x1 x2 σ) Q) : Ex sc CC 1 cd_72 Q 0 [some (.ref 7), some (.int x1), some (.int x2)] [] σ := by
  have v : CC 63 [.ref 7] σ (fun r5 σ5 => CC 67 [.ref 7, .int ((x1 * 4) + x2)] σ5 (fun r6 σ6 => Q r6 σ6)) := cc_63 (n_bn h (fun r5 σ5 h => cc_67 (n_bn h (fun r6 σ6 h => n_rt h))))
  exact wpn_Ex (cuts := []) monCC (fun _ _ _ _ z => z) 11 0 _ _ _ v
-- TradeTests.alike
set_option maxHeartbeats 20000000 in
set_option maxRecDepth 100000 in
theorem hp_74 {sc : Nat × (Nat → Int32)} {Q : Int32 → St → Prop} {x1 : Int32} {σ : St} (h : Ap (sp_74 x1 σ) Q) : Ex sc CC 1 cd_74 Q 0 [some (.ref 0), some (.int x1)] [] σ := by
  have v : CC 1 [.int x1, .int (σ 3 14)] σ (fun r7 σ7 => (¬ r7 = 0 → CC 51 [.ref 6, .int x1] σ7 (fun r8 σ8 => Q r8 σ8)) ∧ (r7 = 0 → CC 2 [.ref 0, .int 1] σ7 (fun r9 σ9 => Q r9 σ9))) := cc_1 (n_bn h (fun r7 σ7 h => n_ne h (fun h => cc_2 (n_bn h (fun r9 σ9 h => n_rt h))) (fun h => cc_51 (n_bn h (fun r8 σ8 h => n_rt h)))))
  exact wpn_Ex (cuts := []) monCC (fun _ _ _ _ z => z) 12 0 _ _ _ v
end
section
/-! the code does what the functions say (written by wip/whole/gen/spec.py) -/
-- TradeTests$Penalties.ofTest
set_option maxHeartbeats 20000000 in
set_option maxRecDepth 100000 in
theorem hp_85 {sc : Nat × (Nat → Int32)} {Q : Int32 → St → Prop} {x1 : Int32} {σ : St} (h : Ap (sp_85 x1 σ) Q) : Ex sc CC 1 cd_85 Q 0 [some (.ref 10), some (.int x1), none] [] σ := by
  have v : CC 86 [.ref 9, .int x1] σ (fun r35 σ35 => CC 59 [.int r35] σ35 (fun r36 σ36 => vp_in x1 80 ∧ ((¬ (σ36 34 (x1).toNatClampNeg) = 1 → CC 58 [.ref 5, .int x1] σ36 (fun r37 σ37 => (r37 = 0 → CC 54 [.ref 6, .int x1] σ37 (fun r38 σ38 => (r38 = 0 → CC 55 [.ref 6, .int x1] σ38 (fun r39 σ39 => (r39 = 0 → CC 57 [.ref 6, .int x1] σ39 (fun r40 σ40 => (r40 = 0 → Q ((((((10 : Int32) * r36) + 0) + 0) + 0) + 0) σ40) ∧ (¬ r40 = 0 → Q ((((((10 : Int32) * r36) + 0) + 0) + 0) + 1) σ40))) ∧ (¬ r39 = 0 → CC 57 [.ref 6, .int x1] σ39 (fun r41 σ41 => (r41 = 0 → Q ((((((10 : Int32) * r36) + 0) + 0) + 4) + 0) σ41) ∧ (¬ r41 = 0 → Q ((((((10 : Int32) * r36) + 0) + 0) + 4) + 1) σ41))))) ∧ (¬ r38 = 0 → CC 55 [.ref 6, .int x1] σ38 (fun r42 σ42 => (r42 = 0 → CC 57 [.ref 6, .int x1] σ42 (fun r43 σ43 => (r43 = 0 → Q ((((((10 : Int32) * r36) + 0) + 2) + 0) + 0) σ43) ∧ (¬ r43 = 0 → Q ((((((10 : Int32) * r36) + 0) + 2) + 0) + 1) σ43))) ∧ (¬ r42 = 0 → CC 57 [.ref 6, .int x1] σ42 (fun r44 σ44 => (r44 = 0 → Q ((((((10 : Int32) * r36) + 0) + 2) + 4) + 0) σ44) ∧ (¬ r44 = 0 → Q ((((((10 : Int32) * r36) + 0) + 2) + 4) + 1) σ44))))))) ∧ (¬ r37 = 0 → CC 54 [.ref 6, .int x1] σ37 (fun r45 σ45 => (r45 = 0 → CC 55 [.ref 6, .int x1] σ45 (fun r46 σ46 => (r46 = 0 → CC 57 [.ref 6, .int x1] σ46 (fun r47 σ47 => (r47 = 0 → Q ((((((10 : Int32) * r36) + 6) + 0) + 0) + 0) σ47) ∧ (¬ r47 = 0 → Q ((((((10 : Int32) * r36) + 6) + 0) + 0) + 1) σ47))) ∧ (¬ r46 = 0 → CC 57 [.ref 6, .int x1] σ46 (fun r48 σ48 => (r48 = 0 → Q ((((((10 : Int32) * r36) + 6) + 0) + 4) + 0) σ48) ∧ (¬ r48 = 0 → Q ((((((10 : Int32) * r36) + 6) + 0) + 4) + 1) σ48))))) ∧ (¬ r45 = 0 → CC 55 [.ref 6, .int x1] σ45 (fun r49 σ49 => (r49 = 0 → CC 57 [.ref 6, .int x1] σ49 (fun r50 σ50 => (r50 = 0 → Q ((((((10 : Int32) * r36) + 6) + 2) + 0) + 0) σ50) ∧ (¬ r50 = 0 → Q ((((((10 : Int32) * r36) + 6) + 2) + 0) + 1) σ50))) ∧ (¬ r49 = 0 → CC 57 [.ref 6, .int x1] σ49 (fun r51 σ51 => (r51 = 0 → Q ((((((10 : Int32) * r36) + 6) + 2) + 4) + 0) σ51) ∧ (¬ r51 = 0 → Q ((((((10 : Int32) * r36) + 6) + 2) + 4) + 1) σ51))))))))) ∧ ((σ36 34 (x1).toNatClampNeg) = 1 → Q ((10 : Int32) * r36) σ36)))) := cc_86 (n_bn h (fun r35 σ35 h => cc_59 (n_bn h (fun r36 σ36 h => n_mb h (fun h => n_ne h (fun h => n_rt h) (fun h => cc_58 (n_bn h (fun r37 σ37 h => n_if h (fun h => cc_54 (n_bn h (fun r38 σ38 h => n_if h (fun h => cc_55 (n_bn h (fun r39 σ39 h => n_if h (fun h => cc_57 (n_bn h (fun r40 σ40 h => n_if h (fun h => n_rt h) (fun h => n_rt h)))) (fun h => cc_57 (n_bn h (fun r41 σ41 h => n_if h (fun h => n_rt h) (fun h => n_rt h))))))) (fun h => cc_55 (n_bn h (fun r42 σ42 h => n_if h (fun h => cc_57 (n_bn h (fun r43 σ43 h => n_if h (fun h => n_rt h) (fun h => n_rt h)))) (fun h => cc_57 (n_bn h (fun r44 σ44 h => n_if h (fun h => n_rt h) (fun h => n_rt h)))))))))) (fun h => cc_54 (n_bn h (fun r45 σ45 h => n_if h (fun h => cc_55 (n_bn h (fun r46 σ46 h => n_if h (fun h => cc_57 (n_bn h (fun r47 σ47 h => n_if h (fun h => n_rt h) (fun h => n_rt h)))) (fun h => cc_57 (n_bn h (fun r48 σ48 h => n_if h (fun h => n_rt h) (fun h => n_rt h))))))) (fun h => cc_55 (n_bn h (fun r49 σ49 h => n_if h (fun h => cc_57 (n_bn h (fun r50 σ50 h => n_if h (fun h => n_rt h) (fun h => n_rt h)))) (fun h => cc_57 (n_bn h (fun r51 σ51 h => n_if h (fun h => n_rt h) (fun h => n_rt h))))))))))))))))))
  exact wpn_Ex (cuts := []) monCC (fun _ _ _ _ z => z) 50 0 _ _ _ v
-- TradeTests.visit
set_option maxHeartbeats 20000000 in
set_option maxRecDepth 100000 in
theorem hp_95 {sc : Nat × (Nat → Int32)} {Q : Int32 → St → Prop} {x1 x2 : Int32} {σ : St} (h : Ap (sp_95 x1 x2 σ) Q) : Ex sc CC 1 cd_95 Q 0 [some (.ref 0), some (.int x1), some (.int x2)] [] σ := by
  have v : CC 1 [.int x1, .int (σ 9 3)] σ (fun r17 σ17 => (r17 = 0 → CC 2 [.ref 0, .int 1] σ17 (fun r18 σ18 => Q r18 σ18)) ∧ (¬ r17 = 0 → CC 1 [.int x2, .int (σ17 3 14)] σ17 (fun r19 σ19 => (¬ r19 = 0 → CC 61 [.ref 9, .int x2] σ19 (fun r20 σ20 => (r20 = 0 → CC 96 [.ref 9, .int x1, .int x2] σ20 (fun r21 σ21 => CC 86 [.ref 9, .int x2] σ21 (fun r22 σ22 => Q r22 σ22))) ∧ (¬ r20 = 0 → CC 2 [.ref 0, .int 3] σ20 (fun r23 σ23 => Q r23 σ23)))) ∧ (r19 = 0 → CC 2 [.ref 0, .int 1] σ19 (fun r24 σ24 => Q r24 σ24))))) := cc_1 (n_bn h (fun r17 σ17 h => n_if h (fun h => cc_2 (n_bn h (fun r18 σ18 h => n_rt h))) (fun h => cc_1 (n_bn h (fun r19 σ19 h => n_ne h (fun h => cc_2 (n_bn h (fun r24 σ24 h => n_rt h))) (fun h => cc_61 (n_bn h (fun r20 σ20 h => n_if h (fun h => cc_96 (n_bn h (fun r21 σ21 h => cc_86 (n_bn h (fun r22 σ22 h => n_rt h))))) (fun h => cc_2 (n_bn h (fun r23 σ23 h => n_rt h)))))))))))
  exact wpn_Ex (cuts := []) monCC (fun _ _ _ _ z => z) 28 0 _ _ _ v
-- TradeTests$Judge.isLeaning
set_option maxHeartbeats 20000000 in
set_option maxRecDepth 100000 in
theorem hl_116_5 {sc : Nat × (Nat → Int32)} {Q : Int32 → St → Prop} : ∀ (n : Nat) (v1 : Int32) (v2 : Int32) (v3 : Int32) (v4 : Int32) (σ : St), Ap (lp_116_5 n v1 v2 v3 v4 σ) Q → Ex sc CC 2 cd_116 Q 5 [some (.ref 5), some (.int v1), some (.int v2), some (.int v3), some (.int v4)] [] σ := by
  intro n
  induction n with
  | zero => intro v1 v2 v3 v4 σ h; exact n_no h
  | succ n ih =>
    intro v1 v2 v3 v4 σ h
    have v : ((σ 3 14) ≤ v4 → (v3 < 0 → ((0 : Int32) = 0 ∨ (0 : Int32) = 1) ∧ Q 0 σ) ∧ (¬ v3 < 0 → CC 58 [.ref 5, .int v3] σ (fun r5 σ5 => (r5 = 0 → ((0 : Int32) = 0 ∨ (0 : Int32) = 1) ∧ Q 0 σ5) ∧ (¬ r5 = 0 → vp_in v3 80 ∧ (CC 6 [.ref 1, .int v1] σ5 (fun r6 σ6 => (((σ5 26 (v3).toNatClampNeg) + r6) < v2 → ((0 : Int32) = 0 ∨ (0 : Int32) = 1) ∧ Q 0 σ6) ∧ (¬ ((σ5 26 (v3).toNatClampNeg) + r6) < v2 → ((1 : Int32) = 0 ∨ (1 : Int32) = 1) ∧ Q 1 σ6))))))) ∧ (¬ (σ 3 14) ≤ v4 → vp_in v4 80 ∧ ((¬ (σ 24 (v4).toNatClampNeg) = v1 → Ex sc CC 2 cd_116 Q 5 [some (.ref 5), some (.int v1), some (.int v2), some (.int v3), some (.int (v4 + 1))] [] σ) ∧ ((σ 24 (v4).toNatClampNeg) = v1 → vp_in v4 80 ∧ ((v2 < (σ 26 (v4).toNatClampNeg) → Ex sc CC 2 cd_116 Q 5 [some (.ref 5), some (.int v1), some (.int v2), some (.int v3), some (.int (v4 + 1))] [] σ) ∧ (¬ v2 < (σ 26 (v4).toNatClampNeg) → Ex sc CC 2 cd_116 Q 5 [some (.ref 5), some (.int v1), some (.int v2), some (.int v4), some (.int (v4 + 1))] [] σ))))) := n_if h (fun h => n_if h (fun h => n_rb h) (fun h => cc_58 (n_bn h (fun r5 σ5 h => n_if h (fun h => n_rb h) (fun h => n_mb h (fun h => cc_6 (n_bn h (fun r6 σ6 h => n_if h (fun h => n_rb h) (fun h => n_rb h))))))))) (fun h => n_mb h (fun h => n_ne h (fun h => n_mb h (fun h => n_if h (fun h => ih v1 v2 v3 (v4 + 1) σ h) (fun h => ih v1 v2 v4 (v4 + 1) σ h))) (fun h => ih v1 v2 v3 (v4 + 1) σ h)))
    exact stw_Ex (cuts := [5]) monCC 26 v
set_option maxHeartbeats 20000000 in
set_option maxRecDepth 100000 in
theorem hp_116 {sc : Nat × (Nat → Int32)} {Q : Int32 → St → Prop} {x1 x2 : Int32} {σ : St} (h : Ap (sp_116 x1 x2 σ) Q) : Ex sc CC 2 cd_116 Q 0 [some (.ref 5), some (.int x1), some (.int x2), none, none] [] σ := by
  have v : Ex sc CC 2 cd_116 Q 5 [some (.ref 5), some (.int x1), some (.int x2), some (.int (-1)), some (.int 0)] [] σ := hl_116_5 FU x1 x2 (-1) 0 σ h
  exact wpn_Ex (cuts := [5]) monCC (fun _ _ _ _ z => z) 6 0 _ _ _ v
-- TradeTestsModel.test
set_option maxHeartbeats 20000000 in
set_option maxRecDepth 100000 in
theorem hp_137 {sc : Nat × (Nat → Int32)} {Q : Int32 → St → Prop} {x1 x2 x3 x4 x5 : Int32} {σ : St} (h : Ap (sp_137 x1 x2 x3 x4 x5 σ) Q) : Ex sc CC 1 cd_137 Q 0 [some (.ref 12), some (.int x1), some (.int x2), some (.int x3), some (.int x4), some (.int x5)] [] σ := by
  have v : CC 138 [.ref 12, .int x1, .int x2, .int x3, .int x4, .int x5] σ (fun r7 σ7 => (¬ r7 = 0 → (¬ (σ7 12 4) = 80 → ¬ (100 : Int32) = 0 ∧ (vp_in (σ7 12 4) 80 ∧ (¬ (100 : Int32) = 0 ∧ (vp_in (σ7 12 4) 80 ∧ (¬ (10000 : Int32) = 0 ∧ (vp_in (σ7 12 4) 80 ∧ (¬ (10000 : Int32) = 0 ∧ (vp_in (σ7 12 4) 80 ∧ (¬ (1000 : Int32) = 0 ∧ (vp_in (σ7 12 4) 80 ∧ (¬ (1000 : Int32) = 0 ∧ (((x3 - x3 / 1000 * 1000) ≤ 255 → vp_in (σ7 12 4) 80 ∧ (((0 : Int32) = 0 ∨ (0 : Int32) = 1) ∧ (¬ (1000 : Int32) = 0 ∧ (¬ (256 : Int32) = 0 ∧ (vp_in (σ7 12 4) 80 ∧ (vp_in (σ7 12 4) 80 ∧ (¬ (1000 : Int32) = 0 ∧ (vp_in (σ7 12 4) 80 ∧ (¬ (1000 : Int32) = 0 ∧ (vp_in (σ7 12 4) 80 ∧ (vp_in (σ7 12 4) 80 ∧ (vp_in (σ7 12 4) 80 ∧ (vp_in (σ7 12 4) 80 ∧ (((0 : Int32) = 0 ∨ (0 : Int32) = 1) ∧ (Q (((σ7 12 4) + 1) - 1) (up (up (up (up (up (up (up (up (up (up (up (up (up (up σ7 59 (σ7 12 4).toNatClampNeg (x1 / 100)) 60 (σ7 12 4).toNatClampNeg (x1 - x1 / 100 * 100)) 61 (σ7 12 4).toNatClampNeg (x2 - x2 / 10000 * 10000)) 62 (σ7 12 4).toNatClampNeg (x2 / 10000)) 63 (σ7 12 4).toNatClampNeg (x3 / 1000)) 70 (σ7 12 4).toNatClampNeg 0) 67 (σ7 12 4).toNatClampNeg ((x3 - x3 / 1000 * 1000) - (x3 - x3 / 1000 * 1000) / 256 * 256)) 64 (σ7 12 4).toNatClampNeg x4) 65 (σ7 12 4).toNatClampNeg (x5 / 1000)) 66 (σ7 12 4).toNatClampNeg (x5 - x5 / 1000 * 1000)) 68 (σ7 12 4).toNatClampNeg (-1)) 69 (σ7 12 4).toNatClampNeg 0) 71 (σ7 12 4).toNatClampNeg 0) 12 4 ((σ7 12 4) + 1))))))))))))))))) ∧ (¬ (x3 - x3 / 1000 * 1000) ≤ 255 → vp_in (σ7 12 4) 80 ∧ (((1 : Int32) = 0 ∨ (1 : Int32) = 1) ∧ (¬ (1000 : Int32) = 0 ∧ (¬ (256 : Int32) = 0 ∧ (vp_in (σ7 12 4) 80 ∧ (vp_in (σ7 12 4) 80 ∧ (¬ (1000 : Int32) = 0 ∧ (vp_in (σ7 12 4) 80 ∧ (¬ (1000 : Int32) = 0 ∧ (vp_in (σ7 12 4) 80 ∧ (vp_in (σ7 12 4) 80 ∧ (vp_in (σ7 12 4) 80 ∧ (vp_in (σ7 12 4) 80 ∧ (((0 : Int32) = 0 ∨ (0 : Int32) = 1) ∧ (Q (((σ7 12 4) + 1) - 1) (up (up (up (up (up (up (up (up (up (up (up (up (up (up σ7 59 (σ7 12 4).toNatClampNeg (x1 / 100)) 60 (σ7 12 4).toNatClampNeg (x1 - x1 / 100 * 100)) 61 (σ7 12 4).toNatClampNeg (x2 - x2 / 10000 * 10000)) 62 (σ7 12 4).toNatClampNeg (x2 / 10000)) 63 (σ7 12 4).toNatClampNeg (x3 / 1000)) 70 (σ7 12 4).toNatClampNeg 1) 67 (σ7 12 4).toNatClampNeg ((x3 - x3 / 1000 * 1000) - (x3 - x3 / 1000 * 1000) / 256 * 256)) 64 (σ7 12 4).toNatClampNeg x4) 65 (σ7 12 4).toNatClampNeg (x5 / 1000)) 66 (σ7 12 4).toNatClampNeg (x5 - x5 / 1000 * 1000)) 68 (σ7 12 4).toNatClampNeg (-1)) 69 (σ7 12 4).toNatClampNeg 0) 71 (σ7 12 4).toNatClampNeg 0) 12 4 ((σ7 12 4) + 1))))))))))))))))))))))))))))) ∧ ((σ7 12 4) = 80 → CC 125 [.ref 12, .int 4] σ7 (fun r8 σ8 => Q r8 σ8))) ∧ (r7 = 0 → CC 125 [.ref 12, .int 1] σ7 (fun r9 σ9 => Q r9 σ9))) := cc_138 (n_bn h (fun r7 σ7 h => n_ne h (fun h => cc_125 (n_bn h (fun r9 σ9 h => n_rt h))) (fun h => n_ne h (fun h => cc_125 (n_bn h (fun r8 σ8 h => n_rt h))) (fun h => n_mb h (fun h => n_mb h (fun h => n_mb h (fun h => n_mb h (fun h => n_mb h (fun h => n_mb h (fun h => n_mb h (fun h => n_mb h (fun h => n_mb h (fun h => n_mb h (fun h => n_mb h (fun h => n_if h (fun h => n_mb h (fun h => n_mb h (fun h => n_mb h (fun h => n_mb h (fun h => n_mb h (fun h => n_mb h (fun h => n_mb h (fun h => n_mb h (fun h => n_mb h (fun h => n_mb h (fun h => n_mb h (fun h => n_mb h (fun h => n_mb h (fun h => n_mb h (fun h => n_rt h))))))))))))))) (fun h => n_mb h (fun h => n_mb h (fun h => n_mb h (fun h => n_mb h (fun h => n_mb h (fun h => n_mb h (fun h => n_mb h (fun h => n_mb h (fun h => n_mb h (fun h => n_mb h (fun h => n_mb h (fun h => n_mb h (fun h => n_mb h (fun h => n_mb h (fun h => n_rt h))))))))))))))))))))))))))))))
  exact wpn_Ex (cuts := []) monCC (fun _ _ _ _ z => z) 126 0 _ _ _ v
-- TradeTestsModel.text
set_option maxHeartbeats 20000000 in
set_option maxRecDepth 100000 in
theorem hp_143 {sc : Nat × (Nat → Int32)} {Q : Int32 → St → Prop} {x1 : Int32} {σ : St} (h : Ap (sp_143 x1 σ) Q) : Ex sc CC 1 cd_143 Q 0 [some (.ref 12), some (.int x1), none] [] σ := by
  have v : CC 124 [.int x1] σ (fun r9 σ9 => (¬ r9 = 0 → (¬ (σ9 12 5) = 6 → CC 144 [.ref 12] σ9 (fun r10 σ10 => (¬ r10 = 0 → vp_in (σ10 12 5) 7 ∧ (Q ((σ10 12 5) + 1) (up (up (up σ10 12 9 0) 73 (σ10 12 5).toNatClampNeg x1) 12 5 ((σ10 12 5) + 1)))) ∧ (r10 = 0 → Q ((-10 : Int32) - (σ10 12 45)) (up σ10 12 9 0)))) ∧ ((σ9 12 5) = 6 → CC 125 [.ref 12, .int 4] σ9 (fun r11 σ11 => Q r11 σ11))) ∧ (r9 = 0 → CC 125 [.ref 12, .int 1] σ9 (fun r12 σ12 => Q r12 σ12))) := cc_124 (n_bn h (fun r9 σ9 h => n_ne h (fun h => cc_125 (n_bn h (fun r12 σ12 h => n_rt h))) (fun h => n_ne h (fun h => cc_125 (n_bn h (fun r11 σ11 h => n_rt h))) (fun h => cc_144 (n_bn h (fun r10 σ10 h => n_ne h (fun h => n_rt h) (fun h => n_mb h (fun h => n_rt h))))))))
  exact wpn_Ex (cuts := []) monCC (fun _ _ _ _ z => z) 31 0 _ _ _ v
-- TradeTestsModel.unlike
set_option maxHeartbeats 20000000 in
set_option maxRecDepth 100000 in
theorem hp_153 {sc : Nat × (Nat → Int32)} {Q : Int32 → St → Prop} {x1 : Int32} {σ : St} (h : Ap (sp_153 x1 σ) Q) : Ex sc CC 1 cd_153 Q 0 [some (.ref 12), some (.int x1)] [] σ := by
  have v : CC 140 [.ref 12, .int x1] σ (fun r7 σ7 => (r7 = 0 → CC 125 [.ref 12, .int 1] σ7 (fun r8 σ8 => Q r8 σ8)) ∧ (¬ r7 = 0 → CC 154 [.ref 12, .int x1] σ7 (fun r9 σ9 => Q r9 σ9))) := cc_140 (n_bn h (fun r7 σ7 h => n_if h (fun h => cc_125 (n_bn h (fun r8 σ8 h => n_rt h))) (fun h => cc_154 (n_bn h (fun r9 σ9 h => n_rt h)))))
  exact wpn_Ex (cuts := []) monCC (fun _ _ _ _ z => z) 10 0 _ _ _ v
-- TradeTestsModel.signsOf
set_option maxHeartbeats 20000000 in
set_option maxRecDepth 100000 in
theorem hp_162 {sc : Nat × (Nat → Int32)} {Q : Int32 → St → Prop} {x1 : Int32} {σ : St} (h : Ap (sp_162 x1 σ) Q) : Ex sc CC 1 cd_162 Q 0 [some (.ref 12), some (.int x1)] [] σ := by
  have v : CC 163 [.ref 12, .int x1] σ (fun r63 σ63 => (r63 ≤ 2 → CC 165 [.ref 12, .int x1] σ63 (fun r64 σ64 => (r64 = 0 → CC 166 [.ref 12, .int x1] σ64 (fun r65 σ65 => (r65 = 0 → CC 167 [.ref 12, .int x1] σ65 (fun r66 σ66 => (r66 = 0 → CC 154 [.ref 12, .int x1] σ66 (fun r67 σ67 => (¬ r67 = 1 → Q (((((0 : Int32) + 0) + 0) + 0) + 0) σ67) ∧ (r67 = 1 → Q (((((0 : Int32) + 0) + 0) + 0) + 16) σ67))) ∧ (¬ r66 = 0 → CC 154 [.ref 12, .int x1] σ66 (fun r68 σ68 => (¬ r68 = 1 → Q (((((0 : Int32) + 0) + 0) + 8) + 0) σ68) ∧ (r68 = 1 → Q (((((0 : Int32) + 0) + 0) + 8) + 16) σ68))))) ∧ (¬ r65 = 0 → CC 167 [.ref 12, .int x1] σ65 (fun r69 σ69 => (r69 = 0 → CC 154 [.ref 12, .int x1] σ69 (fun r70 σ70 => (¬ r70 = 1 → Q (((((0 : Int32) + 0) + 4) + 0) + 0) σ70) ∧ (r70 = 1 → Q (((((0 : Int32) + 0) + 4) + 0) + 16) σ70))) ∧ (¬ r69 = 0 → CC 154 [.ref 12, .int x1] σ69 (fun r71 σ71 => (¬ r71 = 1 → Q (((((0 : Int32) + 0) + 4) + 8) + 0) σ71) ∧ (r71 = 1 → Q (((((0 : Int32) + 0) + 4) + 8) + 16) σ71))))))) ∧ (¬ r64 = 0 → CC 166 [.ref 12, .int x1] σ64 (fun r72 σ72 => (r72 = 0 → CC 167 [.ref 12, .int x1] σ72 (fun r73 σ73 => (r73 = 0 → CC 154 [.ref 12, .int x1] σ73 (fun r74 σ74 => (¬ r74 = 1 → Q (((((0 : Int32) + 2) + 0) + 0) + 0) σ74) ∧ (r74 = 1 → Q (((((0 : Int32) + 2) + 0) + 0) + 16) σ74))) ∧ (¬ r73 = 0 → CC 154 [.ref 12, .int x1] σ73 (fun r75 σ75 => (¬ r75 = 1 → Q (((((0 : Int32) + 2) + 0) + 8) + 0) σ75) ∧ (r75 = 1 → Q (((((0 : Int32) + 2) + 0) + 8) + 16) σ75))))) ∧ (¬ r72 = 0 → CC 167 [.ref 12, .int x1] σ72 (fun r76 σ76 => (r76 = 0 → CC 154 [.ref 12, .int x1] σ76 (fun r77 σ77 => (¬ r77 = 1 → Q (((((0 : Int32) + 2) + 4) + 0) + 0) σ77) ∧ (r77 = 1 → Q (((((0 : Int32) + 2) + 4) + 0) + 16) σ77))) ∧ (¬ r76 = 0 → CC 154 [.ref 12, .int x1] σ76 (fun r78 σ78 => (¬ r78 = 1 → Q (((((0 : Int32) + 2) + 4) + 8) + 0) σ78) ∧ (r78 = 1 → Q (((((0 : Int32) + 2) + 4) + 8) + 16) σ78))))))))) ∧ (¬ r63 ≤ 2 → CC 165 [.ref 12, .int x1] σ63 (fun r79 σ79 => (r79 = 0 → CC 166 [.ref 12, .int x1] σ79 (fun r80 σ80 => (r80 = 0 → CC 167 [.ref 12, .int x1] σ80 (fun r81 σ81 => (r81 = 0 → CC 154 [.ref 12, .int x1] σ81 (fun r82 σ82 => (¬ r82 = 1 → Q (((((1 : Int32) + 0) + 0) + 0) + 0) σ82) ∧ (r82 = 1 → Q (((((1 : Int32) + 0) + 0) + 0) + 16) σ82))) ∧ (¬ r81 = 0 → CC 154 [.ref 12, .int x1] σ81 (fun r83 σ83 => (¬ r83 = 1 → Q (((((1 : Int32) + 0) + 0) + 8) + 0) σ83) ∧ (r83 = 1 → Q (((((1 : Int32) + 0) + 0) + 8) + 16) σ83))))) ∧ (¬ r80 = 0 → CC 167 [.ref 12, .int x1] σ80 (fun r84 σ84 => (r84 = 0 → CC 154 [.ref 12, .int x1] σ84 (fun r85 σ85 => (¬ r85 = 1 → Q (((((1 : Int32) + 0) + 4) + 0) + 0) σ85) ∧ (r85 = 1 → Q (((((1 : Int32) + 0) + 4) + 0) + 16) σ85))) ∧ (¬ r84 = 0 → CC 154 [.ref 12, .int x1] σ84 (fun r86 σ86 => (¬ r86 = 1 → Q (((((1 : Int32) + 0) + 4) + 8) + 0) σ86) ∧ (r86 = 1 → Q (((((1 : Int32) + 0) + 4) + 8) + 16) σ86))))))) ∧ (¬ r79 = 0 → CC 166 [.ref 12, .int x1] σ79 (fun r87 σ87 => (r87 = 0 → CC 167 [.ref 12, .int x1] σ87 (fun r88 σ88 => (r88 = 0 → CC 154 [.ref 12, .int x1] σ88 (fun r89 σ89 => (¬ r89 = 1 → Q (((((1 : Int32) + 2) + 0) + 0) + 0) σ89) ∧ (r89 = 1 → Q (((((1 : Int32) + 2) + 0) + 0) + 16) σ89))) ∧ (¬ r88 = 0 → CC 154 [.ref 12, .int x1] σ88 (fun r90 σ90 => (¬ r90 = 1 → Q (((((1 : Int32) + 2) + 0) + 8) + 0) σ90) ∧ (r90 = 1 → Q (((((1 : Int32) + 2) + 0) + 8) + 16) σ90))))) ∧ (¬ r87 = 0 → CC 167 [.ref 12, .int x1] σ87 (fun r91 σ91 => (r91 = 0 → CC 154 [.ref 12, .int x1] σ91 (fun r92 σ92 => (¬ r92 = 1 → Q (((((1 : Int32) + 2) + 4) + 0) + 0) σ92) ∧ (r92 = 1 → Q (((((1 : Int32) + 2) + 4) + 0) + 16) σ92))) ∧ (¬ r91 = 0 → CC 154 [.ref 12, .int x1] σ91 (fun r93 σ93 => (¬ r93 = 1 → Q (((((1 : Int32) + 2) + 4) + 8) + 0) σ93) ∧ (r93 = 1 → Q (((((1 : Int32) + 2) + 4) + 8) + 16) σ93)))))))))) := cc_163 (n_bn h (fun r63 σ63 h => n_if h (fun h => cc_165 (n_bn h (fun r64 σ64 h => n_if h (fun h => cc_166 (n_bn h (fun r65 σ65 h => n_if h (fun h => cc_167 (n_bn h (fun r66 σ66 h => n_if h (fun h => cc_154 (n_bn h (fun r67 σ67 h => n_ne h (fun h => n_rt h) (fun h => n_rt h)))) (fun h => cc_154 (n_bn h (fun r68 σ68 h => n_ne h (fun h => n_rt h) (fun h => n_rt h))))))) (fun h => cc_167 (n_bn h (fun r69 σ69 h => n_if h (fun h => cc_154 (n_bn h (fun r70 σ70 h => n_ne h (fun h => n_rt h) (fun h => n_rt h)))) (fun h => cc_154 (n_bn h (fun r71 σ71 h => n_ne h (fun h => n_rt h) (fun h => n_rt h)))))))))) (fun h => cc_166 (n_bn h (fun r72 σ72 h => n_if h (fun h => cc_167 (n_bn h (fun r73 σ73 h => n_if h (fun h => cc_154 (n_bn h (fun r74 σ74 h => n_ne h (fun h => n_rt h) (fun h => n_rt h)))) (fun h => cc_154 (n_bn h (fun r75 σ75 h => n_ne h (fun h => n_rt h) (fun h => n_rt h))))))) (fun h => cc_167 (n_bn h (fun r76 σ76 h => n_if h (fun h => cc_154 (n_bn h (fun r77 σ77 h => n_ne h (fun h => n_rt h) (fun h => n_rt h)))) (fun h => cc_154 (n_bn h (fun r78 σ78 h => n_ne h (fun h => n_rt h) (fun h => n_rt h))))))))))))) (fun h => cc_165 (n_bn h (fun r79 σ79 h => n_if h (fun h => cc_166 (n_bn h (fun r80 σ80 h => n_if h (fun h => cc_167 (n_bn h (fun r81 σ81 h => n_if h (fun h => cc_154 (n_bn h (fun r82 σ82 h => n_ne h (fun h => n_rt h) (fun h => n_rt h)))) (fun h => cc_154 (n_bn h (fun r83 σ83 h => n_ne h (fun h => n_rt h) (fun h => n_rt h))))))) (fun h => cc_167 (n_bn h (fun r84 σ84 h => n_if h (fun h => cc_154 (n_bn h (fun r85 σ85 h => n_ne h (fun h => n_rt h) (fun h => n_rt h)))) (fun h => cc_154 (n_bn h (fun r86 σ86 h => n_ne h (fun h => n_rt h) (fun h => n_rt h)))))))))) (fun h => cc_166 (n_bn h (fun r87 σ87 h => n_if h (fun h => cc_167 (n_bn h (fun r88 σ88 h => n_if h (fun h => cc_154 (n_bn h (fun r89 σ89 h => n_ne h (fun h => n_rt h) (fun h => n_rt h)))) (fun h => cc_154 (n_bn h (fun r90 σ90 h => n_ne h (fun h => n_rt h) (fun h => n_rt h))))))) (fun h => cc_167 (n_bn h (fun r91 σ91 h => n_if h (fun h => cc_154 (n_bn h (fun r92 σ92 h => n_ne h (fun h => n_rt h) (fun h => n_rt h)))) (fun h => cc_154 (n_bn h (fun r93 σ93 h => n_ne h (fun h => n_rt h) (fun h => n_rt h)))))))))))))))
  exact wpn_Ex (cuts := []) monCC (fun _ _ _ _ z => z) 38 0 _ _ _ v
-- TradeTestsModel.alike
set_option maxHeartbeats 20000000 in
set_option maxRecDepth 100000 in
theorem hp_169 {sc : Nat × (Nat → Int32)} {Q : Int32 → St → Prop} {x1 : Int32} {σ : St} (h : Ap (sp_169 x1 σ) Q) : Ex sc CC 1 cd_169 Q 0 [some (.ref 12), some (.int x1)] [] σ := by
  have v : CC 140 [.ref 12, .int x1] σ (fun r7 σ7 => (r7 = 0 → CC 125 [.ref 12, .int 1] σ7 (fun r8 σ8 => Q r8 σ8)) ∧ (¬ r7 = 0 → CC 163 [.ref 12, .int x1] σ7 (fun r9 σ9 => Q r9 σ9))) := cc_140 (n_bn h (fun r7 σ7 h => n_if h (fun h => cc_125 (n_bn h (fun r8 σ8 h => n_rt h))) (fun h => cc_163 (n_bn h (fun r9 σ9 h => n_rt h)))))
  exact wpn_Ex (cuts := []) monCC (fun _ _ _ _ z => z) 10 0 _ _ _ v
-- TradeTestsModel.pointsOf
set_option maxHeartbeats 20000000 in
set_option maxRecDepth 100000 in
theorem hp_175 {sc : Nat × (Nat → Int32)} {Q : Int32 → St → Prop} {x1 : Int32} {σ : St} (h : Ap (sp_175 x1 σ) Q) : Ex sc CC 1 cd_175 Q 0 [some (.ref 12), some (.int x1), none] [] σ := by
  have v : CC 154 [.ref 12, .int x1] σ (fun r159 σ159 => (¬ r159 = 1 → CC 165 [.ref 12, .int x1] σ159 (fun r160 σ160 => (r160 = 0 → CC 166 [.ref 12, .int x1] σ160 (fun r161 σ161 => (r161 = 0 → CC 167 [.ref 12, .int x1] σ161 (fun r162 σ162 => (r162 = 0 → vp_in x1 80 ∧ (((σ162 71 (x1).toNatClampNeg) = 0 → CC 176 [.ref 12, .int x1] σ162 (fun r163 σ163 => CC 160 [.int r163] σ163 (fun r164 σ164 => Q (((((0 : Int32) + 0) + 0) + 0) + ((10 : Int32) * r164)) σ164))) ∧ (¬ (σ162 71 (x1).toNatClampNeg) = 0 → CC 176 [.ref 12, .int x1] σ162 (fun r165 σ165 => CC 160 [.int r165] σ165 (fun r166 σ166 => Q ((0 : Int32) + ((10 : Int32) * r166)) σ166))))) ∧ (¬ r162 = 0 → vp_in x1 80 ∧ (((σ162 71 (x1).toNatClampNeg) = 0 → CC 176 [.ref 12, .int x1] σ162 (fun r167 σ167 => CC 160 [.int r167] σ167 (fun r168 σ168 => Q (((((0 : Int32) + 0) + 0) + 1) + ((10 : Int32) * r168)) σ168))) ∧ (¬ (σ162 71 (x1).toNatClampNeg) = 0 → CC 176 [.ref 12, .int x1] σ162 (fun r169 σ169 => CC 160 [.int r169] σ169 (fun r170 σ170 => Q ((0 : Int32) + ((10 : Int32) * r170)) σ170))))))) ∧ (¬ r161 = 0 → CC 167 [.ref 12, .int x1] σ161 (fun r171 σ171 => (r171 = 0 → vp_in x1 80 ∧ (((σ171 71 (x1).toNatClampNeg) = 0 → CC 176 [.ref 12, .int x1] σ171 (fun r172 σ172 => CC 160 [.int r172] σ172 (fun r173 σ173 => Q (((((0 : Int32) + 0) + 4) + 0) + ((10 : Int32) * r173)) σ173))) ∧ (¬ (σ171 71 (x1).toNatClampNeg) = 0 → CC 176 [.ref 12, .int x1] σ171 (fun r174 σ174 => CC 160 [.int r174] σ174 (fun r175 σ175 => Q ((0 : Int32) + ((10 : Int32) * r175)) σ175))))) ∧ (¬ r171 = 0 → vp_in x1 80 ∧ (((σ171 71 (x1).toNatClampNeg) = 0 → CC 176 [.ref 12, .int x1] σ171 (fun r176 σ176 => CC 160 [.int r176] σ176 (fun r177 σ177 => Q (((((0 : Int32) + 0) + 4) + 1) + ((10 : Int32) * r177)) σ177))) ∧ (¬ (σ171 71 (x1).toNatClampNeg) = 0 → CC 176 [.ref 12, .int x1] σ171 (fun r178 σ178 => CC 160 [.int r178] σ178 (fun r179 σ179 => Q ((0 : Int32) + ((10 : Int32) * r179)) σ179))))))))) ∧ (¬ r160 = 0 → CC 166 [.ref 12, .int x1] σ160 (fun r180 σ180 => (r180 = 0 → CC 167 [.ref 12, .int x1] σ180 (fun r181 σ181 => (r181 = 0 → vp_in x1 80 ∧ (((σ181 71 (x1).toNatClampNeg) = 0 → CC 176 [.ref 12, .int x1] σ181 (fun r182 σ182 => CC 160 [.int r182] σ182 (fun r183 σ183 => Q (((((0 : Int32) + 2) + 0) + 0) + ((10 : Int32) * r183)) σ183))) ∧ (¬ (σ181 71 (x1).toNatClampNeg) = 0 → CC 176 [.ref 12, .int x1] σ181 (fun r184 σ184 => CC 160 [.int r184] σ184 (fun r185 σ185 => Q ((0 : Int32) + ((10 : Int32) * r185)) σ185))))) ∧ (¬ r181 = 0 → vp_in x1 80 ∧ (((σ181 71 (x1).toNatClampNeg) = 0 → CC 176 [.ref 12, .int x1] σ181 (fun r186 σ186 => CC 160 [.int r186] σ186 (fun r187 σ187 => Q (((((0 : Int32) + 2) + 0) + 1) + ((10 : Int32) * r187)) σ187))) ∧ (¬ (σ181 71 (x1).toNatClampNeg) = 0 → CC 176 [.ref 12, .int x1] σ181 (fun r188 σ188 => CC 160 [.int r188] σ188 (fun r189 σ189 => Q ((0 : Int32) + ((10 : Int32) * r189)) σ189))))))) ∧ (¬ r180 = 0 → CC 167 [.ref 12, .int x1] σ180 (fun r190 σ190 => (r190 = 0 → vp_in x1 80 ∧ (((σ190 71 (x1).toNatClampNeg) = 0 → CC 176 [.ref 12, .int x1] σ190 (fun r191 σ191 => CC 160 [.int r191] σ191 (fun r192 σ192 => Q (((((0 : Int32) + 2) + 4) + 0) + ((10 : Int32) * r192)) σ192))) ∧ (¬ (σ190 71 (x1).toNatClampNeg) = 0 → CC 176 [.ref 12, .int x1] σ190 (fun r193 σ193 => CC 160 [.int r193] σ193 (fun r194 σ194 => Q ((0 : Int32) + ((10 : Int32) * r194)) σ194))))) ∧ (¬ r190 = 0 → vp_in x1 80 ∧ (((σ190 71 (x1).toNatClampNeg) = 0 → CC 176 [.ref 12, .int x1] σ190 (fun r195 σ195 => CC 160 [.int r195] σ195 (fun r196 σ196 => Q (((((0 : Int32) + 2) + 4) + 1) + ((10 : Int32) * r196)) σ196))) ∧ (¬ (σ190 71 (x1).toNatClampNeg) = 0 → CC 176 [.ref 12, .int x1] σ190 (fun r197 σ197 => CC 160 [.int r197] σ197 (fun r198 σ198 => Q ((0 : Int32) + ((10 : Int32) * r198)) σ198))))))))))) ∧ (r159 = 1 → CC 165 [.ref 12, .int x1] σ159 (fun r199 σ199 => (r199 = 0 → CC 166 [.ref 12, .int x1] σ199 (fun r200 σ200 => (r200 = 0 → CC 167 [.ref 12, .int x1] σ200 (fun r201 σ201 => (r201 = 0 → vp_in x1 80 ∧ (((σ201 71 (x1).toNatClampNeg) = 0 → CC 176 [.ref 12, .int x1] σ201 (fun r202 σ202 => CC 160 [.int r202] σ202 (fun r203 σ203 => Q (((((6 : Int32) + 0) + 0) + 0) + ((10 : Int32) * r203)) σ203))) ∧ (¬ (σ201 71 (x1).toNatClampNeg) = 0 → CC 176 [.ref 12, .int x1] σ201 (fun r204 σ204 => CC 160 [.int r204] σ204 (fun r205 σ205 => Q ((0 : Int32) + ((10 : Int32) * r205)) σ205))))) ∧ (¬ r201 = 0 → vp_in x1 80 ∧ (((σ201 71 (x1).toNatClampNeg) = 0 → CC 176 [.ref 12, .int x1] σ201 (fun r206 σ206 => CC 160 [.int r206] σ206 (fun r207 σ207 => Q (((((6 : Int32) + 0) + 0) + 1) + ((10 : Int32) * r207)) σ207))) ∧ (¬ (σ201 71 (x1).toNatClampNeg) = 0 → CC 176 [.ref 12, .int x1] σ201 (fun r208 σ208 => CC 160 [.int r208] σ208 (fun r209 σ209 => Q ((0 : Int32) + ((10 : Int32) * r209)) σ209))))))) ∧ (¬ r200 = 0 → CC 167 [.ref 12, .int x1] σ200 (fun r210 σ210 => (r210 = 0 → vp_in x1 80 ∧ (((σ210 71 (x1).toNatClampNeg) = 0 → CC 176 [.ref 12, .int x1] σ210 (fun r211 σ211 => CC 160 [.int r211] σ211 (fun r212 σ212 => Q (((((6 : Int32) + 0) + 4) + 0) + ((10 : Int32) * r212)) σ212))) ∧ (¬ (σ210 71 (x1).toNatClampNeg) = 0 → CC 176 [.ref 12, .int x1] σ210 (fun r213 σ213 => CC 160 [.int r213] σ213 (fun r214 σ214 => Q ((0 : Int32) + ((10 : Int32) * r214)) σ214))))) ∧ (¬ r210 = 0 → vp_in x1 80 ∧ (((σ210 71 (x1).toNatClampNeg) = 0 → CC 176 [.ref 12, .int x1] σ210 (fun r215 σ215 => CC 160 [.int r215] σ215 (fun r216 σ216 => Q (((((6 : Int32) + 0) + 4) + 1) + ((10 : Int32) * r216)) σ216))) ∧ (¬ (σ210 71 (x1).toNatClampNeg) = 0 → CC 176 [.ref 12, .int x1] σ210 (fun r217 σ217 => CC 160 [.int r217] σ217 (fun r218 σ218 => Q ((0 : Int32) + ((10 : Int32) * r218)) σ218))))))))) ∧ (¬ r199 = 0 → CC 166 [.ref 12, .int x1] σ199 (fun r219 σ219 => (r219 = 0 → CC 167 [.ref 12, .int x1] σ219 (fun r220 σ220 => (r220 = 0 → vp_in x1 80 ∧ (((σ220 71 (x1).toNatClampNeg) = 0 → CC 176 [.ref 12, .int x1] σ220 (fun r221 σ221 => CC 160 [.int r221] σ221 (fun r222 σ222 => Q (((((6 : Int32) + 2) + 0) + 0) + ((10 : Int32) * r222)) σ222))) ∧ (¬ (σ220 71 (x1).toNatClampNeg) = 0 → CC 176 [.ref 12, .int x1] σ220 (fun r223 σ223 => CC 160 [.int r223] σ223 (fun r224 σ224 => Q ((0 : Int32) + ((10 : Int32) * r224)) σ224))))) ∧ (¬ r220 = 0 → vp_in x1 80 ∧ (((σ220 71 (x1).toNatClampNeg) = 0 → CC 176 [.ref 12, .int x1] σ220 (fun r225 σ225 => CC 160 [.int r225] σ225 (fun r226 σ226 => Q (((((6 : Int32) + 2) + 0) + 1) + ((10 : Int32) * r226)) σ226))) ∧ (¬ (σ220 71 (x1).toNatClampNeg) = 0 → CC 176 [.ref 12, .int x1] σ220 (fun r227 σ227 => CC 160 [.int r227] σ227 (fun r228 σ228 => Q ((0 : Int32) + ((10 : Int32) * r228)) σ228))))))) ∧ (¬ r219 = 0 → CC 167 [.ref 12, .int x1] σ219 (fun r229 σ229 => (r229 = 0 → vp_in x1 80 ∧ (((σ229 71 (x1).toNatClampNeg) = 0 → CC 176 [.ref 12, .int x1] σ229 (fun r230 σ230 => CC 160 [.int r230] σ230 (fun r231 σ231 => Q (((((6 : Int32) + 2) + 4) + 0) + ((10 : Int32) * r231)) σ231))) ∧ (¬ (σ229 71 (x1).toNatClampNeg) = 0 → CC 176 [.ref 12, .int x1] σ229 (fun r232 σ232 => CC 160 [.int r232] σ232 (fun r233 σ233 => Q ((0 : Int32) + ((10 : Int32) * r233)) σ233))))) ∧ (¬ r229 = 0 → vp_in x1 80 ∧ (((σ229 71 (x1).toNatClampNeg) = 0 → CC 176 [.ref 12, .int x1] σ229 (fun r234 σ234 => CC 160 [.int r234] σ234 (fun r235 σ235 => Q (((((6 : Int32) + 2) + 4) + 1) + ((10 : Int32) * r235)) σ235))) ∧ (¬ (σ229 71 (x1).toNatClampNeg) = 0 → CC 176 [.ref 12, .int x1] σ229 (fun r236 σ236 => CC 160 [.int r236] σ236 (fun r237 σ237 => Q ((0 : Int32) + ((10 : Int32) * r237)) σ237)))))))))))) := cc_154 (n_bn h (fun r159 σ159 h => n_ne h (fun h => cc_165 (n_bn h (fun r199 σ199 h => n_if h (fun h => cc_166 (n_bn h (fun r200 σ200 h => n_if h (fun h => cc_167 (n_bn h (fun r201 σ201 h => n_if h (fun h => n_mb h (fun h => n_if h (fun h => cc_176 (n_bn h (fun r202 σ202 h => cc_160 (n_bn h (fun r203 σ203 h => n_rt h))))) (fun h => cc_176 (n_bn h (fun r204 σ204 h => cc_160 (n_bn h (fun r205 σ205 h => n_rt h))))))) (fun h => n_mb h (fun h => n_if h (fun h => cc_176 (n_bn h (fun r206 σ206 h => cc_160 (n_bn h (fun r207 σ207 h => n_rt h))))) (fun h => cc_176 (n_bn h (fun r208 σ208 h => cc_160 (n_bn h (fun r209 σ209 h => n_rt h)))))))))) (fun h => cc_167 (n_bn h (fun r210 σ210 h => n_if h (fun h => n_mb h (fun h => n_if h (fun h => cc_176 (n_bn h (fun r211 σ211 h => cc_160 (n_bn h (fun r212 σ212 h => n_rt h))))) (fun h => cc_176 (n_bn h (fun r213 σ213 h => cc_160 (n_bn h (fun r214 σ214 h => n_rt h))))))) (fun h => n_mb h (fun h => n_if h (fun h => cc_176 (n_bn h (fun r215 σ215 h => cc_160 (n_bn h (fun r216 σ216 h => n_rt h))))) (fun h => cc_176 (n_bn h (fun r217 σ217 h => cc_160 (n_bn h (fun r218 σ218 h => n_rt h))))))))))))) (fun h => cc_166 (n_bn h (fun r219 σ219 h => n_if h (fun h => cc_167 (n_bn h (fun r220 σ220 h => n_if h (fun h => n_mb h (fun h => n_if h (fun h => cc_176 (n_bn h (fun r221 σ221 h => cc_160 (n_bn h (fun r222 σ222 h => n_rt h))))) (fun h => cc_176 (n_bn h (fun r223 σ223 h => cc_160 (n_bn h (fun r224 σ224 h => n_rt h))))))) (fun h => n_mb h (fun h => n_if h (fun h => cc_176 (n_bn h (fun r225 σ225 h => cc_160 (n_bn h (fun r226 σ226 h => n_rt h))))) (fun h => cc_176 (n_bn h (fun r227 σ227 h => cc_160 (n_bn h (fun r228 σ228 h => n_rt h)))))))))) (fun h => cc_167 (n_bn h (fun r229 σ229 h => n_if h (fun h => n_mb h (fun h => n_if h (fun h => cc_176 (n_bn h (fun r230 σ230 h => cc_160 (n_bn h (fun r231 σ231 h => n_rt h))))) (fun h => cc_176 (n_bn h (fun r232 σ232 h => cc_160 (n_bn h (fun r233 σ233 h => n_rt h))))))) (fun h => n_mb h (fun h => n_if h (fun h => cc_176 (n_bn h (fun r234 σ234 h => cc_160 (n_bn h (fun r235 σ235 h => n_rt h))))) (fun h => cc_176 (n_bn h (fun r236 σ236 h => cc_160 (n_bn h (fun r237 σ237 h => n_rt h)))))))))))))))) (fun h => cc_165 (n_bn h (fun r160 σ160 h => n_if h (fun h => cc_166 (n_bn h (fun r161 σ161 h => n_if h (fun h => cc_167 (n_bn h (fun r162 σ162 h => n_if h (fun h => n_mb h (fun h => n_if h (fun h => cc_176 (n_bn h (fun r163 σ163 h => cc_160 (n_bn h (fun r164 σ164 h => n_rt h))))) (fun h => cc_176 (n_bn h (fun r165 σ165 h => cc_160 (n_bn h (fun r166 σ166 h => n_rt h))))))) (fun h => n_mb h (fun h => n_if h (fun h => cc_176 (n_bn h (fun r167 σ167 h => cc_160 (n_bn h (fun r168 σ168 h => n_rt h))))) (fun h => cc_176 (n_bn h (fun r169 σ169 h => cc_160 (n_bn h (fun r170 σ170 h => n_rt h)))))))))) (fun h => cc_167 (n_bn h (fun r171 σ171 h => n_if h (fun h => n_mb h (fun h => n_if h (fun h => cc_176 (n_bn h (fun r172 σ172 h => cc_160 (n_bn h (fun r173 σ173 h => n_rt h))))) (fun h => cc_176 (n_bn h (fun r174 σ174 h => cc_160 (n_bn h (fun r175 σ175 h => n_rt h))))))) (fun h => n_mb h (fun h => n_if h (fun h => cc_176 (n_bn h (fun r176 σ176 h => cc_160 (n_bn h (fun r177 σ177 h => n_rt h))))) (fun h => cc_176 (n_bn h (fun r178 σ178 h => cc_160 (n_bn h (fun r179 σ179 h => n_rt h))))))))))))) (fun h => cc_166 (n_bn h (fun r180 σ180 h => n_if h (fun h => cc_167 (n_bn h (fun r181 σ181 h => n_if h (fun h => n_mb h (fun h => n_if h (fun h => cc_176 (n_bn h (fun r182 σ182 h => cc_160 (n_bn h (fun r183 σ183 h => n_rt h))))) (fun h => cc_176 (n_bn h (fun r184 σ184 h => cc_160 (n_bn h (fun r185 σ185 h => n_rt h))))))) (fun h => n_mb h (fun h => n_if h (fun h => cc_176 (n_bn h (fun r186 σ186 h => cc_160 (n_bn h (fun r187 σ187 h => n_rt h))))) (fun h => cc_176 (n_bn h (fun r188 σ188 h => cc_160 (n_bn h (fun r189 σ189 h => n_rt h)))))))))) (fun h => cc_167 (n_bn h (fun r190 σ190 h => n_if h (fun h => n_mb h (fun h => n_if h (fun h => cc_176 (n_bn h (fun r191 σ191 h => cc_160 (n_bn h (fun r192 σ192 h => n_rt h))))) (fun h => cc_176 (n_bn h (fun r193 σ193 h => cc_160 (n_bn h (fun r194 σ194 h => n_rt h))))))) (fun h => n_mb h (fun h => n_if h (fun h => cc_176 (n_bn h (fun r195 σ195 h => cc_160 (n_bn h (fun r196 σ196 h => n_rt h))))) (fun h => cc_176 (n_bn h (fun r197 σ197 h => cc_160 (n_bn h (fun r198 σ198 h => n_rt h))))))))))))))))))
  exact wpn_Ex (cuts := []) monCC (fun _ _ _ _ z => z) 45 0 _ _ _ v
-- TradeTestsModel.leansOn
set_option maxHeartbeats 20000000 in
set_option maxRecDepth 100000 in
theorem hl_190_5 {sc : Nat × (Nat → Int32)} {Q : Int32 → St → Prop} : ∀ (n : Nat) (v1 : Int32) (v2 : Int32) (v3 : Int32) (v4 : Int32) (σ : St), Ap (lp_190_5 n v1 v2 v3 v4 σ) Q → Ex sc CC 1 cd_190 Q 5 [some (.ref 12), some (.int v1), some (.int v2), some (.int v3), some (.int v4)] [] σ := by
  intro n
  induction n with
  | zero => intro v1 v2 v3 v4 σ h; exact n_no h
  | succ n ih =>
    intro v1 v2 v3 v4 σ h
    have v : ((σ 12 4) ≤ v4 → (v3 < 0 → Q 0 σ) ∧ (¬ v3 < 0 → CC 154 [.ref 12, .int v3] σ (fun r5 σ5 => (¬ r5 = 1 → Q 0 σ5) ∧ (r5 = 1 → vp_in v3 80 ∧ (CC 129 [.ref 12, .int v1] σ5 (fun r6 σ6 => (((σ5 61 (v3).toNatClampNeg) + r6) < v2 → Q 0 σ6) ∧ (¬ ((σ5 61 (v3).toNatClampNeg) + r6) < v2 → Q 1 σ6))))))) ∧ (¬ (σ 12 4) ≤ v4 → vp_in v4 80 ∧ ((¬ (σ 59 (v4).toNatClampNeg) = v1 → Ex sc CC 1 cd_190 Q 5 [some (.ref 12), some (.int v1), some (.int v2), some (.int v3), some (.int (v4 + 1))] [] σ) ∧ ((σ 59 (v4).toNatClampNeg) = v1 → vp_in v4 80 ∧ ((v2 < (σ 61 (v4).toNatClampNeg) → Ex sc CC 1 cd_190 Q 5 [some (.ref 12), some (.int v1), some (.int v2), some (.int v3), some (.int (v4 + 1))] [] σ) ∧ (¬ v2 < (σ 61 (v4).toNatClampNeg) → Ex sc CC 1 cd_190 Q 5 [some (.ref 12), some (.int v1), some (.int v2), some (.int v4), some (.int (v4 + 1))] [] σ))))) := n_if h (fun h => n_if h (fun h => n_rt h) (fun h => cc_154 (n_bn h (fun r5 σ5 h => n_ne h (fun h => n_mb h (fun h => cc_129 (n_bn h (fun r6 σ6 h => n_if h (fun h => n_rt h) (fun h => n_rt h))))) (fun h => n_rt h))))) (fun h => n_mb h (fun h => n_ne h (fun h => n_mb h (fun h => n_if h (fun h => ih v1 v2 v3 (v4 + 1) σ h) (fun h => ih v1 v2 v4 (v4 + 1) σ h))) (fun h => ih v1 v2 v3 (v4 + 1) σ h)))
    exact stw_Ex (cuts := [5]) monCC 24 v
set_option maxHeartbeats 20000000 in
set_option maxRecDepth 100000 in
theorem hp_190 {sc : Nat × (Nat → Int32)} {Q : Int32 → St → Prop} {x1 x2 : Int32} {σ : St} (h : Ap (sp_190 x1 x2 σ) Q) : Ex sc CC 1 cd_190 Q 0 [some (.ref 12), some (.int x1), some (.int x2), none, none] [] σ := by
  have v : Ex sc CC 1 cd_190 Q 5 [some (.ref 12), some (.int x1), some (.int x2), some (.int (-1)), some (.int 0)] [] σ := hl_190_5 FU x1 x2 (-1) 0 σ h
  exact wpn_Ex (cuts := [5]) monCC (fun _ _ _ _ z => z) 6 0 _ _ _ v
-- TradeTests$Texts.readRows
set_option maxHeartbeats 20000000 in
set_option maxRecDepth 100000 in
theorem hl_31_7 {sc : Nat × (Nat → Int32)} {Q : Int32 → St → Prop} : ∀ (n : Nat) (v1 : Int32) (σ : St), Ap (lp_31_7 n v1 σ) Q → Ex sc CC 2 cd_31 Q 7 [some (.ref 4), some (.int v1)] [] σ := by
  intro n
  induction n with
  | zero => intro v1 σ h; exact n_no h
  | succ n ih =>
    intro v1 σ h
    have v : (60 ≤ v1 → ((1 : Int32) = 0 ∨ (1 : Int32) = 1) ∧ Q 1 σ) ∧ (¬ 60 ≤ v1 → ((σ 4 1) ≤ (σ 4 2) → ((1 : Int32) = 0 ∨ (1 : Int32) = 1) ∧ Q 1 σ) ∧ (¬ (σ 4 1) ≤ (σ 4 2) → CC 32 [.ref 4] σ (fun r3 σ3 => (¬ r3 = 0 → Ex sc CC 2 cd_31 Q 7 [some (.ref 4), some (.int (v1 + 1))] [] σ3) ∧ (r3 = 0 → ((0 : Int32) = 0 ∨ (0 : Int32) = 1) ∧ Q 0 σ3)))) := n_if h (fun h => n_rb h) (fun h => n_if h (fun h => n_rb h) (fun h => cc_32 (n_bn h (fun r3 σ3 h => n_ne h (fun h => n_rb h) (fun h => ih (v1 + 1) σ3 h)))))
    exact stw_Ex (cuts := [7]) monCC 14 v
set_option maxHeartbeats 20000000 in
set_option maxRecDepth 100000 in
theorem hp_31 {sc : Nat × (Nat → Int32)} {Q : Int32 → St → Prop}  {σ : St} (h : Ap (sp_31  σ) Q) : Ex sc CC 2 cd_31 Q 0 [some (.ref 4), none] [] σ := by
  have v : Ex sc CC 2 cd_31 Q 7 [some (.ref 4), some (.int 0)] [] (up σ 4 2 0) := hl_31_7 FU 0 (up σ 4 2 0) h
  exact wpn_Ex (cuts := [7]) monCC (fun _ _ _ _ z => z) 7 0 _ _ _ v
-- TradeTests$Plan.survey
set_option maxHeartbeats 20000000 in
set_option maxRecDepth 100000 in
theorem hl_49_12 {sc : Nat × (Nat → Int32)} {Q : Int32 → St → Prop} : ∀ (n : Nat) (v1 : Int32) (v2 : Int32) (σ : St), Ap (lp_49_12 n v1 v2 σ) Q → Ex sc CC 0 cd_49 Q 12 [some (.ref 11), some (.int v1), some (.int v2)] [] σ := by
  intro n
  induction n with
  | zero => intro v1 v2 σ h; exact n_no h
  | succ n ih =>
    intro v1 v2 σ h
    have v : ((σ 3 14) ≤ v2 → Q 0 σ) ∧ (¬ (σ 3 14) ≤ v2 → CC 24 [.ref 2, .ref 3, .int v2] σ (fun r9 σ9 => (¬ r9 = v1 → Ex sc CC 0 cd_49 Q 12 [some (.ref 11), some (.int v1), some (.int (v2 + 1))] [] σ9) ∧ (r9 = v1 → CC 50 [.ref 6, .int v2] σ9 (fun r10 σ10 => CC 59 [.int r10] σ10 (fun r11 σ11 => CC 60 [.ref 9, .int v2] (up σ11 11 6 ((σ9 11 6) + r11)) (fun r12 σ12 => Ex sc CC 0 cd_49 Q 12 [some (.ref 11), some (.int v1), some (.int (v2 + 1))] [] (up σ12 11 7 ((σ11 11 7) ||| r12)))))))) := n_if h (fun h => n_rt h) (fun h => cc_24 (n_bn h (fun r9 σ9 h => n_ne h (fun h => cc_50 (n_bn h (fun r10 σ10 h => cc_59 (n_bn h (fun r11 σ11 h => cc_60 (n_bn h (fun r12 σ12 h => ih v1 (v2 + 1) (up σ12 11 7 ((σ11 11 7) ||| r12)) h))))))) (fun h => ih v1 (v2 + 1) σ9 h))))
    exact stw_Ex (cuts := [12]) monCC 35 v
set_option maxHeartbeats 20000000 in
set_option maxRecDepth 100000 in
theorem hp_49 {sc : Nat × (Nat → Int32)} {Q : Int32 → St → Prop} {x1 : Int32} {σ : St} (h : Ap (sp_49 x1 σ) Q) : Ex sc CC 0 cd_49 Q 0 [some (.ref 11), some (.int x1), none] [] σ := by
  have v : Ex sc CC 0 cd_49 Q 12 [some (.ref 11), some (.int x1), some (.int 0)] [] (up (up σ 11 6 1) 11 7 0) := hl_49_12 FU x1 0 (up (up σ 11 6 1) 11 7 0) h
  exact wpn_Ex (cuts := [12]) monCC (fun _ _ _ _ z => z) 10 0 _ _ _ v
-- TradeTests$Rates.figure
set_option maxHeartbeats 20000000 in
set_option maxRecDepth 100000 in
theorem hp_62 {sc : Nat × (Nat → Int32)} {Q : Int32 → St → Prop} {x1 x2 : Int32} {σ : St} (h : Ap (sp_62 x1 x2 σ) Q) : Ex sc CC 1 cd_62 Q 0 [some (.ref 7), some (.int x1), some (.int x2)] [] σ := by
  have v : CC 63 [.ref 7] σ (fun r9 σ9 => CC 66 [.ref 7, .int x1] σ9 (fun r10 σ10 => (x2 = 0 → Q (σ10 7 5) σ10) ∧ (¬ x2 = 0 → (x2 = 1 → Q (σ10 7 6) σ10) ∧ (¬ x2 = 1 → (x2 = 2 → Q (σ10 7 7) σ10) ∧ (¬ x2 = 2 → (x2 = 3 → Q (σ10 7 8) σ10) ∧ (¬ x2 = 3 → (x2 = 4 → CC 68 [.ref 7] σ10 (fun r12 σ12 => Q r12 σ12)) ∧ (¬ x2 = 4 → CC 69 [.ref 7] σ10 (fun r11 σ11 => Q r11 σ11)))))))) := cc_63 (n_bn h (fun r9 σ9 h => cc_66 (n_bn h (fun r10 σ10 h => n_if h (fun h => n_rt h) (fun h => n_if h (fun h => n_rt h) (fun h => n_if h (fun h => n_rt h) (fun h => n_if h (fun h => n_rt h) (fun h => n_if h (fun h => cc_68 (n_bn h (fun r12 σ12 h => n_rt h))) (fun h => cc_69 (n_bn h (fun r11 σ11 h => n_rt h)))))))))))
  exact wpn_Ex (cuts := []) monCC (fun _ _ _ _ z => z) 11 0 _ _ _ v
-- TradeTests.share
set_option maxHeartbeats 20000000 in
set_option maxRecDepth 100000 in
theorem hp_71 {sc : Nat × (Nat → Int32)} {Q : Int32 → St → Prop} {x1 x2 : Int32} {σ : St} (h : Ap (sp_71 x1 x2 σ) Q) : Ex sc CC 1 cd_71 Q 0 [some (.ref 0), some (.int x1), some (.int x2), none] [] σ := by
  have v : CC 1 [.int x1, .int 4] σ (fun r13 σ13 => (r13 = 0 → CC 2 [.ref 0, .int 1] σ13 (fun r14 σ14 => Q r14 σ14)) ∧ (¬ r13 = 0 → CC 1 [.int x2, .int 4] σ13 (fun r15 σ15 => (¬ r15 = 0 → CC 72 [.ref 7, .int x1, .int x2] σ15 (fun r16 σ16 => (0 ≤ r16 → Q r16 σ16) ∧ (¬ 0 ≤ r16 → CC 2 [.ref 0, .int 2] σ16 (fun r17 σ17 => Q r17 σ17)))) ∧ (r15 = 0 → CC 2 [.ref 0, .int 1] σ15 (fun r18 σ18 => Q r18 σ18))))) := cc_1 (n_bn h (fun r13 σ13 h => n_if h (fun h => cc_2 (n_bn h (fun r14 σ14 h => n_rt h))) (fun h => cc_1 (n_bn h (fun r15 σ15 h => n_ne h (fun h => cc_2 (n_bn h (fun r18 σ18 h => n_rt h))) (fun h => cc_72 (n_bn h (fun r16 σ16 h => n_if h (fun h => n_rt h) (fun h => cc_2 (n_bn h (fun r17 σ17 h => n_rt h)))))))))))
  exact wpn_Ex (cuts := []) monCC (fun _ _ _ _ z => z) 22 0 _ _ _ v
-- TradeTests.signs
set_option maxHeartbeats 20000000 in
set_option maxRecDepth 100000 in
theorem hp_73 {sc : Nat × (Nat → Int32)} {Q : Int32 → St → Prop} {x1 : Int32} {σ : St} (h : Ap (sp_73 x1 σ) Q) : Ex sc CC 1 cd_73 Q 0 [some (.ref 0), some (.int x1)] [] σ := by
  have v : CC 1 [.int x1, .int (σ 3 14)] σ (fun r7 σ7 => (¬ r7 = 0 → CC 50 [.ref 6, .int x1] σ7 (fun r8 σ8 => Q r8 σ8)) ∧ (r7 = 0 → CC 2 [.ref 0, .int 1] σ7 (fun r9 σ9 => Q r9 σ9))) := cc_1 (n_bn h (fun r7 σ7 h => n_ne h (fun h => cc_2 (n_bn h (fun r9 σ9 h => n_rt h))) (fun h => cc_50 (n_bn h (fun r8 σ8 h => n_rt h)))))
  exact wpn_Ex (cuts := []) monCC (fun _ _ _ _ z => z) 12 0 _ _ _ v
-- TradeTests.points
set_option maxHeartbeats 20000000 in
set_option maxRecDepth 100000 in
theorem hp_84 {sc : Nat × (Nat → Int32)} {Q : Int32 → St → Prop} {x1 : Int32} {σ : St} (h : Ap (sp_84 x1 σ) Q) : Ex sc CC 1 cd_84 Q 0 [some (.ref 0), some (.int x1)] [] σ := by
  have v : CC 1 [.int x1, .int (σ 3 14)] σ (fun r7 σ7 => (¬ r7 = 0 → CC 85 [.ref 10, .int x1] σ7 (fun r8 σ8 => Q r8 σ8)) ∧ (r7 = 0 → CC 2 [.ref 0, .int 1] σ7 (fun r9 σ9 => Q r9 σ9))) := cc_1 (n_bn h (fun r7 σ7 h => n_ne h (fun h => cc_2 (n_bn h (fun r9 σ9 h => n_rt h))) (fun h => cc_85 (n_bn h (fun r8 σ8 h => n_rt h)))))
  exact wpn_Ex (cuts := []) monCC (fun _ _ _ _ z => z) 12 0 _ _ _ v
-- TradeTests$Penalties.fillPoints
set_option maxHeartbeats 20000000 in
set_option maxRecDepth 100000 in
theorem hl_89_2 {sc : Nat × (Nat → Int32)} {Q : Int32 → St → Prop} : ∀ (n : Nat) (v1 : Int32) (v2 : Int32) (σ : St), Ap (lp_89_2 n v1 v2 σ) Q → Ex sc CC 0 cd_89 Q 2 [some (.ref 10), some (.int v1), some (.int v2)] [] σ := by
  intro n
  induction n with
  | zero => intro v1 v2 σ h; exact n_no h
  | succ n ih =>
    intro v1 v2 σ h
    have v : ((σ 3 14) ≤ v2 → Q 0 σ) ∧ (¬ (σ 3 14) ≤ v2 → vp_in v2 80 ∧ ((¬ (σ 25 (v2).toNatClampNeg) = v1 → vp_in v2 80 ∧ (Ex sc CC 0 cd_89 Q 2 [some (.ref 10), some (.int v1), some (.int (v2 + 1))] [] (up σ 47 (v2).toNatClampNeg 0))) ∧ ((σ 25 (v2).toNatClampNeg) = v1 → CC 85 [.ref 10, .int v2] σ (fun r3 σ3 => vp_in v2 80 ∧ (Ex sc CC 0 cd_89 Q 2 [some (.ref 10), some (.int v1), some (.int (v2 + 1))] [] (up σ3 47 (v2).toNatClampNeg r3)))))) := n_if h (fun h => n_rt h) (fun h => n_mb h (fun h => n_ne h (fun h => cc_85 (n_bn h (fun r3 σ3 h => n_mb h (fun h => ih v1 (v2 + 1) (up σ3 47 (v2).toNatClampNeg r3) h)))) (fun h => n_mb h (fun h => ih v1 (v2 + 1) (up σ 47 (v2).toNatClampNeg 0) h))))
    exact stw_Ex (cuts := [2]) monCC 23 v
set_option maxHeartbeats 20000000 in
set_option maxRecDepth 100000 in
theorem hp_89 {sc : Nat × (Nat → Int32)} {Q : Int32 → St → Prop} {x1 : Int32} {σ : St} (h : Ap (sp_89 x1 σ) Q) : Ex sc CC 0 cd_89 Q 0 [some (.ref 10), some (.int x1), none] [] σ := by
  have v : Ex sc CC 0 cd_89 Q 2 [some (.ref 10), some (.int x1), some (.int 0)] [] σ := hl_89_2 FU x1 0 σ h
  exact wpn_Ex (cuts := [2]) monCC (fun _ _ _ _ z => z) 4 0 _ _ _ v
-- TradeTests.leans
set_option maxHeartbeats 20000000 in
set_option maxRecDepth 100000 in
theorem hl_115_59 {sc : Nat × (Nat → Int32)} {Q : Int32 → St → Prop} : ∀ (n : Nat) (v1 : Int32) (v2 : Int32) (v3 : Int32) (v4 : Int32) (σ : St), Ap (lp_115_59 n v1 v2 v3 v4 σ) Q → Ex sc CC 1 cd_115 Q 59 [some (.ref 0), some (.int v1), some (.int v2), some (.int v3), some (.int v4)] [] σ := by
  intro n
  induction n with
  | zero => intro v1 v2 v3 v4 σ h; exact n_no h
  | succ n ih =>
    intro v1 v2 v3 v4 σ h
    have v : ((σ 1 3) ≤ v4 → Q v3 σ) ∧ (¬ (σ 1 3) ≤ v4 → CC 116 [.ref 5, .int v4, .int v2] σ (fun r13 σ13 => (r13 = 0 → Ex sc CC 1 cd_115 Q 59 [some (.ref 0), some (.int v1), some (.int v2), some (.int v3), some (.int (v4 + 1))] [] σ13) ∧ (¬ r13 = 0 → Ex sc CC 1 cd_115 Q 59 [some (.ref 0), some (.int v1), some (.int v2), some (.int (v3 + 1)), some (.int (v4 + 1))] [] σ13))) := n_if h (fun h => n_rt h) (fun h => cc_116 (n_bn h (fun r13 σ13 h => n_if h (fun h => ih v1 v2 v3 (v4 + 1) σ13 h) (fun h => ih v1 v2 (v3 + 1) (v4 + 1) σ13 h))))
    exact stw_Ex (cuts := [59]) monCC 15 v
set_option maxHeartbeats 20000000 in
set_option maxRecDepth 100000 in
theorem hp_115 {sc : Nat × (Nat → Int32)} {Q : Int32 → St → Prop} {x1 x2 : Int32} {σ : St} (h : Ap (sp_115 x1 x2 σ) Q) : Ex sc CC 1 cd_115 Q 0 [some (.ref 0), some (.int x1), some (.int x2), none, none] [] σ := by
  have v : (x1 < (-1) → CC 2 [.ref 0, .int 1] σ (fun r14 σ14 => Q r14 σ14)) ∧ (¬ x1 < (-1) → ((σ 1 3) ≤ x1 → CC 2 [.ref 0, .int 1] σ (fun r15 σ15 => Q r15 σ15)) ∧ (¬ (σ 1 3) ≤ x1 → CC 1 [.int x2, .int 10000] σ (fun r16 σ16 => (¬ r16 = 0 → (x1 < 0 → Ex sc CC 1 cd_115 Q 59 [some (.ref 0), some (.int x1), some (.int x2), some (.int 0), some (.int 0)] [] σ16) ∧ (¬ x1 < 0 → CC 116 [.ref 5, .int x1, .int x2] σ16 (fun r17 σ17 => (r17 = 0 → Q 0 σ17) ∧ (¬ r17 = 0 → Q 1 σ17)))) ∧ (r16 = 0 → CC 2 [.ref 0, .int 1] σ16 (fun r18 σ18 => Q r18 σ18))))) := n_if h (fun h => cc_2 (n_bn h (fun r14 σ14 h => n_rt h))) (fun h => n_if h (fun h => cc_2 (n_bn h (fun r15 σ15 h => n_rt h))) (fun h => cc_1 (n_bn h (fun r16 σ16 h => n_ne h (fun h => cc_2 (n_bn h (fun r18 σ18 h => n_rt h))) (fun h => n_if h (fun h => hl_115_59 FU x1 x2 0 0 σ16 h) (fun h => cc_116 (n_bn h (fun r17 σ17 h => n_if h (fun h => n_rt h) (fun h => n_rt h)))))))))
  exact wpn_Ex (cuts := [59]) monCC (fun _ _ _ _ z => z) 24 0 _ _ _ v
-- TradeTests$Signals.testsWithSigns
set_option maxHeartbeats 20000000 in
set_option maxRecDepth 100000 in
theorem hl_120_4 {sc : Nat × (Nat → Int32)} {Q : Int32 → St → Prop} : ∀ (n : Nat) (v1 : Int32) (v2 : Int32) (σ : St), Ap (lp_120_4 n v1 v2 σ) Q → Ex sc CC 1 cd_120 Q 4 [some (.ref 6), some (.int v1), some (.int v2)] [] σ := by
  intro n
  induction n with
  | zero => intro v1 v2 σ h; exact n_no h
  | succ n ih =>
    intro v1 v2 σ h
    have v : ((σ 3 14) ≤ v2 → Q v1 σ) ∧ (¬ (σ 3 14) ≤ v2 → CC 50 [.ref 6, .int v2] σ (fun r3 σ3 => (r3 = 0 → Ex sc CC 1 cd_120 Q 4 [some (.ref 6), some (.int v1), some (.int (v2 + 1))] [] σ3) ∧ (¬ r3 = 0 → Ex sc CC 1 cd_120 Q 4 [some (.ref 6), some (.int (v1 + 1)), some (.int (v2 + 1))] [] σ3))) := n_if h (fun h => n_rt h) (fun h => cc_50 (n_bn h (fun r3 σ3 h => n_if h (fun h => ih v1 (v2 + 1) σ3 h) (fun h => ih (v1 + 1) (v2 + 1) σ3 h))))
    exact stw_Ex (cuts := [4]) monCC 13 v
set_option maxHeartbeats 20000000 in
set_option maxRecDepth 100000 in
theorem hp_120 {sc : Nat × (Nat → Int32)} {Q : Int32 → St → Prop}  {σ : St} (h : Ap (sp_120  σ) Q) : Ex sc CC 1 cd_120 Q 0 [some (.ref 6), none, none] [] σ := by
  have v : Ex sc CC 1 cd_120 Q 4 [some (.ref 6), some (.int 0), some (.int 0)] [] σ := hl_120_4 FU 0 0 σ h
  exact wpn_Ex (cuts := [4]) monCC (fun _ _ _ _ z => z) 6 0 _ _ _ v
-- TradeTestsModel.riskOf
set_option maxHeartbeats 20000000 in
set_option maxRecDepth 100000 in
theorem hl_161_4 {sc : Nat × (Nat → Int32)} {Q : Int32 → St → Prop} : ∀ (n : Nat) (v1 : Int32) (v2 : Int32) (v3 : Int32) (σ : St), Ap (lp_161_4 n v1 v2 v3 σ) Q → Ex sc CC 1 cd_161 Q 4 [some (.ref 12), some (.int v1), some (.int v2), some (.int v3)] [] σ := by
  intro n
  induction n with
  | zero => intro v1 v2 v3 σ h; exact n_no h
  | succ n ih =>
    intro v1 v2 v3 σ h
    have v : ((σ 12 4) ≤ v3 → Q v2 σ) ∧ (¬ (σ 12 4) ≤ v3 → CC 141 [.ref 12, .int v3] σ (fun r7 σ7 => (¬ r7 = v1 → Ex sc CC 1 cd_161 Q 4 [some (.ref 12), some (.int v1), some (.int (v2 + 0)), some (.int (v3 + 1))] [] σ7) ∧ (r7 = v1 → CC 162 [.ref 12, .int v3] σ7 (fun r8 σ8 => CC 160 [.int r8] σ8 (fun r9 σ9 => Ex sc CC 1 cd_161 Q 4 [some (.ref 12), some (.int v1), some (.int (v2 + r9)), some (.int (v3 + 1))] [] σ9))))) := n_if h (fun h => n_rt h) (fun h => cc_141 (n_bn h (fun r7 σ7 h => n_ne h (fun h => cc_162 (n_bn h (fun r8 σ8 h => cc_160 (n_bn h (fun r9 σ9 h => ih v1 (v2 + r9) (v3 + 1) σ9 h))))) (fun h => ih v1 (v2 + 0) (v3 + 1) σ7 h))))
    exact stw_Ex (cuts := [4]) monCC 20 v
set_option maxHeartbeats 20000000 in
set_option maxRecDepth 100000 in
theorem hp_161 {sc : Nat × (Nat → Int32)} {Q : Int32 → St → Prop} {x1 : Int32} {σ : St} (h : Ap (sp_161 x1 σ) Q) : Ex sc CC 1 cd_161 Q 0 [some (.ref 12), some (.int x1), none, none] [] σ := by
  have v : Ex sc CC 1 cd_161 Q 4 [some (.ref 12), some (.int x1), some (.int 1), some (.int 0)] [] σ := hl_161_4 FU x1 1 0 σ h
  exact wpn_Ex (cuts := [4]) monCC (fun _ _ _ _ z => z) 6 0 _ _ _ v
-- TradeTestsModel.signs
set_option maxHeartbeats 20000000 in
set_option maxRecDepth 100000 in
theorem hp_168 {sc : Nat × (Nat → Int32)} {Q : Int32 → St → Prop} {x1 : Int32} {σ : St} (h : Ap (sp_168 x1 σ) Q) : Ex sc CC 1 cd_168 Q 0 [some (.ref 12), some (.int x1)] [] σ := by
  have v : CC 140 [.ref 12, .int x1] σ (fun r7 σ7 => (r7 = 0 → CC 125 [.ref 12, .int 1] σ7 (fun r8 σ8 => Q r8 σ8)) ∧ (¬ r7 = 0 → CC 162 [.ref 12, .int x1] σ7 (fun r9 σ9 => Q r9 σ9))) := cc_140 (n_bn h (fun r7 σ7 h => n_if h (fun h => cc_125 (n_bn h (fun r8 σ8 h => n_rt h))) (fun h => cc_162 (n_bn h (fun r9 σ9 h => n_rt h)))))
  exact wpn_Ex (cuts := []) monCC (fun _ _ _ _ z => z) 10 0 _ _ _ v
-- TradeTestsModel.points
set_option maxHeartbeats 20000000 in
set_option maxRecDepth 100000 in
theorem hp_174 {sc : Nat × (Nat → Int32)} {Q : Int32 → St → Prop} {x1 : Int32} {σ : St} (h : Ap (sp_174 x1 σ) Q) : Ex sc CC 1 cd_174 Q 0 [some (.ref 12), some (.int x1)] [] σ := by
  have v : CC 140 [.ref 12, .int x1] σ (fun r7 σ7 => (r7 = 0 → CC 125 [.ref 12, .int 1] σ7 (fun r8 σ8 => Q r8 σ8)) ∧ (¬ r7 = 0 → CC 175 [.ref 12, .int x1] σ7 (fun r9 σ9 => Q r9 σ9))) := cc_140 (n_bn h (fun r7 σ7 h => n_if h (fun h => cc_125 (n_bn h (fun r8 σ8 h => n_rt h))) (fun h => cc_175 (n_bn h (fun r9 σ9 h => n_rt h)))))
  exact wpn_Ex (cuts := []) monCC (fun _ _ _ _ z => z) 10 0 _ _ _ v
-- TradeTestsModel.findPoints
set_option maxHeartbeats 20000000 in
set_option maxRecDepth 100000 in
theorem hl_178_2 {sc : Nat × (Nat → Int32)} {Q : Int32 → St → Prop} : ∀ (n : Nat) (v1 : Int32) (σ : St), Ap (lp_178_2 n v1 σ) Q → Ex sc CC 0 cd_178 Q 2 [some (.ref 12), some (.int v1)] [] σ := by
  intro n
  induction n with
  | zero => intro v1 σ h; exact n_no h
  | succ n ih =>
    intro v1 σ h
    have v : ((σ 12 4) ≤ v1 → Q 0 σ) ∧ (¬ (σ 12 4) ≤ v1 → CC 175 [.ref 12, .int v1] σ (fun r3 σ3 => vp_in v1 80 ∧ (Ex sc CC 0 cd_178 Q 2 [some (.ref 12), some (.int (v1 + 1))] [] (up σ3 81 (v1).toNatClampNeg r3)))) := n_if h (fun h => n_rt h) (fun h => cc_175 (n_bn h (fun r3 σ3 h => n_mb h (fun h => ih (v1 + 1) (up σ3 81 (v1).toNatClampNeg r3) h))))
    exact stw_Ex (cuts := [2]) monCC 14 v
set_option maxHeartbeats 20000000 in
set_option maxRecDepth 100000 in
theorem hp_178 {sc : Nat × (Nat → Int32)} {Q : Int32 → St → Prop}  {σ : St} (h : Ap (sp_178  σ) Q) : Ex sc CC 0 cd_178 Q 0 [some (.ref 12), none] [] σ := by
  have v : Ex sc CC 0 cd_178 Q 2 [some (.ref 12), some (.int 0)] [] σ := hl_178_2 FU 0 σ h
  exact wpn_Ex (cuts := [2]) monCC (fun _ _ _ _ z => z) 4 0 _ _ _ v
-- TradeTestsModel.leans
set_option maxHeartbeats 20000000 in
set_option maxRecDepth 100000 in
theorem hl_189_43 {sc : Nat × (Nat → Int32)} {Q : Int32 → St → Prop} : ∀ (n : Nat) (v1 : Int32) (v2 : Int32) (v3 : Int32) (v4 : Int32) (σ : St), Ap (lp_189_43 n v1 v2 v3 v4 σ) Q → Ex sc CC 1 cd_189 Q 43 [some (.ref 12), some (.int v1), some (.int v2), some (.int v3), some (.int v4)] [] σ := by
  intro n
  induction n with
  | zero => intro v1 v2 v3 v4 σ h; exact n_no h
  | succ n ih =>
    intro v1 v2 v3 v4 σ h
    have v : ((σ 12 0) ≤ v4 → Q v3 σ) ∧ (¬ (σ 12 0) ≤ v4 → CC 190 [.ref 12, .int v4, .int v2] σ (fun r13 σ13 => Ex sc CC 1 cd_189 Q 43 [some (.ref 12), some (.int v1), some (.int v2), some (.int (v3 + r13)), some (.int (v4 + 1))] [] σ13)) := n_if h (fun h => n_rt h) (fun h => cc_190 (n_bn h (fun r13 σ13 h => ih v1 v2 (v3 + r13) (v4 + 1) σ13 h)))
    exact stw_Ex (cuts := [43]) monCC 14 v
set_option maxHeartbeats 20000000 in
set_option maxRecDepth 100000 in
theorem hp_189 {sc : Nat × (Nat → Int32)} {Q : Int32 → St → Prop} {x1 x2 : Int32} {σ : St} (h : Ap (sp_189 x1 x2 σ) Q) : Ex sc CC 1 cd_189 Q 0 [some (.ref 12), some (.int x1), some (.int x2), none, none] [] σ := by
  have v : CC 123 [.int x1, .int (-1), .int ((σ 12 0) - 1)] σ (fun r14 σ14 => (r14 = 0 → CC 125 [.ref 12, .int 1] σ14 (fun r15 σ15 => Q r15 σ15)) ∧ (¬ r14 = 0 → CC 124 [.int x2] σ14 (fun r16 σ16 => (¬ r16 = 0 → (x1 < 0 → Ex sc CC 1 cd_189 Q 43 [some (.ref 12), some (.int x1), some (.int x2), some (.int 0), some (.int 0)] [] σ16) ∧ (¬ x1 < 0 → CC 190 [.ref 12, .int x1, .int x2] σ16 (fun r17 σ17 => Q r17 σ17))) ∧ (r16 = 0 → CC 125 [.ref 12, .int 1] σ16 (fun r18 σ18 => Q r18 σ18))))) := cc_123 (n_bn h (fun r14 σ14 h => n_if h (fun h => cc_125 (n_bn h (fun r15 σ15 h => n_rt h))) (fun h => cc_124 (n_bn h (fun r16 σ16 h => n_ne h (fun h => cc_125 (n_bn h (fun r18 σ18 h => n_rt h))) (fun h => n_if h (fun h => hl_189_43 FU x1 x2 0 0 σ16 h) (fun h => cc_190 (n_bn h (fun r17 σ17 h => n_rt h)))))))))
  exact wpn_Ex (cuts := [43]) monCC (fun _ _ _ _ z => z) 19 0 _ _ _ v
-- TradeTestsModel.count
set_option maxHeartbeats 20000000 in
set_option maxRecDepth 100000 in
theorem hl_193_112 {sc : Nat × (Nat → Int32)} {Q : Int32 → St → Prop} : ∀ (n : Nat) (v1 : Int32) (v2 : Int32) (v3 : Int32) (σ : St), Ap (lp_193_112 n v1 v2 v3 σ) Q → Ex sc CC 1 cd_193 Q 112 [some (.ref 12), some (.int v1), some (.int v2), some (.int v3)] [] σ := by
  intro n
  induction n with
  | zero => intro v1 v2 v3 σ h; exact n_no h
  | succ n ih =>
    intro v1 v2 v3 σ h
    have v : ((σ 12 4) ≤ v3 → Q v2 σ) ∧ (¬ (σ 12 4) ≤ v3 → CC 162 [.ref 12, .int v3] σ (fun r5 σ5 => (r5 ≤ 0 → Ex sc CC 1 cd_193 Q 112 [some (.ref 12), some (.int v1), some (.int (v2 + 0)), some (.int (v3 + 1))] [] σ5) ∧ (¬ r5 ≤ 0 → Ex sc CC 1 cd_193 Q 112 [some (.ref 12), some (.int v1), some (.int (v2 + 1)), some (.int (v3 + 1))] [] σ5))) := n_if h (fun h => n_rt h) (fun h => cc_162 (n_bn h (fun r5 σ5 h => n_if h (fun h => ih v1 (v2 + 0) (v3 + 1) σ5 h) (fun h => ih v1 (v2 + 1) (v3 + 1) σ5 h))))
    exact stw_Ex (cuts := [112]) monCC 16 v
set_option maxHeartbeats 20000000 in
set_option maxRecDepth 100000 in
theorem hp_193 {sc : Nat × (Nat → Int32)} {Q : Int32 → St → Prop} {x1 : Int32} {σ : St} (h : Ap (sp_193 x1 σ) Q) : Ex sc CC 1 cd_193 Q 0 [some (.ref 12), some (.int x1), none, none] [] σ := by
  have v : (x1 = 0 → Q (σ 12 0) σ) ∧ (¬ x1 = 0 → (x1 = 1 → Q (σ 12 1) σ) ∧ (¬ x1 = 1 → (x1 = 2 → Q (σ 12 2) σ) ∧ (¬ x1 = 2 → (x1 = 3 → Q (σ 12 4) σ) ∧ (¬ x1 = 3 → (x1 = 4 → Q (σ 12 5) σ) ∧ (¬ x1 = 4 → (x1 = 5 → Q (σ 12 6) σ) ∧ (¬ x1 = 5 → (x1 = 6 → Q (σ 12 7) σ) ∧ (¬ x1 = 6 → (x1 = 7 → Q (σ 12 8) σ) ∧ (¬ x1 = 7 → (x1 = 8 → Q (σ 12 9) σ) ∧ (¬ x1 = 8 → (x1 = 9 → Q (σ 12 10) σ) ∧ (¬ x1 = 9 → (x1 = 10 → Ex sc CC 1 cd_193 Q 112 [some (.ref 12), some (.int x1), some (.int 0), some (.int 0)] [] σ) ∧ (¬ x1 = 10 → CC 125 [.ref 12, .int 1] σ (fun r6 σ6 => Q r6 σ6)))))))))))) := n_if h (fun h => n_rt h) (fun h => n_if h (fun h => n_rt h) (fun h => n_if h (fun h => n_rt h) (fun h => n_if h (fun h => n_rt h) (fun h => n_if h (fun h => n_rt h) (fun h => n_if h (fun h => n_rt h) (fun h => n_if h (fun h => n_rt h) (fun h => n_if h (fun h => n_rt h) (fun h => n_if h (fun h => n_rt h) (fun h => n_if h (fun h => n_rt h) (fun h => n_if h (fun h => hl_193_112 FU x1 0 0 σ h) (fun h => cc_125 (n_bn h (fun r6 σ6 h => n_rt h)))))))))))))
  exact wpn_Ex (cuts := [112]) monCC (fun _ _ _ _ z => z) 9 0 _ _ _ v
-- TradeTests$Texts.takeTape
set_option maxHeartbeats 20000000 in
set_option maxRecDepth 100000 in
theorem hp_29 {sc : Nat × (Nat → Int32)} {Q : Int32 → St → Prop} {x1 : Int32} {σ : St} (h : Ap (sp_29 x1 σ) Q) : Ex sc CC 1 cd_29 Q 0 [some (.ref 4), some (.int x1), none] [] σ := by
  have v : CC 30 [.ref 4] σ (fun r5 σ5 => CC 31 [.ref 4] σ5 (fun r6 σ6 => (¬ r6 = 0 → vp_in (σ6 4 7) 6 ∧ (Q (-1) (up (up (up σ6 4 1 0) 39 (σ6 4 7).toNatClampNeg x1) 4 7 ((σ6 4 7) + 1)))) ∧ (r6 = 0 → Q (σ6 4 2) (up σ6 4 1 0)))) := cc_30 (n_bn h (fun r5 σ5 h => cc_31 (n_bn h (fun r6 σ6 h => n_ne h (fun h => n_rt h) (fun h => n_mb h (fun h => n_rt h))))))
  exact wpn_Ex (cuts := []) monCC (fun _ _ _ _ z => z) 25 0 _ _ _ v
-- TradeTests$Plan.riskOf
set_option maxHeartbeats 20000000 in
set_option maxRecDepth 100000 in
theorem hp_48 {sc : Nat × (Nat → Int32)} {Q : Int32 → St → Prop} {x1 : Int32} {σ : St} (h : Ap (sp_48 x1 σ) Q) : Ex sc CC 1 cd_48 Q 0 [some (.ref 11), some (.int x1)] [] σ := by
  have v : CC 49 [.ref 11, .int x1] σ (fun r3 σ3 => Q (σ3 11 6) σ3) := cc_49 (n_bn h (fun r3 σ3 h => n_rt h))
  exact wpn_Ex (cuts := []) monCC (fun _ _ _ _ z => z) 7 0 _ _ _ v
-- TradeTests$Penalties.ofTester
set_option maxHeartbeats 20000000 in
set_option maxRecDepth 100000 in
theorem hp_88 {sc : Nat × (Nat → Int32)} {Q : Int32 → St → Prop} {x1 x2 : Int32} {σ : St} (h : Ap (sp_88 x1 x2 σ) Q) : Ex sc CC 1 cd_88 Q 0 [some (.ref 10), some (.int x1), some (.int x2)] [] σ := by
  have v : CC 89 [.ref 10, .int x1] σ (fun r5 σ5 => CC 90 [.ref 10, .int x2] σ5 (fun r6 σ6 => Q r6 σ6)) := cc_89 (n_bn h (fun r5 σ5 h => cc_90 (n_bn h (fun r6 σ6 h => n_rt h))))
  exact wpn_Ex (cuts := []) monCC (fun _ _ _ _ z => z) 8 0 _ _ _ v
end
section
/-! the code does what the functions say (written by wip/whole/gen/spec.py) -/
-- TradeTests$Penalties.isBanned
set_option maxHeartbeats 20000000 in
set_option maxRecDepth 100000 in
theorem hl_92_35 {sc : Nat × (Nat → Int32)} {Q : Int32 → St → Prop} : ∀ (n : Nat) (v1 : Int32) (v2 : Int32) (v3 : Int32) (v4 : Int32) (σ : St), Ap (lp_92_35 n v1 v2 v3 v4 σ) Q → Ex sc CC 2 cd_92 Q 35 [some (.ref 10), some (.int v1), some (.int v2), some (.int v3), some (.int v4), none] [] σ := by
  intro n
  induction n with
  | zero => intro v1 v2 v3 v4 σ h; exact n_no h
  | succ n ih =>
    intro v1 v2 v3 v4 σ h
    have v : ((σ 3 14) ≤ v4 → ((0 : Int32) = 0 ∨ (0 : Int32) = 1) ∧ Q 0 σ) ∧ (¬ (σ 3 14) ≤ v4 → vp_in v4 80 ∧ (((σ 26 (v4).toNatClampNeg) ≤ v3 → ((0 : Int32) = 0 → Ex sc CC 2 cd_92 Q 35 [some (.ref 10), some (.int v1), some (.int v2), some (.int v3), some (.int (v4 + 1)), some (.int 0)] [] σ) ∧ (¬ (0 : Int32) = 0 → vp_in v4 80 ∧ (((σ 47 (v4).toNatClampNeg) ≤ 0 → Ex sc CC 2 cd_92 Q 35 [some (.ref 10), some (.int v1), some (.int v2), some (.int v3), some (.int (v4 + 1)), some (.int 0)] [] σ) ∧ (¬ (σ 47 (v4).toNatClampNeg) ≤ 0 → vp_in v4 80 ∧ (CC 90 [.ref 10, .int (σ 26 (v4).toNatClampNeg)] σ (fun r11 σ11 => vp_in 2 3 ∧ ((r11 < (σ11 46 (2 : Int32).toNatClampNeg) → Ex sc CC 2 cd_92 Q 35 [some (.ref 10), some (.int v1), some (.int v2), some (.int v3), some (.int (v4 + 1)), some (.int 0)] [] σ11) ∧ (¬ r11 < (σ11 46 (2 : Int32).toNatClampNeg) → ((1 : Int32) = 0 ∨ (1 : Int32) = 1) ∧ Q 1 σ11)))))))) ∧ (¬ (σ 26 (v4).toNatClampNeg) ≤ v3 → vp_in v4 80 ∧ ((v2 < (σ 26 (v4).toNatClampNeg) → ((0 : Int32) = 0 → Ex sc CC 2 cd_92 Q 35 [some (.ref 10), some (.int v1), some (.int v2), some (.int v3), some (.int (v4 + 1)), some (.int 0)] [] σ) ∧ (¬ (0 : Int32) = 0 → vp_in v4 80 ∧ (((σ 47 (v4).toNatClampNeg) ≤ 0 → Ex sc CC 2 cd_92 Q 35 [some (.ref 10), some (.int v1), some (.int v2), some (.int v3), some (.int (v4 + 1)), some (.int 0)] [] σ) ∧ (¬ (σ 47 (v4).toNatClampNeg) ≤ 0 → vp_in v4 80 ∧ (CC 90 [.ref 10, .int (σ 26 (v4).toNatClampNeg)] σ (fun r12 σ12 => vp_in 2 3 ∧ ((r12 < (σ12 46 (2 : Int32).toNatClampNeg) → Ex sc CC 2 cd_92 Q 35 [some (.ref 10), some (.int v1), some (.int v2), some (.int v3), some (.int (v4 + 1)), some (.int 0)] [] σ12) ∧ (¬ r12 < (σ12 46 (2 : Int32).toNatClampNeg) → ((1 : Int32) = 0 ∨ (1 : Int32) = 1) ∧ Q 1 σ12)))))))) ∧ (¬ v2 < (σ 26 (v4).toNatClampNeg) → ((1 : Int32) = 0 → Ex sc CC 2 cd_92 Q 35 [some (.ref 10), some (.int v1), some (.int v2), some (.int v3), some (.int (v4 + 1)), some (.int 1)] [] σ) ∧ (¬ (1 : Int32) = 0 → vp_in v4 80 ∧ (((σ 47 (v4).toNatClampNeg) ≤ 0 → Ex sc CC 2 cd_92 Q 35 [some (.ref 10), some (.int v1), some (.int v2), some (.int v3), some (.int (v4 + 1)), some (.int 1)] [] σ) ∧ (¬ (σ 47 (v4).toNatClampNeg) ≤ 0 → vp_in v4 80 ∧ (CC 90 [.ref 10, .int (σ 26 (v4).toNatClampNeg)] σ (fun r13 σ13 => vp_in 2 3 ∧ ((r13 < (σ13 46 (2 : Int32).toNatClampNeg) → Ex sc CC 2 cd_92 Q 35 [some (.ref 10), some (.int v1), some (.int v2), some (.int v3), some (.int (v4 + 1)), some (.int 1)] [] σ13) ∧ (¬ r13 < (σ13 46 (2 : Int32).toNatClampNeg) → ((1 : Int32) = 0 ∨ (1 : Int32) = 1) ∧ Q 1 σ13)))))))))))) := n_if h (fun h => n_rb h) (fun h => n_mb h (fun h => n_if h (fun h => n_if h (fun h => Ex_fg [true, true, true, true, true, false] (ih v1 v2 v3 (v4 + 1) σ h)) (fun h => n_mb h (fun h => n_if h (fun h => Ex_fg [true, true, true, true, true, false] (ih v1 v2 v3 (v4 + 1) σ h)) (fun h => n_mb h (fun h => cc_90 (n_bn h (fun r11 σ11 h => n_mb h (fun h => n_if h (fun h => Ex_fg [true, true, true, true, true, false] (ih v1 v2 v3 (v4 + 1) σ11 h)) (fun h => n_rb h))))))))) (fun h => n_mb h (fun h => n_if h (fun h => n_if h (fun h => Ex_fg [true, true, true, true, true, false] (ih v1 v2 v3 (v4 + 1) σ h)) (fun h => n_mb h (fun h => n_if h (fun h => Ex_fg [true, true, true, true, true, false] (ih v1 v2 v3 (v4 + 1) σ h)) (fun h => n_mb h (fun h => cc_90 (n_bn h (fun r12 σ12 h => n_mb h (fun h => n_if h (fun h => Ex_fg [true, true, true, true, true, false] (ih v1 v2 v3 (v4 + 1) σ12 h)) (fun h => n_rb h))))))))) (fun h => n_if h (fun h => Ex_fg [true, true, true, true, true, false] (ih v1 v2 v3 (v4 + 1) σ h)) (fun h => n_mb h (fun h => n_if h (fun h => Ex_fg [true, true, true, true, true, false] (ih v1 v2 v3 (v4 + 1) σ h)) (fun h => n_mb h (fun h => cc_90 (n_bn h (fun r13 σ13 h => n_mb h (fun h => n_if h (fun h => Ex_fg [true, true, true, true, true, false] (ih v1 v2 v3 (v4 + 1) σ13 h)) (fun h => n_rb h)))))))))))))
    exact stw_Ex (cuts := [35]) monCC 44 v
set_option maxHeartbeats 20000000 in
set_option maxRecDepth 100000 in
theorem hp_92 {sc : Nat × (Nat → Int32)} {Q : Int32 → St → Prop} {x1 x2 : Int32} {σ : St} (h : Ap (sp_92 x1 x2 σ) Q) : Ex sc CC 2 cd_92 Q 0 [some (.ref 10), some (.int x1), some (.int x2), none, none, none] [] σ := by
  have v : CC 89 [.ref 10, .int x1] σ (fun r14 σ14 => vp_in 1 3 ∧ (CC 90 [.ref 10, .int ((x2 - (σ14 46 (1 : Int32).toNatClampNeg)) + 1)] σ14 (fun r15 σ15 => vp_in 2 3 ∧ ((r15 < (σ15 46 (2 : Int32).toNatClampNeg) → Ex sc CC 2 cd_92 Q 35 [some (.ref 10), some (.int x1), some (.int x2), some (.int ((x2 - (σ14 46 (1 : Int32).toNatClampNeg)) + 1)), some (.int 0), none] [] σ15) ∧ (¬ r15 < (σ15 46 (2 : Int32).toNatClampNeg) → ((1 : Int32) = 0 ∨ (1 : Int32) = 1) ∧ Q 1 σ15))))) := cc_89 (n_bn h (fun r14 σ14 h => n_mb h (fun h => cc_90 (n_bn h (fun r15 σ15 h => n_mb h (fun h => n_if h (fun h => hl_92_35 FU x1 x2 ((x2 - (σ14 46 (1 : Int32).toNatClampNeg)) + 1) 0 σ15 h) (fun h => n_rb h)))))))
  exact wpn_Ex (cuts := [35]) monCC (fun _ _ _ _ z => z) 24 0 _ _ _ v
-- TradeTests$Plan.worthOf
set_option maxHeartbeats 20000000 in
set_option maxRecDepth 100000 in
theorem hp_98 {sc : Nat × (Nat → Int32)} {Q : Int32 → St → Prop} {x1 x2 : Int32} {σ : St} (h : Ap (sp_98 x1 x2 σ) Q) : Ex sc CC 1 cd_98 Q 0 [some (.ref 11), some (.int x1), some (.int x2)] [] σ := by
  have v : CC 49 [.ref 11, .int x2] σ (fun r5 σ5 => CC 99 [.ref 11, .int x1] σ5 (fun r6 σ6 => Q ((σ5 11 6) * r6) σ6)) := cc_49 (n_bn h (fun r5 σ5 h => cc_99 (n_bn h (fun r6 σ6 h => n_rt h))))
  exact wpn_Ex (cuts := []) monCC (fun _ _ _ _ z => z) 11 0 _ _ _ v
-- TradeTests$Plan.fillWorths
set_option maxHeartbeats 20000000 in
set_option maxRecDepth 100000 in
theorem hl_101_20 {sc : Nat × (Nat → Int32)} {Q : Int32 → St → Prop} (ko : Int32 → St → MR) (hko : ∀ (v1 : Int32) (σ : St), Ap (ko v1 σ) Q → Ex sc CC 0 cd_101 Q 2 [some (.ref 11), some (.int v1), none] [] σ) : ∀ (n : Nat) (v1 : Int32) (v2 : Int32) (σ : St), Ap (lp_101_20 ko n v1 v2 σ) Q → Ex sc CC 0 cd_101 Q 20 [some (.ref 11), some (.int v1), some (.int v2)] [] σ := by
  intro n
  induction n with
  | zero => intro v1 v2 σ h; exact n_no h
  | succ n ih =>
    intro v1 v2 σ h
    have v : ((σ 9 3) ≤ v2 → Ex sc CC 0 cd_101 Q 2 [some (.ref 11), some (.int (v1 + 1)), some (.int v2)] [] σ) ∧ (¬ (σ 9 3) ≤ v2 → CC 99 [.ref 11, .int v2] σ (fun r5 σ5 => vp_in ((v2 * 6) + v1) 36 ∧ (Ex sc CC 0 cd_101 Q 20 [some (.ref 11), some (.int v1), some (.int (v2 + 1))] [] (up σ5 48 ((v2 * 6) + v1).toNatClampNeg ((σ 11 6) * r5))))) := n_if h (fun h => Ex_fg [true, true, false] (hko (v1 + 1) σ h)) (fun h => cc_99 (n_bn h (fun r5 σ5 h => n_mb h (fun h => ih v1 (v2 + 1) (up σ5 48 ((v2 * 6) + v1).toNatClampNeg ((σ 11 6) * r5)) h))))
    exact stw_Ex (cuts := [2, 20]) monCC 22 v
set_option maxHeartbeats 20000000 in
set_option maxRecDepth 100000 in
theorem hl_101_2 {sc : Nat × (Nat → Int32)} {Q : Int32 → St → Prop} : ∀ (n : Nat) (v1 : Int32) (σ : St), Ap (lp_101_2 n v1 σ) Q → Ex sc CC 0 cd_101 Q 2 [some (.ref 11), some (.int v1), none] [] σ := by
  intro n
  induction n with
  | zero => intro v1 σ h; exact n_no h
  | succ n ih =>
    intro v1 σ h
    have v : ((σ 2 2) ≤ v1 → Q 0 σ) ∧ (¬ (σ 2 2) ≤ v1 → CC 49 [.ref 11, .int v1] σ (fun r6 σ6 => Ex sc CC 0 cd_101 Q 20 [some (.ref 11), some (.int v1), some (.int 0)] [] σ6)) := n_if h (fun h => n_rt h) (fun h => cc_49 (n_bn h (fun r6 σ6 h => hl_101_20 (fun v1 σ => lp_101_2 n v1 σ) ih FU v1 0 σ6 h)))
    exact stw_Ex (cuts := [2, 20]) monCC 11 v
set_option maxHeartbeats 20000000 in
set_option maxRecDepth 100000 in
theorem hp_101 {sc : Nat × (Nat → Int32)} {Q : Int32 → St → Prop}  {σ : St} (h : Ap (sp_101  σ) Q) : Ex sc CC 0 cd_101 Q 0 [some (.ref 11), none, none] [] σ := by
  have v : Ex sc CC 0 cd_101 Q 2 [some (.ref 11), some (.int 0), none] [] σ := hl_101_2 FU 0 σ h
  exact wpn_Ex (cuts := [2, 20]) monCC (fun _ _ _ _ z => z) 4 0 _ _ _ v
-- TradeTests.count
set_option maxHeartbeats 20000000 in
set_option maxRecDepth 100000 in
theorem hp_119 {sc : Nat × (Nat → Int32)} {Q : Int32 → St → Prop} {x1 : Int32} {σ : St} (h : Ap (sp_119 x1 σ) Q) : Ex sc CC 1 cd_119 Q 0 [some (.ref 0), some (.int x1)] [] σ := by
  have v : (x1 = 0 → Q (σ 1 3) σ) ∧ (¬ x1 = 0 → (x1 = 1 → Q (σ 2 2) σ) ∧ (¬ x1 = 1 → (x1 = 2 → Q (σ 2 4) σ) ∧ (¬ x1 = 2 → (x1 = 3 → Q (σ 3 14) σ) ∧ (¬ x1 = 3 → (x1 = 4 → Q (σ 4 7) σ) ∧ (¬ x1 = 4 → (x1 = 5 → Q (σ 9 3) σ) ∧ (¬ x1 = 5 → (x1 = 6 → Q (σ 9 4) σ) ∧ (¬ x1 = 6 → (x1 = 7 → Q (σ 3 15) σ) ∧ (¬ x1 = 7 → (x1 = 8 → Q (σ 4 1) σ) ∧ (¬ x1 = 8 → (x1 = 9 → Q (σ 0 12) σ) ∧ (¬ x1 = 9 → (x1 = 10 → CC 120 [.ref 6] σ (fun r6 σ6 => Q r6 σ6)) ∧ (¬ x1 = 10 → CC 2 [.ref 0, .int 1] σ (fun r5 σ5 => Q r5 σ5)))))))))))) := n_if h (fun h => n_rt h) (fun h => n_if h (fun h => n_rt h) (fun h => n_if h (fun h => n_rt h) (fun h => n_if h (fun h => n_rt h) (fun h => n_if h (fun h => n_rt h) (fun h => n_if h (fun h => n_rt h) (fun h => n_if h (fun h => n_rt h) (fun h => n_if h (fun h => n_rt h) (fun h => n_if h (fun h => n_rt h) (fun h => n_if h (fun h => n_rt h) (fun h => n_if h (fun h => cc_120 (n_bn h (fun r6 σ6 h => n_rt h))) (fun h => cc_2 (n_bn h (fun r5 σ5 h => n_rt h)))))))))))))
  exact wpn_Ex (cuts := []) monCC (fun _ _ _ _ z => z) 7 0 _ _ _ v
-- TradeTestsModel.rate
set_option maxHeartbeats 20000000 in
set_option maxRecDepth 100000 in
theorem hl_158_38 {sc : Nat × (Nat → Int32)} {Q : Int32 → St → Prop} : ∀ (n : Nat) (v1 : Int32) (v2 : Int32) (v3 : Int32) (v4 : Int32) (v5 : Int32) (v6 : Int32) (v7 : Int32) (σ : St), Ap (lp_158_38 n v1 v2 v3 v4 v5 v6 v7 σ) Q → Ex sc CC 1 cd_158 Q 38 [some (.ref 12), some (.int v1), some (.int v2), some (.int v3), some (.int v4), some (.int v5), some (.int v6), some (.int v7), none] [] σ := by
  intro n
  induction n with
  | zero => intro v1 v2 v3 v4 v5 v6 v7 σ h; exact n_no h
  | succ n ih =>
    intro v1 v2 v3 v4 v5 v6 v7 σ h
    have v : ((σ 12 4) ≤ v7 → (v2 = 0 → Q v3 σ) ∧ (¬ v2 = 0 → (v2 = 1 → Q v4 σ) ∧ (¬ v2 = 1 → (v2 = 2 → Q v5 σ) ∧ (¬ v2 = 2 → (v2 = 3 → Q v6 σ) ∧ (¬ v2 = 3 → (v2 = 4 → Q ((((Int32.toInt64 1000) * v4.toInt64) - v5.toInt64).toInt32) σ) ∧ (¬ v2 = 4 → (v2 = 5 → CC 159 [.ref 12] σ (fun r20 σ20 => (0 < (lg_cmp ((((Int32.toInt64 1000) * v4.toInt64) - v5.toInt64) * (((Int32.toInt64 1000) * v4.toInt64) - v5.toInt64)) (v6.toInt64 * (((4 : Int32) + r20).toInt64))) → ((lg_cmp (((Int32.toInt64 1000) * v4.toInt64) - v5.toInt64) (Int32.toInt64 0)) ≤ 0 → Q 2 σ20) ∧ (¬ (lg_cmp (((Int32.toInt64 1000) * v4.toInt64) - v5.toInt64) (Int32.toInt64 0)) ≤ 0 → Q 1 σ20)) ∧ (¬ 0 < (lg_cmp ((((Int32.toInt64 1000) * v4.toInt64) - v5.toInt64) * (((Int32.toInt64 1000) * v4.toInt64) - v5.toInt64)) (v6.toInt64 * (((4 : Int32) + r20).toInt64))) → Q 0 σ20))) ∧ (¬ v2 = 5 → CC 161 [.ref 12, .int v1] σ (fun r19 σ19 => Q r19 σ19)))))))) ∧ (¬ (σ 12 4) ≤ v7 → CC 141 [.ref 12, .int v7] σ (fun r21 σ21 => (r21 = v1 → CC 157 [.ref 12, .int v7] σ21 (fun r22 σ22 => CC 156 [.ref 12, .int r22] σ22 (fun r23 σ23 => vp_in v7 80 ∧ (((σ23 70 (v7).toNatClampNeg) = 0 → Ex sc CC 1 cd_158 Q 38 [some (.ref 12), some (.int v1), some (.int v2), some (.int (v3 + 1)), some (.int (v4 + 0)), some (.int (v5 + r23)), some (.int (v6 + (r23 * ((1000 : Int32) - r23)))), some (.int (v7 + 1)), some (.int r23)] [] σ23) ∧ (¬ (σ23 70 (v7).toNatClampNeg) = 0 → Ex sc CC 1 cd_158 Q 38 [some (.ref 12), some (.int v1), some (.int v2), some (.int (v3 + 1)), some (.int (v4 + 1)), some (.int (v5 + r23)), some (.int (v6 + (r23 * ((1000 : Int32) - r23)))), some (.int (v7 + 1)), some (.int r23)] [] σ23))))) ∧ (¬ r21 = v1 → Ex sc CC 1 cd_158 Q 38 [some (.ref 12), some (.int v1), some (.int v2), some (.int v3), some (.int v4), some (.int v5), some (.int v6), some (.int (v7 + 1)), none] [] σ21))) := n_if h (fun h => n_if h (fun h => n_rt h) (fun h => n_if h (fun h => n_rt h) (fun h => n_if h (fun h => n_rt h) (fun h => n_if h (fun h => n_rt h) (fun h => n_if h (fun h => n_rt h) (fun h => n_if h (fun h => cc_159 (n_bn h (fun r20 σ20 h => n_if h (fun h => n_if h (fun h => n_rt h) (fun h => n_rt h)) (fun h => n_rt h)))) (fun h => cc_161 (n_bn h (fun r19 σ19 h => n_rt h))))))))) (fun h => cc_141 (n_bn h (fun r21 σ21 h => n_if h (fun h => cc_157 (n_bn h (fun r22 σ22 h => cc_156 (n_bn h (fun r23 σ23 h => n_mb h (fun h => n_if h (fun h => Ex_fg [true, true, true, true, true, true, true, true, false] (ih v1 v2 (v3 + 1) (v4 + 0) (v5 + r23) (v6 + (r23 * ((1000 : Int32) - r23))) (v7 + 1) σ23 h)) (fun h => Ex_fg [true, true, true, true, true, true, true, true, false] (ih v1 v2 (v3 + 1) (v4 + 1) (v5 + r23) (v6 + (r23 * ((1000 : Int32) - r23))) (v7 + 1) σ23 h)))))))) (fun h => ih v1 v2 v3 v4 v5 v6 (v7 + 1) σ21 h))))
    exact stw_Ex (cuts := [38]) monCC 41 v
set_option maxHeartbeats 20000000 in
set_option maxRecDepth 100000 in
theorem hp_158 {sc : Nat × (Nat → Int32)} {Q : Int32 → St → Prop} {x1 x2 : Int32} {σ : St} (h : Ap (sp_158 x1 x2 σ) Q) : Ex sc CC 1 cd_158 Q 0 [some (.ref 12), some (.int x1), some (.int x2), none, none, none, none, none, none] [] σ := by
  have v : CC 132 [.ref 12, .int x1] σ (fun r24 σ24 => (r24 = 0 → CC 125 [.ref 12, .int 1] σ24 (fun r25 σ25 => Q r25 σ25)) ∧ (¬ r24 = 0 → CC 123 [.int x2, .int 0, .int 6] σ24 (fun r26 σ26 => (¬ r26 = 0 → Ex sc CC 1 cd_158 Q 38 [some (.ref 12), some (.int x1), some (.int x2), some (.int 0), some (.int 0), some (.int 0), some (.int 0), some (.int 0), none] [] σ26) ∧ (r26 = 0 → CC 125 [.ref 12, .int 1] σ26 (fun r27 σ27 => Q r27 σ27))))) := cc_132 (n_bn h (fun r24 σ24 h => n_if h (fun h => cc_125 (n_bn h (fun r25 σ25 h => n_rt h))) (fun h => cc_123 (n_bn h (fun r26 σ26 h => n_ne h (fun h => cc_125 (n_bn h (fun r27 σ27 h => n_rt h))) (fun h => hl_158_38 FU x1 x2 0 0 0 0 0 σ26 h))))))
  exact wpn_Ex (cuts := [38]) monCC (fun _ _ _ _ z => z) 21 0 _ _ _ v
-- TradeTestsModel.sum
set_option maxHeartbeats 20000000 in
set_option maxRecDepth 100000 in
theorem hp_177 {sc : Nat × (Nat → Int32)} {Q : Int32 → St → Prop} {x1 x2 : Int32} {σ : St} (h : Ap (sp_177 x1 x2 σ) Q) : Ex sc CC 1 cd_177 Q 0 [some (.ref 12), some (.int x1), some (.int x2)] [] σ := by
  have v : CC 134 [.ref 12, .int x1] σ (fun r13 σ13 => (r13 = 0 → CC 125 [.ref 12, .int 1] σ13 (fun r14 σ14 => Q r14 σ14)) ∧ (¬ r13 = 0 → CC 124 [.int x2] σ13 (fun r15 σ15 => (¬ r15 = 0 → CC 178 [.ref 12] σ15 (fun r16 σ16 => CC 179 [.ref 12, .int x1, .int x2] σ16 (fun r17 σ17 => Q r17 σ17))) ∧ (r15 = 0 → CC 125 [.ref 12, .int 1] σ15 (fun r18 σ18 => Q r18 σ18))))) := cc_134 (n_bn h (fun r13 σ13 h => n_if h (fun h => cc_125 (n_bn h (fun r14 σ14 h => n_rt h))) (fun h => cc_124 (n_bn h (fun r15 σ15 h => n_ne h (fun h => cc_125 (n_bn h (fun r18 σ18 h => n_rt h))) (fun h => cc_178 (n_bn h (fun r16 σ16 h => cc_179 (n_bn h (fun r17 σ17 h => n_rt h))))))))))
  exact wpn_Ex (cuts := []) monCC (fun _ _ _ _ z => z) 15 0 _ _ _ v
-- TradeTestsModel.banned
set_option maxHeartbeats 20000000 in
set_option maxRecDepth 100000 in
theorem hl_180_27 {sc : Nat × (Nat → Int32)} {Q : Int32 → St → Prop} : ∀ (n : Nat) (v1 : Int32) (v2 : Int32) (v3 : Int32) (σ : St), Ap (lp_180_27 n v1 v2 v3 σ) Q → Ex sc CC 1 cd_180 Q 27 [some (.ref 12), some (.int v1), some (.int v2), some (.int v3)] [] σ := by
  intro n
  induction n with
  | zero => intro v1 v2 v3 σ h; exact n_no h
  | succ n ih =>
    intro v1 v2 v3 σ h
    have v : (v3 ≤ (v2 - (σ 12 12)) → Q 0 σ) ∧ (¬ v3 ≤ (v2 - (σ 12 12)) → (v3 < 0 → Q 0 σ) ∧ (¬ v3 < 0 → CC 179 [.ref 12, .int v1, .int v3] σ (fun r13 σ13 => (r13 < (σ13 12 13) → Ex sc CC 1 cd_180 Q 27 [some (.ref 12), some (.int v1), some (.int v2), some (.int (v3 + (-1)))] [] σ13) ∧ (¬ r13 < (σ13 12 13) → Q 1 σ13)))) := n_if h (fun h => n_rt h) (fun h => n_if h (fun h => n_rt h) (fun h => cc_179 (n_bn h (fun r13 σ13 h => n_if h (fun h => ih v1 v2 (v3 + (-1)) σ13 h) (fun h => n_rt h)))))
    exact stw_Ex (cuts := [27]) monCC 18 v
set_option maxHeartbeats 20000000 in
set_option maxRecDepth 100000 in
theorem hp_180 {sc : Nat × (Nat → Int32)} {Q : Int32 → St → Prop} {x1 x2 : Int32} {σ : St} (h : Ap (sp_180 x1 x2 σ) Q) : Ex sc CC 1 cd_180 Q 0 [some (.ref 12), some (.int x1), some (.int x2), none] [] σ := by
  have v : CC 134 [.ref 12, .int x1] σ (fun r14 σ14 => (r14 = 0 → CC 125 [.ref 12, .int 1] σ14 (fun r15 σ15 => Q r15 σ15)) ∧ (¬ r14 = 0 → CC 124 [.int x2] σ14 (fun r16 σ16 => (¬ r16 = 0 → CC 178 [.ref 12] σ16 (fun r17 σ17 => Ex sc CC 1 cd_180 Q 27 [some (.ref 12), some (.int x1), some (.int x2), some (.int x2)] [] σ17)) ∧ (r16 = 0 → CC 125 [.ref 12, .int 1] σ16 (fun r18 σ18 => Q r18 σ18))))) := cc_134 (n_bn h (fun r14 σ14 h => n_if h (fun h => cc_125 (n_bn h (fun r15 σ15 h => n_rt h))) (fun h => cc_124 (n_bn h (fun r16 σ16 h => n_ne h (fun h => cc_125 (n_bn h (fun r18 σ18 h => n_rt h))) (fun h => cc_178 (n_bn h (fun r17 σ17 h => hl_180_27 FU x1 x2 x2 σ17 h))))))))
  exact wpn_Ex (cuts := [27]) monCC (fun _ _ _ _ z => z) 13 0 _ _ _ v
-- TradeTestsModel.worthOf
set_option maxHeartbeats 20000000 in
set_option maxRecDepth 100000 in
theorem hl_184_5 {sc : Nat × (Nat → Int32)} {Q : Int32 → St → Prop} : ∀ (n : Nat) (v1 : Int32) (v2 : Int32) (v3 : Int32) (v4 : Int32) (σ : St), Ap (lp_184_5 n v1 v2 v3 v4 σ) Q → Ex sc CC 1 cd_184 Q 5 [some (.ref 12), some (.int v1), some (.int v2), some (.int v3), some (.int v4)] [] σ := by
  intro n
  induction n with
  | zero => intro v1 v2 v3 v4 σ h; exact n_no h
  | succ n ih =>
    intro v1 v2 v3 v4 σ h
    have v : ((σ 12 4) ≤ v4 → CC 161 [.ref 12, .int v2] σ (fun r7 σ7 => vp_in v1 6 ∧ (CC 160 [.int ((σ7 77 (v1).toNatClampNeg) &&& (v3 ^^^ (-1)))] σ7 (fun r8 σ8 => Q (r7 * r8) σ8)))) ∧ (¬ (σ 12 4) ≤ v4 → vp_in v4 80 ∧ (((σ 68 (v4).toNatClampNeg) < 0 → Ex sc CC 1 cd_184 Q 5 [some (.ref 12), some (.int v1), some (.int v2), some (.int (v3 ||| 0)), some (.int (v4 + 1))] [] σ) ∧ (¬ (σ 68 (v4).toNatClampNeg) < 0 → CC 141 [.ref 12, .int v4] σ (fun r9 σ9 => (¬ r9 = v2 → Ex sc CC 1 cd_184 Q 5 [some (.ref 12), some (.int v1), some (.int v2), some (.int (v3 ||| 0)), some (.int (v4 + 1))] [] σ9) ∧ (r9 = v2 → vp_in v4 80 ∧ (vp_in (σ9 68 (v4).toNatClampNeg) 6 ∧ (Ex sc CC 1 cd_184 Q 5 [some (.ref 12), some (.int v1), some (.int v2), some (.int (v3 ||| (σ9 77 (σ9 68 (v4).toNatClampNeg).toNatClampNeg))), some (.int (v4 + 1))] [] σ9))))))) := n_if h (fun h => cc_161 (n_bn h (fun r7 σ7 h => n_mb h (fun h => cc_160 (n_bn h (fun r8 σ8 h => n_rt h)))))) (fun h => n_mb h (fun h => n_if h (fun h => ih v1 v2 (v3 ||| 0) (v4 + 1) σ h) (fun h => cc_141 (n_bn h (fun r9 σ9 h => n_ne h (fun h => n_mb h (fun h => n_mb h (fun h => ih v1 v2 (v3 ||| (σ9 77 (σ9 68 (v4).toNatClampNeg).toNatClampNeg)) (v4 + 1) σ9 h))) (fun h => ih v1 v2 (v3 ||| 0) (v4 + 1) σ9 h))))))
    exact stw_Ex (cuts := [5]) monCC 28 v
set_option maxHeartbeats 20000000 in
set_option maxRecDepth 100000 in
theorem hp_184 {sc : Nat × (Nat → Int32)} {Q : Int32 → St → Prop} {x1 x2 : Int32} {σ : St} (h : Ap (sp_184 x1 x2 σ) Q) : Ex sc CC 1 cd_184 Q 0 [some (.ref 12), some (.int x1), some (.int x2), none, none] [] σ := by
  have v : Ex sc CC 1 cd_184 Q 5 [some (.ref 12), some (.int x1), some (.int x2), some (.int 0), some (.int 0)] [] σ := hl_184_5 FU x1 x2 0 0 σ h
  exact wpn_Ex (cuts := [5]) monCC (fun _ _ _ _ z => z) 6 0 _ _ _ v
-- TradeTestsModel.check
set_option maxHeartbeats 20000000 in
set_option maxRecDepth 100000 in
theorem hl_192_29 {sc : Nat × (Nat → Int32)} {Q : Int32 → St → Prop} : ∀ (n : Nat) (v1 : Int32) (v2 : Int32) (v3 : Int32) (σ : St), Ap (lp_192_29 n v1 v2 v3 σ) Q → Ex sc CC 1 cd_192 Q 29 [some (.ref 12), some (.int v1), some (.int v2), some (.int v3)] [] σ := by
  intro n
  induction n with
  | zero => intro v1 v2 v3 σ h; exact n_no h
  | succ n ih =>
    intro v1 v2 v3 σ h
    have v : (v2 ≤ v3 → Q 0 σ) ∧ (¬ v2 ≤ v3 → ((σ 12 2) ≤ v3 → Q ((1 : Int32) + v3) σ) ∧ (¬ (σ 12 2) ≤ v3 → CC 179 [.ref 12, .int v3, .int v1] σ (fun r9 σ9 => vp_in v3 8 ∧ ((r9 = (σ9 79 (v3).toNatClampNeg) → Ex sc CC 1 cd_192 Q 29 [some (.ref 12), some (.int v1), some (.int v2), some (.int (v3 + 1))] [] σ9) ∧ (¬ r9 = (σ9 79 (v3).toNatClampNeg) → Q ((1 : Int32) + v3) σ9))))) := n_if h (fun h => n_rt h) (fun h => n_if h (fun h => n_rt h) (fun h => cc_179 (n_bn h (fun r9 σ9 h => n_mb h (fun h => n_if h (fun h => ih v1 v2 (v3 + 1) σ9 h) (fun h => n_rt h))))))
    exact stw_Ex (cuts := [29]) monCC 20 v
set_option maxHeartbeats 20000000 in
set_option maxRecDepth 100000 in
theorem hp_192 {sc : Nat × (Nat → Int32)} {Q : Int32 → St → Prop} {x1 : Int32} {σ : St} (h : Ap (sp_192 x1 σ) Q) : Ex sc CC 1 cd_192 Q 0 [some (.ref 12), some (.int x1), none, none] [] σ := by
  have v : CC 124 [.int x1] (up σ 12 10 0) (fun r10 σ10 => (¬ r10 = 0 → CC 178 [.ref 12] σ10 (fun r11 σ11 => Ex sc CC 1 cd_192 Q 29 [some (.ref 12), some (.int x1), some (.int (σ 12 10)), some (.int 0)] [] σ11)) ∧ (r10 = 0 → CC 125 [.ref 12, .int 1] σ10 (fun r12 σ12 => Q r12 σ12))) := cc_124 (n_bn h (fun r10 σ10 h => n_ne h (fun h => cc_125 (n_bn h (fun r12 σ12 h => n_rt h))) (fun h => cc_178 (n_bn h (fun r11 σ11 h => hl_192_29 FU x1 (σ 12 10) 0 σ11 h)))))
  exact wpn_Ex (cuts := [29]) monCC (fun _ _ _ _ z => z) 15 0 _ _ _ v
-- TradeTests.text
set_option maxHeartbeats 20000000 in
set_option maxRecDepth 100000 in
theorem hp_28 {sc : Nat × (Nat → Int32)} {Q : Int32 → St → Prop} {x1 : Int32} {σ : St} (h : Ap (sp_28 x1 σ) Q) : Ex sc CC 1 cd_28 Q 0 [some (.ref 0), some (.int x1), none] [] σ := by
  have v : CC 1 [.int x1, .int 10000] σ (fun r9 σ9 => (¬ r9 = 0 → ((σ9 4 7) < 6 → CC 29 [.ref 4, .int x1] σ9 (fun r10 σ10 => (0 ≤ r10 → Q ((-10 : Int32) - r10) σ10) ∧ (¬ 0 ≤ r10 → Q (σ10 4 7) σ10))) ∧ (¬ (σ9 4 7) < 6 → CC 2 [.ref 0, .int 4] σ9 (fun r11 σ11 => Q r11 σ11))) ∧ (r9 = 0 → CC 2 [.ref 0, .int 1] σ9 (fun r12 σ12 => Q r12 σ12))) := cc_1 (n_bn h (fun r9 σ9 h => n_ne h (fun h => cc_2 (n_bn h (fun r12 σ12 h => n_rt h))) (fun h => n_if h (fun h => cc_29 (n_bn h (fun r10 σ10 h => n_if h (fun h => n_rt h) (fun h => n_rt h)))) (fun h => cc_2 (n_bn h (fun r11 σ11 h => n_rt h))))))
  exact wpn_Ex (cuts := []) monCC (fun _ _ _ _ z => z) 22 0 _ _ _ v
-- TradeTests.rate
set_option maxHeartbeats 20000000 in
set_option maxRecDepth 100000 in
theorem hp_47 {sc : Nat × (Nat → Int32)} {Q : Int32 → St → Prop} {x1 x2 : Int32} {σ : St} (h : Ap (sp_47 x1 x2 σ) Q) : Ex sc CC 1 cd_47 Q 0 [some (.ref 0), some (.int x1), some (.int x2)] [] σ := by
  have v : CC 1 [.int x1, .int (σ 2 2)] σ (fun r13 σ13 => (r13 = 0 → CC 2 [.ref 0, .int 1] σ13 (fun r14 σ14 => Q r14 σ14)) ∧ (¬ r13 = 0 → CC 1 [.int x2, .int 7] σ13 (fun r15 σ15 => (¬ r15 = 0 → (¬ x2 = 6 → CC 62 [.ref 7, .int x1, .int x2] σ15 (fun r16 σ16 => Q r16 σ16)) ∧ (x2 = 6 → CC 48 [.ref 11, .int x1] σ15 (fun r17 σ17 => Q r17 σ17))) ∧ (r15 = 0 → CC 2 [.ref 0, .int 1] σ15 (fun r18 σ18 => Q r18 σ18))))) := cc_1 (n_bn h (fun r13 σ13 h => n_if h (fun h => cc_2 (n_bn h (fun r14 σ14 h => n_rt h))) (fun h => cc_1 (n_bn h (fun r15 σ15 h => n_ne h (fun h => cc_2 (n_bn h (fun r18 σ18 h => n_rt h))) (fun h => n_ne h (fun h => cc_48 (n_bn h (fun r17 σ17 h => n_rt h))) (fun h => cc_62 (n_bn h (fun r16 σ16 h => n_rt h)))))))))
  exact wpn_Ex (cuts := []) monCC (fun _ _ _ _ z => z) 20 0 _ _ _ v
-- TradeTests.sum
set_option maxHeartbeats 20000000 in
set_option maxRecDepth 100000 in
theorem hp_87 {sc : Nat × (Nat → Int32)} {Q : Int32 → St → Prop} {x1 x2 : Int32} {σ : St} (h : Ap (sp_87 x1 x2 σ) Q) : Ex sc CC 1 cd_87 Q 0 [some (.ref 0), some (.int x1), some (.int x2)] [] σ := by
  have v : CC 1 [.int x1, .int (σ 2 4)] σ (fun r11 σ11 => (r11 = 0 → CC 2 [.ref 0, .int 1] σ11 (fun r12 σ12 => Q r12 σ12)) ∧ (¬ r11 = 0 → CC 1 [.int x2, .int 10000] σ11 (fun r13 σ13 => (¬ r13 = 0 → CC 88 [.ref 10, .int x1, .int x2] σ13 (fun r14 σ14 => Q r14 σ14)) ∧ (r13 = 0 → CC 2 [.ref 0, .int 1] σ13 (fun r15 σ15 => Q r15 σ15))))) := cc_1 (n_bn h (fun r11 σ11 h => n_if h (fun h => cc_2 (n_bn h (fun r12 σ12 h => n_rt h))) (fun h => cc_1 (n_bn h (fun r13 σ13 h => n_ne h (fun h => cc_2 (n_bn h (fun r15 σ15 h => n_rt h))) (fun h => cc_88 (n_bn h (fun r14 σ14 h => n_rt h))))))))
  exact wpn_Ex (cuts := []) monCC (fun _ _ _ _ z => z) 17 0 _ _ _ v
-- TradeTests.banned
set_option maxHeartbeats 20000000 in
set_option maxRecDepth 100000 in
theorem hp_91 {sc : Nat × (Nat → Int32)} {Q : Int32 → St → Prop} {x1 x2 : Int32} {σ : St} (h : Ap (sp_91 x1 x2 σ) Q) : Ex sc CC 1 cd_91 Q 0 [some (.ref 0), some (.int x1), some (.int x2)] [] σ := by
  have v : CC 1 [.int x1, .int (σ 2 4)] σ (fun r11 σ11 => (r11 = 0 → CC 2 [.ref 0, .int 1] σ11 (fun r12 σ12 => Q r12 σ12)) ∧ (¬ r11 = 0 → CC 1 [.int x2, .int 10000] σ11 (fun r13 σ13 => (¬ r13 = 0 → CC 92 [.ref 10, .int x1, .int x2] σ13 (fun r14 σ14 => (r14 = 0 → Q 0 σ14) ∧ (¬ r14 = 0 → Q 1 σ14))) ∧ (r13 = 0 → CC 2 [.ref 0, .int 1] σ13 (fun r15 σ15 => Q r15 σ15))))) := cc_1 (n_bn h (fun r11 σ11 h => n_if h (fun h => cc_2 (n_bn h (fun r12 σ12 h => n_rt h))) (fun h => cc_1 (n_bn h (fun r13 σ13 h => n_ne h (fun h => cc_2 (n_bn h (fun r15 σ15 h => n_rt h))) (fun h => cc_92 (n_bn h (fun r14 σ14 h => n_if h (fun h => n_rt h) (fun h => n_rt h)))))))))
  exact wpn_Ex (cuts := []) monCC (fun _ _ _ _ z => z) 20 0 _ _ _ v
-- TradeTests.worth
set_option maxHeartbeats 20000000 in
set_option maxRecDepth 100000 in
theorem hp_97 {sc : Nat × (Nat → Int32)} {Q : Int32 → St → Prop} {x1 x2 : Int32} {σ : St} (h : Ap (sp_97 x1 x2 σ) Q) : Ex sc CC 1 cd_97 Q 0 [some (.ref 0), some (.int x1), some (.int x2)] [] σ := by
  have v : CC 1 [.int x1, .int (σ 9 3)] σ (fun r11 σ11 => (r11 = 0 → CC 2 [.ref 0, .int 1] σ11 (fun r12 σ12 => Q r12 σ12)) ∧ (¬ r11 = 0 → CC 1 [.int x2, .int (σ11 2 2)] σ11 (fun r13 σ13 => (¬ r13 = 0 → CC 98 [.ref 11, .int x1, .int x2] σ13 (fun r14 σ14 => Q r14 σ14)) ∧ (r13 = 0 → CC 2 [.ref 0, .int 1] σ13 (fun r15 σ15 => Q r15 σ15))))) := cc_1 (n_bn h (fun r11 σ11 h => n_if h (fun h => cc_2 (n_bn h (fun r12 σ12 h => n_rt h))) (fun h => cc_1 (n_bn h (fun r13 σ13 h => n_ne h (fun h => cc_2 (n_bn h (fun r15 σ15 h => n_rt h))) (fun h => cc_98 (n_bn h (fun r14 σ14 h => n_rt h))))))))
  exact wpn_Ex (cuts := []) monCC (fun _ _ _ _ z => z) 19 0 _ _ _ v
-- TradeTests.plan
set_option maxHeartbeats 20000000 in
set_option maxRecDepth 100000 in
theorem hp_100 {sc : Nat × (Nat → Int32)} {Q : Int32 → St → Prop} {x1 : Int32} {σ : St} (h : Ap (sp_100 x1 σ) Q) : Ex sc CC 1 cd_100 Q 0 [some (.ref 0), some (.int x1), none] [] σ := by
  have v : (x1 < (-1) → CC 2 [.ref 0, .int 1] σ (fun r15 σ15 => Q r15 σ15)) ∧ (¬ x1 < (-1) → (x1 < (σ 9 3) → CC 101 [.ref 11] σ (fun r16 σ16 => CC 102 [.ref 11] σ16 (fun r17 σ17 => (¬ x1 = (-1) → CC 108 [.ref 11, .int x1] σ17 (fun r18 σ18 => (0 ≤ r18 → Q r18 σ18) ∧ (¬ 0 ≤ r18 → CC 2 [.ref 0, .int 2] σ18 (fun r19 σ19 => Q r19 σ19)))) ∧ (x1 = (-1) → CC 107 [.ref 11] σ17 (fun r20 σ20 => Q r20 σ20))))) ∧ (¬ x1 < (σ 9 3) → CC 2 [.ref 0, .int 1] σ (fun r21 σ21 => Q r21 σ21))) := n_if h (fun h => cc_2 (n_bn h (fun r15 σ15 h => n_rt h))) (fun h => n_if h (fun h => cc_101 (n_bn h (fun r16 σ16 h => cc_102 (n_bn h (fun r17 σ17 h => n_ne h (fun h => cc_107 (n_bn h (fun r20 σ20 h => n_rt h))) (fun h => cc_108 (n_bn h (fun r18 σ18 h => n_if h (fun h => n_rt h) (fun h => cc_2 (n_bn h (fun r19 σ19 h => n_rt h))))))))))) (fun h => cc_2 (n_bn h (fun r21 σ21 h => n_rt h))))
  exact wpn_Ex (cuts := []) monCC (fun _ _ _ _ z => z) 30 0 _ _ _ v
-- TradeTests.check
set_option maxHeartbeats 20000000 in
set_option maxRecDepth 100000 in
theorem hl_118_28 {sc : Nat × (Nat → Int32)} {Q : Int32 → St → Prop} : ∀ (n : Nat) (v1 : Int32) (v2 : Int32) (v3 : Int32) (σ : St), Ap (lp_118_28 n v1 v2 v3 σ) Q → Ex sc CC 1 cd_118 Q 28 [some (.ref 0), some (.int v1), some (.int v2), some (.int v3)] [] σ := by
  intro n
  induction n with
  | zero => intro v1 v2 v3 σ h; exact n_no h
  | succ n ih =>
    intro v1 v2 v3 σ h
    have v : (v2 ≤ v3 → Q 0 σ) ∧ (¬ v2 ≤ v3 → ((σ 2 4) ≤ v3 → Q ((1 : Int32) + v3) σ) ∧ (¬ (σ 2 4) ≤ v3 → vp_in v3 8 ∧ (CC 88 [.ref 10, .int v3, .int v1] σ (fun r7 σ7 => ((σ 13 (v3).toNatClampNeg) = r7 → Ex sc CC 1 cd_118 Q 28 [some (.ref 0), some (.int v1), some (.int v2), some (.int (v3 + 1))] [] σ7) ∧ (¬ (σ 13 (v3).toNatClampNeg) = r7 → Q ((1 : Int32) + v3) σ7))))) := n_if h (fun h => n_rt h) (fun h => n_if h (fun h => n_rt h) (fun h => n_mb h (fun h => cc_88 (n_bn h (fun r7 σ7 h => n_if h (fun h => ih v1 v2 (v3 + 1) σ7 h) (fun h => n_rt h))))))
    exact stw_Ex (cuts := [28]) monCC 22 v
set_option maxHeartbeats 20000000 in
set_option maxRecDepth 100000 in
theorem hp_118 {sc : Nat × (Nat → Int32)} {Q : Int32 → St → Prop} {x1 : Int32} {σ : St} (h : Ap (sp_118 x1 σ) Q) : Ex sc CC 1 cd_118 Q 0 [some (.ref 0), some (.int x1), none, none] [] σ := by
  have v : CC 1 [.int x1, .int 10000] (up σ 0 12 0) (fun r8 σ8 => (¬ r8 = 0 → Ex sc CC 1 cd_118 Q 28 [some (.ref 0), some (.int x1), some (.int (σ 0 12)), some (.int 0)] [] σ8) ∧ (r8 = 0 → CC 2 [.ref 0, .int 1] σ8 (fun r9 σ9 => Q r9 σ9))) := cc_1 (n_bn h (fun r8 σ8 h => n_ne h (fun h => cc_2 (n_bn h (fun r9 σ9 h => n_rt h))) (fun h => hl_118_28 FU x1 (σ 0 12) 0 σ8 h)))
  exact wpn_Ex (cuts := [28]) monCC (fun _ _ _ _ z => z) 15 0 _ _ _ v
-- TradeTestsModel.worth
set_option maxHeartbeats 20000000 in
set_option maxRecDepth 100000 in
theorem hp_183 {sc : Nat × (Nat → Int32)} {Q : Int32 → St → Prop} {x1 x2 : Int32} {σ : St} (h : Ap (sp_183 x1 x2 σ) Q) : Ex sc CC 1 cd_183 Q 0 [some (.ref 12), some (.int x1), some (.int x2)] [] σ := by
  have v : CC 123 [.int x1, .int 0, .int ((σ 12 6) - 1)] σ (fun r11 σ11 => (r11 = 0 → CC 125 [.ref 12, .int 1] σ11 (fun r12 σ12 => Q r12 σ12)) ∧ (¬ r11 = 0 → CC 132 [.ref 12, .int x2] σ11 (fun r13 σ13 => (r13 = 0 → CC 125 [.ref 12, .int 1] σ13 (fun r14 σ14 => Q r14 σ14)) ∧ (¬ r13 = 0 → CC 184 [.ref 12, .int x1, .int x2] σ13 (fun r15 σ15 => Q r15 σ15))))) := cc_123 (n_bn h (fun r11 σ11 h => n_if h (fun h => cc_125 (n_bn h (fun r12 σ12 h => n_rt h))) (fun h => cc_132 (n_bn h (fun r13 σ13 h => n_if h (fun h => cc_125 (n_bn h (fun r14 σ14 h => n_rt h))) (fun h => cc_184 (n_bn h (fun r15 σ15 h => n_rt h))))))))
  exact wpn_Ex (cuts := []) monCC (fun _ _ _ _ z => z) 19 0 _ _ _ v
-- TradeTestsModel.findPlan
set_option maxHeartbeats 20000000 in
set_option maxRecDepth 100000 in
theorem hl_186_241 {sc : Nat × (Nat → Int32)} {Q : Int32 → St → Prop} (ko : Int32 → Int32 → St → MR) (hko : ∀ (v1 : Int32) (v2 : Int32) (σ : St), Ap (ko v1 v2 σ) Q → Ex sc CC 1 cd_186 Q 219 [some (.ref 12), some (.int v1), some (.int v2), none, none, none] [] σ) : ∀ (n : Nat) (v1 : Int32) (v2 : Int32) (v3 : Int32) (σ : St), Ap (lp_186_241 ko n v1 v2 v3 σ) Q → Ex sc CC 1 cd_186 Q 241 [some (.ref 12), some (.int v1), some (.int v2), some (.int v3), none, none] [] σ := by
  intro n
  induction n with
  | zero => intro v1 v2 v3 σ h; exact n_no h
  | succ n ih =>
    intro v1 v2 v3 σ h
    have v : (v3 < 0 → vp_in v2 6 ∧ ((0 ≤ (σ 84 (v2).toNatClampNeg) → vp_in v2 6 ∧ (Ex sc CC 1 cd_186 Q 219 [some (.ref 12), some (.int (v1 ||| ((1 : Int32) <<< ((σ 84 (v2).toNatClampNeg) &&& 31)))), some (.int (v2 + 1)), some (.int v3), none, none] [] σ)) ∧ (¬ 0 ≤ (σ 84 (v2).toNatClampNeg) → Ex sc CC 1 cd_186 Q 219 [some (.ref 12), some (.int (v1 ||| 0)), some (.int (v2 + 1)), some (.int v3), none, none] [] σ))) ∧ (¬ v3 < 0 → (¬ ((v1 >>> (v3 &&& 31)) &&& 1) = 0 → Ex sc CC 1 cd_186 Q 241 [some (.ref 12), some (.int v1), some (.int v2), some (.int (v3 + (-1))), none, none] [] σ) ∧ (((v1 >>> (v3 &&& 31)) &&& 1) = 0 → vp_in (((6 : Int32) * v2) + v3) 36 ∧ (vp_in ((((64 : Int32) * v2) + 64) + (v1 ||| ((1 : Int32) <<< (v3 &&& 31)))) 448 ∧ (vp_in (((64 : Int32) * v2) + v1) 448 ∧ ((¬ ((σ 83 (((6 : Int32) * v2) + v3).toNatClampNeg) + (σ 82 ((((64 : Int32) * v2) + 64) + (v1 ||| ((1 : Int32) <<< (v3 &&& 31)))).toNatClampNeg)) = (σ 82 (((64 : Int32) * v2) + v1).toNatClampNeg) → Ex sc CC 1 cd_186 Q 241 [some (.ref 12), some (.int v1), some (.int v2), some (.int (v3 + (-1))), none, none] [] σ) ∧ (((σ 83 (((6 : Int32) * v2) + v3).toNatClampNeg) + (σ 82 ((((64 : Int32) * v2) + 64) + (v1 ||| ((1 : Int32) <<< (v3 &&& 31)))).toNatClampNeg)) = (σ 82 (((64 : Int32) * v2) + v1).toNatClampNeg) → vp_in v2 6 ∧ (Ex sc CC 1 cd_186 Q 241 [some (.ref 12), some (.int v1), some (.int v2), some (.int (v3 + (-1))), none, none] [] (up σ 84 (v2).toNatClampNeg v3)))))))) := n_if h (fun h => n_mb h (fun h => n_if h (fun h => n_mb h (fun h => Ex_fg [true, true, true, false, true, true] (hko (v1 ||| ((1 : Int32) <<< ((σ 84 (v2).toNatClampNeg) &&& 31))) (v2 + 1) σ h))) (fun h => Ex_fg [true, true, true, false, true, true] (hko (v1 ||| 0) (v2 + 1) σ h)))) (fun h => n_ne h (fun h => n_mb h (fun h => n_mb h (fun h => n_mb h (fun h => n_ne h (fun h => n_mb h (fun h => ih v1 v2 (v3 + (-1)) (up σ 84 (v2).toNatClampNeg v3) h)) (fun h => ih v1 v2 (v3 + (-1)) σ h))))) (fun h => ih v1 v2 (v3 + (-1)) σ h))
    exact stw_Ex (cuts := [2, 12, 51, 85, 91, 115, 219, 241]) monCC 48 v
set_option maxHeartbeats 20000000 in
set_option maxRecDepth 100000 in
theorem hl_186_219 {sc : Nat × (Nat → Int32)} {Q : Int32 → St → Prop} : ∀ (n : Nat) (v1 : Int32) (v2 : Int32) (σ : St), Ap (lp_186_219 n v1 v2 σ) Q → Ex sc CC 1 cd_186 Q 219 [some (.ref 12), some (.int v1), some (.int v2), none, none, none] [] σ := by
  intro n
  induction n with
  | zero => intro v1 v2 σ h; exact n_no h
  | succ n ih =>
    intro v1 v2 σ h
    have v : ((σ 12 6) ≤ v2 → vp_in 0 448 ∧ (Q (σ 82 (0 : Int32).toNatClampNeg) σ)) ∧ (¬ (σ 12 6) ≤ v2 → vp_in v2 6 ∧ (Ex sc CC 1 cd_186 Q 241 [some (.ref 12), some (.int v1), some (.int v2), some (.int ((σ 12 1) - 1)), none, none] [] (up σ 84 (v2).toNatClampNeg (-1)))) := n_if h (fun h => n_mb h (fun h => n_rt h)) (fun h => n_mb h (fun h => hl_186_241 (fun v1 v2 σ => lp_186_219 n v1 v2 σ) ih FU v1 v2 ((σ 12 1) - 1) (up σ 84 (v2).toNatClampNeg (-1)) h))
    exact stw_Ex (cuts := [2, 12, 51, 85, 91, 115, 219, 241]) monCC 15 v
set_option maxHeartbeats 20000000 in
set_option maxRecDepth 100000 in
theorem hl_186_115 {sc : Nat × (Nat → Int32)} {Q : Int32 → St → Prop} (ko : Int32 → Int32 → St → MR) (hko : ∀ (v1 : Int32) (v2 : Int32) (σ : St), Ap (ko v1 v2 σ) Q → Ex sc CC 1 cd_186 Q 91 [some (.ref 12), some (.int v1), some (.int v2), none, none, none] [] σ) : ∀ (n : Nat) (v1 : Int32) (v2 : Int32) (v3 : Int32) (v4 : Int32) (σ : St), Ap (lp_186_115 ko n v1 v2 v3 v4 σ) Q → Ex sc CC 1 cd_186 Q 115 [some (.ref 12), some (.int v1), some (.int v2), some (.int v3), some (.int v4), none] [] σ := by
  intro n
  induction n with
  | zero => intro v1 v2 v3 v4 σ h; exact n_no h
  | succ n ih =>
    intro v1 v2 v3 v4 σ h
    have v : ((σ 12 1) ≤ v4 → vp_in (((64 : Int32) * v1) + v2) 448 ∧ (Ex sc CC 1 cd_186 Q 91 [some (.ref 12), some (.int v1), some (.int (v2 + 1)), some (.int v3), some (.int v4), none] [] (up σ 82 (((64 : Int32) * v1) + v2).toNatClampNeg v3))) ∧ (¬ (σ 12 1) ≤ v4 → (¬ ((v2 >>> (v4 &&& 31)) &&& 1) = 1 → vp_in (((6 : Int32) * v1) + v4) 36 ∧ (vp_in ((((64 : Int32) * v1) + 64) + (v2 ||| ((1 : Int32) <<< (v4 &&& 31)))) 448 ∧ ((((σ 83 (((6 : Int32) * v1) + v4).toNatClampNeg) + (σ 82 ((((64 : Int32) * v1) + 64) + (v2 ||| ((1 : Int32) <<< (v4 &&& 31)))).toNatClampNeg)) ≤ v3 → Ex sc CC 1 cd_186 Q 115 [some (.ref 12), some (.int v1), some (.int v2), some (.int v3), some (.int (v4 + 1)), some (.int ((σ 83 (((6 : Int32) * v1) + v4).toNatClampNeg) + (σ 82 ((((64 : Int32) * v1) + 64) + (v2 ||| ((1 : Int32) <<< (v4 &&& 31)))).toNatClampNeg)))] [] σ) ∧ (¬ ((σ 83 (((6 : Int32) * v1) + v4).toNatClampNeg) + (σ 82 ((((64 : Int32) * v1) + 64) + (v2 ||| ((1 : Int32) <<< (v4 &&& 31)))).toNatClampNeg)) ≤ v3 → Ex sc CC 1 cd_186 Q 115 [some (.ref 12), some (.int v1), some (.int v2), some (.int ((σ 83 (((6 : Int32) * v1) + v4).toNatClampNeg) + (σ 82 ((((64 : Int32) * v1) + 64) + (v2 ||| ((1 : Int32) <<< (v4 &&& 31)))).toNatClampNeg))), some (.int (v4 + 1)), some (.int ((σ 83 (((6 : Int32) * v1) + v4).toNatClampNeg) + (σ 82 ((((64 : Int32) * v1) + 64) + (v2 ||| ((1 : Int32) <<< (v4 &&& 31)))).toNatClampNeg)))] [] σ)))) ∧ (((v2 >>> (v4 &&& 31)) &&& 1) = 1 → ((0 : Int32) ≤ v3 → Ex sc CC 1 cd_186 Q 115 [some (.ref 12), some (.int v1), some (.int v2), some (.int v3), some (.int (v4 + 1)), some (.int 0)] [] σ) ∧ (¬ (0 : Int32) ≤ v3 → Ex sc CC 1 cd_186 Q 115 [some (.ref 12), some (.int v1), some (.int v2), some (.int 0), some (.int (v4 + 1)), some (.int 0)] [] σ))) := n_if h (fun h => n_mb h (fun h => Ex_fg [true, true, true, false, false, true] (hko v1 (v2 + 1) (up σ 82 (((64 : Int32) * v1) + v2).toNatClampNeg v3) h))) (fun h => n_ne h (fun h => n_if h (fun h => Ex_fg [true, true, true, true, true, false] (ih v1 v2 v3 (v4 + 1) σ h)) (fun h => Ex_fg [true, true, true, true, true, false] (ih v1 v2 0 (v4 + 1) σ h))) (fun h => n_mb h (fun h => n_mb h (fun h => n_if h (fun h => Ex_fg [true, true, true, true, true, false] (ih v1 v2 v3 (v4 + 1) σ h)) (fun h => Ex_fg [true, true, true, true, true, false] (ih v1 v2 ((σ 83 (((6 : Int32) * v1) + v4).toNatClampNeg) + (σ 82 ((((64 : Int32) * v1) + 64) + (v2 ||| ((1 : Int32) <<< (v4 &&& 31)))).toNatClampNeg)) (v4 + 1) σ h))))))
    exact stw_Ex (cuts := [2, 12, 51, 85, 91, 115, 219, 241]) monCC 44 v
set_option maxHeartbeats 20000000 in
set_option maxRecDepth 100000 in
theorem hl_186_91 {sc : Nat × (Nat → Int32)} {Q : Int32 → St → Prop} (ko : Int32 → St → MR) (hko : ∀ (v1 : Int32) (σ : St), Ap (ko v1 σ) Q → Ex sc CC 1 cd_186 Q 85 [some (.ref 12), some (.int v1), none, none, none, none] [] σ) : ∀ (n : Nat) (v1 : Int32) (v2 : Int32) (σ : St), Ap (lp_186_91 ko n v1 v2 σ) Q → Ex sc CC 1 cd_186 Q 91 [some (.ref 12), some (.int v1), some (.int v2), none, none, none] [] σ := by
  intro n
  induction n with
  | zero => intro v1 v2 σ h; exact n_no h
  | succ n ih =>
    intro v1 v2 σ h
    have v : (64 ≤ v2 → Ex sc CC 1 cd_186 Q 85 [some (.ref 12), some (.int (v1 + (-1))), some (.int v2), none, none, none] [] σ) ∧ (¬ 64 ≤ v2 → vp_in ((((64 : Int32) * v1) + 64) + v2) 448 ∧ (Ex sc CC 1 cd_186 Q 115 [some (.ref 12), some (.int v1), some (.int v2), some (.int (σ 82 ((((64 : Int32) * v1) + 64) + v2).toNatClampNeg)), some (.int 0), none] [] σ)) := n_if h (fun h => Ex_fg [true, true, false, true, true, true] (hko (v1 + (-1)) σ h)) (fun h => n_mb h (fun h => hl_186_115 (fun v1 v2 σ => lp_186_91 ko n v1 v2 σ) ih FU v1 v2 (σ 82 ((((64 : Int32) * v1) + 64) + v2).toNatClampNeg) 0 σ h))
    exact stw_Ex (cuts := [2, 12, 51, 85, 91, 115, 219, 241]) monCC 17 v
set_option maxHeartbeats 20000000 in
set_option maxRecDepth 100000 in
theorem hl_186_85 {sc : Nat × (Nat → Int32)} {Q : Int32 → St → Prop} : ∀ (n : Nat) (v1 : Int32) (σ : St), Ap (lp_186_85 n v1 σ) Q → Ex sc CC 1 cd_186 Q 85 [some (.ref 12), some (.int v1), none, none, none, none] [] σ := by
  intro n
  induction n with
  | zero => intro v1 σ h; exact n_no h
  | succ n ih =>
    intro v1 σ h
    have v : (v1 < 0 → Ex sc CC 1 cd_186 Q 219 [some (.ref 12), some (.int 0), some (.int 0), none, none, none] [] σ) ∧ (¬ v1 < 0 → Ex sc CC 1 cd_186 Q 91 [some (.ref 12), some (.int v1), some (.int 0), none, none, none] [] σ) := n_if h (fun h => hl_186_219 FU 0 0 σ h) (fun h => hl_186_91 (fun v1 σ => lp_186_85 n v1 σ) ih FU v1 0 σ h)
    exact stw_Ex (cuts := [2, 12, 51, 85, 91, 115, 219, 241]) monCC 7 v
set_option maxHeartbeats 20000000 in
set_option maxRecDepth 100000 in
theorem hl_186_51 {sc : Nat × (Nat → Int32)} {Q : Int32 → St → Prop} : ∀ (n : Nat) (v1 : Int32) (σ : St), Ap (lp_186_51 n v1 σ) Q → Ex sc CC 1 cd_186 Q 51 [some (.ref 12), some (.int v1), none, none, none, none] [] σ := by
  intro n
  induction n with
  | zero => intro v1 σ h; exact n_no h
  | succ n ih =>
    intro v1 σ h
    have v : (64 ≤ v1 → Ex sc CC 1 cd_186 Q 85 [some (.ref 12), some (.int ((σ 12 6) - 1)), none, none, none, none] [] σ) ∧ (¬ 64 ≤ v1 → vp_in (((64 : Int32) * (σ 12 6)) + v1) 448 ∧ (Ex sc CC 1 cd_186 Q 51 [some (.ref 12), some (.int (v1 + 1)), none, none, none, none] [] (up σ 82 (((64 : Int32) * (σ 12 6)) + v1).toNatClampNeg 0))) := n_if h (fun h => hl_186_85 FU ((σ 12 6) - 1) σ h) (fun h => n_mb h (fun h => ih (v1 + 1) (up σ 82 (((64 : Int32) * (σ 12 6)) + v1).toNatClampNeg 0) h))
    exact stw_Ex (cuts := [2, 12, 51, 85, 91, 115, 219, 241]) monCC 16 v
set_option maxHeartbeats 20000000 in
set_option maxRecDepth 100000 in
theorem hl_186_12 {sc : Nat × (Nat → Int32)} {Q : Int32 → St → Prop} (ko : Int32 → St → MR) (hko : ∀ (v1 : Int32) (σ : St), Ap (ko v1 σ) Q → Ex sc CC 1 cd_186 Q 2 [some (.ref 12), some (.int v1), none, none, none, none] [] σ) : ∀ (n : Nat) (v1 : Int32) (v2 : Int32) (σ : St), Ap (lp_186_12 ko n v1 v2 σ) Q → Ex sc CC 1 cd_186 Q 12 [some (.ref 12), some (.int v1), some (.int v2), none, none, none] [] σ := by
  intro n
  induction n with
  | zero => intro v1 v2 σ h; exact n_no h
  | succ n ih =>
    intro v1 v2 σ h
    have v : ((σ 12 1) ≤ v2 → Ex sc CC 1 cd_186 Q 2 [some (.ref 12), some (.int (v1 + 1)), some (.int v2), none, none, none] [] σ) ∧ (¬ (σ 12 1) ≤ v2 → CC 184 [.ref 12, .int v1, .int v2] σ (fun r3 σ3 => vp_in (((6 : Int32) * v1) + v2) 36 ∧ (Ex sc CC 1 cd_186 Q 12 [some (.ref 12), some (.int v1), some (.int (v2 + 1)), none, none, none] [] (up σ3 83 (((6 : Int32) * v1) + v2).toNatClampNeg r3)))) := n_if h (fun h => Ex_fg [true, true, false, true, true, true] (hko (v1 + 1) σ h)) (fun h => cc_184 (n_bn h (fun r3 σ3 h => n_mb h (fun h => ih v1 (v2 + 1) (up σ3 83 (((6 : Int32) * v1) + v2).toNatClampNeg r3) h))))
    exact stw_Ex (cuts := [2, 12, 51, 85, 91, 115, 219, 241]) monCC 19 v
set_option maxHeartbeats 20000000 in
set_option maxRecDepth 100000 in
theorem hl_186_2 {sc : Nat × (Nat → Int32)} {Q : Int32 → St → Prop} : ∀ (n : Nat) (v1 : Int32) (σ : St), Ap (lp_186_2 n v1 σ) Q → Ex sc CC 1 cd_186 Q 2 [some (.ref 12), some (.int v1), none, none, none, none] [] σ := by
  intro n
  induction n with
  | zero => intro v1 σ h; exact n_no h
  | succ n ih =>
    intro v1 σ h
    have v : ((σ 12 6) ≤ v1 → Ex sc CC 1 cd_186 Q 51 [some (.ref 12), some (.int 0), none, none, none, none] [] σ) ∧ (¬ (σ 12 6) ≤ v1 → Ex sc CC 1 cd_186 Q 12 [some (.ref 12), some (.int v1), some (.int 0), none, none, none] [] σ) := n_if h (fun h => hl_186_51 FU 0 σ h) (fun h => hl_186_12 (fun v1 σ => lp_186_2 n v1 σ) ih FU v1 0 σ h)
    exact stw_Ex (cuts := [2, 12, 51, 85, 91, 115, 219, 241]) monCC 7 v
set_option maxHeartbeats 20000000 in
set_option maxRecDepth 100000 in
theorem hp_186 {sc : Nat × (Nat → Int32)} {Q : Int32 → St → Prop}  {σ : St} (h : Ap (sp_186  σ) Q) : Ex sc CC 1 cd_186 Q 0 [some (.ref 12), none, none, none, none, none] [] σ := by
  have v : Ex sc CC 1 cd_186 Q 2 [some (.ref 12), some (.int 0), none, none, none, none] [] σ := hl_186_2 FU 0 σ h
  exact wpn_Ex (cuts := [2, 12, 51, 85, 91, 115, 219, 241]) monCC (fun _ _ _ _ z => z) 4 0 _ _ _ v
-- TradeTestsModel.plan
set_option maxHeartbeats 20000000 in
set_option maxRecDepth 100000 in
theorem hp_185 {sc : Nat × (Nat → Int32)} {Q : Int32 → St → Prop} {x1 : Int32} {σ : St} (h : Ap (sp_185 x1 σ) Q) : Ex sc CC 1 cd_185 Q 0 [some (.ref 12), some (.int x1), none] [] σ := by
  have v : CC 123 [.int x1, .int (-1), .int ((σ 12 6) - 1)] σ (fun r9 σ9 => (¬ r9 = 0 → CC 186 [.ref 12] σ9 (fun r10 σ10 => (0 ≤ x1 → vp_in x1 6 ∧ ((0 ≤ (σ10 84 (x1).toNatClampNeg) → vp_in x1 6 ∧ (Q (σ10 84 (x1).toNatClampNeg) σ10)) ∧ (¬ 0 ≤ (σ10 84 (x1).toNatClampNeg) → CC 125 [.ref 12, .int 2] σ10 (fun r11 σ11 => Q r11 σ11)))) ∧ (¬ 0 ≤ x1 → Q r10 σ10))) ∧ (r9 = 0 → CC 125 [.ref 12, .int 1] σ9 (fun r12 σ12 => Q r12 σ12))) := cc_123 (n_bn h (fun r9 σ9 h => n_ne h (fun h => cc_125 (n_bn h (fun r12 σ12 h => n_rt h))) (fun h => cc_186 (n_bn h (fun r10 σ10 h => n_if h (fun h => n_mb h (fun h => n_if h (fun h => n_mb h (fun h => n_rt h)) (fun h => cc_125 (n_bn h (fun r11 σ11 h => n_rt h))))) (fun h => n_rt h))))))
  exact wpn_Ex (cuts := []) monCC (fun _ _ _ _ z => z) 24 0 _ _ _ v
end
