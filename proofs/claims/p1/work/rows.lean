section
-- ===== PART A: goes FIRST, ahead of the names: the tables' words, and 'selects' of the private methods out of them =====
/-- a private method of a class that the tables say can be made, by its rows of tables_1 -/
def lw_okq (q : MethodName × Nat) : Prop := (q.1.cls ≠ "java/lang/invoke/MethodHandle" ∧ q.1.cls ≠ "java/lang/invoke/VarHandle") ∧ Cond.instantiable q.1.cls q.2 ∈ tables_1 ∧ Cond.privateMethod q.1 ∈ tables_1 ∧ Cond.instanceMethod q.1 ∈ tables_1
theorem lw_p0 : lw_okq (⟨"OneRoof$Custom", "readLines", "()I"⟩, 8) := ⟨⟨by decide +kernel, by decide +kernel⟩, List.mem_of_getElem? (i := 207) (by decide +kernel), List.mem_of_getElem? (i := 265) (by decide +kernel), List.mem_of_getElem? (i := 266) (by decide +kernel)⟩
theorem lw_p1 : lw_okq (⟨"OneRoof$Custom", "readLine", "()V"⟩, 8) := ⟨⟨by decide +kernel, by decide +kernel⟩, List.mem_of_getElem? (i := 207) (by decide +kernel), List.mem_of_getElem? (i := 269) (by decide +kernel), List.mem_of_getElem? (i := 270) (by decide +kernel)⟩
theorem lw_p2 : lw_okq (⟨"OneRoof$Custom", "readPart", "(II)V"⟩, 8) := ⟨⟨by decide +kernel, by decide +kernel⟩, List.mem_of_getElem? (i := 207) (by decide +kernel), List.mem_of_getElem? (i := 273) (by decide +kernel), List.mem_of_getElem? (i := 274) (by decide +kernel)⟩
theorem lw_p3 : lw_okq (⟨"OneRoof$Custom", "readOperand", "(I)V"⟩, 8) := ⟨⟨by decide +kernel, by decide +kernel⟩, List.mem_of_getElem? (i := 207) (by decide +kernel), List.mem_of_getElem? (i := 277) (by decide +kernel), List.mem_of_getElem? (i := 278) (by decide +kernel)⟩
theorem lw_p4 : lw_okq (⟨"OneRoof$Custom", "next", "()I"⟩, 8) := ⟨⟨by decide +kernel, by decide +kernel⟩, List.mem_of_getElem? (i := 207) (by decide +kernel), List.mem_of_getElem? (i := 281) (by decide +kernel), List.mem_of_getElem? (i := 282) (by decide +kernel)⟩
theorem lw_p5 : lw_okq (⟨"OneRoof$Custom", "readNumber", "()V"⟩, 8) := ⟨⟨by decide +kernel, by decide +kernel⟩, List.mem_of_getElem? (i := 207) (by decide +kernel), List.mem_of_getElem? (i := 288) (by decide +kernel), List.mem_of_getElem? (i := 289) (by decide +kernel)⟩
theorem lw_p6 : lw_okq (⟨"OneRoof$Custom", "emit", "(II)I"⟩, 8) := ⟨⟨by decide +kernel, by decide +kernel⟩, List.mem_of_getElem? (i := 207) (by decide +kernel), List.mem_of_getElem? (i := 292) (by decide +kernel), List.mem_of_getElem? (i := 293) (by decide +kernel)⟩
theorem lw_p7 : lw_okq (⟨"OneRoof$Custom", "pass", "(I)V"⟩, 8) := ⟨⟨by decide +kernel, by decide +kernel⟩, List.mem_of_getElem? (i := 207) (by decide +kernel), List.mem_of_getElem? (i := 354) (by decide +kernel), List.mem_of_getElem? (i := 355) (by decide +kernel)⟩
theorem lw_p8 : lw_okq (⟨"OneRoof$History", "told", "(II)I"⟩, 9) := ⟨⟨by decide +kernel, by decide +kernel⟩, List.mem_of_getElem? (i := 505) (by decide +kernel), List.mem_of_getElem? (i := 652) (by decide +kernel), List.mem_of_getElem? (i := 653) (by decide +kernel)⟩
theorem lw_p9 : lw_okq (⟨"OneRoof$History", "forgetFirst", "()V"⟩, 9) := ⟨⟨by decide +kernel, by decide +kernel⟩, List.mem_of_getElem? (i := 505) (by decide +kernel), List.mem_of_getElem? (i := 657) (by decide +kernel), List.mem_of_getElem? (i := 658) (by decide +kernel)⟩
theorem lw_p10 : lw_okq (⟨"OneRoof$History", "set", "(III)V"⟩, 9) := ⟨⟨by decide +kernel, by decide +kernel⟩, List.mem_of_getElem? (i := 505) (by decide +kernel), List.mem_of_getElem? (i := 664) (by decide +kernel), List.mem_of_getElem? (i := 665) (by decide +kernel)⟩
theorem lw_p11 : lw_okq (⟨"OneRoof$Guests", "calmWeight", "(I)I"⟩, 8) := ⟨⟨by decide +kernel, by decide +kernel⟩, List.mem_of_getElem? (i := 441) (by decide +kernel), List.mem_of_getElem? (i := 914) (by decide +kernel), List.mem_of_getElem? (i := 915) (by decide +kernel)⟩
theorem lw_p12 : lw_okq (⟨"OneRoof$Guests", "weightAt", "(I)I"⟩, 8) := ⟨⟨by decide +kernel, by decide +kernel⟩, List.mem_of_getElem? (i := 441) (by decide +kernel), List.mem_of_getElem? (i := 918) (by decide +kernel), List.mem_of_getElem? (i := 919) (by decide +kernel)⟩
theorem lw_p13 : lw_okq (⟨"OneRoof$Guests", "asPeople", "(I)J"⟩, 8) := ⟨⟨by decide +kernel, by decide +kernel⟩, List.mem_of_getElem? (i := 441) (by decide +kernel), List.mem_of_getElem? (i := 929) (by decide +kernel), List.mem_of_getElem? (i := 930) (by decide +kernel)⟩
theorem lw_p14 : lw_okq (⟨"OneRoof$Guests", "fillHeaviestWithin", "()V"⟩, 8) := ⟨⟨by decide +kernel, by decide +kernel⟩, List.mem_of_getElem? (i := 441) (by decide +kernel), List.mem_of_getElem? (i := 941) (by decide +kernel), List.mem_of_getElem? (i := 942) (by decide +kernel)⟩
theorem lw_p15 : lw_okq (⟨"OneRoof$Guests", "pressingFeuds", "(II)J"⟩, 8) := ⟨⟨by decide +kernel, by decide +kernel⟩, List.mem_of_getElem? (i := 441) (by decide +kernel), List.mem_of_getElem? (i := 960) (by decide +kernel), List.mem_of_getElem? (i := 961) (by decide +kernel)⟩
def lw_privs_1 : List (MethodName × Nat) := [(⟨"OneRoof$Custom", "readLines", "()I"⟩, 8), (⟨"OneRoof$Custom", "readLine", "()V"⟩, 8), (⟨"OneRoof$Custom", "readPart", "(II)V"⟩, 8), (⟨"OneRoof$Custom", "readOperand", "(I)V"⟩, 8), (⟨"OneRoof$Custom", "next", "()I"⟩, 8), (⟨"OneRoof$Custom", "readNumber", "()V"⟩, 8), (⟨"OneRoof$Custom", "emit", "(II)I"⟩, 8), (⟨"OneRoof$Custom", "pass", "(I)V"⟩, 8), (⟨"OneRoof$History", "told", "(II)I"⟩, 9), (⟨"OneRoof$History", "forgetFirst", "()V"⟩, 9), (⟨"OneRoof$History", "set", "(III)V"⟩, 9), (⟨"OneRoof$Guests", "calmWeight", "(I)I"⟩, 8), (⟨"OneRoof$Guests", "weightAt", "(I)I"⟩, 8), (⟨"OneRoof$Guests", "asPeople", "(I)J"⟩, 8), (⟨"OneRoof$Guests", "fillHeaviestWithin", "()V"⟩, 8), (⟨"OneRoof$Guests", "pressingFeuds", "(II)J"⟩, 8)]
theorem lw_r1 : ∀ q ∈ lw_privs_1, lw_okq q := List.forall_mem_cons.mpr ⟨lw_p0, List.forall_mem_cons.mpr ⟨lw_p1, List.forall_mem_cons.mpr ⟨lw_p2, List.forall_mem_cons.mpr ⟨lw_p3, List.forall_mem_cons.mpr ⟨lw_p4, List.forall_mem_cons.mpr ⟨lw_p5, List.forall_mem_cons.mpr ⟨lw_p6, List.forall_mem_cons.mpr ⟨lw_p7, List.forall_mem_cons.mpr ⟨lw_p8, List.forall_mem_cons.mpr ⟨lw_p9, List.forall_mem_cons.mpr ⟨lw_p10, List.forall_mem_cons.mpr ⟨lw_p11, List.forall_mem_cons.mpr ⟨lw_p12, List.forall_mem_cons.mpr ⟨lw_p13, List.forall_mem_cons.mpr ⟨lw_p14, List.forall_mem_cons.mpr ⟨lw_p15, fun _ h => absurd h List.not_mem_nil⟩⟩⟩⟩⟩⟩⟩⟩⟩⟩⟩⟩⟩⟩⟩⟩
theorem lw_p16 : lw_okq (⟨"OneRoof$Guests", "clash", "(II)Z"⟩, 8) := ⟨⟨by decide +kernel, by decide +kernel⟩, List.mem_of_getElem? (i := 441) (by decide +kernel), List.mem_of_getElem? (i := 991) (by decide +kernel), List.mem_of_getElem? (i := 992) (by decide +kernel)⟩
theorem lw_p17 : lw_okq (⟨"OneRoof$Guests", "depart", "(III)I"⟩, 8) := ⟨⟨by decide +kernel, by decide +kernel⟩, List.mem_of_getElem? (i := 441) (by decide +kernel), List.mem_of_getElem? (i := 1001) (by decide +kernel), List.mem_of_getElem? (i := 1002) (by decide +kernel)⟩
theorem lw_p18 : lw_okq (⟨"OneRoof$Guests", "meetsEarlier", "(II)Z"⟩, 8) := ⟨⟨by decide +kernel, by decide +kernel⟩, List.mem_of_getElem? (i := 441) (by decide +kernel), List.mem_of_getElem? (i := 1005) (by decide +kernel), List.mem_of_getElem? (i := 1006) (by decide +kernel)⟩
theorem lw_p19 : lw_okq (⟨"OneRoof$Telling", "land", "(II)V"⟩, 7) := ⟨⟨by decide +kernel, by decide +kernel⟩, List.mem_of_getElem? (i := 472) (by decide +kernel), List.mem_of_getElem? (i := 1017) (by decide +kernel), List.mem_of_getElem? (i := 1018) (by decide +kernel)⟩
theorem lw_p20 : lw_okq (⟨"OneRoof$Telling", "firstHelp", "()I"⟩, 7) := ⟨⟨by decide +kernel, by decide +kernel⟩, List.mem_of_getElem? (i := 472) (by decide +kernel), List.mem_of_getElem? (i := 1029) (by decide +kernel), List.mem_of_getElem? (i := 1030) (by decide +kernel)⟩
theorem lw_p21 : lw_okq (⟨"OneRoof$Acts", "run", "(IIIII)I"⟩, 2) := ⟨⟨by decide +kernel, by decide +kernel⟩, List.mem_of_getElem? (i := 170) (by decide +kernel), List.mem_of_getElem? (i := 1088) (by decide +kernel), List.mem_of_getElem? (i := 1089) (by decide +kernel)⟩
theorem lw_p22 : lw_okq (⟨"OneRoof$Acts", "runFrom", "(IIIIII)I"⟩, 2) := ⟨⟨by decide +kernel, by decide +kernel⟩, List.mem_of_getElem? (i := 170) (by decide +kernel), List.mem_of_getElem? (i := 1092) (by decide +kernel), List.mem_of_getElem? (i := 1093) (by decide +kernel)⟩
theorem lw_p23 : lw_okq (⟨"OneRoof$Acts", "begin", "(IIIIII)I"⟩, 2) := ⟨⟨by decide +kernel, by decide +kernel⟩, List.mem_of_getElem? (i := 170) (by decide +kernel), List.mem_of_getElem? (i := 1100) (by decide +kernel), List.mem_of_getElem? (i := 1101) (by decide +kernel)⟩
theorem lw_p24 : lw_okq (⟨"OneRoofModel", "isOne", "(III)Z"⟩, 63) := ⟨⟨by decide +kernel, by decide +kernel⟩, List.mem_of_getElem? (i := 1174) (by decide +kernel), List.mem_of_getElem? (i := 1384) (by decide +kernel), List.mem_of_getElem? (i := 1385) (by decide +kernel)⟩
theorem lw_p25 : lw_okq (⟨"OneRoofModel", "isPerson", "(I)Z"⟩, 63) := ⟨⟨by decide +kernel, by decide +kernel⟩, List.mem_of_getElem? (i := 1174) (by decide +kernel), List.mem_of_getElem? (i := 1406) (by decide +kernel), List.mem_of_getElem? (i := 1407) (by decide +kernel)⟩
theorem lw_p26 : lw_okq (⟨"OneRoofModel", "isDead", "(I)Z"⟩, 63) := ⟨⟨by decide +kernel, by decide +kernel⟩, List.mem_of_getElem? (i := 1174) (by decide +kernel), List.mem_of_getElem? (i := 1410) (by decide +kernel), List.mem_of_getElem? (i := 1411) (by decide +kernel)⟩
theorem lw_p27 : lw_okq (⟨"OneRoofModel", "becomes", "(II)I"⟩, 63) := ⟨⟨by decide +kernel, by decide +kernel⟩, List.mem_of_getElem? (i := 1174) (by decide +kernel), List.mem_of_getElem? (i := 1418) (by decide +kernel), List.mem_of_getElem? (i := 1419) (by decide +kernel)⟩
theorem lw_p28 : lw_okq (⟨"OneRoofModel", "areKin", "(II)Z"⟩, 63) := ⟨⟨by decide +kernel, by decide +kernel⟩, List.mem_of_getElem? (i := 1174) (by decide +kernel), List.mem_of_getElem? (i := 1426) (by decide +kernel), List.mem_of_getElem? (i := 1427) (by decide +kernel)⟩
theorem lw_p29 : lw_okq (⟨"OneRoofModel", "stepsTo", "(II)I"⟩, 63) := ⟨⟨by decide +kernel, by decide +kernel⟩, List.mem_of_getElem? (i := 1174) (by decide +kernel), List.mem_of_getElem? (i := 1434) (by decide +kernel), List.mem_of_getElem? (i := 1435) (by decide +kernel)⟩
theorem lw_p30 : lw_okq (⟨"OneRoofModel", "findSteps", "()V"⟩, 63) := ⟨⟨by decide +kernel, by decide +kernel⟩, List.mem_of_getElem? (i := 1174) (by decide +kernel), List.mem_of_getElem? (i := 1438) (by decide +kernel), List.mem_of_getElem? (i := 1439) (by decide +kernel)⟩
theorem lw_p31 : lw_okq (⟨"OneRoofModel", "nearer", "(II)Z"⟩, 63) := ⟨⟨by decide +kernel, by decide +kernel⟩, List.mem_of_getElem? (i := 1174) (by decide +kernel), List.mem_of_getElem? (i := 1442) (by decide +kernel), List.mem_of_getElem? (i := 1443) (by decide +kernel)⟩
def lw_privs_2 : List (MethodName × Nat) := [(⟨"OneRoof$Guests", "clash", "(II)Z"⟩, 8), (⟨"OneRoof$Guests", "depart", "(III)I"⟩, 8), (⟨"OneRoof$Guests", "meetsEarlier", "(II)Z"⟩, 8), (⟨"OneRoof$Telling", "land", "(II)V"⟩, 7), (⟨"OneRoof$Telling", "firstHelp", "()I"⟩, 7), (⟨"OneRoof$Acts", "run", "(IIIII)I"⟩, 2), (⟨"OneRoof$Acts", "runFrom", "(IIIIII)I"⟩, 2), (⟨"OneRoof$Acts", "begin", "(IIIIII)I"⟩, 2), (⟨"OneRoofModel", "isOne", "(III)Z"⟩, 63), (⟨"OneRoofModel", "isPerson", "(I)Z"⟩, 63), (⟨"OneRoofModel", "isDead", "(I)Z"⟩, 63), (⟨"OneRoofModel", "becomes", "(II)I"⟩, 63), (⟨"OneRoofModel", "areKin", "(II)Z"⟩, 63), (⟨"OneRoofModel", "stepsTo", "(II)I"⟩, 63), (⟨"OneRoofModel", "findSteps", "()V"⟩, 63), (⟨"OneRoofModel", "nearer", "(II)Z"⟩, 63)]
theorem lw_r2 : ∀ q ∈ lw_privs_2, lw_okq q := List.forall_mem_cons.mpr ⟨lw_p16, List.forall_mem_cons.mpr ⟨lw_p17, List.forall_mem_cons.mpr ⟨lw_p18, List.forall_mem_cons.mpr ⟨lw_p19, List.forall_mem_cons.mpr ⟨lw_p20, List.forall_mem_cons.mpr ⟨lw_p21, List.forall_mem_cons.mpr ⟨lw_p22, List.forall_mem_cons.mpr ⟨lw_p23, List.forall_mem_cons.mpr ⟨lw_p24, List.forall_mem_cons.mpr ⟨lw_p25, List.forall_mem_cons.mpr ⟨lw_p26, List.forall_mem_cons.mpr ⟨lw_p27, List.forall_mem_cons.mpr ⟨lw_p28, List.forall_mem_cons.mpr ⟨lw_p29, List.forall_mem_cons.mpr ⟨lw_p30, List.forall_mem_cons.mpr ⟨lw_p31, fun _ h => absurd h List.not_mem_nil⟩⟩⟩⟩⟩⟩⟩⟩⟩⟩⟩⟩⟩⟩⟩⟩
theorem lw_p32 : lw_okq (⟨"OneRoofModel", "arePair", "(I)Z"⟩, 63) := ⟨⟨by decide +kernel, by decide +kernel⟩, List.mem_of_getElem? (i := 1174) (by decide +kernel), List.mem_of_getElem? (i := 1450) (by decide +kernel), List.mem_of_getElem? (i := 1451) (by decide +kernel)⟩
theorem lw_p33 : lw_okq (⟨"OneRoofModel", "nearOf", "(III)I"⟩, 63) := ⟨⟨by decide +kernel, by decide +kernel⟩, List.mem_of_getElem? (i := 1174) (by decide +kernel), List.mem_of_getElem? (i := 1468) (by decide +kernel), List.mem_of_getElem? (i := 1469) (by decide +kernel)⟩
theorem lw_p34 : lw_okq (⟨"OneRoofModel", "isOpen", "(II)Z"⟩, 63) := ⟨⟨by decide +kernel, by decide +kernel⟩, List.mem_of_getElem? (i := 1174) (by decide +kernel), List.mem_of_getElem? (i := 1472) (by decide +kernel), List.mem_of_getElem? (i := 1473) (by decide +kernel)⟩
theorem lw_p35 : lw_okq (⟨"OneRoofModel", "byFeud", "(III)I"⟩, 63) := ⟨⟨by decide +kernel, by decide +kernel⟩, List.mem_of_getElem? (i := 1174) (by decide +kernel), List.mem_of_getElem? (i := 1476) (by decide +kernel), List.mem_of_getElem? (i := 1477) (by decide +kernel)⟩
theorem lw_p36 : lw_okq (⟨"OneRoofModel", "isPeace", "(I)Z"⟩, 63) := ⟨⟨by decide +kernel, by decide +kernel⟩, List.mem_of_getElem? (i := 1174) (by decide +kernel), List.mem_of_getElem? (i := 1491) (by decide +kernel), List.mem_of_getElem? (i := 1492) (by decide +kernel)⟩
theorem lw_p37 : lw_okq (⟨"OneRoofModel", "kindOf", "(I)I"⟩, 63) := ⟨⟨by decide +kernel, by decide +kernel⟩, List.mem_of_getElem? (i := 1174) (by decide +kernel), List.mem_of_getElem? (i := 1495) (by decide +kernel), List.mem_of_getElem? (i := 1496) (by decide +kernel)⟩
theorem lw_p38 : lw_okq (⟨"OneRoofModel", "covers", "(II)Z"⟩, 63) := ⟨⟨by decide +kernel, by decide +kernel⟩, List.mem_of_getElem? (i := 1174) (by decide +kernel), List.mem_of_getElem? (i := 1499) (by decide +kernel), List.mem_of_getElem? (i := 1500) (by decide +kernel)⟩
theorem lw_p39 : lw_okq (⟨"OneRoofModel", "holdsNow", "(IIII)Z"⟩, 63) := ⟨⟨by decide +kernel, by decide +kernel⟩, List.mem_of_getElem? (i := 1174) (by decide +kernel), List.mem_of_getElem? (i := 1511) (by decide +kernel), List.mem_of_getElem? (i := 1512) (by decide +kernel)⟩
theorem lw_p40 : lw_okq (⟨"OneRoofModel", "isUnderGiver", "(II)Z"⟩, 63) := ⟨⟨by decide +kernel, by decide +kernel⟩, List.mem_of_getElem? (i := 1174) (by decide +kernel), List.mem_of_getElem? (i := 1515) (by decide +kernel), List.mem_of_getElem? (i := 1516) (by decide +kernel)⟩
theorem lw_p41 : lw_okq (⟨"OneRoofModel", "isLordOf", "(II)Z"⟩, 63) := ⟨⟨by decide +kernel, by decide +kernel⟩, List.mem_of_getElem? (i := 1174) (by decide +kernel), List.mem_of_getElem? (i := 1519) (by decide +kernel), List.mem_of_getElem? (i := 1520) (by decide +kernel)⟩
theorem lw_p42 : lw_okq (⟨"OneRoofModel", "manyBetween", "(III)I"⟩, 63) := ⟨⟨by decide +kernel, by decide +kernel⟩, List.mem_of_getElem? (i := 1174) (by decide +kernel), List.mem_of_getElem? (i := 1527) (by decide +kernel), List.mem_of_getElem? (i := 1528) (by decide +kernel)⟩
theorem lw_p43 : lw_okq (⟨"OneRoofModel", "workOut", "(II)I"⟩, 63) := ⟨⟨by decide +kernel, by decide +kernel⟩, List.mem_of_getElem? (i := 1174) (by decide +kernel), List.mem_of_getElem? (i := 1544) (by decide +kernel), List.mem_of_getElem? (i := 1545) (by decide +kernel)⟩
theorem lw_p44 : lw_okq (⟨"OneRoofModel", "either", "()I"⟩, 63) := ⟨⟨by decide +kernel, by decide +kernel⟩, List.mem_of_getElem? (i := 1174) (by decide +kernel), List.mem_of_getElem? (i := 1548) (by decide +kernel), List.mem_of_getElem? (i := 1549) (by decide +kernel)⟩
theorem lw_p45 : lw_okq (⟨"OneRoofModel", "both", "()I"⟩, 63) := ⟨⟨by decide +kernel, by decide +kernel⟩, List.mem_of_getElem? (i := 1174) (by decide +kernel), List.mem_of_getElem? (i := 1552) (by decide +kernel), List.mem_of_getElem? (i := 1553) (by decide +kernel)⟩
theorem lw_p46 : lw_okq (⟨"OneRoofModel", "compared", "()I"⟩, 63) := ⟨⟨by decide +kernel, by decide +kernel⟩, List.mem_of_getElem? (i := 1174) (by decide +kernel), List.mem_of_getElem? (i := 1556) (by decide +kernel), List.mem_of_getElem? (i := 1557) (by decide +kernel)⟩
theorem lw_p47 : lw_okq (⟨"OneRoofModel", "sums", "()I"⟩, 63) := ⟨⟨by decide +kernel, by decide +kernel⟩, List.mem_of_getElem? (i := 1174) (by decide +kernel), List.mem_of_getElem? (i := 1560) (by decide +kernel), List.mem_of_getElem? (i := 1561) (by decide +kernel)⟩
def lw_privs_3 : List (MethodName × Nat) := [(⟨"OneRoofModel", "arePair", "(I)Z"⟩, 63), (⟨"OneRoofModel", "nearOf", "(III)I"⟩, 63), (⟨"OneRoofModel", "isOpen", "(II)Z"⟩, 63), (⟨"OneRoofModel", "byFeud", "(III)I"⟩, 63), (⟨"OneRoofModel", "isPeace", "(I)Z"⟩, 63), (⟨"OneRoofModel", "kindOf", "(I)I"⟩, 63), (⟨"OneRoofModel", "covers", "(II)Z"⟩, 63), (⟨"OneRoofModel", "holdsNow", "(IIII)Z"⟩, 63), (⟨"OneRoofModel", "isUnderGiver", "(II)Z"⟩, 63), (⟨"OneRoofModel", "isLordOf", "(II)Z"⟩, 63), (⟨"OneRoofModel", "manyBetween", "(III)I"⟩, 63), (⟨"OneRoofModel", "workOut", "(II)I"⟩, 63), (⟨"OneRoofModel", "either", "()I"⟩, 63), (⟨"OneRoofModel", "both", "()I"⟩, 63), (⟨"OneRoofModel", "compared", "()I"⟩, 63), (⟨"OneRoofModel", "sums", "()I"⟩, 63)]
theorem lw_r3 : ∀ q ∈ lw_privs_3, lw_okq q := List.forall_mem_cons.mpr ⟨lw_p32, List.forall_mem_cons.mpr ⟨lw_p33, List.forall_mem_cons.mpr ⟨lw_p34, List.forall_mem_cons.mpr ⟨lw_p35, List.forall_mem_cons.mpr ⟨lw_p36, List.forall_mem_cons.mpr ⟨lw_p37, List.forall_mem_cons.mpr ⟨lw_p38, List.forall_mem_cons.mpr ⟨lw_p39, List.forall_mem_cons.mpr ⟨lw_p40, List.forall_mem_cons.mpr ⟨lw_p41, List.forall_mem_cons.mpr ⟨lw_p42, List.forall_mem_cons.mpr ⟨lw_p43, List.forall_mem_cons.mpr ⟨lw_p44, List.forall_mem_cons.mpr ⟨lw_p45, List.forall_mem_cons.mpr ⟨lw_p46, List.forall_mem_cons.mpr ⟨lw_p47, fun _ h => absurd h List.not_mem_nil⟩⟩⟩⟩⟩⟩⟩⟩⟩⟩⟩⟩⟩⟩⟩⟩
theorem lw_p48 : lw_okq (⟨"OneRoofModel", "product", "()I"⟩, 63) := ⟨⟨by decide +kernel, by decide +kernel⟩, List.mem_of_getElem? (i := 1174) (by decide +kernel), List.mem_of_getElem? (i := 1564) (by decide +kernel), List.mem_of_getElem? (i := 1565) (by decide +kernel)⟩
theorem lw_p49 : lw_okq (⟨"OneRoofModel", "one", "()I"⟩, 63) := ⟨⟨by decide +kernel, by decide +kernel⟩, List.mem_of_getElem? (i := 1174) (by decide +kernel), List.mem_of_getElem? (i := 1568) (by decide +kernel), List.mem_of_getElem? (i := 1569) (by decide +kernel)⟩
theorem lw_p50 : lw_okq (⟨"OneRoofModel", "byteAt", "()I"⟩, 63) := ⟨⟨by decide +kernel, by decide +kernel⟩, List.mem_of_getElem? (i := 1174) (by decide +kernel), List.mem_of_getElem? (i := 1572) (by decide +kernel), List.mem_of_getElem? (i := 1573) (by decide +kernel)⟩
theorem lw_p51 : lw_okq (⟨"OneRoofModel", "wrong", "()I"⟩, 63) := ⟨⟨by decide +kernel, by decide +kernel⟩, List.mem_of_getElem? (i := 1174) (by decide +kernel), List.mem_of_getElem? (i := 1576) (by decide +kernel), List.mem_of_getElem? (i := 1577) (by decide +kernel)⟩
theorem lw_p52 : lw_okq (⟨"OneRoofModel", "takes", "(I)Z"⟩, 63) := ⟨⟨by decide +kernel, by decide +kernel⟩, List.mem_of_getElem? (i := 1174) (by decide +kernel), List.mem_of_getElem? (i := 1580) (by decide +kernel), List.mem_of_getElem? (i := 1581) (by decide +kernel)⟩
theorem lw_p53 : lw_okq (⟨"OneRoofModel", "isSet", "(J)Z"⟩, 63) := ⟨⟨by decide +kernel, by decide +kernel⟩, List.mem_of_getElem? (i := 1174) (by decide +kernel), List.mem_of_getElem? (i := 1591) (by decide +kernel), List.mem_of_getElem? (i := 1592) (by decide +kernel)⟩
theorem lw_p54 : lw_okq (⟨"OneRoofModel", "mustNow", "(IIJI)I"⟩, 63) := ⟨⟨by decide +kernel, by decide +kernel⟩, List.mem_of_getElem? (i := 1174) (by decide +kernel), List.mem_of_getElem? (i := 1599) (by decide +kernel), List.mem_of_getElem? (i := 1600) (by decide +kernel)⟩
theorem lw_p55 : lw_okq (⟨"OneRoofModel", "gives", "(IIIIJI)I"⟩, 63) := ⟨⟨by decide +kernel, by decide +kernel⟩, List.mem_of_getElem? (i := 1174) (by decide +kernel), List.mem_of_getElem? (i := 1603) (by decide +kernel), List.mem_of_getElem? (i := 1604) (by decide +kernel)⟩
theorem lw_p56 : lw_okq (⟨"OneRoofModel", "doBar", "(III)Z"⟩, 63) := ⟨⟨by decide +kernel, by decide +kernel⟩, List.mem_of_getElem? (i := 1174) (by decide +kernel), List.mem_of_getElem? (i := 1619) (by decide +kernel), List.mem_of_getElem? (i := 1620) (by decide +kernel)⟩
theorem lw_p57 : lw_okq (⟨"OneRoofModel", "lists", "(JI)Z"⟩, 63) := ⟨⟨by decide +kernel, by decide +kernel⟩, List.mem_of_getElem? (i := 1174) (by decide +kernel), List.mem_of_getElem? (i := 1627) (by decide +kernel), List.mem_of_getElem? (i := 1628) (by decide +kernel)⟩
theorem lw_p58 : lw_okq (⟨"OneRoofModel", "findSets", "(I)V"⟩, 63) := ⟨⟨by decide +kernel, by decide +kernel⟩, List.mem_of_getElem? (i := 1174) (by decide +kernel), List.mem_of_getElem? (i := 1631) (by decide +kernel), List.mem_of_getElem? (i := 1632) (by decide +kernel)⟩
theorem lw_p59 : lw_okq (⟨"OneRoofModel", "peopleOf", "(I)J"⟩, 63) := ⟨⟨by decide +kernel, by decide +kernel⟩, List.mem_of_getElem? (i := 1174) (by decide +kernel), List.mem_of_getElem? (i := 1639) (by decide +kernel), List.mem_of_getElem? (i := 1640) (by decide +kernel)⟩
theorem lw_p60 : lw_okq (⟨"OneRoofModel", "barAny", "(I)Z"⟩, 63) := ⟨⟨by decide +kernel, by decide +kernel⟩, List.mem_of_getElem? (i := 1174) (by decide +kernel), List.mem_of_getElem? (i := 1651) (by decide +kernel), List.mem_of_getElem? (i := 1652) (by decide +kernel)⟩
theorem lw_p61 : lw_okq (⟨"OneRoofModel", "orders", "(IIII)Z"⟩, 63) := ⟨⟨by decide +kernel, by decide +kernel⟩, List.mem_of_getElem? (i := 1174) (by decide +kernel), List.mem_of_getElem? (i := 1666) (by decide +kernel), List.mem_of_getElem? (i := 1667) (by decide +kernel)⟩
theorem lw_p62 : lw_okq (⟨"OneRoofModel", "meets", "(III)Z"⟩, 63) := ⟨⟨by decide +kernel, by decide +kernel⟩, List.mem_of_getElem? (i := 1174) (by decide +kernel), List.mem_of_getElem? (i := 1670) (by decide +kernel), List.mem_of_getElem? (i := 1671) (by decide +kernel)⟩
theorem lw_p63 : lw_okq (⟨"OneRoofModel", "goesOn", "(IJIZ)V"⟩, 63) := ⟨⟨by decide +kernel, by decide +kernel⟩, List.mem_of_getElem? (i := 1174) (by decide +kernel), List.mem_of_getElem? (i := 1678) (by decide +kernel), List.mem_of_getElem? (i := 1679) (by decide +kernel)⟩
def lw_privs_4 : List (MethodName × Nat) := [(⟨"OneRoofModel", "product", "()I"⟩, 63), (⟨"OneRoofModel", "one", "()I"⟩, 63), (⟨"OneRoofModel", "byteAt", "()I"⟩, 63), (⟨"OneRoofModel", "wrong", "()I"⟩, 63), (⟨"OneRoofModel", "takes", "(I)Z"⟩, 63), (⟨"OneRoofModel", "isSet", "(J)Z"⟩, 63), (⟨"OneRoofModel", "mustNow", "(IIJI)I"⟩, 63), (⟨"OneRoofModel", "gives", "(IIIIJI)I"⟩, 63), (⟨"OneRoofModel", "doBar", "(III)Z"⟩, 63), (⟨"OneRoofModel", "lists", "(JI)Z"⟩, 63), (⟨"OneRoofModel", "findSets", "(I)V"⟩, 63), (⟨"OneRoofModel", "peopleOf", "(I)J"⟩, 63), (⟨"OneRoofModel", "barAny", "(I)Z"⟩, 63), (⟨"OneRoofModel", "orders", "(IIII)Z"⟩, 63), (⟨"OneRoofModel", "meets", "(III)Z"⟩, 63), (⟨"OneRoofModel", "goesOn", "(IJIZ)V"⟩, 63)]
theorem lw_r4 : ∀ q ∈ lw_privs_4, lw_okq q := List.forall_mem_cons.mpr ⟨lw_p48, List.forall_mem_cons.mpr ⟨lw_p49, List.forall_mem_cons.mpr ⟨lw_p50, List.forall_mem_cons.mpr ⟨lw_p51, List.forall_mem_cons.mpr ⟨lw_p52, List.forall_mem_cons.mpr ⟨lw_p53, List.forall_mem_cons.mpr ⟨lw_p54, List.forall_mem_cons.mpr ⟨lw_p55, List.forall_mem_cons.mpr ⟨lw_p56, List.forall_mem_cons.mpr ⟨lw_p57, List.forall_mem_cons.mpr ⟨lw_p58, List.forall_mem_cons.mpr ⟨lw_p59, List.forall_mem_cons.mpr ⟨lw_p60, List.forall_mem_cons.mpr ⟨lw_p61, List.forall_mem_cons.mpr ⟨lw_p62, List.forall_mem_cons.mpr ⟨lw_p63, fun _ h => absurd h List.not_mem_nil⟩⟩⟩⟩⟩⟩⟩⟩⟩⟩⟩⟩⟩⟩⟩⟩
theorem lw_p64 : lw_okq (⟨"OneRoofModel", "blowFalls", "(IIIZ)V"⟩, 63) := ⟨⟨by decide +kernel, by decide +kernel⟩, List.mem_of_getElem? (i := 1174) (by decide +kernel), List.mem_of_getElem? (i := 1682) (by decide +kernel), List.mem_of_getElem? (i := 1683) (by decide +kernel)⟩
theorem lw_p65 : lw_okq (⟨"OneRoofModel", "nextBlow", "(JI)I"⟩, 63) := ⟨⟨by decide +kernel, by decide +kernel⟩, List.mem_of_getElem? (i := 1174) (by decide +kernel), List.mem_of_getElem? (i := 1686) (by decide +kernel), List.mem_of_getElem? (i := 1687) (by decide +kernel)⟩
theorem lw_p66 : lw_okq (⟨"OneRoofModel", "mustHelp", "(IIJI)Z"⟩, 63) := ⟨⟨by decide +kernel, by decide +kernel⟩, List.mem_of_getElem? (i := 1174) (by decide +kernel), List.mem_of_getElem? (i := 1690) (by decide +kernel), List.mem_of_getElem? (i := 1691) (by decide +kernel)⟩
theorem lw_p67 : lw_okq (⟨"OneRoofModel", "holdsAs", "(II)I"⟩, 63) := ⟨⟨by decide +kernel, by decide +kernel⟩, List.mem_of_getElem? (i := 1174) (by decide +kernel), List.mem_of_getElem? (i := 1717) (by decide +kernel), List.mem_of_getElem? (i := 1718) (by decide +kernel)⟩
theorem lw_p68 : lw_okq (⟨"OneRoofModel", "begins", "(I)V"⟩, 63) := ⟨⟨by decide +kernel, by decide +kernel⟩, List.mem_of_getElem? (i := 1174) (by decide +kernel), List.mem_of_getElem? (i := 1721) (by decide +kernel), List.mem_of_getElem? (i := 1722) (by decide +kernel)⟩
theorem lw_p69 : lw_okq (⟨"OneRoofModel", "endsAs", "(II)I"⟩, 63) := ⟨⟨by decide +kernel, by decide +kernel⟩, List.mem_of_getElem? (i := 1174) (by decide +kernel), List.mem_of_getElem? (i := 1725) (by decide +kernel), List.mem_of_getElem? (i := 1726) (by decide +kernel)⟩
theorem lw_p70 : lw_okq (⟨"OneRoofModel", "coversAs", "(II)I"⟩, 63) := ⟨⟨by decide +kernel, by decide +kernel⟩, List.mem_of_getElem? (i := 1174) (by decide +kernel), List.mem_of_getElem? (i := 1729) (by decide +kernel), List.mem_of_getElem? (i := 1730) (by decide +kernel)⟩
theorem lw_p71 : lw_okq (⟨"OneRoofModel", "tellsAs", "(II)I"⟩, 63) := ⟨⟨by decide +kernel, by decide +kernel⟩, List.mem_of_getElem? (i := 1174) (by decide +kernel), List.mem_of_getElem? (i := 1733) (by decide +kernel), List.mem_of_getElem? (i := 1734) (by decide +kernel)⟩
theorem lw_p72 : lw_okq (⟨"OneRoofModel", "refusal", "(II)I"⟩, 63) := ⟨⟨by decide +kernel, by decide +kernel⟩, List.mem_of_getElem? (i := 1174) (by decide +kernel), List.mem_of_getElem? (i := 1753) (by decide +kernel), List.mem_of_getElem? (i := 1754) (by decide +kernel)⟩
def lw_privs_5 : List (MethodName × Nat) := [(⟨"OneRoofModel", "blowFalls", "(IIIZ)V"⟩, 63), (⟨"OneRoofModel", "nextBlow", "(JI)I"⟩, 63), (⟨"OneRoofModel", "mustHelp", "(IIJI)Z"⟩, 63), (⟨"OneRoofModel", "holdsAs", "(II)I"⟩, 63), (⟨"OneRoofModel", "begins", "(I)V"⟩, 63), (⟨"OneRoofModel", "endsAs", "(II)I"⟩, 63), (⟨"OneRoofModel", "coversAs", "(II)I"⟩, 63), (⟨"OneRoofModel", "tellsAs", "(II)I"⟩, 63), (⟨"OneRoofModel", "refusal", "(II)I"⟩, 63)]
theorem lw_r5 : ∀ q ∈ lw_privs_5, lw_okq q := List.forall_mem_cons.mpr ⟨lw_p64, List.forall_mem_cons.mpr ⟨lw_p65, List.forall_mem_cons.mpr ⟨lw_p66, List.forall_mem_cons.mpr ⟨lw_p67, List.forall_mem_cons.mpr ⟨lw_p68, List.forall_mem_cons.mpr ⟨lw_p69, List.forall_mem_cons.mpr ⟨lw_p70, List.forall_mem_cons.mpr ⟨lw_p71, List.forall_mem_cons.mpr ⟨lw_p72, fun _ h => absurd h List.not_mem_nil⟩⟩⟩⟩⟩⟩⟩⟩⟩
def lw_privs : List (MethodName × Nat) := lw_privs_1 ++ (lw_privs_2 ++ (lw_privs_3 ++ (lw_privs_4 ++ (lw_privs_5))))
def lw_tbl : List Cond := k2_sels lw_privs ++ tables_1
theorem lw_privs_ok : ∀ q ∈ lw_privs, lw_okq q := by
  show ∀ q ∈ lw_privs_1 ++ (lw_privs_2 ++ (lw_privs_3 ++ (lw_privs_4 ++ (lw_privs_5)))), lw_okq q
  exact List.forall_mem_append.mpr ⟨lw_r1, List.forall_mem_append.mpr ⟨lw_r2, List.forall_mem_append.mpr ⟨lw_r3, List.forall_mem_append.mpr ⟨lw_r4, lw_r5⟩⟩⟩⟩
end
section
/-! tables, written by a program out of the Statement of this claim: classes, methods, code, what each pool number means. qx_ names. -/
def qx_ons : List String := ["OneRoofLaw", "OneRoof", "OneRoof$Folk", "OneRoof$Kinship", "java/util/Arrays", "OneRoof$Feuds", "OneRoof$Peaces", "OneRoof$Acts", "OneRoof$Pegs", "OneRoof$Custom", "java/lang/String", "java/lang/Math", "java/lang/StringLatin1", "jdk/internal/util/Preconditions", "OneRoof$Moment", "OneRoof$Guests", "OneRoof$Telling", "OneRoof$History", "java/lang/Long", "java/lang/Integer", "OneRoofModel"]
def qx_on (o : Nat) : String := qx_ons.getD o ""
def qx_F0 : u_T := fun k => match k with
  | 0 => ("OneRoof", "folk", "LOneRoof$Folk;", true)
  | 1 => ("OneRoof", "kinship", "LOneRoof$Kinship;", true)
  | 2 => ("OneRoof", "wedded", "LOneRoof$Kinship;", true)
  | 3 => ("OneRoof", "feuds", "LOneRoof$Feuds;", true)
  | 4 => ("OneRoof", "peaces", "LOneRoof$Peaces;", true)
  | 5 => ("OneRoof", "acts", "LOneRoof$Acts;", true)
  | 6 => ("OneRoof", "pegs", "LOneRoof$Pegs;", true)
  | 7 => ("OneRoof", "customs", "[LOneRoof$Custom;", true)
  | 8 => ("OneRoof", "moment", "LOneRoof$Moment;", true)
  | 9 => ("OneRoof", "guests", "LOneRoof$Guests;", true)
  | 10 => ("OneRoof", "latest", "LOneRoof$Telling;", true)
  | 11 => ("OneRoof", "trial", "LOneRoof$Telling;", true)
  | 12 => ("OneRoof", "history", "LOneRoof$History;", true)
  | 13 => ("OneRoof", "tape", "[I", true)
  | 14 => ("OneRoof", "spare", "LOneRoof$Custom;", false)
  | _ => ("OneRoof", "taped", "I", false)
def qx_t0 : Nat → FieldType := fun k => match k with
  | 0 => .object "OneRoof$Folk"
  | 1 => .object "OneRoof$Kinship"
  | 2 => .object "OneRoof$Kinship"
  | 3 => .object "OneRoof$Feuds"
  | 4 => .object "OneRoof$Peaces"
  | 5 => .object "OneRoof$Acts"
  | 6 => .object "OneRoof$Pegs"
  | 7 => .array (.object "OneRoof$Custom")
  | 8 => .object "OneRoof$Moment"
  | 9 => .object "OneRoof$Guests"
  | 10 => .object "OneRoof$Telling"
  | 11 => .object "OneRoof$Telling"
  | 12 => .object "OneRoof$History"
  | 13 => .array (.int)
  | 14 => .object "OneRoof$Custom"
  | _ => .int
def qx_F1 : u_T := fun k => match k with
  | 0 => ("OneRoof$Folk", "lord", "[I", true)
  | 1 => ("OneRoof$Folk", "weight", "[I", true)
  | 2 => ("OneRoof$Folk", "sword", "[I", true)
  | 3 => ("OneRoof$Folk", "road", "[I", true)
  | 4 => ("OneRoof$Folk", "line", "[J", true)
  | 5 => ("OneRoof$Folk", "dead", "J", false)
  | _ => ("OneRoof$Folk", "size", "I", false)
def qx_t1 : Nat → FieldType := fun k => match k with
  | 0 => .array (.int)
  | 1 => .array (.int)
  | 2 => .array (.int)
  | 3 => .array (.int)
  | 4 => .array (.long)
  | 5 => .long
  | _ => .int
def qx_F2 : u_T := fun k => match k with
  | 0 => ("OneRoof$Kinship", "table", "[I", true)
  | _ => ("OneRoof$Kinship", "size", "I", false)
def qx_t2 : Nat → FieldType := fun k => match k with
  | 0 => .array (.int)
  | _ => .int
def qx_F3 : u_T := fun k => match k with
  | 0 => ("OneRoof$Feuds", "killed", "[I", true)
  | 1 => ("OneRoof$Feuds", "killer", "[I", true)
  | 2 => ("OneRoof$Feuds", "since", "[I", true)
  | 3 => ("OneRoof$Feuds", "binding", "[I", true)
  | 4 => ("OneRoof$Feuds", "price", "[I", true)
  | 5 => ("OneRoof$Feuds", "paid", "[I", true)
  | 6 => ("OneRoof$Feuds", "settled", "J", false)
  | _ => ("OneRoof$Feuds", "size", "I", false)
def qx_t3 : Nat → FieldType := fun k => match k with
  | 0 => .array (.int)
  | 1 => .array (.int)
  | 2 => .array (.int)
  | 3 => .array (.int)
  | 4 => .array (.int)
  | 5 => .array (.int)
  | 6 => .long
  | _ => .int
def qx_F4 : u_T := fun k => match k with
  | 0 => ("OneRoof$Peaces", "kind", "[I", true)
  | 1 => ("OneRoof$Peaces", "giver", "[I", true)
  | 2 => ("OneRoof$Peaces", "first", "[I", true)
  | 3 => ("OneRoof$Peaces", "last", "[I", true)
  | 4 => ("OneRoof$Peaces", "behind", "[I", true)
  | 5 => ("OneRoof$Peaces", "until", "[I", true)
  | 6 => ("OneRoof$Peaces", "covers", "[J", true)
  | _ => ("OneRoof$Peaces", "size", "I", false)
def qx_t4 : Nat → FieldType := fun k => match k with
  | 0 => .array (.int)
  | 1 => .array (.int)
  | 2 => .array (.int)
  | 3 => .array (.int)
  | 4 => .array (.int)
  | 5 => .array (.int)
  | 6 => .array (.long)
  | _ => .int
def qx_F5 : u_T := fun k => match k with
  | 0 => ("OneRoof$Acts", "kept", "[I", true)
  | _ => ("OneRoof$Acts", "ran", "I", false)
def qx_t5 : Nat → FieldType := fun k => match k with
  | 0 => .array (.int)
  | _ => .int
def qx_F6 : u_T := fun k => match k with
  | 0 => ("OneRoof$Pegs", "sort", "[I", true)
  | 1 => ("OneRoof$Pegs", "length", "[I", true)
  | 2 => ("OneRoof$Pegs", "number", "[I", true)
  | _ => ("OneRoof$Pegs", "cells", "[J", true)
def qx_t6 : Nat → FieldType := fun k => match k with
  | 0 => .array (.int)
  | 1 => .array (.int)
  | 2 => .array (.int)
  | _ => .array (.long)
def qx_F7 : u_T := fun k => match k with
  | 0 => ("OneRoof$Custom", "text", "[I", true)
  | 1 => ("OneRoof$Custom", "code", "[I", true)
  | 2 => ("OneRoof$Custom", "stack", "[I", true)
  | 3 => ("OneRoof$Custom", "length", "I", false)
  | 4 => ("OneRoof$Custom", "at", "I", false)
  | 5 => ("OneRoof$Custom", "size", "I", false)
  | 6 => ("OneRoof$Custom", "named", "I", false)
  | _ => ("OneRoof$Custom", "stuck", "Z", false)
def qx_t7 : Nat → FieldType := fun k => match k with
  | 0 => .array (.int)
  | 1 => .array (.int)
  | 2 => .array (.int)
  | 3 => .int
  | 4 => .int
  | 5 => .int
  | 6 => .int
  | _ => .boolean
def qx_F8 : u_T := fun k => match k with
  | 0 => ("OneRoof$Moment", "folk", "LOneRoof$Folk;", true)
  | 1 => ("OneRoof$Moment", "kinship", "LOneRoof$Kinship;", true)
  | 2 => ("OneRoof$Moment", "feuds", "LOneRoof$Feuds;", true)
  | 3 => ("OneRoof$Moment", "peaces", "LOneRoof$Peaces;", true)
  | 4 => ("OneRoof$Moment", "customs", "[LOneRoof$Custom;", true)
  | 5 => ("OneRoof$Moment", "names", "[I", true)
  | 6 => ("OneRoof$Moment", "nearKeys", "[I", true)
  | 7 => ("OneRoof$Moment", "nearStamps", "[I", true)
  | 8 => ("OneRoof$Moment", "heldBits", "[J", true)
  | 9 => ("OneRoof$Moment", "heldStamps", "[I", true)
  | 10 => ("OneRoof$Moment", "broken", "J", false)
  | 11 => ("OneRoof$Moment", "hour", "I", false)
  | _ => ("OneRoof$Moment", "stamp", "I", false)
def qx_t8 : Nat → FieldType := fun k => match k with
  | 0 => .object "OneRoof$Folk"
  | 1 => .object "OneRoof$Kinship"
  | 2 => .object "OneRoof$Feuds"
  | 3 => .object "OneRoof$Peaces"
  | 4 => .array (.object "OneRoof$Custom")
  | 5 => .array (.int)
  | 6 => .array (.int)
  | 7 => .array (.int)
  | 8 => .array (.long)
  | 9 => .array (.int)
  | 10 => .long
  | 11 => .int
  | _ => .int
def qx_F9 : u_T := fun k => match k with
  | 0 => ("OneRoof$Guests", "moment", "LOneRoof$Moment;", true)
  | 1 => ("OneRoof$Guests", "list", "[I", true)
  | 2 => ("OneRoof$Guests", "size", "I", false)
  | 3 => ("OneRoof$Guests", "barring", "[I", true)
  | 4 => ("OneRoof$Guests", "heaviestWithin", "[I", true)
  | 5 => ("OneRoof$Guests", "meeting", "[I", true)
  | 6 => ("OneRoof$Guests", "order", "[I", true)
  | _ => ("OneRoof$Guests", "reach", "I", false)
def qx_t9 : Nat → FieldType := fun k => match k with
  | 0 => .object "OneRoof$Moment"
  | 1 => .array (.int)
  | 2 => .int
  | 3 => .array (.int)
  | 4 => .array (.int)
  | 5 => .array (.int)
  | 6 => .array (.int)
  | _ => .int
def qx_F10 : u_T := fun k => match k with
  | 0 => ("OneRoof$Telling", "moment", "LOneRoof$Moment;", true)
  | 1 => ("OneRoof$Telling", "row", "[I", true)
  | 2 => ("OneRoof$Telling", "blows", "I", false)
  | 3 => ("OneRoof$Telling", "left", "J", false)
  | 4 => ("OneRoof$Telling", "broken", "[I", true)
  | 5 => ("OneRoof$Telling", "breaks", "I", false)
  | _ => ("OneRoof$Telling", "strikers", "J", false)
def qx_t10 : Nat → FieldType := fun k => match k with
  | 0 => .object "OneRoof$Moment"
  | 1 => .array (.int)
  | 2 => .int
  | 3 => .long
  | 4 => .array (.int)
  | 5 => .int
  | _ => .long
def qx_F11 : u_T := fun k => match k with
  | 0 => ("OneRoof$History", "folk", "LOneRoof$Folk;", true)
  | 1 => ("OneRoof$History", "feuds", "LOneRoof$Feuds;", true)
  | 2 => ("OneRoof$History", "peaces", "LOneRoof$Peaces;", true)
  | 3 => ("OneRoof$History", "sort", "[I", true)
  | 4 => ("OneRoof$History", "place", "[I", true)
  | 5 => ("OneRoof$History", "before", "[I", true)
  | 6 => ("OneRoof$History", "after", "[I", true)
  | 7 => ("OneRoof$History", "done", "I", false)
  | _ => ("OneRoof$History", "known", "I", false)
def qx_t11 : Nat → FieldType := fun k => match k with
  | 0 => .object "OneRoof$Folk"
  | 1 => .object "OneRoof$Feuds"
  | 2 => .object "OneRoof$Peaces"
  | 3 => .array (.int)
  | 4 => .array (.int)
  | 5 => .array (.int)
  | 6 => .array (.int)
  | 7 => .int
  | _ => .int
def qx_F12 : u_T := fun k => match k with
  | 0 => ("OneRoofModel", "may", "[I", true)
  | 1 => ("OneRoofModel", "changeAt", "[I", true)
  | 2 => ("OneRoofModel", "changeWas", "[I", true)
  | 3 => ("OneRoofModel", "changeIs", "[I", true)
  | 4 => ("OneRoofModel", "keptMany", "I", false)
  | 5 => ("OneRoofModel", "done", "I", false)
  | 6 => ("OneRoofModel", "people", "I", false)
  | 7 => ("OneRoofModel", "lord", "[I", true)
  | 8 => ("OneRoofModel", "weight", "[I", true)
  | 9 => ("OneRoofModel", "road", "[I", true)
  | 10 => ("OneRoofModel", "dead", "J", false)
  | 11 => ("OneRoofModel", "kins", "I", false)
  | 12 => ("OneRoofModel", "kinA", "[I", true)
  | 13 => ("OneRoofModel", "kinB", "[I", true)
  | 14 => ("OneRoofModel", "stepsOf", "[I", true)
  | 15 => ("OneRoofModel", "isKnown", "Z", false)
  | 16 => ("OneRoofModel", "feuds", "I", false)
  | 17 => ("OneRoofModel", "killed", "[I", true)
  | 18 => ("OneRoofModel", "killer", "[I", true)
  | 19 => ("OneRoofModel", "began", "[I", true)
  | 20 => ("OneRoofModel", "binding", "[I", true)
  | 21 => ("OneRoofModel", "price", "[I", true)
  | 22 => ("OneRoofModel", "bought", "J", false)
  | 23 => ("OneRoofModel", "nearFeud", "I", false)
  | 24 => ("OneRoofModel", "peaces", "I", false)
  | 25 => ("OneRoofModel", "giver", "[I", true)
  | 26 => ("OneRoofModel", "fromHour", "[I", true)
  | 27 => ("OneRoofModel", "toHour", "[I", true)
  | 28 => ("OneRoofModel", "behind", "[I", true)
  | 29 => ("OneRoofModel", "broken", "J", false)
  | 30 => ("OneRoofModel", "proven", "I", false)
  | 31 => ("OneRoofModel", "tape", "[I", true)
  | 32 => ("OneRoofModel", "tapeMany", "I", false)
  | 33 => ("OneRoofModel", "text", "[I", true)
  | 34 => ("OneRoofModel", "textMany", "[I", true)
  | 35 => ("OneRoofModel", "base", "I", false)
  | 36 => ("OneRoofModel", "at", "I", false)
  | 37 => ("OneRoofModel", "ends", "I", false)
  | 38 => ("OneRoofModel", "fault", "I", false)
  | 39 => ("OneRoofModel", "opened", "I", false)
  | 40 => ("OneRoofModel", "names", "[I", true)
  | 41 => ("OneRoofModel", "alsoDead", "Z", false)
  | 42 => ("OneRoofModel", "listed", "[I", true)
  | 43 => ("OneRoofModel", "listMany", "I", false)
  | 44 => ("OneRoofModel", "barred", "[I", true)
  | 45 => ("OneRoofModel", "weightOf", "[I", true)
  | 46 => ("OneRoofModel", "openFeud", "[I", true)
  | 47 => ("OneRoofModel", "order", "[I", true)
  | 48 => ("OneRoofModel", "blowBy", "[I", true)
  | 49 => ("OneRoofModel", "blowOn", "[I", true)
  | 50 => ("OneRoofModel", "blows", "I", false)
  | 51 => ("OneRoofModel", "leftAlive", "J", false)
  | 52 => ("OneRoofModel", "keptBy", "[I", true)
  | 53 => ("OneRoofModel", "keptOn", "[I", true)
  | 54 => ("OneRoofModel", "wasAt", "[Z", true)
  | 55 => ("OneRoofModel", "trace", "[I", true)
  | 56 => ("OneRoofModel", "ran", "I", false)
  | 57 => ("OneRoofModel", "ownKind", "I", false)
  | 58 => ("OneRoofModel", "ownNumber", "I", false)
  | 59 => ("OneRoofModel", "shelf", "[I", true)
  | 60 => ("OneRoofModel", "many", "[I", true)
  | 61 => ("OneRoofModel", "items", "[J", true)
  | _ => ("OneRoofModel", "carried", "[J", true)
def qx_t12 : Nat → FieldType := fun k => match k with
  | 0 => .array (.int)
  | 1 => .array (.int)
  | 2 => .array (.int)
  | 3 => .array (.int)
  | 4 => .int
  | 5 => .int
  | 6 => .int
  | 7 => .array (.int)
  | 8 => .array (.int)
  | 9 => .array (.int)
  | 10 => .long
  | 11 => .int
  | 12 => .array (.int)
  | 13 => .array (.int)
  | 14 => .array (.int)
  | 15 => .boolean
  | 16 => .int
  | 17 => .array (.int)
  | 18 => .array (.int)
  | 19 => .array (.int)
  | 20 => .array (.int)
  | 21 => .array (.int)
  | 22 => .long
  | 23 => .int
  | 24 => .int
  | 25 => .array (.int)
  | 26 => .array (.int)
  | 27 => .array (.int)
  | 28 => .array (.int)
  | 29 => .long
  | 30 => .int
  | 31 => .array (.int)
  | 32 => .int
  | 33 => .array (.int)
  | 34 => .array (.int)
  | 35 => .int
  | 36 => .int
  | 37 => .int
  | 38 => .int
  | 39 => .int
  | 40 => .array (.int)
  | 41 => .boolean
  | 42 => .array (.int)
  | 43 => .int
  | 44 => .array (.int)
  | 45 => .array (.int)
  | 46 => .array (.int)
  | 47 => .array (.int)
  | 48 => .array (.int)
  | 49 => .array (.int)
  | 50 => .int
  | 51 => .long
  | 52 => .array (.int)
  | 53 => .array (.int)
  | 54 => .array (.boolean)
  | 55 => .array (.int)
  | 56 => .int
  | 57 => .int
  | 58 => .int
  | 59 => .array (.int)
  | 60 => .array (.int)
  | 61 => .array (.long)
  | _ => .array (.long)
def qx_cl : List vw_C := [("OneRoof", qx_F0, 16), ("OneRoof$Folk", qx_F1, 7), ("OneRoof$Kinship", qx_F2, 2), ("OneRoof$Feuds", qx_F3, 8), ("OneRoof$Peaces", qx_F4, 8), ("OneRoof$Acts", qx_F5, 2), ("OneRoof$Pegs", qx_F6, 4), ("OneRoof$Custom", qx_F7, 8), ("OneRoof$Moment", qx_F8, 13), ("OneRoof$Guests", qx_F9, 8), ("OneRoof$Telling", qx_F10, 7), ("OneRoof$History", qx_F11, 9), ("OneRoofModel", qx_F12, 63)]
def qx_ty (c : Nat) : Nat → FieldType := match c with
  | 0 => qx_t0
  | 1 => qx_t1
  | 2 => qx_t2
  | 3 => qx_t3
  | 4 => qx_t4
  | 5 => qx_t5
  | 6 => qx_t6
  | 7 => qx_t7
  | 8 => qx_t8
  | 9 => qx_t9
  | 10 => qx_t10
  | 11 => qx_t11
  | _ => qx_t12
/-- OneRoofLaw.law([I)Z -/
def qx_c0_0 : List (Nat × Instr × Nat × Nat × Nat × Nat × Value) := [(0, .new 7, 3, 0, 0, 0, .null), (3, .dup, 1, 0, 0, 0, .null), (4, .invokespecial 9, 3, 1, 0, 4, .null), (7, .astore_n 1, 1, 0, 0, 0, .null), (8, .new 10, 3, 12, 0, 0, .null), (11, .dup, 1, 0, 0, 0, .null), (12, .invokespecial 12, 3, 170, 0, 4, .null), (15, .astore_n 2, 1, 0, 0, 0, .null), (16, .iconst 0, 1, 0, 0, 0, .null), (17, .istore_n 3, 1, 0, 0, 0, .null), (18, .iload_n 3, 1, 0, 0, 0, .null), (19, .aload_n 0, 1, 0, 0, 0, .null), (20, .arraylength, 1, 0, 0, 0, .null), (21, .bipush 6, 2, 0, 0, 0, .null), (23, .isub, 1, 0, 0, 0, .null), (24, .if_icmp .gt 2022, 3, 0, 0, 0, .null), (27, .aload_n 0, 1, 0, 0, 0, .null), (28, .iload_n 3, 1, 0, 0, 0, .null), (29, .iaload, 1, 0, 0, 0, .null), (30, .bipush 63, 2, 0, 0, 0, .null), (32, .iand, 1, 0, 0, 0, .null), (33, .tableswitch 2007 0 40 #[179, 222, 265, 298, 331, 364, 397, 440, 473, 526, 609, 642, 685, 728, 761, 794, 827, 850, 923, 996, 1029, 1133, 1207, 1281, 1314, 1387, 1470, 1493, 1507, 1570, 1613, 1626, 1639, 1682, 1705, 1738, 1781, 1854, 1888, 1951, 1984], 179, 0, 0, 0, .null), (212, .aload_n 1, 1, 0, 0, 0, .null), (213, .aload_n 0, 1, 0, 0, 0, .null), (214, .iload_n 3, 1, 0, 0, 0, .null), (215, .iconst 1, 1, 0, 0, 0, .null), (216, .iadd, 1, 0, 0, 0, .null), (217, .iaload, 1, 0, 0, 0, .null), (218, .aload_n 0, 1, 0, 0, 0, .null), (219, .iload_n 3, 1, 0, 0, 0, .null), (220, .iconst 2, 1, 0, 0, 0, .null), (221, .iadd, 1, 0, 0, 0, .null), (222, .iaload, 1, 0, 0, 0, .null), (223, .aload_n 0, 1, 0, 0, 0, .null), (224, .iload_n 3, 1, 0, 0, 0, .null), (225, .iconst 3, 1, 0, 0, 0, .null), (226, .iadd, 1, 0, 0, 0, .null), (227, .iaload, 1, 0, 0, 0, .null), (228, .invokevirtual 13, 3, 38, 3, 0, .ref 0), (231, .aload_n 2, 1, 0, 0, 0, .null), (232, .aload_n 0, 1, 0, 0, 0, .null), (233, .iload_n 3, 1, 0, 0, 0, .null), (234, .iconst 1, 1, 0, 0, 0, .null), (235, .iadd, 1, 0, 0, 0, .null), (236, .iaload, 1, 0, 0, 0, .null), (237, .aload_n 0, 1, 0, 0, 0, .null), (238, .iload_n 3, 1, 0, 0, 0, .null), (239, .iconst 2, 1, 0, 0, 0, .null), (240, .iadd, 1, 0, 0, 0, .null), (241, .iaload, 1, 0, 0, 0, .null)]
def qx_c0_1 : List (Nat × Instr × Nat × Nat × Nat × Nat × Value) := [(242, .aload_n 0, 1, 0, 0, 0, .null), (243, .iload_n 3, 1, 0, 0, 0, .null), (244, .iconst 3, 1, 0, 0, 0, .null), (245, .iadd, 1, 0, 0, 0, .null), (246, .iaload, 1, 0, 0, 0, .null), (247, .invokevirtual 17, 3, 173, 3, 0, .ref 12), (250, .if_icmp .eq 1790, 3, 0, 0, 0, .null), (253, .iconst 0, 1, 0, 0, 0, .null), (254, .ireturn, 1, 0, 0, 0, .null), (255, .aload_n 1, 1, 0, 0, 0, .null), (256, .aload_n 0, 1, 0, 0, 0, .null), (257, .iload_n 3, 1, 0, 0, 0, .null), (258, .iconst 1, 1, 0, 0, 0, .null), (259, .iadd, 1, 0, 0, 0, .null), (260, .iaload, 1, 0, 0, 0, .null), (261, .aload_n 0, 1, 0, 0, 0, .null), (262, .iload_n 3, 1, 0, 0, 0, .null), (263, .iconst 2, 1, 0, 0, 0, .null), (264, .iadd, 1, 0, 0, 0, .null), (265, .iaload, 1, 0, 0, 0, .null), (266, .aload_n 0, 1, 0, 0, 0, .null), (267, .iload_n 3, 1, 0, 0, 0, .null), (268, .iconst 3, 1, 0, 0, 0, .null), (269, .iadd, 1, 0, 0, 0, .null), (270, .iaload, 1, 0, 0, 0, .null), (271, .invokevirtual 18, 3, 43, 3, 0, .ref 0), (274, .aload_n 2, 1, 0, 0, 0, .null), (275, .aload_n 0, 1, 0, 0, 0, .null), (276, .iload_n 3, 1, 0, 0, 0, .null), (277, .iconst 1, 1, 0, 0, 0, .null), (278, .iadd, 1, 0, 0, 0, .null), (279, .iaload, 1, 0, 0, 0, .null), (280, .aload_n 0, 1, 0, 0, 0, .null), (281, .iload_n 3, 1, 0, 0, 0, .null), (282, .iconst 2, 1, 0, 0, 0, .null), (283, .iadd, 1, 0, 0, 0, .null), (284, .iaload, 1, 0, 0, 0, .null), (285, .aload_n 0, 1, 0, 0, 0, .null), (286, .iload_n 3, 1, 0, 0, 0, .null), (287, .iconst 3, 1, 0, 0, 0, .null), (288, .iadd, 1, 0, 0, 0, .null), (289, .iaload, 1, 0, 0, 0, .null), (290, .invokevirtual 21, 3, 176, 3, 0, .ref 12), (293, .if_icmp .eq 1747, 3, 0, 0, 0, .null), (296, .iconst 0, 1, 0, 0, 0, .null), (297, .ireturn, 1, 0, 0, 0, .null), (298, .aload_n 1, 1, 0, 0, 0, .null), (299, .aload_n 0, 1, 0, 0, 0, .null), (300, .iload_n 3, 1, 0, 0, 0, .null), (301, .iconst 1, 1, 0, 0, 0, .null)]
def qx_c0_2 : List (Nat × Instr × Nat × Nat × Nat × Nat × Value) := [(302, .iadd, 1, 0, 0, 0, .null), (303, .iaload, 1, 0, 0, 0, .null), (304, .aload_n 0, 1, 0, 0, 0, .null), (305, .iload_n 3, 1, 0, 0, 0, .null), (306, .iconst 2, 1, 0, 0, 0, .null), (307, .iadd, 1, 0, 0, 0, .null), (308, .iaload, 1, 0, 0, 0, .null), (309, .invokevirtual 22, 3, 49, 2, 0, .ref 0), (312, .aload_n 2, 1, 0, 0, 0, .null), (313, .aload_n 0, 1, 0, 0, 0, .null), (314, .iload_n 3, 1, 0, 0, 0, .null), (315, .iconst 1, 1, 0, 0, 0, .null), (316, .iadd, 1, 0, 0, 0, .null), (317, .iaload, 1, 0, 0, 0, .null), (318, .aload_n 0, 1, 0, 0, 0, .null), (319, .iload_n 3, 1, 0, 0, 0, .null), (320, .iconst 2, 1, 0, 0, 0, .null), (321, .iadd, 1, 0, 0, 0, .null), (322, .iaload, 1, 0, 0, 0, .null), (323, .invokevirtual 26, 3, 178, 2, 0, .ref 12), (326, .if_icmp .eq 1714, 3, 0, 0, 0, .null), (329, .iconst 0, 1, 0, 0, 0, .null), (330, .ireturn, 1, 0, 0, 0, .null), (331, .aload_n 1, 1, 0, 0, 0, .null), (332, .aload_n 0, 1, 0, 0, 0, .null), (333, .iload_n 3, 1, 0, 0, 0, .null), (334, .iconst 1, 1, 0, 0, 0, .null), (335, .iadd, 1, 0, 0, 0, .null), (336, .iaload, 1, 0, 0, 0, .null), (337, .aload_n 0, 1, 0, 0, 0, .null), (338, .iload_n 3, 1, 0, 0, 0, .null), (339, .iconst 2, 1, 0, 0, 0, .null), (340, .iadd, 1, 0, 0, 0, .null), (341, .iaload, 1, 0, 0, 0, .null), (342, .invokevirtual 27, 3, 51, 2, 0, .ref 0), (345, .aload_n 2, 1, 0, 0, 0, .null), (346, .aload_n 0, 1, 0, 0, 0, .null), (347, .iload_n 3, 1, 0, 0, 0, .null), (348, .iconst 1, 1, 0, 0, 0, .null), (349, .iadd, 1, 0, 0, 0, .null), (350, .iaload, 1, 0, 0, 0, .null), (351, .aload_n 0, 1, 0, 0, 0, .null), (352, .iload_n 3, 1, 0, 0, 0, .null), (353, .iconst 2, 1, 0, 0, 0, .null), (354, .iadd, 1, 0, 0, 0, .null), (355, .iaload, 1, 0, 0, 0, .null), (356, .invokevirtual 30, 3, 181, 2, 0, .ref 12), (359, .if_icmp .eq 1681, 3, 0, 0, 0, .null), (362, .iconst 0, 1, 0, 0, 0, .null), (363, .ireturn, 1, 0, 0, 0, .null)]
def qx_c0_3 : List (Nat × Instr × Nat × Nat × Nat × Nat × Value) := [(364, .aload_n 1, 1, 0, 0, 0, .null), (365, .aload_n 0, 1, 0, 0, 0, .null), (366, .iload_n 3, 1, 0, 0, 0, .null), (367, .iconst 1, 1, 0, 0, 0, .null), (368, .iadd, 1, 0, 0, 0, .null), (369, .iaload, 1, 0, 0, 0, .null), (370, .aload_n 0, 1, 0, 0, 0, .null), (371, .iload_n 3, 1, 0, 0, 0, .null), (372, .iconst 2, 1, 0, 0, 0, .null), (373, .iadd, 1, 0, 0, 0, .null), (374, .iaload, 1, 0, 0, 0, .null), (375, .invokevirtual 31, 3, 56, 2, 0, .ref 0), (378, .aload_n 2, 1, 0, 0, 0, .null), (379, .aload_n 0, 1, 0, 0, 0, .null), (380, .iload_n 3, 1, 0, 0, 0, .null), (381, .iconst 1, 1, 0, 0, 0, .null), (382, .iadd, 1, 0, 0, 0, .null), (383, .iaload, 1, 0, 0, 0, .null), (384, .aload_n 0, 1, 0, 0, 0, .null), (385, .iload_n 3, 1, 0, 0, 0, .null), (386, .iconst 2, 1, 0, 0, 0, .null), (387, .iadd, 1, 0, 0, 0, .null), (388, .iaload, 1, 0, 0, 0, .null), (389, .invokevirtual 34, 3, 183, 2, 0, .ref 12), (392, .if_icmp .eq 1648, 3, 0, 0, 0, .null), (395, .iconst 0, 1, 0, 0, 0, .null), (396, .ireturn, 1, 0, 0, 0, .null), (397, .aload_n 1, 1, 0, 0, 0, .null), (398, .aload_n 0, 1, 0, 0, 0, .null), (399, .iload_n 3, 1, 0, 0, 0, .null), (400, .iconst 1, 1, 0, 0, 0, .null), (401, .iadd, 1, 0, 0, 0, .null), (402, .iaload, 1, 0, 0, 0, .null), (403, .aload_n 0, 1, 0, 0, 0, .null), (404, .iload_n 3, 1, 0, 0, 0, .null), (405, .iconst 2, 1, 0, 0, 0, .null), (406, .iadd, 1, 0, 0, 0, .null), (407, .iaload, 1, 0, 0, 0, .null), (408, .invokevirtual 35, 3, 59, 2, 0, .ref 0), (411, .aload_n 2, 1, 0, 0, 0, .null), (412, .aload_n 0, 1, 0, 0, 0, .null), (413, .iload_n 3, 1, 0, 0, 0, .null), (414, .iconst 1, 1, 0, 0, 0, .null), (415, .iadd, 1, 0, 0, 0, .null), (416, .iaload, 1, 0, 0, 0, .null), (417, .aload_n 0, 1, 0, 0, 0, .null), (418, .iload_n 3, 1, 0, 0, 0, .null), (419, .iconst 2, 1, 0, 0, 0, .null), (420, .iadd, 1, 0, 0, 0, .null), (421, .iaload, 1, 0, 0, 0, .null)]
def qx_c0_4 : List (Nat × Instr × Nat × Nat × Nat × Nat × Value) := [(422, .invokevirtual 38, 3, 185, 2, 0, .ref 12), (425, .if_icmp .eq 1615, 3, 0, 0, 0, .null), (428, .iconst 0, 1, 0, 0, 0, .null), (429, .ireturn, 1, 0, 0, 0, .null), (430, .aload_n 1, 1, 0, 0, 0, .null), (431, .aload_n 0, 1, 0, 0, 0, .null), (432, .iload_n 3, 1, 0, 0, 0, .null), (433, .iconst 1, 1, 0, 0, 0, .null), (434, .iadd, 1, 0, 0, 0, .null), (435, .iaload, 1, 0, 0, 0, .null), (436, .aload_n 0, 1, 0, 0, 0, .null), (437, .iload_n 3, 1, 0, 0, 0, .null), (438, .iconst 2, 1, 0, 0, 0, .null), (439, .iadd, 1, 0, 0, 0, .null), (440, .iaload, 1, 0, 0, 0, .null), (441, .aload_n 0, 1, 0, 0, 0, .null), (442, .iload_n 3, 1, 0, 0, 0, .null), (443, .iconst 3, 1, 0, 0, 0, .null), (444, .iadd, 1, 0, 0, 0, .null), (445, .iaload, 1, 0, 0, 0, .null), (446, .invokevirtual 39, 3, 60, 3, 0, .ref 0), (449, .aload_n 2, 1, 0, 0, 0, .null), (450, .aload_n 0, 1, 0, 0, 0, .null), (451, .iload_n 3, 1, 0, 0, 0, .null), (452, .iconst 1, 1, 0, 0, 0, .null), (453, .iadd, 1, 0, 0, 0, .null), (454, .iaload, 1, 0, 0, 0, .null), (455, .aload_n 0, 1, 0, 0, 0, .null), (456, .iload_n 3, 1, 0, 0, 0, .null), (457, .iconst 2, 1, 0, 0, 0, .null), (458, .iadd, 1, 0, 0, 0, .null), (459, .iaload, 1, 0, 0, 0, .null), (460, .aload_n 0, 1, 0, 0, 0, .null), (461, .iload_n 3, 1, 0, 0, 0, .null), (462, .iconst 3, 1, 0, 0, 0, .null), (463, .iadd, 1, 0, 0, 0, .null), (464, .iaload, 1, 0, 0, 0, .null), (465, .invokevirtual 42, 3, 189, 3, 0, .ref 12), (468, .if_icmp .eq 1572, 3, 0, 0, 0, .null), (471, .iconst 0, 1, 0, 0, 0, .null), (472, .ireturn, 1, 0, 0, 0, .null), (473, .aload_n 1, 1, 0, 0, 0, .null), (474, .aload_n 0, 1, 0, 0, 0, .null), (475, .iload_n 3, 1, 0, 0, 0, .null), (476, .iconst 1, 1, 0, 0, 0, .null), (477, .iadd, 1, 0, 0, 0, .null), (478, .iaload, 1, 0, 0, 0, .null), (479, .aload_n 0, 1, 0, 0, 0, .null), (480, .iload_n 3, 1, 0, 0, 0, .null), (481, .iconst 2, 1, 0, 0, 0, .null)]
def qx_c0_5 : List (Nat × Instr × Nat × Nat × Nat × Nat × Value) := [(482, .iadd, 1, 0, 0, 0, .null), (483, .iaload, 1, 0, 0, 0, .null), (484, .invokevirtual 43, 3, 64, 2, 0, .ref 0), (487, .aload_n 2, 1, 0, 0, 0, .null), (488, .aload_n 0, 1, 0, 0, 0, .null), (489, .iload_n 3, 1, 0, 0, 0, .null), (490, .iconst 1, 1, 0, 0, 0, .null), (491, .iadd, 1, 0, 0, 0, .null), (492, .iaload, 1, 0, 0, 0, .null), (493, .aload_n 0, 1, 0, 0, 0, .null), (494, .iload_n 3, 1, 0, 0, 0, .null), (495, .iconst 2, 1, 0, 0, 0, .null), (496, .iadd, 1, 0, 0, 0, .null), (497, .iaload, 1, 0, 0, 0, .null), (498, .invokevirtual 46, 3, 192, 2, 0, .ref 12), (501, .if_icmp .eq 1539, 3, 0, 0, 0, .null), (504, .iconst 0, 1, 0, 0, 0, .null), (505, .ireturn, 1, 0, 0, 0, .null), (506, .aload_n 1, 1, 0, 0, 0, .null), (507, .aload_n 0, 1, 0, 0, 0, .null), (508, .iload_n 3, 1, 0, 0, 0, .null), (509, .iconst 1, 1, 0, 0, 0, .null), (510, .iadd, 1, 0, 0, 0, .null), (511, .iaload, 1, 0, 0, 0, .null), (512, .aload_n 0, 1, 0, 0, 0, .null), (513, .iload_n 3, 1, 0, 0, 0, .null), (514, .iconst 2, 1, 0, 0, 0, .null), (515, .iadd, 1, 0, 0, 0, .null), (516, .iaload, 1, 0, 0, 0, .null), (517, .aload_n 0, 1, 0, 0, 0, .null), (518, .iload_n 3, 1, 0, 0, 0, .null), (519, .iconst 3, 1, 0, 0, 0, .null), (520, .iadd, 1, 0, 0, 0, .null), (521, .iaload, 1, 0, 0, 0, .null), (522, .aload_n 0, 1, 0, 0, 0, .null), (523, .iload_n 3, 1, 0, 0, 0, .null), (524, .iconst 4, 1, 0, 0, 0, .null), (525, .iadd, 1, 0, 0, 0, .null), (526, .iaload, 1, 0, 0, 0, .null), (527, .invokevirtual 47, 3, 65, 4, 0, .ref 0), (530, .aload_n 2, 1, 0, 0, 0, .null), (531, .aload_n 0, 1, 0, 0, 0, .null), (532, .iload_n 3, 1, 0, 0, 0, .null), (533, .iconst 1, 1, 0, 0, 0, .null), (534, .iadd, 1, 0, 0, 0, .null), (535, .iaload, 1, 0, 0, 0, .null), (536, .aload_n 0, 1, 0, 0, 0, .null), (537, .iload_n 3, 1, 0, 0, 0, .null), (538, .iconst 2, 1, 0, 0, 0, .null), (539, .iadd, 1, 0, 0, 0, .null)]
def qx_c0_6 : List (Nat × Instr × Nat × Nat × Nat × Nat × Value) := [(540, .iaload, 1, 0, 0, 0, .null), (541, .aload_n 0, 1, 0, 0, 0, .null), (542, .iload_n 3, 1, 0, 0, 0, .null), (543, .iconst 3, 1, 0, 0, 0, .null), (544, .iadd, 1, 0, 0, 0, .null), (545, .iaload, 1, 0, 0, 0, .null), (546, .aload_n 0, 1, 0, 0, 0, .null), (547, .iload_n 3, 1, 0, 0, 0, .null), (548, .iconst 4, 1, 0, 0, 0, .null), (549, .iadd, 1, 0, 0, 0, .null), (550, .iaload, 1, 0, 0, 0, .null), (551, .invokevirtual 51, 3, 193, 4, 0, .ref 12), (554, .if_icmp .eq 1486, 3, 0, 0, 0, .null), (557, .iconst 0, 1, 0, 0, 0, .null), (558, .ireturn, 1, 0, 0, 0, .null), (559, .aload_n 1, 1, 0, 0, 0, .null), (560, .aload_n 0, 1, 0, 0, 0, .null), (561, .iload_n 3, 1, 0, 0, 0, .null), (562, .iconst 1, 1, 0, 0, 0, .null), (563, .iadd, 1, 0, 0, 0, .null), (564, .iaload, 1, 0, 0, 0, .null), (565, .aload_n 0, 1, 0, 0, 0, .null), (566, .iload_n 3, 1, 0, 0, 0, .null), (567, .iconst 2, 1, 0, 0, 0, .null), (568, .iadd, 1, 0, 0, 0, .null), (569, .iaload, 1, 0, 0, 0, .null), (570, .i2l, 1, 0, 0, 0, .null), (571, .bipush 32, 2, 0, 0, 0, .null), (573, .lshl, 1, 0, 0, 0, .null), (574, .aload_n 0, 1, 0, 0, 0, .null), (575, .iload_n 3, 1, 0, 0, 0, .null), (576, .iconst 3, 1, 0, 0, 0, .null), (577, .iadd, 1, 0, 0, 0, .null), (578, .iaload, 1, 0, 0, 0, .null), (579, .i2l, 1, 0, 0, 0, .null), (580, .ldc2_w 52, 3, 0, 0, 2, .long 4294967295), (583, .land, 1, 0, 0, 0, .null), (584, .lor, 1, 0, 0, 0, .null), (585, .aload_n 0, 1, 0, 0, 0, .null), (586, .iload_n 3, 1, 0, 0, 0, .null), (587, .iconst 4, 1, 0, 0, 0, .null), (588, .iadd, 1, 0, 0, 0, .null), (589, .iaload, 1, 0, 0, 0, .null), (590, .aload_n 0, 1, 0, 0, 0, .null), (591, .iload_n 3, 1, 0, 0, 0, .null), (592, .iconst 5, 1, 0, 0, 0, .null), (593, .iadd, 1, 0, 0, 0, .null), (594, .iaload, 1, 0, 0, 0, .null), (595, .invokevirtual 54, 3, 69, 4, 0, .ref 0), (598, .aload_n 2, 1, 0, 0, 0, .null)]
def qx_c0_7 : List (Nat × Instr × Nat × Nat × Nat × Nat × Value) := [(599, .aload_n 0, 1, 0, 0, 0, .null), (600, .iload_n 3, 1, 0, 0, 0, .null), (601, .iconst 1, 1, 0, 0, 0, .null), (602, .iadd, 1, 0, 0, 0, .null), (603, .iaload, 1, 0, 0, 0, .null), (604, .aload_n 0, 1, 0, 0, 0, .null), (605, .iload_n 3, 1, 0, 0, 0, .null), (606, .iconst 2, 1, 0, 0, 0, .null), (607, .iadd, 1, 0, 0, 0, .null), (608, .iaload, 1, 0, 0, 0, .null), (609, .i2l, 1, 0, 0, 0, .null), (610, .bipush 32, 2, 0, 0, 0, .null), (612, .lshl, 1, 0, 0, 0, .null), (613, .aload_n 0, 1, 0, 0, 0, .null), (614, .iload_n 3, 1, 0, 0, 0, .null), (615, .iconst 3, 1, 0, 0, 0, .null), (616, .iadd, 1, 0, 0, 0, .null), (617, .iaload, 1, 0, 0, 0, .null), (618, .i2l, 1, 0, 0, 0, .null), (619, .ldc2_w 52, 3, 0, 0, 2, .long 4294967295), (622, .land, 1, 0, 0, 0, .null), (623, .lor, 1, 0, 0, 0, .null), (624, .aload_n 0, 1, 0, 0, 0, .null), (625, .iload_n 3, 1, 0, 0, 0, .null), (626, .iconst 4, 1, 0, 0, 0, .null), (627, .iadd, 1, 0, 0, 0, .null), (628, .iaload, 1, 0, 0, 0, .null), (629, .aload_n 0, 1, 0, 0, 0, .null), (630, .iload_n 3, 1, 0, 0, 0, .null), (631, .iconst 5, 1, 0, 0, 0, .null), (632, .iadd, 1, 0, 0, 0, .null), (633, .iaload, 1, 0, 0, 0, .null), (634, .invokevirtual 58, 3, 197, 4, 0, .ref 12), (637, .if_icmp .eq 1403, 3, 0, 0, 0, .null), (640, .iconst 0, 1, 0, 0, 0, .null), (641, .ireturn, 1, 0, 0, 0, .null), (642, .aload_n 1, 1, 0, 0, 0, .null), (643, .aload_n 0, 1, 0, 0, 0, .null), (644, .iload_n 3, 1, 0, 0, 0, .null), (645, .iconst 1, 1, 0, 0, 0, .null), (646, .iadd, 1, 0, 0, 0, .null), (647, .iaload, 1, 0, 0, 0, .null), (648, .aload_n 0, 1, 0, 0, 0, .null), (649, .iload_n 3, 1, 0, 0, 0, .null), (650, .iconst 2, 1, 0, 0, 0, .null), (651, .iadd, 1, 0, 0, 0, .null), (652, .iaload, 1, 0, 0, 0, .null), (653, .invokevirtual 59, 3, 72, 2, 0, .ref 0), (656, .aload_n 2, 1, 0, 0, 0, .null), (657, .aload_n 0, 1, 0, 0, 0, .null)]
def qx_c0_8 : List (Nat × Instr × Nat × Nat × Nat × Nat × Value) := [(658, .iload_n 3, 1, 0, 0, 0, .null), (659, .iconst 1, 1, 0, 0, 0, .null), (660, .iadd, 1, 0, 0, 0, .null), (661, .iaload, 1, 0, 0, 0, .null), (662, .aload_n 0, 1, 0, 0, 0, .null), (663, .iload_n 3, 1, 0, 0, 0, .null), (664, .iconst 2, 1, 0, 0, 0, .null), (665, .iadd, 1, 0, 0, 0, .null), (666, .iaload, 1, 0, 0, 0, .null), (667, .invokevirtual 62, 3, 198, 2, 0, .ref 12), (670, .if_icmp .eq 1370, 3, 0, 0, 0, .null), (673, .iconst 0, 1, 0, 0, 0, .null), (674, .ireturn, 1, 0, 0, 0, .null), (675, .aload_n 1, 1, 0, 0, 0, .null), (676, .aload_n 0, 1, 0, 0, 0, .null), (677, .iload_n 3, 1, 0, 0, 0, .null), (678, .iconst 1, 1, 0, 0, 0, .null), (679, .iadd, 1, 0, 0, 0, .null), (680, .iaload, 1, 0, 0, 0, .null), (681, .aload_n 0, 1, 0, 0, 0, .null), (682, .iload_n 3, 1, 0, 0, 0, .null), (683, .iconst 2, 1, 0, 0, 0, .null), (684, .iadd, 1, 0, 0, 0, .null), (685, .iaload, 1, 0, 0, 0, .null), (686, .aload_n 0, 1, 0, 0, 0, .null), (687, .iload_n 3, 1, 0, 0, 0, .null), (688, .iconst 3, 1, 0, 0, 0, .null), (689, .iadd, 1, 0, 0, 0, .null), (690, .iaload, 1, 0, 0, 0, .null), (691, .invokevirtual 63, 3, 75, 3, 0, .ref 0), (694, .aload_n 2, 1, 0, 0, 0, .null), (695, .aload_n 0, 1, 0, 0, 0, .null), (696, .iload_n 3, 1, 0, 0, 0, .null), (697, .iconst 1, 1, 0, 0, 0, .null), (698, .iadd, 1, 0, 0, 0, .null), (699, .iaload, 1, 0, 0, 0, .null), (700, .aload_n 0, 1, 0, 0, 0, .null), (701, .iload_n 3, 1, 0, 0, 0, .null), (702, .iconst 2, 1, 0, 0, 0, .null), (703, .iadd, 1, 0, 0, 0, .null), (704, .iaload, 1, 0, 0, 0, .null), (705, .aload_n 0, 1, 0, 0, 0, .null), (706, .iload_n 3, 1, 0, 0, 0, .null), (707, .iconst 3, 1, 0, 0, 0, .null), (708, .iadd, 1, 0, 0, 0, .null), (709, .iaload, 1, 0, 0, 0, .null), (710, .invokevirtual 66, 3, 202, 3, 0, .ref 12), (713, .if_icmp .eq 1327, 3, 0, 0, 0, .null), (716, .iconst 0, 1, 0, 0, 0, .null), (717, .ireturn, 1, 0, 0, 0, .null)]
def qx_c0_9 : List (Nat × Instr × Nat × Nat × Nat × Nat × Value) := [(718, .aload_n 1, 1, 0, 0, 0, .null), (719, .aload_n 0, 1, 0, 0, 0, .null), (720, .iload_n 3, 1, 0, 0, 0, .null), (721, .iconst 1, 1, 0, 0, 0, .null), (722, .iadd, 1, 0, 0, 0, .null), (723, .iaload, 1, 0, 0, 0, .null), (724, .aload_n 0, 1, 0, 0, 0, .null), (725, .iload_n 3, 1, 0, 0, 0, .null), (726, .iconst 2, 1, 0, 0, 0, .null), (727, .iadd, 1, 0, 0, 0, .null), (728, .iaload, 1, 0, 0, 0, .null), (729, .aload_n 0, 1, 0, 0, 0, .null), (730, .iload_n 3, 1, 0, 0, 0, .null), (731, .iconst 3, 1, 0, 0, 0, .null), (732, .iadd, 1, 0, 0, 0, .null), (733, .iaload, 1, 0, 0, 0, .null), (734, .invokevirtual 67, 3, 76, 3, 0, .ref 0), (737, .aload_n 2, 1, 0, 0, 0, .null), (738, .aload_n 0, 1, 0, 0, 0, .null), (739, .iload_n 3, 1, 0, 0, 0, .null), (740, .iconst 1, 1, 0, 0, 0, .null), (741, .iadd, 1, 0, 0, 0, .null), (742, .iaload, 1, 0, 0, 0, .null), (743, .aload_n 0, 1, 0, 0, 0, .null), (744, .iload_n 3, 1, 0, 0, 0, .null), (745, .iconst 2, 1, 0, 0, 0, .null), (746, .iadd, 1, 0, 0, 0, .null), (747, .iaload, 1, 0, 0, 0, .null), (748, .aload_n 0, 1, 0, 0, 0, .null), (749, .iload_n 3, 1, 0, 0, 0, .null), (750, .iconst 3, 1, 0, 0, 0, .null), (751, .iadd, 1, 0, 0, 0, .null), (752, .iaload, 1, 0, 0, 0, .null), (753, .invokevirtual 70, 3, 203, 3, 0, .ref 12), (756, .if_icmp .eq 1284, 3, 0, 0, 0, .null), (759, .iconst 0, 1, 0, 0, 0, .null), (760, .ireturn, 1, 0, 0, 0, .null), (761, .aload_n 1, 1, 0, 0, 0, .null), (762, .aload_n 0, 1, 0, 0, 0, .null), (763, .iload_n 3, 1, 0, 0, 0, .null), (764, .iconst 1, 1, 0, 0, 0, .null), (765, .iadd, 1, 0, 0, 0, .null), (766, .iaload, 1, 0, 0, 0, .null), (767, .aload_n 0, 1, 0, 0, 0, .null), (768, .iload_n 3, 1, 0, 0, 0, .null), (769, .iconst 2, 1, 0, 0, 0, .null), (770, .iadd, 1, 0, 0, 0, .null), (771, .iaload, 1, 0, 0, 0, .null), (772, .invokevirtual 71, 3, 79, 2, 0, .ref 0), (775, .aload_n 2, 1, 0, 0, 0, .null)]
def qx_c0_10 : List (Nat × Instr × Nat × Nat × Nat × Nat × Value) := [(776, .aload_n 0, 1, 0, 0, 0, .null), (777, .iload_n 3, 1, 0, 0, 0, .null), (778, .iconst 1, 1, 0, 0, 0, .null), (779, .iadd, 1, 0, 0, 0, .null), (780, .iaload, 1, 0, 0, 0, .null), (781, .aload_n 0, 1, 0, 0, 0, .null), (782, .iload_n 3, 1, 0, 0, 0, .null), (783, .iconst 2, 1, 0, 0, 0, .null), (784, .iadd, 1, 0, 0, 0, .null), (785, .iaload, 1, 0, 0, 0, .null), (786, .invokevirtual 74, 3, 207, 2, 0, .ref 12), (789, .if_icmp .eq 1251, 3, 0, 0, 0, .null), (792, .iconst 0, 1, 0, 0, 0, .null), (793, .ireturn, 1, 0, 0, 0, .null), (794, .aload_n 1, 1, 0, 0, 0, .null), (795, .aload_n 0, 1, 0, 0, 0, .null), (796, .iload_n 3, 1, 0, 0, 0, .null), (797, .iconst 1, 1, 0, 0, 0, .null), (798, .iadd, 1, 0, 0, 0, .null), (799, .iaload, 1, 0, 0, 0, .null), (800, .aload_n 0, 1, 0, 0, 0, .null), (801, .iload_n 3, 1, 0, 0, 0, .null), (802, .iconst 2, 1, 0, 0, 0, .null), (803, .iadd, 1, 0, 0, 0, .null), (804, .iaload, 1, 0, 0, 0, .null), (805, .invokevirtual 75, 3, 81, 2, 0, .ref 0), (808, .aload_n 2, 1, 0, 0, 0, .null), (809, .aload_n 0, 1, 0, 0, 0, .null), (810, .iload_n 3, 1, 0, 0, 0, .null), (811, .iconst 1, 1, 0, 0, 0, .null), (812, .iadd, 1, 0, 0, 0, .null), (813, .iaload, 1, 0, 0, 0, .null), (814, .aload_n 0, 1, 0, 0, 0, .null), (815, .iload_n 3, 1, 0, 0, 0, .null), (816, .iconst 2, 1, 0, 0, 0, .null), (817, .iadd, 1, 0, 0, 0, .null), (818, .iaload, 1, 0, 0, 0, .null), (819, .invokevirtual 78, 3, 209, 2, 0, .ref 12), (822, .if_icmp .eq 1218, 3, 0, 0, 0, .null), (825, .iconst 0, 1, 0, 0, 0, .null), (826, .ireturn, 1, 0, 0, 0, .null), (827, .aload_n 1, 1, 0, 0, 0, .null), (828, .aload_n 0, 1, 0, 0, 0, .null), (829, .iload_n 3, 1, 0, 0, 0, .null), (830, .iconst 1, 1, 0, 0, 0, .null), (831, .iadd, 1, 0, 0, 0, .null), (832, .iaload, 1, 0, 0, 0, .null), (833, .aload_n 0, 1, 0, 0, 0, .null), (834, .iload_n 3, 1, 0, 0, 0, .null), (835, .iconst 2, 1, 0, 0, 0, .null)]
def qx_c0_11 : List (Nat × Instr × Nat × Nat × Nat × Nat × Value) := [(836, .iadd, 1, 0, 0, 0, .null), (837, .iaload, 1, 0, 0, 0, .null), (838, .invokevirtual 79, 3, 84, 2, 0, .ref 0), (841, .aload_n 2, 1, 0, 0, 0, .null), (842, .aload_n 0, 1, 0, 0, 0, .null), (843, .iload_n 3, 1, 0, 0, 0, .null), (844, .iconst 1, 1, 0, 0, 0, .null), (845, .iadd, 1, 0, 0, 0, .null), (846, .iaload, 1, 0, 0, 0, .null), (847, .aload_n 0, 1, 0, 0, 0, .null), (848, .iload_n 3, 1, 0, 0, 0, .null), (849, .iconst 2, 1, 0, 0, 0, .null), (850, .iadd, 1, 0, 0, 0, .null), (851, .iaload, 1, 0, 0, 0, .null), (852, .invokevirtual 82, 3, 210, 2, 0, .ref 12), (855, .if_icmp .eq 1185, 3, 0, 0, 0, .null), (858, .iconst 0, 1, 0, 0, 0, .null), (859, .ireturn, 1, 0, 0, 0, .null), (860, .aload_n 1, 1, 0, 0, 0, .null), (861, .aload_n 0, 1, 0, 0, 0, .null), (862, .iload_n 3, 1, 0, 0, 0, .null), (863, .iconst 1, 1, 0, 0, 0, .null), (864, .iadd, 1, 0, 0, 0, .null), (865, .iaload, 1, 0, 0, 0, .null), (866, .invokevirtual 83, 3, 85, 1, 0, .ref 0), (869, .aload_n 2, 1, 0, 0, 0, .null), (870, .aload_n 0, 1, 0, 0, 0, .null), (871, .iload_n 3, 1, 0, 0, 0, .null), (872, .iconst 1, 1, 0, 0, 0, .null), (873, .iadd, 1, 0, 0, 0, .null), (874, .iaload, 1, 0, 0, 0, .null), (875, .invokevirtual 87, 3, 211, 1, 0, .ref 12), (878, .if_icmp .eq 1162, 3, 0, 0, 0, .null), (881, .iconst 0, 1, 0, 0, 0, .null), (882, .ireturn, 1, 0, 0, 0, .null), (883, .aload_n 1, 1, 0, 0, 0, .null), (884, .aload_n 0, 1, 0, 0, 0, .null), (885, .iload_n 3, 1, 0, 0, 0, .null), (886, .iconst 1, 1, 0, 0, 0, .null), (887, .iadd, 1, 0, 0, 0, .null), (888, .iaload, 1, 0, 0, 0, .null), (889, .aload_n 0, 1, 0, 0, 0, .null), (890, .iload_n 3, 1, 0, 0, 0, .null), (891, .iconst 2, 1, 0, 0, 0, .null), (892, .iadd, 1, 0, 0, 0, .null), (893, .iaload, 1, 0, 0, 0, .null), (894, .i2l, 1, 0, 0, 0, .null), (895, .bipush 32, 2, 0, 0, 0, .null), (897, .lshl, 1, 0, 0, 0, .null), (898, .aload_n 0, 1, 0, 0, 0, .null)]
def qx_c0_12 : List (Nat × Instr × Nat × Nat × Nat × Nat × Value) := [(899, .iload_n 3, 1, 0, 0, 0, .null), (900, .iconst 3, 1, 0, 0, 0, .null), (901, .iadd, 1, 0, 0, 0, .null), (902, .iaload, 1, 0, 0, 0, .null), (903, .i2l, 1, 0, 0, 0, .null), (904, .ldc2_w 52, 3, 0, 0, 2, .long 4294967295), (907, .land, 1, 0, 0, 0, .null), (908, .lor, 1, 0, 0, 0, .null), (909, .aload_n 0, 1, 0, 0, 0, .null), (910, .iload_n 3, 1, 0, 0, 0, .null), (911, .iconst 4, 1, 0, 0, 0, .null), (912, .iadd, 1, 0, 0, 0, .null), (913, .iaload, 1, 0, 0, 0, .null), (914, .invokevirtual 88, 3, 87, 3, 0, .ref 0), (917, .aload_n 2, 1, 0, 0, 0, .null), (918, .aload_n 0, 1, 0, 0, 0, .null), (919, .iload_n 3, 1, 0, 0, 0, .null), (920, .iconst 1, 1, 0, 0, 0, .null), (921, .iadd, 1, 0, 0, 0, .null), (922, .iaload, 1, 0, 0, 0, .null), (923, .aload_n 0, 1, 0, 0, 0, .null), (924, .iload_n 3, 1, 0, 0, 0, .null), (925, .iconst 2, 1, 0, 0, 0, .null), (926, .iadd, 1, 0, 0, 0, .null), (927, .iaload, 1, 0, 0, 0, .null), (928, .i2l, 1, 0, 0, 0, .null), (929, .bipush 32, 2, 0, 0, 0, .null), (931, .lshl, 1, 0, 0, 0, .null), (932, .aload_n 0, 1, 0, 0, 0, .null), (933, .iload_n 3, 1, 0, 0, 0, .null), (934, .iconst 3, 1, 0, 0, 0, .null), (935, .iadd, 1, 0, 0, 0, .null), (936, .iaload, 1, 0, 0, 0, .null), (937, .i2l, 1, 0, 0, 0, .null), (938, .ldc2_w 52, 3, 0, 0, 2, .long 4294967295), (941, .land, 1, 0, 0, 0, .null), (942, .lor, 1, 0, 0, 0, .null), (943, .aload_n 0, 1, 0, 0, 0, .null), (944, .iload_n 3, 1, 0, 0, 0, .null), (945, .iconst 4, 1, 0, 0, 0, .null), (946, .iadd, 1, 0, 0, 0, .null), (947, .iaload, 1, 0, 0, 0, .null), (948, .invokevirtual 92, 3, 223, 3, 0, .ref 12), (951, .if_icmp .eq 1089, 3, 0, 0, 0, .null), (954, .iconst 0, 1, 0, 0, 0, .null), (955, .ireturn, 1, 0, 0, 0, .null), (956, .aload_n 1, 1, 0, 0, 0, .null), (957, .aload_n 0, 1, 0, 0, 0, .null), (958, .iload_n 3, 1, 0, 0, 0, .null), (959, .iconst 1, 1, 0, 0, 0, .null)]
def qx_c0_13 : List (Nat × Instr × Nat × Nat × Nat × Nat × Value) := [(960, .iadd, 1, 0, 0, 0, .null), (961, .iaload, 1, 0, 0, 0, .null), (962, .i2l, 1, 0, 0, 0, .null), (963, .bipush 32, 2, 0, 0, 0, .null), (965, .lshl, 1, 0, 0, 0, .null), (966, .aload_n 0, 1, 0, 0, 0, .null), (967, .iload_n 3, 1, 0, 0, 0, .null), (968, .iconst 2, 1, 0, 0, 0, .null), (969, .iadd, 1, 0, 0, 0, .null), (970, .iaload, 1, 0, 0, 0, .null), (971, .i2l, 1, 0, 0, 0, .null), (972, .ldc2_w 52, 3, 0, 0, 2, .long 4294967295), (975, .land, 1, 0, 0, 0, .null), (976, .lor, 1, 0, 0, 0, .null), (977, .aload_n 0, 1, 0, 0, 0, .null), (978, .iload_n 3, 1, 0, 0, 0, .null), (979, .iconst 3, 1, 0, 0, 0, .null), (980, .iadd, 1, 0, 0, 0, .null), (981, .iaload, 1, 0, 0, 0, .null), (982, .aload_n 0, 1, 0, 0, 0, .null), (983, .iload_n 3, 1, 0, 0, 0, .null), (984, .iconst 4, 1, 0, 0, 0, .null), (985, .iadd, 1, 0, 0, 0, .null), (986, .iaload, 1, 0, 0, 0, .null), (987, .invokevirtual 93, 3, 98, 3, 0, .ref 0), (990, .aload_n 2, 1, 0, 0, 0, .null), (991, .aload_n 0, 1, 0, 0, 0, .null), (992, .iload_n 3, 1, 0, 0, 0, .null), (993, .iconst 1, 1, 0, 0, 0, .null), (994, .iadd, 1, 0, 0, 0, .null), (995, .iaload, 1, 0, 0, 0, .null), (996, .i2l, 1, 0, 0, 0, .null), (997, .bipush 32, 2, 0, 0, 0, .null), (999, .lshl, 1, 0, 0, 0, .null), (1000, .aload_n 0, 1, 0, 0, 0, .null), (1001, .iload_n 3, 1, 0, 0, 0, .null), (1002, .iconst 2, 1, 0, 0, 0, .null), (1003, .iadd, 1, 0, 0, 0, .null), (1004, .iaload, 1, 0, 0, 0, .null), (1005, .i2l, 1, 0, 0, 0, .null), (1006, .ldc2_w 52, 3, 0, 0, 2, .long 4294967295), (1009, .land, 1, 0, 0, 0, .null), (1010, .lor, 1, 0, 0, 0, .null), (1011, .aload_n 0, 1, 0, 0, 0, .null), (1012, .iload_n 3, 1, 0, 0, 0, .null), (1013, .iconst 3, 1, 0, 0, 0, .null), (1014, .iadd, 1, 0, 0, 0, .null), (1015, .iaload, 1, 0, 0, 0, .null), (1016, .aload_n 0, 1, 0, 0, 0, .null), (1017, .iload_n 3, 1, 0, 0, 0, .null)]
def qx_c0_14 : List (Nat × Instr × Nat × Nat × Nat × Nat × Value) := [(1018, .iconst 4, 1, 0, 0, 0, .null), (1019, .iadd, 1, 0, 0, 0, .null), (1020, .iaload, 1, 0, 0, 0, .null), (1021, .invokevirtual 97, 3, 228, 3, 0, .ref 12), (1024, .if_icmp .eq 1016, 3, 0, 0, 0, .null), (1027, .iconst 0, 1, 0, 0, 0, .null), (1028, .ireturn, 1, 0, 0, 0, .null), (1029, .aload_n 1, 1, 0, 0, 0, .null), (1030, .aload_n 0, 1, 0, 0, 0, .null), (1031, .iload_n 3, 1, 0, 0, 0, .null), (1032, .iconst 1, 1, 0, 0, 0, .null), (1033, .iadd, 1, 0, 0, 0, .null), (1034, .iaload, 1, 0, 0, 0, .null), (1035, .aload_n 0, 1, 0, 0, 0, .null), (1036, .iload_n 3, 1, 0, 0, 0, .null), (1037, .iconst 2, 1, 0, 0, 0, .null), (1038, .iadd, 1, 0, 0, 0, .null), (1039, .iaload, 1, 0, 0, 0, .null), (1040, .invokevirtual 98, 3, 104, 2, 0, .ref 0), (1043, .aload_n 2, 1, 0, 0, 0, .null), (1044, .aload_n 0, 1, 0, 0, 0, .null), (1045, .iload_n 3, 1, 0, 0, 0, .null), (1046, .iconst 1, 1, 0, 0, 0, .null), (1047, .iadd, 1, 0, 0, 0, .null), (1048, .iaload, 1, 0, 0, 0, .null), (1049, .aload_n 0, 1, 0, 0, 0, .null), (1050, .iload_n 3, 1, 0, 0, 0, .null), (1051, .iconst 2, 1, 0, 0, 0, .null), (1052, .iadd, 1, 0, 0, 0, .null), (1053, .iaload, 1, 0, 0, 0, .null), (1054, .invokevirtual 101, 3, 230, 2, 0, .ref 12), (1057, .if_icmp .eq 983, 3, 0, 0, 0, .null), (1060, .iconst 0, 1, 0, 0, 0, .null), (1061, .ireturn, 1, 0, 0, 0, .null), (1062, .aload_n 1, 1, 0, 0, 0, .null), (1063, .aload_n 0, 1, 0, 0, 0, .null), (1064, .iload_n 3, 1, 0, 0, 0, .null), (1065, .iconst 1, 1, 0, 0, 0, .null), (1066, .iadd, 1, 0, 0, 0, .null), (1067, .iaload, 1, 0, 0, 0, .null), (1068, .i2l, 1, 0, 0, 0, .null), (1069, .bipush 32, 2, 0, 0, 0, .null), (1071, .lshl, 1, 0, 0, 0, .null), (1072, .aload_n 0, 1, 0, 0, 0, .null), (1073, .iload_n 3, 1, 0, 0, 0, .null), (1074, .iconst 2, 1, 0, 0, 0, .null), (1075, .iadd, 1, 0, 0, 0, .null), (1076, .iaload, 1, 0, 0, 0, .null), (1077, .i2l, 1, 0, 0, 0, .null), (1078, .ldc2_w 52, 3, 0, 0, 2, .long 4294967295)]
def qx_c0_15 : List (Nat × Instr × Nat × Nat × Nat × Nat × Value) := [(1081, .land, 1, 0, 0, 0, .null), (1082, .lor, 1, 0, 0, 0, .null), (1083, .aload_n 0, 1, 0, 0, 0, .null), (1084, .iload_n 3, 1, 0, 0, 0, .null), (1085, .iconst 3, 1, 0, 0, 0, .null), (1086, .iadd, 1, 0, 0, 0, .null), (1087, .iaload, 1, 0, 0, 0, .null), (1088, .i2l, 1, 0, 0, 0, .null), (1089, .bipush 32, 2, 0, 0, 0, .null), (1091, .lshl, 1, 0, 0, 0, .null), (1092, .aload_n 0, 1, 0, 0, 0, .null), (1093, .iload_n 3, 1, 0, 0, 0, .null), (1094, .iconst 4, 1, 0, 0, 0, .null), (1095, .iadd, 1, 0, 0, 0, .null), (1096, .iaload, 1, 0, 0, 0, .null), (1097, .i2l, 1, 0, 0, 0, .null), (1098, .ldc2_w 52, 3, 0, 0, 2, .long 4294967295), (1101, .land, 1, 0, 0, 0, .null), (1102, .lor, 1, 0, 0, 0, .null), (1103, .aload_n 0, 1, 0, 0, 0, .null), (1104, .iload_n 3, 1, 0, 0, 0, .null), (1105, .iconst 5, 1, 0, 0, 0, .null), (1106, .iadd, 1, 0, 0, 0, .null), (1107, .iaload, 1, 0, 0, 0, .null), (1108, .invokevirtual 102, 3, 107, 3, 0, .ref 0), (1111, .aload_n 2, 1, 0, 0, 0, .null), (1112, .aload_n 0, 1, 0, 0, 0, .null), (1113, .iload_n 3, 1, 0, 0, 0, .null), (1114, .iconst 1, 1, 0, 0, 0, .null), (1115, .iadd, 1, 0, 0, 0, .null), (1116, .iaload, 1, 0, 0, 0, .null), (1117, .i2l, 1, 0, 0, 0, .null), (1118, .bipush 32, 2, 0, 0, 0, .null), (1120, .lshl, 1, 0, 0, 0, .null), (1121, .aload_n 0, 1, 0, 0, 0, .null), (1122, .iload_n 3, 1, 0, 0, 0, .null), (1123, .iconst 2, 1, 0, 0, 0, .null), (1124, .iadd, 1, 0, 0, 0, .null), (1125, .iaload, 1, 0, 0, 0, .null), (1126, .i2l, 1, 0, 0, 0, .null), (1127, .ldc2_w 52, 3, 0, 0, 2, .long 4294967295), (1130, .land, 1, 0, 0, 0, .null), (1131, .lor, 1, 0, 0, 0, .null), (1132, .aload_n 0, 1, 0, 0, 0, .null), (1133, .iload_n 3, 1, 0, 0, 0, .null), (1134, .iconst 3, 1, 0, 0, 0, .null), (1135, .iadd, 1, 0, 0, 0, .null), (1136, .iaload, 1, 0, 0, 0, .null), (1137, .i2l, 1, 0, 0, 0, .null), (1138, .bipush 32, 2, 0, 0, 0, .null)]
def qx_c0_16 : List (Nat × Instr × Nat × Nat × Nat × Nat × Value) := [(1140, .lshl, 1, 0, 0, 0, .null), (1141, .aload_n 0, 1, 0, 0, 0, .null), (1142, .iload_n 3, 1, 0, 0, 0, .null), (1143, .iconst 4, 1, 0, 0, 0, .null), (1144, .iadd, 1, 0, 0, 0, .null), (1145, .iaload, 1, 0, 0, 0, .null), (1146, .i2l, 1, 0, 0, 0, .null), (1147, .ldc2_w 52, 3, 0, 0, 2, .long 4294967295), (1150, .land, 1, 0, 0, 0, .null), (1151, .lor, 1, 0, 0, 0, .null), (1152, .aload_n 0, 1, 0, 0, 0, .null), (1153, .iload_n 3, 1, 0, 0, 0, .null), (1154, .iconst 5, 1, 0, 0, 0, .null), (1155, .iadd, 1, 0, 0, 0, .null), (1156, .iaload, 1, 0, 0, 0, .null), (1157, .invokevirtual 106, 3, 232, 3, 0, .ref 12), (1160, .lcmp, 1, 0, 0, 0, .null), (1161, .ifCond .eq 879, 3, 0, 0, 0, .null), (1164, .iconst 0, 1, 0, 0, 0, .null), (1165, .ireturn, 1, 0, 0, 0, .null), (1166, .aload_n 1, 1, 0, 0, 0, .null), (1167, .aload_n 0, 1, 0, 0, 0, .null), (1168, .iload_n 3, 1, 0, 0, 0, .null), (1169, .iconst 1, 1, 0, 0, 0, .null), (1170, .iadd, 1, 0, 0, 0, .null), (1171, .iaload, 1, 0, 0, 0, .null), (1172, .i2l, 1, 0, 0, 0, .null), (1173, .bipush 32, 2, 0, 0, 0, .null), (1175, .lshl, 1, 0, 0, 0, .null), (1176, .aload_n 0, 1, 0, 0, 0, .null), (1177, .iload_n 3, 1, 0, 0, 0, .null), (1178, .iconst 2, 1, 0, 0, 0, .null), (1179, .iadd, 1, 0, 0, 0, .null), (1180, .iaload, 1, 0, 0, 0, .null), (1181, .i2l, 1, 0, 0, 0, .null), (1182, .ldc2_w 52, 3, 0, 0, 2, .long 4294967295), (1185, .land, 1, 0, 0, 0, .null), (1186, .lor, 1, 0, 0, 0, .null), (1187, .aload_n 0, 1, 0, 0, 0, .null), (1188, .iload_n 3, 1, 0, 0, 0, .null), (1189, .iconst 3, 1, 0, 0, 0, .null), (1190, .iadd, 1, 0, 0, 0, .null), (1191, .iaload, 1, 0, 0, 0, .null), (1192, .aload_n 0, 1, 0, 0, 0, .null), (1193, .iload_n 3, 1, 0, 0, 0, .null), (1194, .iconst 4, 1, 0, 0, 0, .null), (1195, .iadd, 1, 0, 0, 0, .null), (1196, .iaload, 1, 0, 0, 0, .null), (1197, .invokevirtual 107, 3, 116, 3, 0, .ref 0), (1200, .aload_n 2, 1, 0, 0, 0, .null)]
def qx_c0_17 : List (Nat × Instr × Nat × Nat × Nat × Nat × Value) := [(1201, .aload_n 0, 1, 0, 0, 0, .null), (1202, .iload_n 3, 1, 0, 0, 0, .null), (1203, .iconst 1, 1, 0, 0, 0, .null), (1204, .iadd, 1, 0, 0, 0, .null), (1205, .iaload, 1, 0, 0, 0, .null), (1206, .i2l, 1, 0, 0, 0, .null), (1207, .bipush 32, 2, 0, 0, 0, .null), (1209, .lshl, 1, 0, 0, 0, .null), (1210, .aload_n 0, 1, 0, 0, 0, .null), (1211, .iload_n 3, 1, 0, 0, 0, .null), (1212, .iconst 2, 1, 0, 0, 0, .null), (1213, .iadd, 1, 0, 0, 0, .null), (1214, .iaload, 1, 0, 0, 0, .null), (1215, .i2l, 1, 0, 0, 0, .null), (1216, .ldc2_w 52, 3, 0, 0, 2, .long 4294967295), (1219, .land, 1, 0, 0, 0, .null), (1220, .lor, 1, 0, 0, 0, .null), (1221, .aload_n 0, 1, 0, 0, 0, .null), (1222, .iload_n 3, 1, 0, 0, 0, .null), (1223, .iconst 3, 1, 0, 0, 0, .null), (1224, .iadd, 1, 0, 0, 0, .null), (1225, .iaload, 1, 0, 0, 0, .null), (1226, .aload_n 0, 1, 0, 0, 0, .null), (1227, .iload_n 3, 1, 0, 0, 0, .null), (1228, .iconst 4, 1, 0, 0, 0, .null), (1229, .iadd, 1, 0, 0, 0, .null), (1230, .iaload, 1, 0, 0, 0, .null), (1231, .invokevirtual 111, 3, 237, 3, 0, .ref 12), (1234, .lcmp, 1, 0, 0, 0, .null), (1235, .ifCond .eq 805, 3, 0, 0, 0, .null), (1238, .iconst 0, 1, 0, 0, 0, .null), (1239, .ireturn, 1, 0, 0, 0, .null), (1240, .aload_n 1, 1, 0, 0, 0, .null), (1241, .aload_n 0, 1, 0, 0, 0, .null), (1242, .iload_n 3, 1, 0, 0, 0, .null), (1243, .iconst 1, 1, 0, 0, 0, .null), (1244, .iadd, 1, 0, 0, 0, .null), (1245, .iaload, 1, 0, 0, 0, .null), (1246, .i2l, 1, 0, 0, 0, .null), (1247, .bipush 32, 2, 0, 0, 0, .null), (1249, .lshl, 1, 0, 0, 0, .null), (1250, .aload_n 0, 1, 0, 0, 0, .null), (1251, .iload_n 3, 1, 0, 0, 0, .null), (1252, .iconst 2, 1, 0, 0, 0, .null), (1253, .iadd, 1, 0, 0, 0, .null), (1254, .iaload, 1, 0, 0, 0, .null), (1255, .i2l, 1, 0, 0, 0, .null), (1256, .ldc2_w 52, 3, 0, 0, 2, .long 4294967295), (1259, .land, 1, 0, 0, 0, .null), (1260, .lor, 1, 0, 0, 0, .null)]
def qx_c0_18 : List (Nat × Instr × Nat × Nat × Nat × Nat × Value) := [(1261, .aload_n 0, 1, 0, 0, 0, .null), (1262, .iload_n 3, 1, 0, 0, 0, .null), (1263, .iconst 3, 1, 0, 0, 0, .null), (1264, .iadd, 1, 0, 0, 0, .null), (1265, .iaload, 1, 0, 0, 0, .null), (1266, .aload_n 0, 1, 0, 0, 0, .null), (1267, .iload_n 3, 1, 0, 0, 0, .null), (1268, .iconst 4, 1, 0, 0, 0, .null), (1269, .iadd, 1, 0, 0, 0, .null), (1270, .iaload, 1, 0, 0, 0, .null), (1271, .invokevirtual 112, 3, 119, 3, 0, .ref 0), (1274, .aload_n 2, 1, 0, 0, 0, .null), (1275, .aload_n 0, 1, 0, 0, 0, .null), (1276, .iload_n 3, 1, 0, 0, 0, .null), (1277, .iconst 1, 1, 0, 0, 0, .null), (1278, .iadd, 1, 0, 0, 0, .null), (1279, .iaload, 1, 0, 0, 0, .null), (1280, .i2l, 1, 0, 0, 0, .null), (1281, .bipush 32, 2, 0, 0, 0, .null), (1283, .lshl, 1, 0, 0, 0, .null), (1284, .aload_n 0, 1, 0, 0, 0, .null), (1285, .iload_n 3, 1, 0, 0, 0, .null), (1286, .iconst 2, 1, 0, 0, 0, .null), (1287, .iadd, 1, 0, 0, 0, .null), (1288, .iaload, 1, 0, 0, 0, .null), (1289, .i2l, 1, 0, 0, 0, .null), (1290, .ldc2_w 52, 3, 0, 0, 2, .long 4294967295), (1293, .land, 1, 0, 0, 0, .null), (1294, .lor, 1, 0, 0, 0, .null), (1295, .aload_n 0, 1, 0, 0, 0, .null), (1296, .iload_n 3, 1, 0, 0, 0, .null), (1297, .iconst 3, 1, 0, 0, 0, .null), (1298, .iadd, 1, 0, 0, 0, .null), (1299, .iaload, 1, 0, 0, 0, .null), (1300, .aload_n 0, 1, 0, 0, 0, .null), (1301, .iload_n 3, 1, 0, 0, 0, .null), (1302, .iconst 4, 1, 0, 0, 0, .null), (1303, .iadd, 1, 0, 0, 0, .null), (1304, .iaload, 1, 0, 0, 0, .null), (1305, .invokevirtual 115, 3, 238, 3, 0, .ref 12), (1308, .lcmp, 1, 0, 0, 0, .null), (1309, .ifCond .eq 731, 3, 0, 0, 0, .null), (1312, .iconst 0, 1, 0, 0, 0, .null), (1313, .ireturn, 1, 0, 0, 0, .null), (1314, .aload_n 1, 1, 0, 0, 0, .null), (1315, .aload_n 0, 1, 0, 0, 0, .null), (1316, .iload_n 3, 1, 0, 0, 0, .null), (1317, .iconst 1, 1, 0, 0, 0, .null), (1318, .iadd, 1, 0, 0, 0, .null), (1319, .iaload, 1, 0, 0, 0, .null)]
def qx_c0_19 : List (Nat × Instr × Nat × Nat × Nat × Nat × Value) := [(1320, .aload_n 0, 1, 0, 0, 0, .null), (1321, .iload_n 3, 1, 0, 0, 0, .null), (1322, .iconst 2, 1, 0, 0, 0, .null), (1323, .iadd, 1, 0, 0, 0, .null), (1324, .iaload, 1, 0, 0, 0, .null), (1325, .invokevirtual 116, 3, 125, 2, 0, .ref 0), (1328, .aload_n 2, 1, 0, 0, 0, .null), (1329, .aload_n 0, 1, 0, 0, 0, .null), (1330, .iload_n 3, 1, 0, 0, 0, .null), (1331, .iconst 1, 1, 0, 0, 0, .null), (1332, .iadd, 1, 0, 0, 0, .null), (1333, .iaload, 1, 0, 0, 0, .null), (1334, .aload_n 0, 1, 0, 0, 0, .null), (1335, .iload_n 3, 1, 0, 0, 0, .null), (1336, .iconst 2, 1, 0, 0, 0, .null), (1337, .iadd, 1, 0, 0, 0, .null), (1338, .iaload, 1, 0, 0, 0, .null), (1339, .invokevirtual 119, 3, 240, 2, 0, .ref 12), (1342, .if_icmp .eq 698, 3, 0, 0, 0, .null), (1345, .iconst 0, 1, 0, 0, 0, .null), (1346, .ireturn, 1, 0, 0, 0, .null), (1347, .aload_n 1, 1, 0, 0, 0, .null), (1348, .aload_n 0, 1, 0, 0, 0, .null), (1349, .iload_n 3, 1, 0, 0, 0, .null), (1350, .iconst 1, 1, 0, 0, 0, .null), (1351, .iadd, 1, 0, 0, 0, .null), (1352, .iaload, 1, 0, 0, 0, .null), (1353, .i2l, 1, 0, 0, 0, .null), (1354, .bipush 32, 2, 0, 0, 0, .null), (1356, .lshl, 1, 0, 0, 0, .null), (1357, .aload_n 0, 1, 0, 0, 0, .null), (1358, .iload_n 3, 1, 0, 0, 0, .null), (1359, .iconst 2, 1, 0, 0, 0, .null), (1360, .iadd, 1, 0, 0, 0, .null), (1361, .iaload, 1, 0, 0, 0, .null), (1362, .i2l, 1, 0, 0, 0, .null), (1363, .ldc2_w 52, 3, 0, 0, 2, .long 4294967295), (1366, .land, 1, 0, 0, 0, .null), (1367, .lor, 1, 0, 0, 0, .null), (1368, .aload_n 0, 1, 0, 0, 0, .null), (1369, .iload_n 3, 1, 0, 0, 0, .null), (1370, .iconst 3, 1, 0, 0, 0, .null), (1371, .iadd, 1, 0, 0, 0, .null), (1372, .iaload, 1, 0, 0, 0, .null), (1373, .aload_n 0, 1, 0, 0, 0, .null), (1374, .iload_n 3, 1, 0, 0, 0, .null), (1375, .iconst 4, 1, 0, 0, 0, .null), (1376, .iadd, 1, 0, 0, 0, .null), (1377, .iaload, 1, 0, 0, 0, .null), (1378, .invokevirtual 120, 3, 126, 3, 0, .ref 0)]
def qx_c0_20 : List (Nat × Instr × Nat × Nat × Nat × Nat × Value) := [(1381, .aload_n 2, 1, 0, 0, 0, .null), (1382, .aload_n 0, 1, 0, 0, 0, .null), (1383, .iload_n 3, 1, 0, 0, 0, .null), (1384, .iconst 1, 1, 0, 0, 0, .null), (1385, .iadd, 1, 0, 0, 0, .null), (1386, .iaload, 1, 0, 0, 0, .null), (1387, .i2l, 1, 0, 0, 0, .null), (1388, .bipush 32, 2, 0, 0, 0, .null), (1390, .lshl, 1, 0, 0, 0, .null), (1391, .aload_n 0, 1, 0, 0, 0, .null), (1392, .iload_n 3, 1, 0, 0, 0, .null), (1393, .iconst 2, 1, 0, 0, 0, .null), (1394, .iadd, 1, 0, 0, 0, .null), (1395, .iaload, 1, 0, 0, 0, .null), (1396, .i2l, 1, 0, 0, 0, .null), (1397, .ldc2_w 52, 3, 0, 0, 2, .long 4294967295), (1400, .land, 1, 0, 0, 0, .null), (1401, .lor, 1, 0, 0, 0, .null), (1402, .aload_n 0, 1, 0, 0, 0, .null), (1403, .iload_n 3, 1, 0, 0, 0, .null), (1404, .iconst 3, 1, 0, 0, 0, .null), (1405, .iadd, 1, 0, 0, 0, .null), (1406, .iaload, 1, 0, 0, 0, .null), (1407, .aload_n 0, 1, 0, 0, 0, .null), (1408, .iload_n 3, 1, 0, 0, 0, .null), (1409, .iconst 4, 1, 0, 0, 0, .null), (1410, .iadd, 1, 0, 0, 0, .null), (1411, .iaload, 1, 0, 0, 0, .null), (1412, .invokevirtual 123, 3, 241, 3, 0, .ref 12), (1415, .if_icmp .eq 625, 3, 0, 0, 0, .null), (1418, .iconst 0, 1, 0, 0, 0, .null), (1419, .ireturn, 1, 0, 0, 0, .null), (1420, .aload_n 1, 1, 0, 0, 0, .null), (1421, .aload_n 0, 1, 0, 0, 0, .null), (1422, .iload_n 3, 1, 0, 0, 0, .null), (1423, .iconst 1, 1, 0, 0, 0, .null), (1424, .iadd, 1, 0, 0, 0, .null), (1425, .iaload, 1, 0, 0, 0, .null), (1426, .aload_n 0, 1, 0, 0, 0, .null), (1427, .iload_n 3, 1, 0, 0, 0, .null), (1428, .iconst 2, 1, 0, 0, 0, .null), (1429, .iadd, 1, 0, 0, 0, .null), (1430, .iaload, 1, 0, 0, 0, .null), (1431, .i2l, 1, 0, 0, 0, .null), (1432, .bipush 32, 2, 0, 0, 0, .null), (1434, .lshl, 1, 0, 0, 0, .null), (1435, .aload_n 0, 1, 0, 0, 0, .null), (1436, .iload_n 3, 1, 0, 0, 0, .null), (1437, .iconst 3, 1, 0, 0, 0, .null), (1438, .iadd, 1, 0, 0, 0, .null)]
def qx_c0_21 : List (Nat × Instr × Nat × Nat × Nat × Nat × Value) := [(1439, .iaload, 1, 0, 0, 0, .null), (1440, .i2l, 1, 0, 0, 0, .null), (1441, .ldc2_w 52, 3, 0, 0, 2, .long 4294967295), (1444, .land, 1, 0, 0, 0, .null), (1445, .lor, 1, 0, 0, 0, .null), (1446, .aload_n 0, 1, 0, 0, 0, .null), (1447, .iload_n 3, 1, 0, 0, 0, .null), (1448, .iconst 4, 1, 0, 0, 0, .null), (1449, .iadd, 1, 0, 0, 0, .null), (1450, .iaload, 1, 0, 0, 0, .null), (1451, .aload_n 0, 1, 0, 0, 0, .null), (1452, .iload_n 3, 1, 0, 0, 0, .null), (1453, .iconst 5, 1, 0, 0, 0, .null), (1454, .iadd, 1, 0, 0, 0, .null), (1455, .iaload, 1, 0, 0, 0, .null), (1456, .invokevirtual 124, 3, 132, 4, 0, .ref 0), (1459, .aload_n 2, 1, 0, 0, 0, .null), (1460, .aload_n 0, 1, 0, 0, 0, .null), (1461, .iload_n 3, 1, 0, 0, 0, .null), (1462, .iconst 1, 1, 0, 0, 0, .null), (1463, .iadd, 1, 0, 0, 0, .null), (1464, .iaload, 1, 0, 0, 0, .null), (1465, .aload_n 0, 1, 0, 0, 0, .null), (1466, .iload_n 3, 1, 0, 0, 0, .null), (1467, .iconst 2, 1, 0, 0, 0, .null), (1468, .iadd, 1, 0, 0, 0, .null), (1469, .iaload, 1, 0, 0, 0, .null), (1470, .i2l, 1, 0, 0, 0, .null), (1471, .bipush 32, 2, 0, 0, 0, .null), (1473, .lshl, 1, 0, 0, 0, .null), (1474, .aload_n 0, 1, 0, 0, 0, .null), (1475, .iload_n 3, 1, 0, 0, 0, .null), (1476, .iconst 3, 1, 0, 0, 0, .null), (1477, .iadd, 1, 0, 0, 0, .null), (1478, .iaload, 1, 0, 0, 0, .null), (1479, .i2l, 1, 0, 0, 0, .null), (1480, .ldc2_w 52, 3, 0, 0, 2, .long 4294967295), (1483, .land, 1, 0, 0, 0, .null), (1484, .lor, 1, 0, 0, 0, .null), (1485, .aload_n 0, 1, 0, 0, 0, .null), (1486, .iload_n 3, 1, 0, 0, 0, .null), (1487, .iconst 4, 1, 0, 0, 0, .null), (1488, .iadd, 1, 0, 0, 0, .null), (1489, .iaload, 1, 0, 0, 0, .null), (1490, .aload_n 0, 1, 0, 0, 0, .null), (1491, .iload_n 3, 1, 0, 0, 0, .null), (1492, .iconst 5, 1, 0, 0, 0, .null), (1493, .iadd, 1, 0, 0, 0, .null), (1494, .iaload, 1, 0, 0, 0, .null), (1495, .invokevirtual 127, 3, 244, 4, 0, .ref 12)]
def qx_c0_22 : List (Nat × Instr × Nat × Nat × Nat × Nat × Value) := [(1498, .if_icmp .eq 542, 3, 0, 0, 0, .null), (1501, .iconst 0, 1, 0, 0, 0, .null), (1502, .ireturn, 1, 0, 0, 0, .null), (1503, .aload_n 1, 1, 0, 0, 0, .null), (1504, .aload_n 0, 1, 0, 0, 0, .null), (1505, .iload_n 3, 1, 0, 0, 0, .null), (1506, .iconst 1, 1, 0, 0, 0, .null), (1507, .iadd, 1, 0, 0, 0, .null), (1508, .iaload, 1, 0, 0, 0, .null), (1509, .invokevirtual 128, 3, 137, 1, 0, .ref 0), (1512, .aload_n 2, 1, 0, 0, 0, .null), (1513, .aload_n 0, 1, 0, 0, 0, .null), (1514, .iload_n 3, 1, 0, 0, 0, .null), (1515, .iconst 1, 1, 0, 0, 0, .null), (1516, .iadd, 1, 0, 0, 0, .null), (1517, .iaload, 1, 0, 0, 0, .null), (1518, .invokevirtual 131, 3, 249, 1, 0, .ref 12), (1521, .if_icmp .eq 519, 3, 0, 0, 0, .null), (1524, .iconst 0, 1, 0, 0, 0, .null), (1525, .ireturn, 1, 0, 0, 0, .null), (1526, .aload_n 1, 1, 0, 0, 0, .null), (1527, .invokevirtual 132, 3, 138, 0, 0, .ref 0), (1530, .aload_n 2, 1, 0, 0, 0, .null), (1531, .invokevirtual 136, 3, 250, 0, 0, .ref 12), (1534, .lcmp, 1, 0, 0, 0, .null), (1535, .ifCond .eq 505, 3, 0, 0, 0, .null), (1538, .iconst 0, 1, 0, 0, 0, .null), (1539, .ireturn, 1, 0, 0, 0, .null), (1540, .aload_n 1, 1, 0, 0, 0, .null), (1541, .aload_n 0, 1, 0, 0, 0, .null), (1542, .iload_n 3, 1, 0, 0, 0, .null), (1543, .iconst 1, 1, 0, 0, 0, .null), (1544, .iadd, 1, 0, 0, 0, .null), (1545, .iaload, 1, 0, 0, 0, .null), (1546, .i2l, 1, 0, 0, 0, .null), (1547, .bipush 32, 2, 0, 0, 0, .null), (1549, .lshl, 1, 0, 0, 0, .null), (1550, .aload_n 0, 1, 0, 0, 0, .null), (1551, .iload_n 3, 1, 0, 0, 0, .null), (1552, .iconst 2, 1, 0, 0, 0, .null), (1553, .iadd, 1, 0, 0, 0, .null), (1554, .iaload, 1, 0, 0, 0, .null), (1555, .i2l, 1, 0, 0, 0, .null), (1556, .ldc2_w 52, 3, 0, 0, 2, .long 4294967295), (1559, .land, 1, 0, 0, 0, .null), (1560, .lor, 1, 0, 0, 0, .null), (1561, .aload_n 0, 1, 0, 0, 0, .null), (1562, .iload_n 3, 1, 0, 0, 0, .null), (1563, .iconst 3, 1, 0, 0, 0, .null), (1564, .iadd, 1, 0, 0, 0, .null)]
def qx_c0_23 : List (Nat × Instr × Nat × Nat × Nat × Nat × Value) := [(1565, .iaload, 1, 0, 0, 0, .null), (1566, .invokevirtual 137, 3, 139, 2, 0, .ref 0), (1569, .aload_n 2, 1, 0, 0, 0, .null), (1570, .aload_n 0, 1, 0, 0, 0, .null), (1571, .iload_n 3, 1, 0, 0, 0, .null), (1572, .iconst 1, 1, 0, 0, 0, .null), (1573, .iadd, 1, 0, 0, 0, .null), (1574, .iaload, 1, 0, 0, 0, .null), (1575, .i2l, 1, 0, 0, 0, .null), (1576, .bipush 32, 2, 0, 0, 0, .null), (1578, .lshl, 1, 0, 0, 0, .null), (1579, .aload_n 0, 1, 0, 0, 0, .null), (1580, .iload_n 3, 1, 0, 0, 0, .null), (1581, .iconst 2, 1, 0, 0, 0, .null), (1582, .iadd, 1, 0, 0, 0, .null), (1583, .iaload, 1, 0, 0, 0, .null), (1584, .i2l, 1, 0, 0, 0, .null), (1585, .ldc2_w 52, 3, 0, 0, 2, .long 4294967295), (1588, .land, 1, 0, 0, 0, .null), (1589, .lor, 1, 0, 0, 0, .null), (1590, .aload_n 0, 1, 0, 0, 0, .null), (1591, .iload_n 3, 1, 0, 0, 0, .null), (1592, .iconst 3, 1, 0, 0, 0, .null), (1593, .iadd, 1, 0, 0, 0, .null), (1594, .iaload, 1, 0, 0, 0, .null), (1595, .invokevirtual 141, 3, 251, 2, 0, .ref 12), (1598, .if_icmp .eq 442, 3, 0, 0, 0, .null), (1601, .iconst 0, 1, 0, 0, 0, .null), (1602, .ireturn, 1, 0, 0, 0, .null), (1603, .aload_n 1, 1, 0, 0, 0, .null), (1604, .aload_n 0, 1, 0, 0, 0, .null), (1605, .iload_n 3, 1, 0, 0, 0, .null), (1606, .iconst 1, 1, 0, 0, 0, .null), (1607, .iadd, 1, 0, 0, 0, .null), (1608, .iaload, 1, 0, 0, 0, .null), (1609, .aload_n 0, 1, 0, 0, 0, .null), (1610, .iload_n 3, 1, 0, 0, 0, .null), (1611, .iconst 2, 1, 0, 0, 0, .null), (1612, .iadd, 1, 0, 0, 0, .null), (1613, .iaload, 1, 0, 0, 0, .null), (1614, .aload_n 0, 1, 0, 0, 0, .null), (1615, .iload_n 3, 1, 0, 0, 0, .null), (1616, .iconst 3, 1, 0, 0, 0, .null), (1617, .iadd, 1, 0, 0, 0, .null), (1618, .iaload, 1, 0, 0, 0, .null), (1619, .invokevirtual 142, 3, 140, 3, 0, .ref 0), (1622, .aload_n 2, 1, 0, 0, 0, .null), (1623, .aload_n 0, 1, 0, 0, 0, .null), (1624, .iload_n 3, 1, 0, 0, 0, .null), (1625, .iconst 1, 1, 0, 0, 0, .null)]
def qx_c0_24 : List (Nat × Instr × Nat × Nat × Nat × Nat × Value) := [(1626, .iadd, 1, 0, 0, 0, .null), (1627, .iaload, 1, 0, 0, 0, .null), (1628, .aload_n 0, 1, 0, 0, 0, .null), (1629, .iload_n 3, 1, 0, 0, 0, .null), (1630, .iconst 2, 1, 0, 0, 0, .null), (1631, .iadd, 1, 0, 0, 0, .null), (1632, .iaload, 1, 0, 0, 0, .null), (1633, .aload_n 0, 1, 0, 0, 0, .null), (1634, .iload_n 3, 1, 0, 0, 0, .null), (1635, .iconst 3, 1, 0, 0, 0, .null), (1636, .iadd, 1, 0, 0, 0, .null), (1637, .iaload, 1, 0, 0, 0, .null), (1638, .invokevirtual 145, 3, 253, 3, 0, .ref 12), (1641, .if_icmp .eq 399, 3, 0, 0, 0, .null), (1644, .iconst 0, 1, 0, 0, 0, .null), (1645, .ireturn, 1, 0, 0, 0, .null), (1646, .aload_n 1, 1, 0, 0, 0, .null), (1647, .invokevirtual 146, 3, 143, 0, 0, .ref 0), (1650, .aload_n 2, 1, 0, 0, 0, .null), (1651, .invokevirtual 150, 3, 171, 0, 0, .ref 12), (1654, .if_icmp .eq 386, 3, 0, 0, 0, .null), (1657, .iconst 0, 1, 0, 0, 0, .null), (1658, .ireturn, 1, 0, 0, 0, .null), (1659, .aload_n 1, 1, 0, 0, 0, .null), (1660, .invokevirtual 151, 3, 145, 0, 0, .ref 0), (1663, .aload_n 2, 1, 0, 0, 0, .null), (1664, .invokevirtual 154, 3, 172, 0, 0, .ref 12), (1667, .if_icmp .eq 373, 3, 0, 0, 0, .null), (1670, .iconst 0, 1, 0, 0, 0, .null), (1671, .ireturn, 1, 0, 0, 0, .null), (1672, .aload_n 1, 1, 0, 0, 0, .null), (1673, .aload_n 0, 1, 0, 0, 0, .null), (1674, .iload_n 3, 1, 0, 0, 0, .null), (1675, .iconst 1, 1, 0, 0, 0, .null), (1676, .iadd, 1, 0, 0, 0, .null), (1677, .iaload, 1, 0, 0, 0, .null), (1678, .aload_n 0, 1, 0, 0, 0, .null), (1679, .iload_n 3, 1, 0, 0, 0, .null), (1680, .iconst 2, 1, 0, 0, 0, .null), (1681, .iadd, 1, 0, 0, 0, .null), (1682, .iaload, 1, 0, 0, 0, .null), (1683, .aload_n 0, 1, 0, 0, 0, .null), (1684, .iload_n 3, 1, 0, 0, 0, .null), (1685, .iconst 3, 1, 0, 0, 0, .null), (1686, .iadd, 1, 0, 0, 0, .null), (1687, .iaload, 1, 0, 0, 0, .null), (1688, .invokevirtual 155, 3, 147, 3, 0, .ref 0), (1691, .aload_n 2, 1, 0, 0, 0, .null), (1692, .aload_n 0, 1, 0, 0, 0, .null), (1693, .iload_n 3, 1, 0, 0, 0, .null)]
def qx_c0_25 : List (Nat × Instr × Nat × Nat × Nat × Nat × Value) := [(1694, .iconst 1, 1, 0, 0, 0, .null), (1695, .iadd, 1, 0, 0, 0, .null), (1696, .iaload, 1, 0, 0, 0, .null), (1697, .aload_n 0, 1, 0, 0, 0, .null), (1698, .iload_n 3, 1, 0, 0, 0, .null), (1699, .iconst 2, 1, 0, 0, 0, .null), (1700, .iadd, 1, 0, 0, 0, .null), (1701, .iaload, 1, 0, 0, 0, .null), (1702, .aload_n 0, 1, 0, 0, 0, .null), (1703, .iload_n 3, 1, 0, 0, 0, .null), (1704, .iconst 3, 1, 0, 0, 0, .null), (1705, .iadd, 1, 0, 0, 0, .null), (1706, .iaload, 1, 0, 0, 0, .null), (1707, .invokevirtual 158, 3, 254, 3, 0, .ref 12), (1710, .if_icmp .eq 330, 3, 0, 0, 0, .null), (1713, .iconst 0, 1, 0, 0, 0, .null), (1714, .ireturn, 1, 0, 0, 0, .null), (1715, .aload_n 1, 1, 0, 0, 0, .null), (1716, .aload_n 0, 1, 0, 0, 0, .null), (1717, .iload_n 3, 1, 0, 0, 0, .null), (1718, .iconst 1, 1, 0, 0, 0, .null), (1719, .iadd, 1, 0, 0, 0, .null), (1720, .iaload, 1, 0, 0, 0, .null), (1721, .invokevirtual 159, 3, 153, 1, 0, .ref 0), (1724, .aload_n 2, 1, 0, 0, 0, .null), (1725, .aload_n 0, 1, 0, 0, 0, .null), (1726, .iload_n 3, 1, 0, 0, 0, .null), (1727, .iconst 1, 1, 0, 0, 0, .null), (1728, .iadd, 1, 0, 0, 0, .null), (1729, .iaload, 1, 0, 0, 0, .null), (1730, .invokevirtual 162, 3, 260, 1, 0, .ref 12), (1733, .if_icmp .eq 307, 3, 0, 0, 0, .null), (1736, .iconst 0, 1, 0, 0, 0, .null), (1737, .ireturn, 1, 0, 0, 0, .null), (1738, .aload_n 1, 1, 0, 0, 0, .null), (1739, .aload_n 0, 1, 0, 0, 0, .null), (1740, .iload_n 3, 1, 0, 0, 0, .null), (1741, .iconst 1, 1, 0, 0, 0, .null), (1742, .iadd, 1, 0, 0, 0, .null), (1743, .iaload, 1, 0, 0, 0, .null), (1744, .aload_n 0, 1, 0, 0, 0, .null), (1745, .iload_n 3, 1, 0, 0, 0, .null), (1746, .iconst 2, 1, 0, 0, 0, .null), (1747, .iadd, 1, 0, 0, 0, .null), (1748, .iaload, 1, 0, 0, 0, .null), (1749, .invokevirtual 163, 3, 154, 2, 0, .ref 0), (1752, .aload_n 2, 1, 0, 0, 0, .null), (1753, .aload_n 0, 1, 0, 0, 0, .null), (1754, .iload_n 3, 1, 0, 0, 0, .null), (1755, .iconst 1, 1, 0, 0, 0, .null)]
def qx_c0_26 : List (Nat × Instr × Nat × Nat × Nat × Nat × Value) := [(1756, .iadd, 1, 0, 0, 0, .null), (1757, .iaload, 1, 0, 0, 0, .null), (1758, .aload_n 0, 1, 0, 0, 0, .null), (1759, .iload_n 3, 1, 0, 0, 0, .null), (1760, .iconst 2, 1, 0, 0, 0, .null), (1761, .iadd, 1, 0, 0, 0, .null), (1762, .iaload, 1, 0, 0, 0, .null), (1763, .invokevirtual 166, 3, 261, 2, 0, .ref 12), (1766, .if_icmp .eq 274, 3, 0, 0, 0, .null), (1769, .iconst 0, 1, 0, 0, 0, .null), (1770, .ireturn, 1, 0, 0, 0, .null), (1771, .aload_n 1, 1, 0, 0, 0, .null), (1772, .aload_n 0, 1, 0, 0, 0, .null), (1773, .iload_n 3, 1, 0, 0, 0, .null), (1774, .iconst 1, 1, 0, 0, 0, .null), (1775, .iadd, 1, 0, 0, 0, .null), (1776, .iaload, 1, 0, 0, 0, .null), (1777, .aload_n 0, 1, 0, 0, 0, .null), (1778, .iload_n 3, 1, 0, 0, 0, .null), (1779, .iconst 2, 1, 0, 0, 0, .null), (1780, .iadd, 1, 0, 0, 0, .null), (1781, .iaload, 1, 0, 0, 0, .null), (1782, .aload_n 0, 1, 0, 0, 0, .null), (1783, .iload_n 3, 1, 0, 0, 0, .null), (1784, .iconst 3, 1, 0, 0, 0, .null), (1785, .iadd, 1, 0, 0, 0, .null), (1786, .iaload, 1, 0, 0, 0, .null), (1787, .invokevirtual 167, 3, 156, 3, 0, .ref 0), (1790, .aload_n 2, 1, 0, 0, 0, .null), (1791, .aload_n 0, 1, 0, 0, 0, .null), (1792, .iload_n 3, 1, 0, 0, 0, .null), (1793, .iconst 1, 1, 0, 0, 0, .null), (1794, .iadd, 1, 0, 0, 0, .null), (1795, .iaload, 1, 0, 0, 0, .null), (1796, .aload_n 0, 1, 0, 0, 0, .null), (1797, .iload_n 3, 1, 0, 0, 0, .null), (1798, .iconst 2, 1, 0, 0, 0, .null), (1799, .iadd, 1, 0, 0, 0, .null), (1800, .iaload, 1, 0, 0, 0, .null), (1801, .aload_n 0, 1, 0, 0, 0, .null), (1802, .iload_n 3, 1, 0, 0, 0, .null), (1803, .iconst 3, 1, 0, 0, 0, .null), (1804, .iadd, 1, 0, 0, 0, .null), (1805, .iaload, 1, 0, 0, 0, .null), (1806, .invokevirtual 170, 3, 262, 3, 0, .ref 12), (1809, .if_icmp .eq 231, 3, 0, 0, 0, .null), (1812, .iconst 0, 1, 0, 0, 0, .null), (1813, .ireturn, 1, 0, 0, 0, .null), (1814, .aload_n 1, 1, 0, 0, 0, .null), (1815, .aload_n 0, 1, 0, 0, 0, .null)]
def qx_c0_27 : List (Nat × Instr × Nat × Nat × Nat × Nat × Value) := [(1816, .iload_n 3, 1, 0, 0, 0, .null), (1817, .iconst 1, 1, 0, 0, 0, .null), (1818, .iadd, 1, 0, 0, 0, .null), (1819, .iaload, 1, 0, 0, 0, .null), (1820, .aload_n 0, 1, 0, 0, 0, .null), (1821, .iload_n 3, 1, 0, 0, 0, .null), (1822, .iconst 2, 1, 0, 0, 0, .null), (1823, .iadd, 1, 0, 0, 0, .null), (1824, .iaload, 1, 0, 0, 0, .null), (1825, .aload_n 0, 1, 0, 0, 0, .null), (1826, .iload_n 3, 1, 0, 0, 0, .null), (1827, .iconst 3, 1, 0, 0, 0, .null), (1828, .iadd, 1, 0, 0, 0, .null), (1829, .iaload, 1, 0, 0, 0, .null), (1830, .i2l, 1, 0, 0, 0, .null), (1831, .bipush 32, 2, 0, 0, 0, .null), (1833, .lshl, 1, 0, 0, 0, .null), (1834, .aload_n 0, 1, 0, 0, 0, .null), (1835, .iload_n 3, 1, 0, 0, 0, .null), (1836, .iconst 4, 1, 0, 0, 0, .null), (1837, .iadd, 1, 0, 0, 0, .null), (1838, .iaload, 1, 0, 0, 0, .null), (1839, .i2l, 1, 0, 0, 0, .null), (1840, .ldc2_w 52, 3, 0, 0, 2, .long 4294967295), (1843, .land, 1, 0, 0, 0, .null), (1844, .lor, 1, 0, 0, 0, .null), (1845, .invokevirtual 171, 3, 158, 3, 0, .ref 0), (1848, .aload_n 2, 1, 0, 0, 0, .null), (1849, .aload_n 0, 1, 0, 0, 0, .null), (1850, .iload_n 3, 1, 0, 0, 0, .null), (1851, .iconst 1, 1, 0, 0, 0, .null), (1852, .iadd, 1, 0, 0, 0, .null), (1853, .iaload, 1, 0, 0, 0, .null), (1854, .aload_n 0, 1, 0, 0, 0, .null), (1855, .iload_n 3, 1, 0, 0, 0, .null), (1856, .iconst 2, 1, 0, 0, 0, .null), (1857, .iadd, 1, 0, 0, 0, .null), (1858, .iaload, 1, 0, 0, 0, .null), (1859, .aload_n 0, 1, 0, 0, 0, .null), (1860, .iload_n 3, 1, 0, 0, 0, .null), (1861, .iconst 3, 1, 0, 0, 0, .null), (1862, .iadd, 1, 0, 0, 0, .null), (1863, .iaload, 1, 0, 0, 0, .null), (1864, .i2l, 1, 0, 0, 0, .null), (1865, .bipush 32, 2, 0, 0, 0, .null), (1867, .lshl, 1, 0, 0, 0, .null), (1868, .aload_n 0, 1, 0, 0, 0, .null), (1869, .iload_n 3, 1, 0, 0, 0, .null), (1870, .iconst 4, 1, 0, 0, 0, .null), (1871, .iadd, 1, 0, 0, 0, .null)]
def qx_c0_28 : List (Nat × Instr × Nat × Nat × Nat × Nat × Value) := [(1872, .iaload, 1, 0, 0, 0, .null), (1873, .i2l, 1, 0, 0, 0, .null), (1874, .ldc2_w 52, 3, 0, 0, 2, .long 4294967295), (1877, .land, 1, 0, 0, 0, .null), (1878, .lor, 1, 0, 0, 0, .null), (1879, .invokevirtual 175, 3, 263, 3, 0, .ref 12), (1882, .if_icmp .eq 158, 3, 0, 0, 0, .null), (1885, .iconst 0, 1, 0, 0, 0, .null), (1886, .ireturn, 1, 0, 0, 0, .null), (1887, .aload_n 1, 1, 0, 0, 0, .null), (1888, .aload_n 0, 1, 0, 0, 0, .null), (1889, .iload_n 3, 1, 0, 0, 0, .null), (1890, .iconst 1, 1, 0, 0, 0, .null), (1891, .iadd, 1, 0, 0, 0, .null), (1892, .iaload, 1, 0, 0, 0, .null), (1893, .aload_n 0, 1, 0, 0, 0, .null), (1894, .iload_n 3, 1, 0, 0, 0, .null), (1895, .iconst 2, 1, 0, 0, 0, .null), (1896, .iadd, 1, 0, 0, 0, .null), (1897, .iaload, 1, 0, 0, 0, .null), (1898, .invokevirtual 176, 3, 162, 2, 0, .ref 0), (1901, .aload_n 2, 1, 0, 0, 0, .null), (1902, .aload_n 0, 1, 0, 0, 0, .null), (1903, .iload_n 3, 1, 0, 0, 0, .null), (1904, .iconst 1, 1, 0, 0, 0, .null), (1905, .iadd, 1, 0, 0, 0, .null), (1906, .iaload, 1, 0, 0, 0, .null), (1907, .aload_n 0, 1, 0, 0, 0, .null), (1908, .iload_n 3, 1, 0, 0, 0, .null), (1909, .iconst 2, 1, 0, 0, 0, .null), (1910, .iadd, 1, 0, 0, 0, .null), (1911, .iaload, 1, 0, 0, 0, .null), (1912, .invokevirtual 180, 3, 266, 2, 0, .ref 12), (1915, .lcmp, 1, 0, 0, 0, .null), (1916, .ifCond .eq 124, 3, 0, 0, 0, .null), (1919, .iconst 0, 1, 0, 0, 0, .null), (1920, .ireturn, 1, 0, 0, 0, .null), (1921, .aload_n 1, 1, 0, 0, 0, .null), (1922, .aload_n 0, 1, 0, 0, 0, .null), (1923, .iload_n 3, 1, 0, 0, 0, .null), (1924, .iconst 1, 1, 0, 0, 0, .null), (1925, .iadd, 1, 0, 0, 0, .null), (1926, .iaload, 1, 0, 0, 0, .null), (1927, .aload_n 0, 1, 0, 0, 0, .null), (1928, .iload_n 3, 1, 0, 0, 0, .null), (1929, .iconst 2, 1, 0, 0, 0, .null), (1930, .iadd, 1, 0, 0, 0, .null), (1931, .iaload, 1, 0, 0, 0, .null), (1932, .aload_n 0, 1, 0, 0, 0, .null), (1933, .iload_n 3, 1, 0, 0, 0, .null)]
def qx_c0_29 : List (Nat × Instr × Nat × Nat × Nat × Nat × Value) := [(1934, .iconst 3, 1, 0, 0, 0, .null), (1935, .iadd, 1, 0, 0, 0, .null), (1936, .iaload, 1, 0, 0, 0, .null), (1937, .aload_n 0, 1, 0, 0, 0, .null), (1938, .iload_n 3, 1, 0, 0, 0, .null), (1939, .iconst 4, 1, 0, 0, 0, .null), (1940, .iadd, 1, 0, 0, 0, .null), (1941, .iaload, 1, 0, 0, 0, .null), (1942, .aload_n 0, 1, 0, 0, 0, .null), (1943, .iload_n 3, 1, 0, 0, 0, .null), (1944, .iconst 5, 1, 0, 0, 0, .null), (1945, .iadd, 1, 0, 0, 0, .null), (1946, .iaload, 1, 0, 0, 0, .null), (1947, .invokevirtual 181, 3, 163, 5, 0, .ref 0), (1950, .aload_n 2, 1, 0, 0, 0, .null), (1951, .aload_n 0, 1, 0, 0, 0, .null), (1952, .iload_n 3, 1, 0, 0, 0, .null), (1953, .iconst 1, 1, 0, 0, 0, .null), (1954, .iadd, 1, 0, 0, 0, .null), (1955, .iaload, 1, 0, 0, 0, .null), (1956, .aload_n 0, 1, 0, 0, 0, .null), (1957, .iload_n 3, 1, 0, 0, 0, .null), (1958, .iconst 2, 1, 0, 0, 0, .null), (1959, .iadd, 1, 0, 0, 0, .null), (1960, .iaload, 1, 0, 0, 0, .null), (1961, .aload_n 0, 1, 0, 0, 0, .null), (1962, .iload_n 3, 1, 0, 0, 0, .null), (1963, .iconst 3, 1, 0, 0, 0, .null), (1964, .iadd, 1, 0, 0, 0, .null), (1965, .iaload, 1, 0, 0, 0, .null), (1966, .aload_n 0, 1, 0, 0, 0, .null), (1967, .iload_n 3, 1, 0, 0, 0, .null), (1968, .iconst 4, 1, 0, 0, 0, .null), (1969, .iadd, 1, 0, 0, 0, .null), (1970, .iaload, 1, 0, 0, 0, .null), (1971, .aload_n 0, 1, 0, 0, 0, .null), (1972, .iload_n 3, 1, 0, 0, 0, .null), (1973, .iconst 5, 1, 0, 0, 0, .null), (1974, .iadd, 1, 0, 0, 0, .null), (1975, .iaload, 1, 0, 0, 0, .null), (1976, .invokevirtual 185, 3, 267, 5, 0, .ref 12), (1979, .if_icmp .eq 61, 3, 0, 0, 0, .null), (1982, .iconst 0, 1, 0, 0, 0, .null), (1983, .ireturn, 1, 0, 0, 0, .null), (1984, .aload_n 1, 1, 0, 0, 0, .null), (1985, .aload_n 0, 1, 0, 0, 0, .null), (1986, .iload_n 3, 1, 0, 0, 0, .null), (1987, .iconst 1, 1, 0, 0, 0, .null), (1988, .iadd, 1, 0, 0, 0, .null), (1989, .iaload, 1, 0, 0, 0, .null)]
def qx_c0_30 : List (Nat × Instr × Nat × Nat × Nat × Nat × Value) := [(1990, .aload_n 0, 1, 0, 0, 0, .null), (1991, .iload_n 3, 1, 0, 0, 0, .null), (1992, .iconst 2, 1, 0, 0, 0, .null), (1993, .iadd, 1, 0, 0, 0, .null), (1994, .iaload, 1, 0, 0, 0, .null), (1995, .invokevirtual 186, 3, 166, 2, 0, .ref 0), (1998, .aload_n 2, 1, 0, 0, 0, .null), (1999, .aload_n 0, 1, 0, 0, 0, .null), (2000, .iload_n 3, 1, 0, 0, 0, .null), (2001, .iconst 1, 1, 0, 0, 0, .null), (2002, .iadd, 1, 0, 0, 0, .null), (2003, .iaload, 1, 0, 0, 0, .null), (2004, .aload_n 0, 1, 0, 0, 0, .null), (2005, .iload_n 3, 1, 0, 0, 0, .null), (2006, .iconst 2, 1, 0, 0, 0, .null), (2007, .iadd, 1, 0, 0, 0, .null), (2008, .iaload, 1, 0, 0, 0, .null), (2009, .invokevirtual 189, 3, 268, 2, 0, .ref 12), (2012, .if_icmp .eq 28, 3, 0, 0, 0, .null), (2015, .iconst 0, 1, 0, 0, 0, .null), (2016, .ireturn, 1, 0, 0, 0, .null), (2017, .aload_n 1, 1, 0, 0, 0, .null), (2018, .aload_n 0, 1, 0, 0, 0, .null), (2019, .iload_n 3, 1, 0, 0, 0, .null), (2020, .iconst 1, 1, 0, 0, 0, .null), (2021, .iadd, 1, 0, 0, 0, .null), (2022, .iaload, 1, 0, 0, 0, .null), (2023, .invokevirtual 190, 3, 169, 1, 0, .ref 0), (2026, .aload_n 2, 1, 0, 0, 0, .null), (2027, .aload_n 0, 1, 0, 0, 0, .null), (2028, .iload_n 3, 1, 0, 0, 0, .null), (2029, .iconst 1, 1, 0, 0, 0, .null), (2030, .iadd, 1, 0, 0, 0, .null), (2031, .iaload, 1, 0, 0, 0, .null), (2032, .invokevirtual 193, 3, 270, 1, 0, .ref 12), (2035, .if_icmp .eq 5, 3, 0, 0, 0, .null), (2038, .iconst 0, 1, 0, 0, 0, .null), (2039, .ireturn, 1, 0, 0, 0, .null), (2040, .iinc 3 6, 3, 0, 0, 0, .null), (2043, .goto (-2025), 3, 0, 0, 0, .null), (2046, .iconst 1, 1, 0, 0, 0, .null), (2047, .ireturn, 1, 0, 0, 0, .null)]
def qx_c0 : List (Nat × Instr × Nat × Nat × Nat × Nat × Value) := qx_c0_0 ++ (qx_c0_1 ++ (qx_c0_2 ++ (qx_c0_3 ++ (qx_c0_4 ++ (qx_c0_5 ++ (qx_c0_6 ++ (qx_c0_7 ++ (qx_c0_8 ++ (qx_c0_9 ++ (qx_c0_10 ++ (qx_c0_11 ++ (qx_c0_12 ++ (qx_c0_13 ++ (qx_c0_14 ++ (qx_c0_15 ++ (qx_c0_16 ++ (qx_c0_17 ++ (qx_c0_18 ++ (qx_c0_19 ++ (qx_c0_20 ++ (qx_c0_21 ++ (qx_c0_22 ++ (qx_c0_23 ++ (qx_c0_24 ++ (qx_c0_25 ++ (qx_c0_26 ++ (qx_c0_27 ++ (qx_c0_28 ++ (qx_c0_29 ++ (qx_c0_30))))))))))))))))))))))))))))))
/-- OneRoof.<init>()V -/
def qx_c1_0 : List (Nat × Instr × Nat × Nat × Nat × Nat × Value) := [(0, .aload_n 0, 1, 0, 0, 0, .null), (1, .invokespecial 1, 3, 0, 0, 6, .null), (4, .aload_n 0, 1, 0, 0, 0, .null), (5, .new 7, 3, 1, 0, 0, .null), (8, .dup, 1, 0, 0, 0, .null), (9, .invokespecial 9, 3, 2, 0, 5, .null), (12, .putfield 10, 3, 0, 0, 0, .null), (15, .aload_n 0, 1, 0, 0, 0, .null), (16, .new 16, 3, 2, 0, 0, .null), (19, .dup, 1, 0, 0, 0, .null), (20, .invokespecial 18, 3, 3, 0, 4, .null), (23, .putfield 19, 3, 0, 1, 0, .null), (26, .aload_n 0, 1, 0, 0, 0, .null), (27, .new 16, 3, 2, 0, 0, .null), (30, .dup, 1, 0, 0, 0, .null), (31, .invokespecial 18, 3, 3, 0, 4, .null), (34, .putfield 23, 3, 0, 2, 0, .null), (37, .aload_n 0, 1, 0, 0, 0, .null), (38, .new 26, 3, 3, 0, 0, .null), (41, .dup, 1, 0, 0, 0, .null), (42, .invokespecial 28, 3, 5, 0, 5, .null), (45, .putfield 29, 3, 0, 3, 0, .null), (48, .aload_n 0, 1, 0, 0, 0, .null), (49, .new 33, 3, 4, 0, 0, .null), (52, .dup, 1, 0, 0, 0, .null), (53, .invokespecial 35, 3, 6, 0, 5, .null), (56, .putfield 36, 3, 0, 4, 0, .null), (59, .aload_n 0, 1, 0, 0, 0, .null), (60, .new 40, 3, 5, 0, 0, .null), (63, .dup, 1, 0, 0, 0, .null), (64, .invokespecial 42, 3, 7, 0, 5, .null), (67, .putfield 43, 3, 0, 5, 0, .null), (70, .aload_n 0, 1, 0, 0, 0, .null), (71, .new 47, 3, 6, 0, 0, .null), (74, .dup, 1, 0, 0, 0, .null), (75, .invokespecial 49, 3, 8, 0, 5, .null), (78, .putfield 50, 3, 0, 6, 0, .null), (81, .aload_n 0, 1, 0, 0, 0, .null), (82, .iconst 2, 1, 0, 0, 0, .null), (83, .anewarray 54, 3, 7, 0, 0, .null), (86, .dup, 1, 0, 0, 0, .null), (87, .iconst 0, 1, 0, 0, 0, .null), (88, .new 54, 3, 7, 0, 0, .null), (91, .dup, 1, 0, 0, 0, .null), (92, .ldc 56, 2, 0, 0, 1, .ref 3), (94, .invokespecial 58, 3, 9, 1, 4, .null), (97, .aastore, 1, 0, 0, 0, .null), (98, .dup, 1, 0, 0, 0, .null), (99, .iconst 1, 1, 0, 0, 0, .null), (100, .new 54, 3, 7, 0, 0, .null)]
def qx_c1_1 : List (Nat × Instr × Nat × Nat × Nat × Nat × Value) := [(103, .dup, 1, 0, 0, 0, .null), (104, .ldc 61, 2, 0, 0, 1, .ref 5), (106, .invokespecial 58, 3, 9, 1, 4, .null), (109, .aastore, 1, 0, 0, 0, .null), (110, .putfield 63, 3, 0, 7, 0, .null), (113, .aload_n 0, 1, 0, 0, 0, .null), (114, .new 67, 3, 8, 0, 0, .null), (117, .dup, 1, 0, 0, 0, .null), (118, .aload_n 0, 1, 0, 0, 0, .null), (119, .getfield 10, 3, 0, 0, 0, .null), (122, .aload_n 0, 1, 0, 0, 0, .null), (123, .getfield 19, 3, 0, 1, 0, .null), (126, .aload_n 0, 1, 0, 0, 0, .null), (127, .getfield 29, 3, 0, 3, 0, .null), (130, .aload_n 0, 1, 0, 0, 0, .null), (131, .getfield 36, 3, 0, 4, 0, .null), (134, .aload_n 0, 1, 0, 0, 0, .null), (135, .getfield 63, 3, 0, 7, 0, .null), (138, .invokespecial 69, 3, 34, 5, 4, .null), (141, .putfield 72, 3, 0, 8, 0, .null), (144, .aload_n 0, 1, 0, 0, 0, .null), (145, .new 76, 3, 9, 0, 0, .null), (148, .dup, 1, 0, 0, 0, .null), (149, .aload_n 0, 1, 0, 0, 0, .null), (150, .getfield 72, 3, 0, 8, 0, .null), (153, .invokespecial 78, 3, 35, 1, 4, .null), (156, .putfield 81, 3, 0, 9, 0, .null), (159, .aload_n 0, 1, 0, 0, 0, .null), (160, .new 85, 3, 10, 0, 0, .null), (163, .dup, 1, 0, 0, 0, .null), (164, .aload_n 0, 1, 0, 0, 0, .null), (165, .getfield 72, 3, 0, 8, 0, .null), (168, .invokespecial 87, 3, 36, 1, 4, .null), (171, .putfield 88, 3, 0, 10, 0, .null), (174, .aload_n 0, 1, 0, 0, 0, .null), (175, .new 85, 3, 10, 0, 0, .null), (178, .dup, 1, 0, 0, 0, .null), (179, .aload_n 0, 1, 0, 0, 0, .null), (180, .getfield 72, 3, 0, 8, 0, .null), (183, .invokespecial 87, 3, 36, 1, 4, .null), (186, .putfield 92, 3, 0, 11, 0, .null), (189, .aload_n 0, 1, 0, 0, 0, .null), (190, .new 95, 3, 11, 0, 0, .null), (193, .dup, 1, 0, 0, 0, .null), (194, .aload_n 0, 1, 0, 0, 0, .null), (195, .getfield 10, 3, 0, 0, 0, .null), (198, .aload_n 0, 1, 0, 0, 0, .null), (199, .getfield 29, 3, 0, 3, 0, .null), (202, .aload_n 0, 1, 0, 0, 0, .null), (203, .getfield 36, 3, 0, 4, 0, .null)]
def qx_c1_2 : List (Nat × Instr × Nat × Nat × Nat × Nat × Value) := [(206, .invokespecial 97, 3, 37, 3, 4, .null), (209, .putfield 100, 3, 0, 12, 0, .null), (212, .aload_n 0, 1, 0, 0, 0, .null), (213, .bipush 120, 2, 0, 0, 0, .null), (215, .newarray .int, 2, 0, 0, 0, .null), (217, .putfield 104, 3, 0, 13, 0, .null), (220, .aload_n 0, 1, 0, 0, 0, .null), (221, .new 54, 3, 7, 0, 0, .null), (224, .dup, 1, 0, 0, 0, .null), (225, .ldc 108, 2, 0, 0, 1, .ref 6), (227, .invokespecial 58, 3, 9, 1, 4, .null), (230, .putfield 110, 3, 0, 14, 0, .null), (233, .aload_n 0, 1, 0, 0, 0, .null), (234, .iconst 0, 1, 0, 0, 0, .null), (235, .putfield 114, 3, 0, 15, 0, .null), (238, .return_, 1, 0, 0, 0, .null)]
def qx_c1 : List (Nat × Instr × Nat × Nat × Nat × Nat × Value) := qx_c1_0 ++ (qx_c1_1 ++ (qx_c1_2))
/-- OneRoof$Folk.<init>()V -/
def qx_c2 : List (Nat × Instr × Nat × Nat × Nat × Nat × Value) := [(0, .aload_n 0, 1, 0, 0, 0, .null), (1, .invokespecial 3, 3, 0, 0, 6, .null), (4, .aload_n 0, 1, 0, 0, 0, .null), (5, .bipush 32, 2, 0, 0, 0, .null), (7, .newarray .int, 2, 0, 0, 0, .null), (9, .putfield 9, 3, 1, 0, 0, .null), (12, .aload_n 0, 1, 0, 0, 0, .null), (13, .bipush 32, 2, 0, 0, 0, .null), (15, .newarray .int, 2, 0, 0, 0, .null), (17, .putfield 15, 3, 1, 1, 0, .null), (20, .aload_n 0, 1, 0, 0, 0, .null), (21, .bipush 32, 2, 0, 0, 0, .null), (23, .newarray .int, 2, 0, 0, 0, .null), (25, .putfield 18, 3, 1, 2, 0, .null), (28, .aload_n 0, 1, 0, 0, 0, .null), (29, .bipush 32, 2, 0, 0, 0, .null), (31, .newarray .int, 2, 0, 0, 0, .null), (33, .putfield 21, 3, 1, 3, 0, .null), (36, .aload_n 0, 1, 0, 0, 0, .null), (37, .bipush 32, 2, 0, 0, 0, .null), (39, .newarray .long, 2, 0, 0, 0, .null), (41, .putfield 24, 3, 1, 4, 0, .null), (44, .aload_n 0, 1, 0, 0, 0, .null), (45, .lconst 0, 1, 0, 0, 0, .null), (46, .putfield 28, 3, 1, 5, 0, .null), (49, .aload_n 0, 1, 0, 0, 0, .null), (50, .iconst 0, 1, 0, 0, 0, .null), (51, .putfield 32, 3, 1, 6, 0, .null), (54, .return_, 1, 0, 0, 0, .null)]
/-- OneRoof$Kinship.<init>()V -/
def qx_c3 : List (Nat × Instr × Nat × Nat × Nat × Nat × Value) := [(0, .aload_n 0, 1, 0, 0, 0, .null), (1, .invokespecial 3, 3, 0, 0, 6, .null), (4, .aload_n 0, 1, 0, 0, 0, .null), (5, .sipush 1024, 3, 0, 0, 0, .null), (8, .newarray .int, 2, 0, 0, 0, .null), (10, .putfield 9, 3, 2, 0, 0, .null), (13, .aload_n 0, 1, 0, 0, 0, .null), (14, .iconst 0, 1, 0, 0, 0, .null), (15, .putfield 15, 3, 2, 1, 0, .null), (18, .aload_n 0, 1, 0, 0, 0, .null), (19, .getfield 9, 3, 2, 0, 0, .null), (22, .bipush 99, 2, 0, 0, 0, .null), (24, .invokestatic 19, 3, 4, 2, 2, .null), (27, .iconst 0, 1, 0, 0, 0, .null), (28, .istore_n 1, 1, 0, 0, 0, .null), (29, .iload_n 1, 1, 0, 0, 0, .null), (30, .bipush 32, 2, 0, 0, 0, .null), (32, .if_icmp .ge 21, 3, 0, 0, 0, .null), (35, .aload_n 0, 1, 0, 0, 0, .null), (36, .getfield 9, 3, 2, 0, 0, .null), (39, .iload_n 1, 1, 0, 0, 0, .null), (40, .bipush 32, 2, 0, 0, 0, .null), (42, .imul, 1, 0, 0, 0, .null), (43, .iload_n 1, 1, 0, 0, 0, .null), (44, .iadd, 1, 0, 0, 0, .null), (45, .iconst 0, 1, 0, 0, 0, .null), (46, .iastore, 1, 0, 0, 0, .null), (47, .iinc 1 1, 3, 0, 0, 0, .null), (50, .goto (-21), 3, 0, 0, 0, .null), (53, .return_, 1, 0, 0, 0, .null)]
/-- java/util/Arrays.fill([II)V -/
def qx_c4 : List (Nat × Instr × Nat × Nat × Nat × Nat × Value) := [(0, .iconst 0, 1, 0, 0, 0, .null), (1, .istore_n 2, 1, 0, 0, 0, .null), (2, .aload_n 0, 1, 0, 0, 0, .null), (3, .arraylength, 1, 0, 0, 0, .null), (4, .istore_n 3, 1, 0, 0, 0, .null), (5, .iload_n 2, 1, 0, 0, 0, .null), (6, .iload_n 3, 1, 0, 0, 0, .null), (7, .if_icmp .ge 13, 3, 0, 0, 0, .null), (10, .aload_n 0, 1, 0, 0, 0, .null), (11, .iload_n 2, 1, 0, 0, 0, .null), (12, .iload_n 1, 1, 0, 0, 0, .null), (13, .iastore, 1, 0, 0, 0, .null), (14, .iinc 2 1, 3, 0, 0, 0, .null), (17, .goto (-12), 3, 0, 0, 0, .null), (20, .return_, 1, 0, 0, 0, .null)]
/-- OneRoof$Feuds.<init>()V -/
def qx_c5 : List (Nat × Instr × Nat × Nat × Nat × Nat × Value) := [(0, .aload_n 0, 1, 0, 0, 0, .null), (1, .invokespecial 5, 3, 0, 0, 6, .null), (4, .aload_n 0, 1, 0, 0, 0, .null), (5, .bipush 40, 2, 0, 0, 0, .null), (7, .newarray .int, 2, 0, 0, 0, .null), (9, .putfield 11, 3, 3, 0, 0, .null), (12, .aload_n 0, 1, 0, 0, 0, .null), (13, .bipush 40, 2, 0, 0, 0, .null), (15, .newarray .int, 2, 0, 0, 0, .null), (17, .putfield 15, 3, 3, 1, 0, .null), (20, .aload_n 0, 1, 0, 0, 0, .null), (21, .bipush 40, 2, 0, 0, 0, .null), (23, .newarray .int, 2, 0, 0, 0, .null), (25, .putfield 18, 3, 3, 2, 0, .null), (28, .aload_n 0, 1, 0, 0, 0, .null), (29, .bipush 40, 2, 0, 0, 0, .null), (31, .newarray .int, 2, 0, 0, 0, .null), (33, .putfield 21, 3, 3, 3, 0, .null), (36, .aload_n 0, 1, 0, 0, 0, .null), (37, .bipush 40, 2, 0, 0, 0, .null), (39, .newarray .int, 2, 0, 0, 0, .null), (41, .putfield 24, 3, 3, 4, 0, .null), (44, .aload_n 0, 1, 0, 0, 0, .null), (45, .bipush 40, 2, 0, 0, 0, .null), (47, .newarray .int, 2, 0, 0, 0, .null), (49, .putfield 27, 3, 3, 5, 0, .null), (52, .aload_n 0, 1, 0, 0, 0, .null), (53, .lconst 0, 1, 0, 0, 0, .null), (54, .putfield 30, 3, 3, 6, 0, .null), (57, .aload_n 0, 1, 0, 0, 0, .null), (58, .iconst 0, 1, 0, 0, 0, .null), (59, .putfield 34, 3, 3, 7, 0, .null), (62, .return_, 1, 0, 0, 0, .null)]
/-- OneRoof$Peaces.<init>()V -/
def qx_c6 : List (Nat × Instr × Nat × Nat × Nat × Nat × Value) := [(0, .aload_n 0, 1, 0, 0, 0, .null), (1, .invokespecial 3, 3, 0, 0, 6, .null), (4, .aload_n 0, 1, 0, 0, 0, .null), (5, .bipush 60, 2, 0, 0, 0, .null), (7, .newarray .int, 2, 0, 0, 0, .null), (9, .putfield 9, 3, 4, 0, 0, .null), (12, .aload_n 0, 1, 0, 0, 0, .null), (13, .bipush 60, 2, 0, 0, 0, .null), (15, .newarray .int, 2, 0, 0, 0, .null), (17, .putfield 15, 3, 4, 1, 0, .null), (20, .aload_n 0, 1, 0, 0, 0, .null), (21, .bipush 60, 2, 0, 0, 0, .null), (23, .newarray .int, 2, 0, 0, 0, .null), (25, .putfield 18, 3, 4, 2, 0, .null), (28, .aload_n 0, 1, 0, 0, 0, .null), (29, .bipush 60, 2, 0, 0, 0, .null), (31, .newarray .int, 2, 0, 0, 0, .null), (33, .putfield 21, 3, 4, 3, 0, .null), (36, .aload_n 0, 1, 0, 0, 0, .null), (37, .bipush 60, 2, 0, 0, 0, .null), (39, .newarray .int, 2, 0, 0, 0, .null), (41, .putfield 24, 3, 4, 4, 0, .null), (44, .aload_n 0, 1, 0, 0, 0, .null), (45, .bipush 60, 2, 0, 0, 0, .null), (47, .newarray .int, 2, 0, 0, 0, .null), (49, .putfield 27, 3, 4, 5, 0, .null), (52, .aload_n 0, 1, 0, 0, 0, .null), (53, .bipush 60, 2, 0, 0, 0, .null), (55, .newarray .long, 2, 0, 0, 0, .null), (57, .putfield 30, 3, 4, 6, 0, .null), (60, .aload_n 0, 1, 0, 0, 0, .null), (61, .iconst 0, 1, 0, 0, 0, .null), (62, .putfield 34, 3, 4, 7, 0, .null), (65, .return_, 1, 0, 0, 0, .null)]
/-- OneRoof$Acts.<init>()V -/
def qx_c7 : List (Nat × Instr × Nat × Nat × Nat × Nat × Value) := [(0, .aload_n 0, 1, 0, 0, 0, .null), (1, .invokespecial 1, 3, 0, 0, 6, .null), (4, .aload_n 0, 1, 0, 0, 0, .null), (5, .bipush 24, 2, 0, 0, 0, .null), (7, .newarray .int, 2, 0, 0, 0, .null), (9, .putfield 7, 3, 5, 0, 0, .null), (12, .aload_n 0, 1, 0, 0, 0, .null), (13, .iconst 0, 1, 0, 0, 0, .null), (14, .putfield 13, 3, 5, 1, 0, .null), (17, .return_, 1, 0, 0, 0, .null)]
/-- OneRoof$Pegs.<init>()V -/
def qx_c8 : List (Nat × Instr × Nat × Nat × Nat × Nat × Value) := [(0, .aload_n 0, 1, 0, 0, 0, .null), (1, .invokespecial 3, 3, 0, 0, 6, .null), (4, .aload_n 0, 1, 0, 0, 0, .null), (5, .bipush 6, 2, 0, 0, 0, .null), (7, .newarray .int, 2, 0, 0, 0, .null), (9, .dup, 1, 0, 0, 0, .null), (10, .iconst 0, 1, 0, 0, 0, .null), (11, .bipush 6, 2, 0, 0, 0, .null), (13, .iastore, 1, 0, 0, 0, .null), (14, .dup, 1, 0, 0, 0, .null), (15, .iconst 1, 1, 0, 0, 0, .null), (16, .bipush 6, 2, 0, 0, 0, .null), (18, .iastore, 1, 0, 0, 0, .null), (19, .dup, 1, 0, 0, 0, .null), (20, .iconst 2, 1, 0, 0, 0, .null), (21, .bipush 6, 2, 0, 0, 0, .null), (23, .iastore, 1, 0, 0, 0, .null), (24, .dup, 1, 0, 0, 0, .null), (25, .iconst 3, 1, 0, 0, 0, .null), (26, .bipush 6, 2, 0, 0, 0, .null), (28, .iastore, 1, 0, 0, 0, .null), (29, .dup, 1, 0, 0, 0, .null), (30, .iconst 4, 1, 0, 0, 0, .null), (31, .bipush 6, 2, 0, 0, 0, .null), (33, .iastore, 1, 0, 0, 0, .null), (34, .dup, 1, 0, 0, 0, .null), (35, .iconst 5, 1, 0, 0, 0, .null), (36, .bipush 6, 2, 0, 0, 0, .null), (38, .iastore, 1, 0, 0, 0, .null), (39, .putfield 11, 3, 6, 0, 0, .null), (42, .aload_n 0, 1, 0, 0, 0, .null), (43, .bipush 6, 2, 0, 0, 0, .null), (45, .newarray .int, 2, 0, 0, 0, .null), (47, .putfield 15, 3, 6, 1, 0, .null), (50, .aload_n 0, 1, 0, 0, 0, .null), (51, .bipush 6, 2, 0, 0, 0, .null), (53, .newarray .int, 2, 0, 0, 0, .null), (55, .putfield 18, 3, 6, 2, 0, .null), (58, .aload_n 0, 1, 0, 0, 0, .null), (59, .sipush 360, 3, 0, 0, 0, .null), (62, .newarray .long, 2, 0, 0, 0, .null), (64, .putfield 21, 3, 6, 3, 0, .null), (67, .return_, 1, 0, 0, 0, .null)]
/-- OneRoof$Custom.<init>(Ljava/lang/String;)V -/
def qx_c9 : List (Nat × Instr × Nat × Nat × Nat × Nat × Value) := [(0, .aload_n 0, 1, 0, 0, 0, .null), (1, .invokespecial 3, 3, 0, 0, 6, .null), (4, .aload_n 0, 1, 0, 0, 0, .null), (5, .bipush 120, 2, 0, 0, 0, .null), (7, .newarray .int, 2, 0, 0, 0, .null), (9, .putfield 9, 3, 7, 0, 0, .null), (12, .aload_n 0, 1, 0, 0, 0, .null), (13, .bipush 122, 2, 0, 0, 0, .null), (15, .newarray .int, 2, 0, 0, 0, .null), (17, .putfield 15, 3, 7, 1, 0, .null), (20, .aload_n 0, 1, 0, 0, 0, .null), (21, .bipush 120, 2, 0, 0, 0, .null), (23, .newarray .int, 2, 0, 0, 0, .null), (25, .putfield 18, 3, 7, 2, 0, .null), (28, .aload_n 0, 1, 0, 0, 0, .null), (29, .iconst 0, 1, 0, 0, 0, .null), (30, .putfield 21, 3, 7, 3, 0, .null), (33, .aload_n 0, 1, 0, 0, 0, .null), (34, .iconst 0, 1, 0, 0, 0, .null), (35, .putfield 25, 3, 7, 4, 0, .null), (38, .aload_n 0, 1, 0, 0, 0, .null), (39, .iconst 0, 1, 0, 0, 0, .null), (40, .putfield 28, 3, 7, 5, 0, .null), (43, .aload_n 0, 1, 0, 0, 0, .null), (44, .iconst 0, 1, 0, 0, 0, .null), (45, .putfield 31, 3, 7, 6, 0, .null), (48, .aload_n 0, 1, 0, 0, 0, .null), (49, .iconst 0, 1, 0, 0, 0, .null), (50, .putfield 34, 3, 7, 7, 0, .null), (53, .aload_n 0, 1, 0, 0, 0, .null), (54, .aload_n 1, 1, 0, 0, 0, .null), (55, .invokevirtual 38, 3, 10, 0, 0, .ref 13), (58, .aload_n 0, 1, 0, 0, 0, .null), (59, .getfield 9, 3, 7, 0, 0, .null), (62, .arraylength, 1, 0, 0, 0, .null), (63, .invokestatic 43, 3, 12, 2, 2, .null), (66, .putfield 21, 3, 7, 3, 0, .null), (69, .iconst 0, 1, 0, 0, 0, .null), (70, .istore_n 2, 1, 0, 0, 0, .null), (71, .iload_n 2, 1, 0, 0, 0, .null), (72, .aload_n 0, 1, 0, 0, 0, .null), (73, .getfield 21, 3, 7, 3, 0, .null), (76, .if_icmp .ge 20, 3, 0, 0, 0, .null), (79, .aload_n 0, 1, 0, 0, 0, .null), (80, .getfield 9, 3, 7, 0, 0, .null), (83, .iload_n 2, 1, 0, 0, 0, .null), (84, .aload_n 1, 1, 0, 0, 0, .null), (85, .iload_n 2, 1, 0, 0, 0, .null), (86, .invokevirtual 49, 3, 13, 1, 0, .ref 13), (89, .iastore, 1, 0, 0, 0, .null), (90, .iinc 2 1, 3, 0, 0, 0, .null), (93, .goto (-22), 3, 0, 0, 0, .null), (96, .aload_n 0, 1, 0, 0, 0, .null), (97, .invokevirtual 53, 3, 18, 0, 0, .ref 7), (100, .pop, 1, 0, 0, 0, .null), (101, .return_, 1, 0, 0, 0, .null)]
/-- java/lang/String.length()I -/
def qx_c10 : List (Nat × Instr × Nat × Nat × Nat × Nat × Value) := [(0, .aload_n 0, 1, 0, 0, 0, .null), (1, .getfield 9, 3, 13, 0, 0, .null), (4, .arraylength, 1, 0, 0, 0, .null), (5, .aload_n 0, 1, 0, 0, 0, .null), (6, .invokevirtual 335, 3, 11, 0, 0, .ref 13), (9, .ishr, 1, 0, 0, 0, .null), (10, .ireturn, 1, 0, 0, 0, .null)]
/-- java/lang/String.coder()B -/
def qx_c11 : List (Nat × Instr × Nat × Nat × Nat × Nat × Value) := [(0, .getstatic 38, 3, 0, 0, 0, .int 1), (3, .ifCond .eq 10, 3, 0, 0, 0, .null), (6, .aload_n 0, 1, 0, 0, 0, .null), (7, .getfield 15, 3, 13, 1, 0, .null), (10, .goto 4, 3, 0, 0, 0, .null), (13, .iconst 1, 1, 0, 0, 0, .null), (14, .ireturn, 1, 0, 0, 0, .null)]
/-- java/lang/Math.min(II)I -/
def qx_c12 : List (Nat × Instr × Nat × Nat × Nat × Nat × Value) := [(0, .iload_n 0, 1, 0, 0, 0, .null), (1, .iload_n 1, 1, 0, 0, 0, .null), (2, .if_icmp .gt 7, 3, 0, 0, 0, .null), (5, .iload_n 0, 1, 0, 0, 0, .null), (6, .goto 4, 3, 0, 0, 0, .null), (9, .iload_n 1, 1, 0, 0, 0, .null), (10, .ireturn, 1, 0, 0, 0, .null)]
/-- java/lang/String.charAt(I)C -/
def qx_c13 : List (Nat × Instr × Nat × Nat × Nat × Nat × Value) := [(0, .aload_n 0, 1, 0, 0, 0, .null), (1, .invokevirtual 492, 3, 14, 0, 0, .ref 13), (4, .ifCond .eq 12, 3, 0, 0, 0, .null), (7, .aload_n 0, 1, 0, 0, 0, .null), (8, .getfield 9, 3, 13, 0, 0, .null), (11, .iload_n 1, 1, 0, 0, 0, .null), (12, .invokestatic 495, 3, 15, 2, 2, .null), (15, .ireturn, 1, 0, 0, 0, .null), (16, .aload_n 0, 1, 0, 0, 0, .null), (17, .getfield 9, 3, 13, 0, 0, .null), (20, .iload_n 1, 1, 0, 0, 0, .null), (21, .invokestatic 498, 3, 0, 0, 9, .null), (24, .ireturn, 1, 0, 0, 0, .null)]
/-- java/lang/String.isLatin1()Z -/
def qx_c14 : List (Nat × Instr × Nat × Nat × Nat × Nat × Value) := [(0, .getstatic 38, 3, 0, 0, 0, .int 1), (3, .ifCond .eq 14, 3, 0, 0, 0, .null), (6, .aload_n 0, 1, 0, 0, 0, .null), (7, .getfield 15, 3, 13, 1, 0, .null), (10, .ifCond .ne 7, 3, 0, 0, 0, .null), (13, .iconst 1, 1, 0, 0, 0, .null), (14, .goto 4, 3, 0, 0, 0, .null), (17, .iconst 0, 1, 0, 0, 0, .null), (18, .ireturn, 1, 0, 0, 0, .null)]
/-- java/lang/StringLatin1.charAt([BI)C -/
def qx_c15 : List (Nat × Instr × Nat × Nat × Nat × Nat × Value) := [(0, .iload_n 1, 1, 0, 0, 0, .null), (1, .aload_n 0, 1, 0, 0, 0, .null), (2, .arraylength, 1, 0, 0, 0, .null), (3, .invokestatic 9, 3, 16, 2, 2, .null), (6, .aload_n 0, 1, 0, 0, 0, .null), (7, .iload_n 1, 1, 0, 0, 0, .null), (8, .baload, 1, 0, 0, 0, .null), (9, .sipush 255, 3, 0, 0, 0, .null), (12, .iand, 1, 0, 0, 0, .null), (13, .i2c, 1, 0, 0, 0, .null), (14, .ireturn, 1, 0, 0, 0, .null)]
/-- java/lang/String.checkIndex(II)V -/
def qx_c16 : List (Nat × Instr × Nat × Nat × Nat × Nat × Value) := [(0, .iload_n 0, 1, 0, 0, 0, .null), (1, .iload_n 1, 1, 0, 0, 0, .null), (2, .getstatic 1053, 3, 0, 0, 1, .null), (5, .invokestatic 1059, 3, 17, 3, 2, .null), (8, .pop, 1, 0, 0, 0, .null), (9, .return_, 1, 0, 0, 0, .null)]
/-- jdk/internal/util/Preconditions.checkIndex(IILjava/util/function/BiFunction;)I -/
def qx_c17 : List (Nat × Instr × Nat × Nat × Nat × Nat × Value) := [(0, .iload_n 0, 1, 0, 0, 0, .null), (1, .ifCond .lt 8, 3, 0, 0, 0, .null), (4, .iload_n 0, 1, 0, 0, 0, .null), (5, .iload_n 1, 1, 0, 0, 0, .null), (6, .if_icmp .lt 10, 3, 0, 0, 0, .null), (9, .aload_n 2, 1, 0, 0, 0, .null), (10, .iload_n 0, 1, 0, 0, 0, .null), (11, .iload_n 1, 1, 0, 0, 0, .null), (12, .invokestatic 95, 3, 0, 0, 9, .null), (15, .athrow, 1, 0, 0, 0, .null), (16, .iload_n 0, 1, 0, 0, 0, .null), (17, .ireturn, 1, 0, 0, 0, .null)]
/-- OneRoof$Custom.readLines()I -/
def qx_c18 : List (Nat × Instr × Nat × Nat × Nat × Nat × Value) := [(0, .aload_n 0, 1, 0, 0, 0, .null), (1, .iconst 0, 1, 0, 0, 0, .null), (2, .putfield 25, 3, 7, 4, 0, .null), (5, .aload_n 0, 1, 0, 0, 0, .null), (6, .iconst 0, 1, 0, 0, 0, .null), (7, .putfield 28, 3, 7, 5, 0, .null), (10, .aload_n 0, 1, 0, 0, 0, .null), (11, .iconst 0, 1, 0, 0, 0, .null), (12, .putfield 31, 3, 7, 6, 0, .null), (15, .aload_n 0, 1, 0, 0, 0, .null), (16, .iconst 0, 1, 0, 0, 0, .null), (17, .putfield 34, 3, 7, 7, 0, .null), (20, .iconst 0, 1, 0, 0, 0, .null), (21, .istore_n 1, 1, 0, 0, 0, .null), (22, .iload_n 1, 1, 0, 0, 0, .null), (23, .bipush 120, 2, 0, 0, 0, .null), (25, .if_icmp .gt 47, 3, 0, 0, 0, .null), (28, .aload_n 0, 1, 0, 0, 0, .null), (29, .getfield 34, 3, 7, 7, 0, .null), (32, .ifCond .ne 40, 3, 0, 0, 0, .null), (35, .aload_n 0, 1, 0, 0, 0, .null), (36, .invokevirtual 66, 3, 19, 0, 0, .ref 7), (39, .aload_n 0, 1, 0, 0, 0, .null), (40, .getfield 34, 3, 7, 7, 0, .null), (43, .ifCond .ne 29, 3, 0, 0, 0, .null), (46, .aload_n 0, 1, 0, 0, 0, .null), (47, .getfield 25, 3, 7, 4, 0, .null), (50, .aload_n 0, 1, 0, 0, 0, .null), (51, .getfield 21, 3, 7, 3, 0, .null), (54, .if_icmp .lt 6, 3, 0, 0, 0, .null), (57, .goto 15, 3, 0, 0, 0, .null), (60, .aload_n 0, 1, 0, 0, 0, .null), (61, .bipush 59, 2, 0, 0, 0, .null), (63, .invokevirtual 69, 3, 32, 1, 0, .ref 7), (66, .iinc 1 1, 3, 0, 0, 0, .null), (69, .goto (-47), 3, 0, 0, 0, .null), (72, .aload_n 0, 1, 0, 0, 0, .null), (73, .getfield 34, 3, 7, 7, 0, .null), (76, .ifCond .eq 10, 3, 0, 0, 0, .null), (79, .aload_n 0, 1, 0, 0, 0, .null), (80, .getfield 25, 3, 7, 4, 0, .null), (83, .goto 4, 3, 0, 0, 0, .null), (86, .iconst (-1), 1, 0, 0, 0, .null), (87, .ireturn, 1, 0, 0, 0, .null)]
/-- OneRoof$Custom.readLine()V -/
def qx_c19 : List (Nat × Instr × Nat × Nat × Nat × Nat × Value) := [(0, .aload_n 0, 1, 0, 0, 0, .null), (1, .iconst 0, 1, 0, 0, 0, .null), (2, .iconst 0, 1, 0, 0, 0, .null), (3, .invokevirtual 73, 3, 20, 2, 0, .ref 7), (6, .aload_n 0, 1, 0, 0, 0, .null), (7, .getfield 34, 3, 7, 7, 0, .null), (10, .ifCond .ne 12, 3, 0, 0, 0, .null), (13, .aload_n 0, 1, 0, 0, 0, .null), (14, .invokevirtual 77, 3, 22, 0, 0, .ref 7), (17, .bipush 63, 2, 0, 0, 0, .null), (19, .if_icmp .eq 12, 3, 0, 0, 0, .null), (22, .aload_n 0, 1, 0, 0, 0, .null), (23, .bipush 59, 2, 0, 0, 0, .null), (25, .iconst 0, 1, 0, 0, 0, .null), (26, .invokevirtual 80, 3, 25, 2, 0, .ref 7), (29, .pop, 1, 0, 0, 0, .null), (30, .return_, 1, 0, 0, 0, .null), (31, .aload_n 0, 1, 0, 0, 0, .null), (32, .dup, 1, 0, 0, 0, .null), (33, .getfield 25, 3, 7, 4, 0, .null), (36, .iconst 1, 1, 0, 0, 0, .null), (37, .iadd, 1, 0, 0, 0, .null), (38, .putfield 25, 3, 7, 4, 0, .null), (41, .aload_n 0, 1, 0, 0, 0, .null), (42, .bipush 63, 2, 0, 0, 0, .null), (44, .iconst 0, 1, 0, 0, 0, .null), (45, .invokevirtual 80, 3, 25, 2, 0, .ref 7), (48, .istore_n 1, 1, 0, 0, 0, .null), (49, .aload_n 0, 1, 0, 0, 0, .null), (50, .iconst 0, 1, 0, 0, 0, .null), (51, .iconst 0, 1, 0, 0, 0, .null), (52, .invokevirtual 73, 3, 20, 2, 0, .ref 7), (55, .aload_n 0, 1, 0, 0, 0, .null), (56, .bipush 59, 2, 0, 0, 0, .null), (58, .iconst 0, 1, 0, 0, 0, .null), (59, .invokevirtual 80, 3, 25, 2, 0, .ref 7), (62, .pop, 1, 0, 0, 0, .null), (63, .aload_n 0, 1, 0, 0, 0, .null), (64, .getfield 15, 3, 7, 1, 0, .null), (67, .iload_n 1, 1, 0, 0, 0, .null), (68, .ldc 83, 2, 0, 0, 0, .int 4128768), (70, .aload_n 0, 1, 0, 0, 0, .null), (71, .getfield 28, 3, 7, 5, 0, .null), (74, .ior, 1, 0, 0, 0, .null), (75, .iastore, 1, 0, 0, 0, .null), (76, .return_, 1, 0, 0, 0, .null)]
/-- OneRoof$Custom.readPart(II)V -/
def qx_c20 : List (Nat × Instr × Nat × Nat × Nat × Nat × Value) := [(0, .iload_n 1, 1, 0, 0, 0, .null), (1, .iconst 5, 1, 0, 0, 0, .null), (2, .if_icmp .lt 9, 3, 0, 0, 0, .null), (5, .aload_n 0, 1, 0, 0, 0, .null), (6, .iload_n 2, 1, 0, 0, 0, .null), (7, .invokevirtual 84, 3, 21, 1, 0, .ref 7), (10, .return_, 1, 0, 0, 0, .null), (11, .aload_n 0, 1, 0, 0, 0, .null), (12, .iload_n 1, 1, 0, 0, 0, .null), (13, .iconst 1, 1, 0, 0, 0, .null), (14, .iadd, 1, 0, 0, 0, .null), (15, .iload_n 2, 1, 0, 0, 0, .null), (16, .invokevirtual 73, 3, 20, 2, 0, .ref 7), (19, .iconst 0, 1, 0, 0, 0, .null), (20, .istore_n 3, 1, 0, 0, 0, .null), (21, .iload_n 3, 1, 0, 0, 0, .null), (22, .bipush 120, 2, 0, 0, 0, .null), (24, .if_icmp .ge 67, 3, 0, 0, 0, .null), (27, .aload_n 0, 1, 0, 0, 0, .null), (28, .getfield 34, 3, 7, 7, 0, .null), (31, .ifCond .ne 60, 3, 0, 0, 0, .null), (34, .aload_n 0, 1, 0, 0, 0, .null), (35, .invokevirtual 77, 3, 22, 0, 0, .ref 7), (38, .invokestatic 87, 3, 33, 1, 2, .null), (41, .iload_n 1, 1, 0, 0, 0, .null), (42, .if_icmp .ne 49, 3, 0, 0, 0, .null), (45, .aload_n 0, 1, 0, 0, 0, .null), (46, .invokevirtual 77, 3, 22, 0, 0, .ref 7), (49, .istore 4, 2, 0, 0, 0, .null), (51, .aload_n 0, 1, 0, 0, 0, .null), (52, .dup, 1, 0, 0, 0, .null), (53, .getfield 25, 3, 7, 4, 0, .null), (56, .iconst 1, 1, 0, 0, 0, .null), (57, .iadd, 1, 0, 0, 0, .null), (58, .putfield 25, 3, 7, 4, 0, .null), (61, .aload_n 0, 1, 0, 0, 0, .null), (62, .iload_n 1, 1, 0, 0, 0, .null), (63, .iconst 1, 1, 0, 0, 0, .null), (64, .iadd, 1, 0, 0, 0, .null), (65, .iload_n 2, 1, 0, 0, 0, .null), (66, .invokevirtual 73, 3, 20, 2, 0, .ref 7), (69, .aload_n 0, 1, 0, 0, 0, .null), (70, .iload 4, 2, 0, 0, 0, .null), (72, .iconst 0, 1, 0, 0, 0, .null), (73, .invokevirtual 80, 3, 25, 2, 0, .ref 7), (76, .pop, 1, 0, 0, 0, .null), (77, .iload_n 1, 1, 0, 0, 0, .null), (78, .iconst 2, 1, 0, 0, 0, .null), (79, .if_icmp .ne 6, 3, 0, 0, 0, .null), (82, .goto 9, 3, 0, 0, 0, .null), (85, .iinc 3 1, 3, 0, 0, 0, .null), (88, .goto (-67), 3, 0, 0, 0, .null), (91, .return_, 1, 0, 0, 0, .null)]
/-- OneRoof$Custom.readOperand(I)V -/
def qx_c21_0 : List (Nat × Instr × Nat × Nat × Nat × Nat × Value) := [(0, .aload_n 0, 1, 0, 0, 0, .null), (1, .invokevirtual 77, 3, 22, 0, 0, .ref 7), (4, .istore_n 2, 1, 0, 0, 0, .null), (5, .aload_n 0, 1, 0, 0, 0, .null), (6, .getfield 34, 3, 7, 7, 0, .null), (9, .ifCond .eq 4, 3, 0, 0, 0, .null), (12, .return_, 1, 0, 0, 0, .null), (13, .iload_n 2, 1, 0, 0, 0, .null), (14, .invokestatic 91, 3, 23, 1, 2, .null), (17, .ifCond .eq 10, 3, 0, 0, 0, .null), (20, .aload_n 0, 1, 0, 0, 0, .null), (21, .invokevirtual 95, 3, 24, 0, 0, .ref 7), (24, .goto 159, 3, 0, 0, 0, .null), (27, .iload_n 2, 1, 0, 0, 0, .null), (28, .ifCond .lt 54, 3, 0, 0, 0, .null), (31, .ldc 98, 2, 0, 0, 1, .ref 4), (33, .iload_n 2, 1, 0, 0, 0, .null), (34, .i2c, 1, 0, 0, 0, .null), (35, .invokevirtual 100, 3, 26, 1, 0, .ref 13), (38, .ifCond .lt 44, 3, 0, 0, 0, .null), (41, .aload_n 0, 1, 0, 0, 0, .null), (42, .dup, 1, 0, 0, 0, .null), (43, .getfield 25, 3, 7, 4, 0, .null), (46, .iconst 1, 1, 0, 0, 0, .null), (47, .iadd, 1, 0, 0, 0, .null), (48, .putfield 25, 3, 7, 4, 0, .null), (51, .ldc 98, 2, 0, 0, 1, .ref 4), (53, .iload_n 2, 1, 0, 0, 0, .null), (54, .i2c, 1, 0, 0, 0, .null), (55, .invokevirtual 100, 3, 26, 1, 0, .ref 13), (58, .istore_n 3, 1, 0, 0, 0, .null), (59, .aload_n 0, 1, 0, 0, 0, .null), (60, .dup, 1, 0, 0, 0, .null), (61, .getfield 31, 3, 7, 6, 0, .null), (64, .iconst 1, 1, 0, 0, 0, .null), (65, .iload_n 3, 1, 0, 0, 0, .null), (66, .ishl, 1, 0, 0, 0, .null), (67, .ior, 1, 0, 0, 0, .null), (68, .putfield 31, 3, 7, 6, 0, .null), (71, .aload_n 0, 1, 0, 0, 0, .null), (72, .bipush 97, 2, 0, 0, 0, .null), (74, .iload_n 3, 1, 0, 0, 0, .null), (75, .invokevirtual 80, 3, 25, 2, 0, .ref 7), (78, .pop, 1, 0, 0, 0, .null), (79, .goto 104, 3, 0, 0, 0, .null), (82, .iload_n 1, 1, 0, 0, 0, .null), (83, .bipush 6, 2, 0, 0, 0, .null), (85, .if_icmp .ge 36, 3, 0, 0, 0, .null), (88, .iload_n 2, 1, 0, 0, 0, .null), (89, .bipush 40, 2, 0, 0, 0, .null)]
def qx_c21_1 : List (Nat × Instr × Nat × Nat × Nat × Nat × Value) := [(91, .if_icmp .ne 30, 3, 0, 0, 0, .null), (94, .aload_n 0, 1, 0, 0, 0, .null), (95, .dup, 1, 0, 0, 0, .null), (96, .getfield 25, 3, 7, 4, 0, .null), (99, .iconst 1, 1, 0, 0, 0, .null), (100, .iadd, 1, 0, 0, 0, .null), (101, .putfield 25, 3, 7, 4, 0, .null), (104, .aload_n 0, 1, 0, 0, 0, .null), (105, .iconst 0, 1, 0, 0, 0, .null), (106, .iload_n 1, 1, 0, 0, 0, .null), (107, .iconst 1, 1, 0, 0, 0, .null), (108, .iadd, 1, 0, 0, 0, .null), (109, .invokevirtual 73, 3, 20, 2, 0, .ref 7), (112, .aload_n 0, 1, 0, 0, 0, .null), (113, .bipush 41, 2, 0, 0, 0, .null), (115, .invokevirtual 69, 3, 32, 1, 0, .ref 7), (118, .goto 65, 3, 0, 0, 0, .null), (121, .iload_n 1, 1, 0, 0, 0, .null), (122, .bipush 6, 2, 0, 0, 0, .null), (124, .if_icmp .ge 54, 3, 0, 0, 0, .null), (127, .iload_n 2, 1, 0, 0, 0, .null), (128, .bipush 33, 2, 0, 0, 0, .null), (130, .if_icmp .eq 9, 3, 0, 0, 0, .null), (133, .iload_n 2, 1, 0, 0, 0, .null), (134, .bipush 45, 2, 0, 0, 0, .null), (136, .if_icmp .ne 42, 3, 0, 0, 0, .null), (139, .aload_n 0, 1, 0, 0, 0, .null), (140, .dup, 1, 0, 0, 0, .null), (141, .getfield 25, 3, 7, 4, 0, .null), (144, .iconst 1, 1, 0, 0, 0, .null), (145, .iadd, 1, 0, 0, 0, .null), (146, .putfield 25, 3, 7, 4, 0, .null), (149, .aload_n 0, 1, 0, 0, 0, .null), (150, .iload_n 1, 1, 0, 0, 0, .null), (151, .iconst 1, 1, 0, 0, 0, .null), (152, .iadd, 1, 0, 0, 0, .null), (153, .invokevirtual 84, 3, 21, 1, 0, .ref 7), (156, .aload_n 0, 1, 0, 0, 0, .null), (157, .iload_n 2, 1, 0, 0, 0, .null), (158, .bipush 33, 2, 0, 0, 0, .null), (160, .if_icmp .ne 8, 3, 0, 0, 0, .null), (163, .bipush 33, 2, 0, 0, 0, .null), (165, .goto 5, 3, 0, 0, 0, .null), (168, .bipush 126, 2, 0, 0, 0, .null), (170, .iconst 0, 1, 0, 0, 0, .null), (171, .invokevirtual 80, 3, 25, 2, 0, .ref 7), (174, .pop, 1, 0, 0, 0, .null), (175, .goto 8, 3, 0, 0, 0, .null), (178, .aload_n 0, 1, 0, 0, 0, .null), (179, .iconst 1, 1, 0, 0, 0, .null)]
def qx_c21_2 : List (Nat × Instr × Nat × Nat × Nat × Nat × Value) := [(180, .putfield 34, 3, 7, 7, 0, .null), (183, .return_, 1, 0, 0, 0, .null)]
def qx_c21 : List (Nat × Instr × Nat × Nat × Nat × Nat × Value) := qx_c21_0 ++ (qx_c21_1 ++ (qx_c21_2))
/-- OneRoof$Custom.next()I -/
def qx_c22 : List (Nat × Instr × Nat × Nat × Nat × Nat × Value) := [(0, .aload_n 0, 1, 0, 0, 0, .null), (1, .getfield 25, 3, 7, 4, 0, .null), (4, .aload_n 0, 1, 0, 0, 0, .null), (5, .getfield 21, 3, 7, 3, 0, .null), (8, .if_icmp .ge 15, 3, 0, 0, 0, .null), (11, .aload_n 0, 1, 0, 0, 0, .null), (12, .getfield 9, 3, 7, 0, 0, .null), (15, .aload_n 0, 1, 0, 0, 0, .null), (16, .getfield 25, 3, 7, 4, 0, .null), (19, .iaload, 1, 0, 0, 0, .null), (20, .goto 4, 3, 0, 0, 0, .null), (23, .iconst (-1), 1, 0, 0, 0, .null), (24, .ireturn, 1, 0, 0, 0, .null)]
/-- OneRoof$Custom.isDigit(I)Z -/
def qx_c23 : List (Nat × Instr × Nat × Nat × Nat × Nat × Value) := [(0, .iload_n 0, 1, 0, 0, 0, .null), (1, .bipush 48, 2, 0, 0, 0, .null), (3, .if_icmp .lt 13, 3, 0, 0, 0, .null), (6, .iload_n 0, 1, 0, 0, 0, .null), (7, .bipush 57, 2, 0, 0, 0, .null), (9, .if_icmp .gt 7, 3, 0, 0, 0, .null), (12, .iconst 1, 1, 0, 0, 0, .null), (13, .goto 4, 3, 0, 0, 0, .null), (16, .iconst 0, 1, 0, 0, 0, .null), (17, .ireturn, 1, 0, 0, 0, .null)]
/-- OneRoof$Custom.readNumber()V -/
def qx_c24 : List (Nat × Instr × Nat × Nat × Nat × Nat × Value) := [(0, .iconst 0, 1, 0, 0, 0, .null), (1, .istore_n 1, 1, 0, 0, 0, .null), (2, .iconst 0, 1, 0, 0, 0, .null), (3, .istore_n 2, 1, 0, 0, 0, .null), (4, .iload_n 2, 1, 0, 0, 0, .null), (5, .iconst 4, 1, 0, 0, 0, .null), (6, .if_icmp .ge 42, 3, 0, 0, 0, .null), (9, .aload_n 0, 1, 0, 0, 0, .null), (10, .invokevirtual 77, 3, 22, 0, 0, .ref 7), (13, .invokestatic 91, 3, 23, 1, 2, .null), (16, .ifCond .eq 32, 3, 0, 0, 0, .null), (19, .iload_n 1, 1, 0, 0, 0, .null), (20, .bipush 10, 2, 0, 0, 0, .null), (22, .imul, 1, 0, 0, 0, .null), (23, .aload_n 0, 1, 0, 0, 0, .null), (24, .invokevirtual 77, 3, 22, 0, 0, .ref 7), (27, .iadd, 1, 0, 0, 0, .null), (28, .bipush 48, 2, 0, 0, 0, .null), (30, .isub, 1, 0, 0, 0, .null), (31, .istore_n 1, 1, 0, 0, 0, .null), (32, .aload_n 0, 1, 0, 0, 0, .null), (33, .dup, 1, 0, 0, 0, .null), (34, .getfield 25, 3, 7, 4, 0, .null), (37, .iconst 1, 1, 0, 0, 0, .null), (38, .iadd, 1, 0, 0, 0, .null), (39, .putfield 25, 3, 7, 4, 0, .null), (42, .iinc 2 1, 3, 0, 0, 0, .null), (45, .goto (-41), 3, 0, 0, 0, .null), (48, .aload_n 0, 1, 0, 0, 0, .null), (49, .bipush 48, 2, 0, 0, 0, .null), (51, .iload_n 1, 1, 0, 0, 0, .null), (52, .invokevirtual 80, 3, 25, 2, 0, .ref 7), (55, .pop, 1, 0, 0, 0, .null), (56, .return_, 1, 0, 0, 0, .null)]
/-- OneRoof$Custom.emit(II)I -/
def qx_c25 : List (Nat × Instr × Nat × Nat × Nat × Nat × Value) := [(0, .aload_n 0, 1, 0, 0, 0, .null), (1, .getfield 28, 3, 7, 5, 0, .null), (4, .aload_n 0, 1, 0, 0, 0, .null), (5, .getfield 15, 3, 7, 1, 0, .null), (8, .arraylength, 1, 0, 0, 0, .null), (9, .if_icmp .lt 5, 3, 0, 0, 0, .null), (12, .iconst 0, 1, 0, 0, 0, .null), (13, .ireturn, 1, 0, 0, 0, .null), (14, .aload_n 0, 1, 0, 0, 0, .null), (15, .getfield 15, 3, 7, 1, 0, .null), (18, .aload_n 0, 1, 0, 0, 0, .null), (19, .getfield 28, 3, 7, 5, 0, .null), (22, .iload_n 1, 1, 0, 0, 0, .null), (23, .bipush 16, 2, 0, 0, 0, .null), (25, .ishl, 1, 0, 0, 0, .null), (26, .iload_n 2, 1, 0, 0, 0, .null), (27, .ior, 1, 0, 0, 0, .null), (28, .iastore, 1, 0, 0, 0, .null), (29, .aload_n 0, 1, 0, 0, 0, .null), (30, .dup, 1, 0, 0, 0, .null), (31, .getfield 28, 3, 7, 5, 0, .null), (34, .dup_x1, 1, 0, 0, 0, .null), (35, .iconst 1, 1, 0, 0, 0, .null), (36, .iadd, 1, 0, 0, 0, .null), (37, .putfield 28, 3, 7, 5, 0, .null), (40, .ireturn, 1, 0, 0, 0, .null)]
/-- java/lang/String.indexOf(I)I -/
def qx_c26 : List (Nat × Instr × Nat × Nat × Nat × Nat × Value) := [(0, .aload_n 0, 1, 0, 0, 0, .null), (1, .iload_n 1, 1, 0, 0, 0, .null), (2, .iconst 0, 1, 0, 0, 0, .null), (3, .invokevirtual 633, 3, 27, 2, 0, .ref 13), (6, .ireturn, 1, 0, 0, 0, .null)]
/-- java/lang/String.indexOf(II)I -/
def qx_c27 : List (Nat × Instr × Nat × Nat × Nat × Nat × Value) := [(0, .aload_n 0, 1, 0, 0, 0, .null), (1, .invokevirtual 492, 3, 14, 0, 0, .ref 13), (4, .ifCond .eq 19, 3, 0, 0, 0, .null), (7, .aload_n 0, 1, 0, 0, 0, .null), (8, .getfield 9, 3, 13, 0, 0, .null), (11, .iload_n 1, 1, 0, 0, 0, .null), (12, .iload_n 2, 1, 0, 0, 0, .null), (13, .aload_n 0, 1, 0, 0, 0, .null), (14, .invokevirtual 505, 3, 10, 0, 0, .ref 13), (17, .invokestatic 637, 3, 28, 4, 2, .null), (20, .goto 16, 3, 0, 0, 0, .null), (23, .aload_n 0, 1, 0, 0, 0, .null), (24, .getfield 9, 3, 13, 0, 0, .null), (27, .iload_n 1, 1, 0, 0, 0, .null), (28, .iload_n 2, 1, 0, 0, 0, .null), (29, .aload_n 0, 1, 0, 0, 0, .null), (30, .invokevirtual 505, 3, 10, 0, 0, .ref 13), (33, .invokestatic 640, 3, 0, 0, 9, .null), (36, .ireturn, 1, 0, 0, 0, .null)]
/-- java/lang/StringLatin1.indexOf([BIII)I -/
def qx_c28 : List (Nat × Instr × Nat × Nat × Nat × Nat × Value) := [(0, .iload_n 1, 1, 0, 0, 0, .null), (1, .invokestatic 88, 3, 29, 1, 2, .null), (4, .ifCond .ne 5, 3, 0, 0, 0, .null), (7, .iconst (-1), 1, 0, 0, 0, .null), (8, .ireturn, 1, 0, 0, 0, .null), (9, .iload_n 2, 1, 0, 0, 0, .null), (10, .iconst 0, 1, 0, 0, 0, .null), (11, .invokestatic 92, 3, 30, 2, 2, .null), (14, .istore_n 2, 1, 0, 0, 0, .null), (15, .iload_n 3, 1, 0, 0, 0, .null), (16, .aload_n 0, 1, 0, 0, 0, .null), (17, .arraylength, 1, 0, 0, 0, .null), (18, .invokestatic 38, 3, 12, 2, 2, .null), (21, .istore_n 3, 1, 0, 0, 0, .null), (22, .iload_n 2, 1, 0, 0, 0, .null), (23, .iload_n 3, 1, 0, 0, 0, .null), (24, .if_icmp .lt 5, 3, 0, 0, 0, .null), (27, .iconst (-1), 1, 0, 0, 0, .null), (28, .ireturn, 1, 0, 0, 0, .null), (29, .aload_n 0, 1, 0, 0, 0, .null), (30, .iload_n 1, 1, 0, 0, 0, .null), (31, .iload_n 2, 1, 0, 0, 0, .null), (32, .iload_n 3, 1, 0, 0, 0, .null), (33, .invokestatic 95, 3, 31, 4, 2, .null), (36, .ireturn, 1, 0, 0, 0, .null)]
/-- java/lang/StringLatin1.canEncode(I)Z -/
def qx_c29 : List (Nat × Instr × Nat × Nat × Nat × Nat × Value) := [(0, .iload_n 0, 1, 0, 0, 0, .null), (1, .ifCond .lt 14, 3, 0, 0, 0, .null), (4, .iload_n 0, 1, 0, 0, 0, .null), (5, .sipush 255, 3, 0, 0, 0, .null), (8, .if_icmp .gt 7, 3, 0, 0, 0, .null), (11, .iconst 1, 1, 0, 0, 0, .null), (12, .goto 4, 3, 0, 0, 0, .null), (15, .iconst 0, 1, 0, 0, 0, .null), (16, .ireturn, 1, 0, 0, 0, .null)]
/-- java/lang/Math.max(II)I -/
def qx_c30 : List (Nat × Instr × Nat × Nat × Nat × Nat × Value) := [(0, .iload_n 0, 1, 0, 0, 0, .null), (1, .iload_n 1, 1, 0, 0, 0, .null), (2, .if_icmp .lt 7, 3, 0, 0, 0, .null), (5, .iload_n 0, 1, 0, 0, 0, .null), (6, .goto 4, 3, 0, 0, 0, .null), (9, .iload_n 1, 1, 0, 0, 0, .null), (10, .ireturn, 1, 0, 0, 0, .null)]
/-- java/lang/StringLatin1.indexOfChar([BIII)I -/
def qx_c31 : List (Nat × Instr × Nat × Nat × Nat × Nat × Value) := [(0, .iload_n 1, 1, 0, 0, 0, .null), (1, .i2b, 1, 0, 0, 0, .null), (2, .istore 4, 2, 0, 0, 0, .null), (4, .iload_n 2, 1, 0, 0, 0, .null), (5, .istore 5, 2, 0, 0, 0, .null), (7, .iload 5, 2, 0, 0, 0, .null), (9, .iload_n 3, 1, 0, 0, 0, .null), (10, .if_icmp .ge 21, 3, 0, 0, 0, .null), (13, .aload_n 0, 1, 0, 0, 0, .null), (14, .iload 5, 2, 0, 0, 0, .null), (16, .baload, 1, 0, 0, 0, .null), (17, .iload 4, 2, 0, 0, 0, .null), (19, .if_icmp .ne 6, 3, 0, 0, 0, .null), (22, .iload 5, 2, 0, 0, 0, .null), (24, .ireturn, 1, 0, 0, 0, .null), (25, .iinc 5 1, 3, 0, 0, 0, .null), (28, .goto (-21), 3, 0, 0, 0, .null), (31, .iconst (-1), 1, 0, 0, 0, .null), (32, .ireturn, 1, 0, 0, 0, .null)]
/-- OneRoof$Custom.pass(I)V -/
def qx_c32 : List (Nat × Instr × Nat × Nat × Nat × Nat × Value) := [(0, .aload_n 0, 1, 0, 0, 0, .null), (1, .getfield 34, 3, 7, 7, 0, .null), (4, .ifCond .ne 11, 3, 0, 0, 0, .null), (7, .aload_n 0, 1, 0, 0, 0, .null), (8, .invokevirtual 77, 3, 22, 0, 0, .ref 7), (11, .iload_n 1, 1, 0, 0, 0, .null), (12, .if_icmp .eq 11, 3, 0, 0, 0, .null), (15, .aload_n 0, 1, 0, 0, 0, .null), (16, .iconst 1, 1, 0, 0, 0, .null), (17, .putfield 34, 3, 7, 7, 0, .null), (20, .goto 13, 3, 0, 0, 0, .null), (23, .aload_n 0, 1, 0, 0, 0, .null), (24, .dup, 1, 0, 0, 0, .null), (25, .getfield 25, 3, 7, 4, 0, .null), (28, .iconst 1, 1, 0, 0, 0, .null), (29, .iadd, 1, 0, 0, 0, .null), (30, .putfield 25, 3, 7, 4, 0, .null), (33, .return_, 1, 0, 0, 0, .null)]
/-- OneRoof$Custom.levelOf(I)I -/
def qx_c33 : List (Nat × Instr × Nat × Nat × Nat × Nat × Value) := [(0, .iload_n 0, 1, 0, 0, 0, .null), (1, .lookupswitch 101 #[(37, 99), (38, 93), (42, 99), (43, 97), (45, 97), (47, 99), (60, 95), (61, 95), (62, 95), (124, 91)], 91, 0, 0, 0, .null), (92, .iconst 0, 1, 0, 0, 0, .null), (93, .ireturn, 1, 0, 0, 0, .null), (94, .iconst 1, 1, 0, 0, 0, .null), (95, .ireturn, 1, 0, 0, 0, .null), (96, .iconst 2, 1, 0, 0, 0, .null), (97, .ireturn, 1, 0, 0, 0, .null), (98, .iconst 3, 1, 0, 0, 0, .null), (99, .ireturn, 1, 0, 0, 0, .null), (100, .iconst 4, 1, 0, 0, 0, .null), (101, .ireturn, 1, 0, 0, 0, .null), (102, .iconst (-1), 1, 0, 0, 0, .null), (103, .ireturn, 1, 0, 0, 0, .null)]
/-- OneRoof$Moment.<init>(LOneRoof$Folk;LOneRoof$Kinship;LOneRoof$Feuds;LOneRoof$Peaces;[LOneRoof$Custom;)V -/
def qx_c34 : List (Nat × Instr × Nat × Nat × Nat × Nat × Value) := [(0, .aload_n 0, 1, 0, 0, 0, .null), (1, .invokespecial 3, 3, 0, 0, 6, .null), (4, .aload_n 0, 1, 0, 0, 0, .null), (5, .bipush 9, 2, 0, 0, 0, .null), (7, .newarray .int, 2, 0, 0, 0, .null), (9, .putfield 11, 3, 8, 5, 0, .null), (12, .aload_n 0, 1, 0, 0, 0, .null), (13, .sipush 496, 3, 0, 0, 0, .null), (16, .newarray .int, 2, 0, 0, 0, .null), (18, .putfield 17, 3, 8, 6, 0, .null), (21, .aload_n 0, 1, 0, 0, 0, .null), (22, .sipush 496, 3, 0, 0, 0, .null), (25, .newarray .int, 2, 0, 0, 0, .null), (27, .putfield 20, 3, 8, 7, 0, .null), (30, .aload_n 0, 1, 0, 0, 0, .null), (31, .sipush 496, 3, 0, 0, 0, .null), (34, .newarray .long, 2, 0, 0, 0, .null), (36, .putfield 23, 3, 8, 8, 0, .null), (39, .aload_n 0, 1, 0, 0, 0, .null), (40, .sipush 496, 3, 0, 0, 0, .null), (43, .newarray .int, 2, 0, 0, 0, .null), (45, .putfield 27, 3, 8, 9, 0, .null), (48, .aload_n 0, 1, 0, 0, 0, .null), (49, .lconst 0, 1, 0, 0, 0, .null), (50, .putfield 30, 3, 8, 10, 0, .null), (53, .aload_n 0, 1, 0, 0, 0, .null), (54, .iconst 0, 1, 0, 0, 0, .null), (55, .putfield 34, 3, 8, 11, 0, .null), (58, .aload_n 0, 1, 0, 0, 0, .null), (59, .iconst 0, 1, 0, 0, 0, .null), (60, .putfield 38, 3, 8, 12, 0, .null), (63, .aload_n 0, 1, 0, 0, 0, .null), (64, .aload_n 1, 1, 0, 0, 0, .null), (65, .putfield 41, 3, 8, 0, 0, .null), (68, .aload_n 0, 1, 0, 0, 0, .null), (69, .aload_n 2, 1, 0, 0, 0, .null), (70, .putfield 45, 3, 8, 1, 0, .null), (73, .aload_n 0, 1, 0, 0, 0, .null), (74, .aload_n 3, 1, 0, 0, 0, .null), (75, .putfield 49, 3, 8, 2, 0, .null), (78, .aload_n 0, 1, 0, 0, 0, .null), (79, .aload 4, 2, 0, 0, 0, .null), (81, .putfield 53, 3, 8, 3, 0, .null), (84, .aload_n 0, 1, 0, 0, 0, .null), (85, .aload 5, 2, 0, 0, 0, .null), (87, .putfield 57, 3, 8, 4, 0, .null), (90, .return_, 1, 0, 0, 0, .null)]
/-- OneRoof$Guests.<init>(LOneRoof$Moment;)V -/
def qx_c35 : List (Nat × Instr × Nat × Nat × Nat × Nat × Value) := [(0, .aload_n 0, 1, 0, 0, 0, .null), (1, .invokespecial 3, 3, 0, 0, 6, .null), (4, .aload_n 0, 1, 0, 0, 0, .null), (5, .bipush 12, 2, 0, 0, 0, .null), (7, .newarray .int, 2, 0, 0, 0, .null), (9, .putfield 9, 3, 9, 1, 0, .null), (12, .aload_n 0, 1, 0, 0, 0, .null), (13, .iconst 0, 1, 0, 0, 0, .null), (14, .putfield 15, 3, 9, 2, 0, .null), (17, .aload_n 0, 1, 0, 0, 0, .null), (18, .bipush 12, 2, 0, 0, 0, .null), (20, .newarray .int, 2, 0, 0, 0, .null), (22, .putfield 19, 3, 9, 3, 0, .null), (25, .aload_n 0, 1, 0, 0, 0, .null), (26, .sipush 4096, 3, 0, 0, 0, .null), (29, .newarray .int, 2, 0, 0, 0, .null), (31, .putfield 22, 3, 9, 4, 0, .null), (34, .aload_n 0, 1, 0, 0, 0, .null), (35, .bipush 36, 2, 0, 0, 0, .null), (37, .newarray .int, 2, 0, 0, 0, .null), (39, .putfield 25, 3, 9, 5, 0, .null), (42, .aload_n 0, 1, 0, 0, 0, .null), (43, .bipush 6, 2, 0, 0, 0, .null), (45, .newarray .int, 2, 0, 0, 0, .null), (47, .putfield 28, 3, 9, 6, 0, .null), (50, .aload_n 0, 1, 0, 0, 0, .null), (51, .iconst 0, 1, 0, 0, 0, .null), (52, .putfield 31, 3, 9, 7, 0, .null), (55, .aload_n 0, 1, 0, 0, 0, .null), (56, .aload_n 1, 1, 0, 0, 0, .null), (57, .putfield 34, 3, 9, 0, 0, .null), (60, .return_, 1, 0, 0, 0, .null)]
/-- OneRoof$Telling.<init>(LOneRoof$Moment;)V -/
def qx_c36 : List (Nat × Instr × Nat × Nat × Nat × Nat × Value) := [(0, .aload_n 0, 1, 0, 0, 0, .null), (1, .invokespecial 3, 3, 0, 0, 6, .null), (4, .aload_n 0, 1, 0, 0, 0, .null), (5, .bipush 31, 2, 0, 0, 0, .null), (7, .newarray .int, 2, 0, 0, 0, .null), (9, .putfield 11, 3, 10, 1, 0, .null), (12, .aload_n 0, 1, 0, 0, 0, .null), (13, .iconst 0, 1, 0, 0, 0, .null), (14, .putfield 15, 3, 10, 2, 0, .null), (17, .aload_n 0, 1, 0, 0, 0, .null), (18, .lconst 0, 1, 0, 0, 0, .null), (19, .putfield 19, 3, 10, 3, 0, .null), (22, .aload_n 0, 1, 0, 0, 0, .null), (23, .bipush 60, 2, 0, 0, 0, .null), (25, .newarray .int, 2, 0, 0, 0, .null), (27, .putfield 23, 3, 10, 4, 0, .null), (30, .aload_n 0, 1, 0, 0, 0, .null), (31, .iconst 0, 1, 0, 0, 0, .null), (32, .putfield 26, 3, 10, 5, 0, .null), (35, .aload_n 0, 1, 0, 0, 0, .null), (36, .lconst 0, 1, 0, 0, 0, .null), (37, .putfield 29, 3, 10, 6, 0, .null), (40, .aload_n 0, 1, 0, 0, 0, .null), (41, .aload_n 1, 1, 0, 0, 0, .null), (42, .putfield 32, 3, 10, 0, 0, .null), (45, .return_, 1, 0, 0, 0, .null)]
/-- OneRoof$History.<init>(LOneRoof$Folk;LOneRoof$Feuds;LOneRoof$Peaces;)V -/
def qx_c37 : List (Nat × Instr × Nat × Nat × Nat × Nat × Value) := [(0, .aload_n 0, 1, 0, 0, 0, .null), (1, .invokespecial 3, 3, 0, 0, 6, .null), (4, .aload_n 0, 1, 0, 0, 0, .null), (5, .bipush 40, 2, 0, 0, 0, .null), (7, .newarray .int, 2, 0, 0, 0, .null), (9, .putfield 11, 3, 11, 3, 0, .null), (12, .aload_n 0, 1, 0, 0, 0, .null), (13, .bipush 40, 2, 0, 0, 0, .null), (15, .newarray .int, 2, 0, 0, 0, .null), (17, .putfield 15, 3, 11, 4, 0, .null), (20, .aload_n 0, 1, 0, 0, 0, .null), (21, .bipush 40, 2, 0, 0, 0, .null), (23, .newarray .int, 2, 0, 0, 0, .null), (25, .putfield 18, 3, 11, 5, 0, .null), (28, .aload_n 0, 1, 0, 0, 0, .null), (29, .bipush 40, 2, 0, 0, 0, .null), (31, .newarray .int, 2, 0, 0, 0, .null), (33, .putfield 21, 3, 11, 6, 0, .null), (36, .aload_n 0, 1, 0, 0, 0, .null), (37, .iconst 0, 1, 0, 0, 0, .null), (38, .putfield 24, 3, 11, 7, 0, .null), (41, .aload_n 0, 1, 0, 0, 0, .null), (42, .iconst 0, 1, 0, 0, 0, .null), (43, .putfield 28, 3, 11, 8, 0, .null), (46, .aload_n 0, 1, 0, 0, 0, .null), (47, .aload_n 1, 1, 0, 0, 0, .null), (48, .putfield 31, 3, 11, 0, 0, .null), (51, .aload_n 0, 1, 0, 0, 0, .null), (52, .aload_n 2, 1, 0, 0, 0, .null), (53, .putfield 35, 3, 11, 1, 0, .null), (56, .aload_n 0, 1, 0, 0, 0, .null), (57, .aload_n 3, 1, 0, 0, 0, .null), (58, .putfield 39, 3, 11, 2, 0, .null), (61, .return_, 1, 0, 0, 0, .null)]
/-- OneRoof.person(III)I -/
def qx_c38 : List (Nat × Instr × Nat × Nat × Nat × Nat × Value) := [(0, .aload_n 0, 1, 0, 0, 0, .null), (1, .getfield 10, 3, 0, 0, 0, .null), (4, .iload_n 1, 1, 0, 0, 0, .null), (5, .iload_n 2, 1, 0, 0, 0, .null), (6, .iload_n 3, 1, 0, 0, 0, .null), (7, .invokevirtual 118, 3, 39, 3, 0, .ref 1), (10, .ifCond .ne 5, 3, 0, 0, 0, .null), (13, .iconst (-1), 1, 0, 0, 0, .null), (14, .ireturn, 1, 0, 0, 0, .null), (15, .aload_n 0, 1, 0, 0, 0, .null), (16, .getfield 10, 3, 0, 0, 0, .null), (19, .getfield 122, 3, 1, 6, 0, .null), (22, .bipush 32, 2, 0, 0, 0, .null), (24, .if_icmp .lt 6, 3, 0, 0, 0, .null), (27, .bipush (-3), 2, 0, 0, 0, .null), (29, .ireturn, 1, 0, 0, 0, .null), (30, .aload_n 0, 1, 0, 0, 0, .null), (31, .getfield 10, 3, 0, 0, 0, .null), (34, .iload_n 1, 1, 0, 0, 0, .null), (35, .iload_n 2, 1, 0, 0, 0, .null), (36, .iload_n 3, 1, 0, 0, 0, .null), (37, .invokevirtual 125, 3, 42, 3, 0, .ref 1), (40, .ireturn, 1, 0, 0, 0, .null)]
/-- OneRoof$Folk.fits(III)Z -/
def qx_c39 : List (Nat × Instr × Nat × Nat × Nat × Nat × Value) := [(0, .iload_n 1, 1, 0, 0, 0, .null), (1, .iconst (-1), 1, 0, 0, 0, .null), (2, .if_icmp .eq 11, 3, 0, 0, 0, .null), (5, .aload_n 0, 1, 0, 0, 0, .null), (6, .iload_n 1, 1, 0, 0, 0, .null), (7, .invokevirtual 36, 3, 40, 1, 0, .ref 1), (10, .ifCond .eq 25, 3, 0, 0, 0, .null), (13, .iload_n 2, 1, 0, 0, 0, .null), (14, .iconst 1, 1, 0, 0, 0, .null), (15, .if_icmp .lt 20, 3, 0, 0, 0, .null), (18, .iload_n 2, 1, 0, 0, 0, .null), (19, .bipush 99, 2, 0, 0, 0, .null), (21, .if_icmp .gt 14, 3, 0, 0, 0, .null), (24, .iload_n 3, 1, 0, 0, 0, .null), (25, .invokestatic 40, 3, 41, 1, 3, .null), (28, .ifCond .eq 7, 3, 0, 0, 0, .null), (31, .iconst 1, 1, 0, 0, 0, .null), (32, .goto 4, 3, 0, 0, 0, .null), (35, .iconst 0, 1, 0, 0, 0, .null), (36, .ireturn, 1, 0, 0, 0, .null)]
/-- OneRoof$Folk.has(I)Z -/
def qx_c40 : List (Nat × Instr × Nat × Nat × Nat × Nat × Value) := [(0, .iload_n 1, 1, 0, 0, 0, .null), (1, .ifCond .lt 15, 3, 0, 0, 0, .null), (4, .iload_n 1, 1, 0, 0, 0, .null), (5, .aload_n 0, 1, 0, 0, 0, .null), (6, .getfield 32, 3, 1, 6, 0, .null), (9, .if_icmp .ge 7, 3, 0, 0, 0, .null), (12, .iconst 1, 1, 0, 0, 0, .null), (13, .goto 4, 3, 0, 0, 0, .null), (16, .iconst 0, 1, 0, 0, 0, .null), (17, .ireturn, 1, 0, 0, 0, .null)]
/-- OneRoof.isBit(I)Z -/
def qx_c41 : List (Nat × Instr × Nat × Nat × Nat × Nat × Value) := [(0, .iload_n 0, 1, 0, 0, 0, .null), (1, .ifCond .eq 8, 3, 0, 0, 0, .null), (4, .iload_n 0, 1, 0, 0, 0, .null), (5, .iconst 1, 1, 0, 0, 0, .null), (6, .if_icmp .ne 7, 3, 0, 0, 0, .null), (9, .iconst 1, 1, 0, 0, 0, .null), (10, .goto 4, 3, 0, 0, 0, .null), (13, .iconst 0, 1, 0, 0, 0, .null), (14, .ireturn, 1, 0, 0, 0, .null)]
/-- OneRoof$Folk.come(III)I -/
def qx_c42 : List (Nat × Instr × Nat × Nat × Nat × Nat × Value) := [(0, .aload_n 0, 1, 0, 0, 0, .null), (1, .getfield 9, 3, 1, 0, 0, .null), (4, .aload_n 0, 1, 0, 0, 0, .null), (5, .getfield 32, 3, 1, 6, 0, .null), (8, .iload_n 1, 1, 0, 0, 0, .null), (9, .iastore, 1, 0, 0, 0, .null), (10, .aload_n 0, 1, 0, 0, 0, .null), (11, .getfield 15, 3, 1, 1, 0, .null), (14, .aload_n 0, 1, 0, 0, 0, .null), (15, .getfield 32, 3, 1, 6, 0, .null), (18, .iload_n 2, 1, 0, 0, 0, .null), (19, .iastore, 1, 0, 0, 0, .null), (20, .aload_n 0, 1, 0, 0, 0, .null), (21, .getfield 18, 3, 1, 2, 0, .null), (24, .aload_n 0, 1, 0, 0, 0, .null), (25, .getfield 32, 3, 1, 6, 0, .null), (28, .iload_n 3, 1, 0, 0, 0, .null), (29, .iastore, 1, 0, 0, 0, .null), (30, .aload_n 0, 1, 0, 0, 0, .null), (31, .getfield 24, 3, 1, 4, 0, .null), (34, .aload_n 0, 1, 0, 0, 0, .null), (35, .getfield 32, 3, 1, 6, 0, .null), (38, .lconst 1, 1, 0, 0, 0, .null), (39, .aload_n 0, 1, 0, 0, 0, .null), (40, .getfield 32, 3, 1, 6, 0, .null), (43, .lshl, 1, 0, 0, 0, .null), (44, .iload_n 1, 1, 0, 0, 0, .null), (45, .ifCond .ge 7, 3, 0, 0, 0, .null), (48, .lconst 0, 1, 0, 0, 0, .null), (49, .goto 9, 3, 0, 0, 0, .null), (52, .aload_n 0, 1, 0, 0, 0, .null), (53, .getfield 24, 3, 1, 4, 0, .null), (56, .iload_n 1, 1, 0, 0, 0, .null), (57, .laload, 1, 0, 0, 0, .null), (58, .lor, 1, 0, 0, 0, .null), (59, .lastore, 1, 0, 0, 0, .null), (60, .aload_n 0, 1, 0, 0, 0, .null), (61, .dup, 1, 0, 0, 0, .null), (62, .getfield 32, 3, 1, 6, 0, .null), (65, .dup_x1, 1, 0, 0, 0, .null), (66, .iconst 1, 1, 0, 0, 0, .null), (67, .iadd, 1, 0, 0, 0, .null), (68, .putfield 32, 3, 1, 6, 0, .null), (71, .ireturn, 1, 0, 0, 0, .null)]
/-- OneRoof.people(III)I -/
def qx_c43_0 : List (Nat × Instr × Nat × Nat × Nat × Nat × Value) := [(0, .aload_n 0, 1, 0, 0, 0, .null), (1, .getfield 50, 3, 0, 6, 0, .null), (4, .iload_n 1, 1, 0, 0, 0, .null), (5, .invokevirtual 129, 3, 44, 1, 0, .ref 6), (8, .ifCond .eq 14, 3, 0, 0, 0, .null), (11, .iload_n 3, 1, 0, 0, 0, .null), (12, .iconst 1, 1, 0, 0, 0, .null), (13, .if_icmp .lt 9, 3, 0, 0, 0, .null), (16, .iload_n 3, 1, 0, 0, 0, .null), (17, .bipush 20, 2, 0, 0, 0, .null), (19, .if_icmp .le 5, 3, 0, 0, 0, .null), (22, .iconst (-1), 1, 0, 0, 0, .null), (23, .ireturn, 1, 0, 0, 0, .null), (24, .aload_n 0, 1, 0, 0, 0, .null), (25, .getfield 50, 3, 0, 6, 0, .null), (28, .iload_n 1, 1, 0, 0, 0, .null), (29, .invokevirtual 133, 3, 45, 1, 0, .ref 6), (32, .ifCond .eq 5, 3, 0, 0, 0, .null), (35, .iconst 0, 1, 0, 0, 0, .null), (36, .ireturn, 1, 0, 0, 0, .null), (37, .aload_n 0, 1, 0, 0, 0, .null), (38, .getfield 50, 3, 0, 6, 0, .null), (41, .iload_n 1, 1, 0, 0, 0, .null), (42, .iconst 0, 1, 0, 0, 0, .null), (43, .invokevirtual 136, 3, 46, 2, 0, .ref 6), (46, .ifCond .ne 6, 3, 0, 0, 0, .null), (49, .bipush (-12), 2, 0, 0, 0, .null), (51, .ireturn, 1, 0, 0, 0, .null), (52, .iconst 0, 1, 0, 0, 0, .null), (53, .istore 4, 2, 0, 0, 0, .null), (55, .iload 4, 2, 0, 0, 0, .null), (57, .iload_n 3, 1, 0, 0, 0, .null), (58, .if_icmp .ge 142, 3, 0, 0, 0, .null), (61, .iload_n 2, 1, 0, 0, 0, .null), (62, .i2l, 1, 0, 0, 0, .null), (63, .ldc2_w 140, 3, 0, 0, 2, .long 3), (66, .iload 4, 2, 0, 0, 0, .null), (68, .i2l, 1, 0, 0, 0, .null), (69, .lmul, 1, 0, 0, 0, .null), (70, .ladd, 1, 0, 0, 0, .null), (71, .lstore 5, 2, 0, 0, 0, .null), (73, .lload 5, 2, 0, 0, 0, .null), (75, .lconst 0, 1, 0, 0, 0, .null), (76, .lcmp, 1, 0, 0, 0, .null), (77, .ifCond .lt 35, 3, 0, 0, 0, .null), (80, .lload 5, 2, 0, 0, 0, .null), (82, .ldc2_w 142, 3, 0, 0, 2, .long 2), (85, .ladd, 1, 0, 0, 0, .null), (86, .aload_n 0, 1, 0, 0, 0, .null), (87, .getfield 50, 3, 0, 6, 0, .null)]
def qx_c43_1 : List (Nat × Instr × Nat × Nat × Nat × Nat × Value) := [(90, .getfield 144, 3, 6, 1, 0, .null), (93, .iload_n 1, 1, 0, 0, 0, .null), (94, .iaload, 1, 0, 0, 0, .null), (95, .i2l, 1, 0, 0, 0, .null), (96, .lcmp, 1, 0, 0, 0, .null), (97, .ifCond .ge 15, 3, 0, 0, 0, .null), (100, .aload_n 0, 1, 0, 0, 0, .null), (101, .getfield 10, 3, 0, 0, 0, .null), (104, .getfield 122, 3, 1, 6, 0, .null), (107, .bipush 32, 2, 0, 0, 0, .null), (109, .if_icmp .lt 6, 3, 0, 0, 0, .null), (112, .iload 4, 2, 0, 0, 0, .null), (114, .ireturn, 1, 0, 0, 0, .null), (115, .aload_n 0, 1, 0, 0, 0, .null), (116, .getfield 50, 3, 0, 6, 0, .null), (119, .iload_n 1, 1, 0, 0, 0, .null), (120, .lload 5, 2, 0, 0, 0, .null), (122, .l2i, 1, 0, 0, 0, .null), (123, .invokevirtual 147, 3, 48, 2, 0, .ref 6), (126, .l2i, 1, 0, 0, 0, .null), (127, .istore 7, 2, 0, 0, 0, .null), (129, .aload_n 0, 1, 0, 0, 0, .null), (130, .getfield 50, 3, 0, 6, 0, .null), (133, .iload_n 1, 1, 0, 0, 0, .null), (134, .lload 5, 2, 0, 0, 0, .null), (136, .l2i, 1, 0, 0, 0, .null), (137, .iconst 1, 1, 0, 0, 0, .null), (138, .iadd, 1, 0, 0, 0, .null), (139, .invokevirtual 147, 3, 48, 2, 0, .ref 6), (142, .l2i, 1, 0, 0, 0, .null), (143, .istore 8, 2, 0, 0, 0, .null), (145, .aload_n 0, 1, 0, 0, 0, .null), (146, .getfield 50, 3, 0, 6, 0, .null), (149, .iload_n 1, 1, 0, 0, 0, .null), (150, .lload 5, 2, 0, 0, 0, .null), (152, .l2i, 1, 0, 0, 0, .null), (153, .iconst 2, 1, 0, 0, 0, .null), (154, .iadd, 1, 0, 0, 0, .null), (155, .invokevirtual 147, 3, 48, 2, 0, .ref 6), (158, .l2i, 1, 0, 0, 0, .null), (159, .istore 9, 2, 0, 0, 0, .null), (161, .aload_n 0, 1, 0, 0, 0, .null), (162, .getfield 10, 3, 0, 0, 0, .null), (165, .iload 7, 2, 0, 0, 0, .null), (167, .iload 8, 2, 0, 0, 0, .null), (169, .iload 9, 2, 0, 0, 0, .null), (171, .invokevirtual 118, 3, 39, 3, 0, .ref 1), (174, .ifCond .ne 6, 3, 0, 0, 0, .null), (177, .iload 4, 2, 0, 0, 0, .null), (179, .ireturn, 1, 0, 0, 0, .null)]
def qx_c43_2 : List (Nat × Instr × Nat × Nat × Nat × Nat × Value) := [(180, .aload_n 0, 1, 0, 0, 0, .null), (181, .getfield 10, 3, 0, 0, 0, .null), (184, .iload 7, 2, 0, 0, 0, .null), (186, .iload 8, 2, 0, 0, 0, .null), (188, .iload 9, 2, 0, 0, 0, .null), (190, .invokevirtual 125, 3, 42, 3, 0, .ref 1), (193, .pop, 1, 0, 0, 0, .null), (194, .iinc 4 1, 3, 0, 0, 0, .null), (197, .goto (-142), 3, 0, 0, 0, .null), (200, .iload_n 3, 1, 0, 0, 0, .null), (201, .ireturn, 1, 0, 0, 0, .null)]
def qx_c43 : List (Nat × Instr × Nat × Nat × Nat × Nat × Value) := qx_c43_0 ++ (qx_c43_1 ++ (qx_c43_2))
/-- OneRoof$Pegs.has(I)Z -/
def qx_c44 : List (Nat × Instr × Nat × Nat × Nat × Nat × Value) := [(0, .iload_n 1, 1, 0, 0, 0, .null), (1, .ifCond .lt 13, 3, 0, 0, 0, .null), (4, .iload_n 1, 1, 0, 0, 0, .null), (5, .bipush 6, 2, 0, 0, 0, .null), (7, .if_icmp .ge 7, 3, 0, 0, 0, .null), (10, .iconst 1, 1, 0, 0, 0, .null), (11, .goto 4, 3, 0, 0, 0, .null), (14, .iconst 0, 1, 0, 0, 0, .null), (15, .ireturn, 1, 0, 0, 0, .null)]
/-- OneRoof$Pegs.isEmpty(I)Z -/
def qx_c45 : List (Nat × Instr × Nat × Nat × Nat × Nat × Value) := [(0, .aload_n 0, 1, 0, 0, 0, .null), (1, .getfield 11, 3, 6, 0, 0, .null), (4, .iload_n 1, 1, 0, 0, 0, .null), (5, .iaload, 1, 0, 0, 0, .null), (6, .bipush 6, 2, 0, 0, 0, .null), (8, .if_icmp .ne 7, 3, 0, 0, 0, .null), (11, .iconst 1, 1, 0, 0, 0, .null), (12, .goto 4, 3, 0, 0, 0, .null), (15, .iconst 0, 1, 0, 0, 0, .null), (16, .ireturn, 1, 0, 0, 0, .null)]
/-- OneRoof$Pegs.isRowOf(II)Z -/
def qx_c46 : List (Nat × Instr × Nat × Nat × Nat × Nat × Value) := [(0, .aload_n 0, 1, 0, 0, 0, .null), (1, .iload_n 1, 1, 0, 0, 0, .null), (2, .invokevirtual 25, 3, 47, 1, 0, .ref 6), (5, .ifCond .eq 17, 3, 0, 0, 0, .null), (8, .aload_n 0, 1, 0, 0, 0, .null), (9, .getfield 11, 3, 6, 0, 0, .null), (12, .iload_n 1, 1, 0, 0, 0, .null), (13, .iaload, 1, 0, 0, 0, .null), (14, .iload_n 2, 1, 0, 0, 0, .null), (15, .if_icmp .ne 7, 3, 0, 0, 0, .null), (18, .iconst 1, 1, 0, 0, 0, .null), (19, .goto 4, 3, 0, 0, 0, .null), (22, .iconst 0, 1, 0, 0, 0, .null), (23, .ireturn, 1, 0, 0, 0, .null)]
/-- OneRoof$Pegs.isRow(I)Z -/
def qx_c47 : List (Nat × Instr × Nat × Nat × Nat × Nat × Value) := [(0, .aload_n 0, 1, 0, 0, 0, .null), (1, .getfield 11, 3, 6, 0, 0, .null), (4, .iload_n 1, 1, 0, 0, 0, .null), (5, .iaload, 1, 0, 0, 0, .null), (6, .iconst 5, 1, 0, 0, 0, .null), (7, .if_icmp .ge 7, 3, 0, 0, 0, .null), (10, .iconst 1, 1, 0, 0, 0, .null), (11, .goto 4, 3, 0, 0, 0, .null), (14, .iconst 0, 1, 0, 0, 0, .null), (15, .ireturn, 1, 0, 0, 0, .null)]
/-- OneRoof$Pegs.at(II)J -/
def qx_c48 : List (Nat × Instr × Nat × Nat × Nat × Nat × Value) := [(0, .aload_n 0, 1, 0, 0, 0, .null), (1, .getfield 21, 3, 6, 3, 0, .null), (4, .iload_n 1, 1, 0, 0, 0, .null), (5, .bipush 60, 2, 0, 0, 0, .null), (7, .imul, 1, 0, 0, 0, .null), (8, .iload_n 2, 1, 0, 0, 0, .null), (9, .iadd, 1, 0, 0, 0, .null), (10, .laload, 1, 0, 0, 0, .null), (11, .lreturn, 1, 0, 0, 0, .null)]
/-- OneRoof.of(II)I -/
def qx_c49 : List (Nat × Instr × Nat × Nat × Nat × Nat × Value) := [(0, .aload_n 0, 1, 0, 0, 0, .null), (1, .getfield 10, 3, 0, 0, 0, .null), (4, .iload_n 1, 1, 0, 0, 0, .null), (5, .invokevirtual 151, 3, 40, 1, 0, .ref 1), (8, .ifCond .ne 5, 3, 0, 0, 0, .null), (11, .iconst (-1), 1, 0, 0, 0, .null), (12, .ireturn, 1, 0, 0, 0, .null), (13, .iload_n 2, 1, 0, 0, 0, .null), (14, .tableswitch 80 0 3 #[30, 40, 50, 60], 30, 0, 0, 0, .null), (44, .aload_n 0, 1, 0, 0, 0, .null), (45, .getfield 10, 3, 0, 0, 0, .null), (48, .getfield 152, 3, 1, 0, 0, .null), (51, .iload_n 1, 1, 0, 0, 0, .null), (52, .iaload, 1, 0, 0, 0, .null), (53, .ireturn, 1, 0, 0, 0, .null), (54, .aload_n 0, 1, 0, 0, 0, .null), (55, .getfield 10, 3, 0, 0, 0, .null), (58, .getfield 155, 3, 1, 1, 0, .null), (61, .iload_n 1, 1, 0, 0, 0, .null), (62, .iaload, 1, 0, 0, 0, .null), (63, .ireturn, 1, 0, 0, 0, .null), (64, .aload_n 0, 1, 0, 0, 0, .null), (65, .getfield 10, 3, 0, 0, 0, .null), (68, .getfield 158, 3, 1, 2, 0, .null), (71, .iload_n 1, 1, 0, 0, 0, .null), (72, .iaload, 1, 0, 0, 0, .null), (73, .ireturn, 1, 0, 0, 0, .null), (74, .aload_n 0, 1, 0, 0, 0, .null), (75, .getfield 10, 3, 0, 0, 0, .null), (78, .getfield 161, 3, 1, 5, 0, .null), (81, .iload_n 1, 1, 0, 0, 0, .null), (82, .invokestatic 165, 3, 50, 2, 2, .null), (85, .ifCond .eq 7, 3, 0, 0, 0, .null), (88, .iconst 1, 1, 0, 0, 0, .null), (89, .goto 4, 3, 0, 0, 0, .null), (92, .iconst 0, 1, 0, 0, 0, .null), (93, .ireturn, 1, 0, 0, 0, .null), (94, .iconst (-1), 1, 0, 0, 0, .null), (95, .ireturn, 1, 0, 0, 0, .null)]
/-- OneRoof.isIn(JI)Z -/
def qx_c50 : List (Nat × Instr × Nat × Nat × Nat × Nat × Value) := [(0, .lload_n 0, 1, 0, 0, 0, .null), (1, .iload_n 2, 1, 0, 0, 0, .null), (2, .lushr, 1, 0, 0, 0, .null), (3, .lconst 1, 1, 0, 0, 0, .null), (4, .land, 1, 0, 0, 0, .null), (5, .lconst 0, 1, 0, 0, 0, .null), (6, .lcmp, 1, 0, 0, 0, .null), (7, .ifCond .eq 7, 3, 0, 0, 0, .null), (10, .iconst 1, 1, 0, 0, 0, .null), (11, .goto 4, 3, 0, 0, 0, .null), (14, .iconst 0, 1, 0, 0, 0, .null), (15, .ireturn, 1, 0, 0, 0, .null)]
/-- OneRoof.sword(II)I -/
def qx_c51 : List (Nat × Instr × Nat × Nat × Nat × Nat × Value) := [(0, .aload_n 0, 1, 0, 0, 0, .null), (1, .getfield 10, 3, 0, 0, 0, .null), (4, .iload_n 1, 1, 0, 0, 0, .null), (5, .invokevirtual 151, 3, 40, 1, 0, .ref 1), (8, .ifCond .eq 10, 3, 0, 0, 0, .null), (11, .iload_n 2, 1, 0, 0, 0, .null), (12, .invokestatic 169, 3, 41, 1, 2, .null), (15, .ifCond .ne 5, 3, 0, 0, 0, .null), (18, .iconst (-1), 1, 0, 0, 0, .null), (19, .ireturn, 1, 0, 0, 0, .null), (20, .aload_n 0, 1, 0, 0, 0, .null), (21, .getfield 100, 3, 0, 12, 0, .null), (24, .iconst 2, 1, 0, 0, 0, .null), (25, .iload_n 1, 1, 0, 0, 0, .null), (26, .iload_n 2, 1, 0, 0, 0, .null), (27, .invokevirtual 172, 3, 52, 3, 0, .ref 11), (30, .ireturn, 1, 0, 0, 0, .null)]
/-- OneRoof$History.change(III)I -/
def qx_c52 : List (Nat × Instr × Nat × Nat × Nat × Nat × Value) := [(0, .aload_n 0, 1, 0, 0, 0, .null), (1, .iload_n 1, 1, 0, 0, 0, .null), (2, .iload_n 2, 1, 0, 0, 0, .null), (3, .invokevirtual 43, 3, 53, 2, 0, .ref 11), (6, .istore 4, 2, 0, 0, 0, .null), (8, .iload 4, 2, 0, 0, 0, .null), (10, .iload_n 3, 1, 0, 0, 0, .null), (11, .if_icmp .ne 6, 3, 0, 0, 0, .null), (14, .iload 4, 2, 0, 0, 0, .null), (16, .ireturn, 1, 0, 0, 0, .null), (17, .aload_n 0, 1, 0, 0, 0, .null), (18, .getfield 24, 3, 11, 7, 0, .null), (21, .bipush 40, 2, 0, 0, 0, .null), (23, .if_icmp .lt 7, 3, 0, 0, 0, .null), (26, .aload_n 0, 1, 0, 0, 0, .null), (27, .invokevirtual 47, 3, 54, 0, 0, .ref 11), (30, .aload_n 0, 1, 0, 0, 0, .null), (31, .getfield 11, 3, 11, 3, 0, .null), (34, .aload_n 0, 1, 0, 0, 0, .null), (35, .getfield 24, 3, 11, 7, 0, .null), (38, .iload_n 1, 1, 0, 0, 0, .null), (39, .iastore, 1, 0, 0, 0, .null), (40, .aload_n 0, 1, 0, 0, 0, .null), (41, .getfield 15, 3, 11, 4, 0, .null), (44, .aload_n 0, 1, 0, 0, 0, .null), (45, .getfield 24, 3, 11, 7, 0, .null), (48, .iload_n 2, 1, 0, 0, 0, .null), (49, .iastore, 1, 0, 0, 0, .null), (50, .aload_n 0, 1, 0, 0, 0, .null), (51, .getfield 18, 3, 11, 5, 0, .null), (54, .aload_n 0, 1, 0, 0, 0, .null), (55, .getfield 24, 3, 11, 7, 0, .null), (58, .iload 4, 2, 0, 0, 0, .null), (60, .iastore, 1, 0, 0, 0, .null), (61, .aload_n 0, 1, 0, 0, 0, .null), (62, .getfield 21, 3, 11, 6, 0, .null), (65, .aload_n 0, 1, 0, 0, 0, .null), (66, .getfield 24, 3, 11, 7, 0, .null), (69, .iload_n 3, 1, 0, 0, 0, .null), (70, .iastore, 1, 0, 0, 0, .null), (71, .aload_n 0, 1, 0, 0, 0, .null), (72, .dup, 1, 0, 0, 0, .null), (73, .getfield 24, 3, 11, 7, 0, .null), (76, .iconst 1, 1, 0, 0, 0, .null), (77, .iadd, 1, 0, 0, 0, .null), (78, .putfield 24, 3, 11, 7, 0, .null), (81, .aload_n 0, 1, 0, 0, 0, .null), (82, .aload_n 0, 1, 0, 0, 0, .null), (83, .getfield 24, 3, 11, 7, 0, .null), (86, .putfield 28, 3, 11, 8, 0, .null), (89, .aload_n 0, 1, 0, 0, 0, .null), (90, .iload_n 1, 1, 0, 0, 0, .null), (91, .iload_n 2, 1, 0, 0, 0, .null), (92, .iload_n 3, 1, 0, 0, 0, .null), (93, .invokevirtual 50, 3, 55, 3, 0, .ref 11), (96, .iload 4, 2, 0, 0, 0, .null), (98, .ireturn, 1, 0, 0, 0, .null)]
/-- OneRoof$History.told(II)I -/
def qx_c53 : List (Nat × Instr × Nat × Nat × Nat × Nat × Value) := [(0, .iload_n 1, 1, 0, 0, 0, .null), (1, .tableswitch 75 0 2 #[27, 37, 65], 27, 0, 0, 0, .null), (28, .aload_n 0, 1, 0, 0, 0, .null), (29, .getfield 35, 3, 11, 1, 0, .null), (32, .getfield 60, 3, 3, 5, 0, .null), (35, .iload_n 2, 1, 0, 0, 0, .null), (36, .iaload, 1, 0, 0, 0, .null), (37, .ireturn, 1, 0, 0, 0, .null), (38, .aload_n 0, 1, 0, 0, 0, .null), (39, .getfield 39, 3, 11, 2, 0, .null), (42, .getfield 65, 3, 4, 6, 0, .null), (45, .iload_n 2, 1, 0, 0, 0, .null), (46, .bipush 32, 2, 0, 0, 0, .null), (48, .idiv, 1, 0, 0, 0, .null), (49, .laload, 1, 0, 0, 0, .null), (50, .iload_n 2, 1, 0, 0, 0, .null), (51, .bipush 32, 2, 0, 0, 0, .null), (53, .irem, 1, 0, 0, 0, .null), (54, .invokestatic 71, 3, 50, 2, 3, .null), (57, .ifCond .eq 7, 3, 0, 0, 0, .null), (60, .iconst 1, 1, 0, 0, 0, .null), (61, .goto 4, 3, 0, 0, 0, .null), (64, .iconst 0, 1, 0, 0, 0, .null), (65, .ireturn, 1, 0, 0, 0, .null), (66, .aload_n 0, 1, 0, 0, 0, .null), (67, .getfield 31, 3, 11, 0, 0, .null), (70, .getfield 75, 3, 1, 2, 0, .null), (73, .iload_n 2, 1, 0, 0, 0, .null), (74, .iaload, 1, 0, 0, 0, .null), (75, .ireturn, 1, 0, 0, 0, .null), (76, .aload_n 0, 1, 0, 0, 0, .null), (77, .getfield 39, 3, 11, 2, 0, .null), (80, .getfield 80, 3, 4, 0, 0, .null), (83, .iload_n 2, 1, 0, 0, 0, .null), (84, .iaload, 1, 0, 0, 0, .null), (85, .ireturn, 1, 0, 0, 0, .null)]
/-- OneRoof$History.forgetFirst()V -/
def qx_c54 : List (Nat × Instr × Nat × Nat × Nat × Nat × Value) := [(0, .aload_n 0, 1, 0, 0, 0, .null), (1, .getfield 11, 3, 11, 3, 0, .null), (4, .iconst 1, 1, 0, 0, 0, .null), (5, .aload_n 0, 1, 0, 0, 0, .null), (6, .getfield 11, 3, 11, 3, 0, .null), (9, .iconst 0, 1, 0, 0, 0, .null), (10, .bipush 39, 2, 0, 0, 0, .null), (12, .invokestatic 54, 3, 0, 5, 7, .null), (15, .aload_n 0, 1, 0, 0, 0, .null), (16, .getfield 15, 3, 11, 4, 0, .null), (19, .iconst 1, 1, 0, 0, 0, .null), (20, .aload_n 0, 1, 0, 0, 0, .null), (21, .getfield 15, 3, 11, 4, 0, .null), (24, .iconst 0, 1, 0, 0, 0, .null), (25, .bipush 39, 2, 0, 0, 0, .null), (27, .invokestatic 54, 3, 0, 5, 7, .null), (30, .aload_n 0, 1, 0, 0, 0, .null), (31, .getfield 18, 3, 11, 5, 0, .null), (34, .iconst 1, 1, 0, 0, 0, .null), (35, .aload_n 0, 1, 0, 0, 0, .null), (36, .getfield 18, 3, 11, 5, 0, .null), (39, .iconst 0, 1, 0, 0, 0, .null), (40, .bipush 39, 2, 0, 0, 0, .null), (42, .invokestatic 54, 3, 0, 5, 7, .null), (45, .aload_n 0, 1, 0, 0, 0, .null), (46, .getfield 21, 3, 11, 6, 0, .null), (49, .iconst 1, 1, 0, 0, 0, .null), (50, .aload_n 0, 1, 0, 0, 0, .null), (51, .getfield 21, 3, 11, 6, 0, .null), (54, .iconst 0, 1, 0, 0, 0, .null), (55, .bipush 39, 2, 0, 0, 0, .null), (57, .invokestatic 54, 3, 0, 5, 7, .null), (60, .aload_n 0, 1, 0, 0, 0, .null), (61, .bipush 39, 2, 0, 0, 0, .null), (63, .putfield 24, 3, 11, 7, 0, .null), (66, .return_, 1, 0, 0, 0, .null)]
/-- OneRoof$History.set(III)V -/
def qx_c55 : List (Nat × Instr × Nat × Nat × Nat × Nat × Value) := [(0, .iload_n 1, 1, 0, 0, 0, .null), (1, .tableswitch 110 0 2 #[27, 40, 97], 27, 0, 0, 0, .null), (28, .aload_n 0, 1, 0, 0, 0, .null), (29, .getfield 35, 3, 11, 1, 0, .null), (32, .getfield 60, 3, 3, 5, 0, .null), (35, .iload_n 2, 1, 0, 0, 0, .null), (36, .iload_n 3, 1, 0, 0, 0, .null), (37, .iastore, 1, 0, 0, 0, .null), (38, .goto 83, 3, 0, 0, 0, .null), (41, .lconst 1, 1, 0, 0, 0, .null), (42, .iload_n 2, 1, 0, 0, 0, .null), (43, .bipush 32, 2, 0, 0, 0, .null), (45, .irem, 1, 0, 0, 0, .null), (46, .lshl, 1, 0, 0, 0, .null), (47, .lstore 4, 2, 0, 0, 0, .null), (49, .iload_n 3, 1, 0, 0, 0, .null), (50, .iconst 1, 1, 0, 0, 0, .null), (51, .if_icmp .ne 23, 3, 0, 0, 0, .null), (54, .aload_n 0, 1, 0, 0, 0, .null), (55, .getfield 39, 3, 11, 2, 0, .null), (58, .getfield 65, 3, 4, 6, 0, .null), (61, .iload_n 2, 1, 0, 0, 0, .null), (62, .bipush 32, 2, 0, 0, 0, .null), (64, .idiv, 1, 0, 0, 0, .null), (65, .dup2, 1, 0, 0, 0, .null), (66, .laload, 1, 0, 0, 0, .null), (67, .lload 4, 2, 0, 0, 0, .null), (69, .lor, 1, 0, 0, 0, .null), (70, .lastore, 1, 0, 0, 0, .null), (71, .goto 50, 3, 0, 0, 0, .null), (74, .aload_n 0, 1, 0, 0, 0, .null), (75, .getfield 39, 3, 11, 2, 0, .null), (78, .getfield 65, 3, 4, 6, 0, .null), (81, .iload_n 2, 1, 0, 0, 0, .null), (82, .bipush 32, 2, 0, 0, 0, .null), (84, .idiv, 1, 0, 0, 0, .null), (85, .dup2, 1, 0, 0, 0, .null), (86, .laload, 1, 0, 0, 0, .null), (87, .lload 4, 2, 0, 0, 0, .null), (89, .ldc2_w 83, 3, 0, 0, 2, .long (-1)), (92, .lxor, 1, 0, 0, 0, .null), (93, .land, 1, 0, 0, 0, .null), (94, .lastore, 1, 0, 0, 0, .null), (95, .goto 26, 3, 0, 0, 0, .null), (98, .aload_n 0, 1, 0, 0, 0, .null), (99, .getfield 31, 3, 11, 0, 0, .null), (102, .getfield 75, 3, 1, 2, 0, .null), (105, .iload_n 2, 1, 0, 0, 0, .null), (106, .iload_n 3, 1, 0, 0, 0, .null), (107, .iastore, 1, 0, 0, 0, .null), (108, .goto 13, 3, 0, 0, 0, .null), (111, .aload_n 0, 1, 0, 0, 0, .null), (112, .getfield 39, 3, 11, 2, 0, .null), (115, .getfield 80, 3, 4, 0, 0, .null), (118, .iload_n 2, 1, 0, 0, 0, .null), (119, .iload_n 3, 1, 0, 0, 0, .null), (120, .iastore, 1, 0, 0, 0, .null), (121, .return_, 1, 0, 0, 0, .null)]
/-- OneRoof.kin(II)I -/
def qx_c56 : List (Nat × Instr × Nat × Nat × Nat × Nat × Value) := [(0, .aload_n 0, 1, 0, 0, 0, .null), (1, .getfield 10, 3, 0, 0, 0, .null), (4, .iload_n 1, 1, 0, 0, 0, .null), (5, .invokevirtual 151, 3, 40, 1, 0, .ref 1), (8, .ifCond .eq 19, 3, 0, 0, 0, .null), (11, .aload_n 0, 1, 0, 0, 0, .null), (12, .getfield 10, 3, 0, 0, 0, .null), (15, .iload_n 2, 1, 0, 0, 0, .null), (16, .invokevirtual 151, 3, 40, 1, 0, .ref 1), (19, .ifCond .eq 8, 3, 0, 0, 0, .null), (22, .iload_n 1, 1, 0, 0, 0, .null), (23, .iload_n 2, 1, 0, 0, 0, .null), (24, .if_icmp .ne 5, 3, 0, 0, 0, .null), (27, .iconst (-1), 1, 0, 0, 0, .null), (28, .ireturn, 1, 0, 0, 0, .null), (29, .aload_n 0, 1, 0, 0, 0, .null), (30, .getfield 19, 3, 0, 1, 0, .null), (33, .iload_n 1, 1, 0, 0, 0, .null), (34, .iload_n 2, 1, 0, 0, 0, .null), (35, .invokevirtual 175, 3, 57, 2, 0, .ref 2), (38, .iconst 1, 1, 0, 0, 0, .null), (39, .if_icmp .ne 5, 3, 0, 0, 0, .null), (42, .iconst (-1), 1, 0, 0, 0, .null), (43, .ireturn, 1, 0, 0, 0, .null), (44, .aload_n 0, 1, 0, 0, 0, .null), (45, .getfield 19, 3, 0, 1, 0, .null), (48, .getfield 179, 3, 2, 1, 0, .null), (51, .bipush 60, 2, 0, 0, 0, .null), (53, .if_icmp .lt 6, 3, 0, 0, 0, .null), (56, .bipush (-3), 2, 0, 0, 0, .null), (58, .ireturn, 1, 0, 0, 0, .null), (59, .aload_n 0, 1, 0, 0, 0, .null), (60, .getfield 19, 3, 0, 1, 0, .null), (63, .iload_n 1, 1, 0, 0, 0, .null), (64, .iload_n 2, 1, 0, 0, 0, .null), (65, .aload_n 0, 1, 0, 0, 0, .null), (66, .getfield 10, 3, 0, 0, 0, .null), (69, .getfield 122, 3, 1, 6, 0, .null), (72, .invokevirtual 180, 3, 58, 3, 0, .ref 2), (75, .aload_n 0, 1, 0, 0, 0, .null), (76, .getfield 19, 3, 0, 1, 0, .null), (79, .getfield 179, 3, 2, 1, 0, .null), (82, .ireturn, 1, 0, 0, 0, .null)]
/-- OneRoof$Kinship.apart(II)I -/
def qx_c57 : List (Nat × Instr × Nat × Nat × Nat × Nat × Value) := [(0, .aload_n 0, 1, 0, 0, 0, .null), (1, .getfield 9, 3, 2, 0, 0, .null), (4, .iload_n 1, 1, 0, 0, 0, .null), (5, .bipush 32, 2, 0, 0, 0, .null), (7, .imul, 1, 0, 0, 0, .null), (8, .iload_n 2, 1, 0, 0, 0, .null), (9, .iadd, 1, 0, 0, 0, .null), (10, .iaload, 1, 0, 0, 0, .null), (11, .ireturn, 1, 0, 0, 0, .null)]
/-- OneRoof$Kinship.join(III)V -/
def qx_c58 : List (Nat × Instr × Nat × Nat × Nat × Nat × Value) := [(0, .aload_n 0, 1, 0, 0, 0, .null), (1, .dup, 1, 0, 0, 0, .null), (2, .getfield 15, 3, 2, 1, 0, .null), (5, .iconst 1, 1, 0, 0, 0, .null), (6, .iadd, 1, 0, 0, 0, .null), (7, .putfield 15, 3, 2, 1, 0, .null), (10, .iconst 0, 1, 0, 0, 0, .null), (11, .istore 4, 2, 0, 0, 0, .null), (13, .iload 4, 2, 0, 0, 0, .null), (15, .iload_n 3, 1, 0, 0, 0, .null), (16, .if_icmp .ge 89, 3, 0, 0, 0, .null), (19, .iconst 0, 1, 0, 0, 0, .null), (20, .istore 5, 2, 0, 0, 0, .null), (22, .iload 5, 2, 0, 0, 0, .null), (24, .iload_n 3, 1, 0, 0, 0, .null), (25, .if_icmp .ge 74, 3, 0, 0, 0, .null), (28, .aload_n 0, 1, 0, 0, 0, .null), (29, .iload 4, 2, 0, 0, 0, .null), (31, .iload_n 1, 1, 0, 0, 0, .null), (32, .invokevirtual 25, 3, 57, 2, 0, .ref 2), (35, .aload_n 0, 1, 0, 0, 0, .null), (36, .iload_n 2, 1, 0, 0, 0, .null), (37, .iload 5, 2, 0, 0, 0, .null), (39, .invokevirtual 25, 3, 57, 2, 0, .ref 2), (42, .iadd, 1, 0, 0, 0, .null), (43, .aload_n 0, 1, 0, 0, 0, .null), (44, .iload 4, 2, 0, 0, 0, .null), (46, .iload_n 2, 1, 0, 0, 0, .null), (47, .invokevirtual 25, 3, 57, 2, 0, .ref 2), (50, .aload_n 0, 1, 0, 0, 0, .null), (51, .iload_n 1, 1, 0, 0, 0, .null), (52, .iload 5, 2, 0, 0, 0, .null), (54, .invokevirtual 25, 3, 57, 2, 0, .ref 2), (57, .iadd, 1, 0, 0, 0, .null), (58, .invokestatic 29, 3, 12, 2, 2, .null), (61, .iconst 1, 1, 0, 0, 0, .null), (62, .iadd, 1, 0, 0, 0, .null), (63, .istore 6, 2, 0, 0, 0, .null), (65, .iload 6, 2, 0, 0, 0, .null), (67, .aload_n 0, 1, 0, 0, 0, .null), (68, .iload 4, 2, 0, 0, 0, .null), (70, .iload 5, 2, 0, 0, 0, .null), (72, .invokevirtual 25, 3, 57, 2, 0, .ref 2), (75, .if_icmp .ge 18, 3, 0, 0, 0, .null), (78, .aload_n 0, 1, 0, 0, 0, .null), (79, .getfield 9, 3, 2, 0, 0, .null), (82, .iload 4, 2, 0, 0, 0, .null), (84, .bipush 32, 2, 0, 0, 0, .null), (86, .imul, 1, 0, 0, 0, .null), (87, .iload 5, 2, 0, 0, 0, .null), (89, .iadd, 1, 0, 0, 0, .null), (90, .iload 6, 2, 0, 0, 0, .null), (92, .iastore, 1, 0, 0, 0, .null), (93, .iinc 5 1, 3, 0, 0, 0, .null), (96, .goto (-74), 3, 0, 0, 0, .null), (99, .iinc 4 1, 3, 0, 0, 0, .null), (102, .goto (-89), 3, 0, 0, 0, .null), (105, .return_, 1, 0, 0, 0, .null)]
/-- OneRoof.steps(II)I -/
def qx_c59 : List (Nat × Instr × Nat × Nat × Nat × Nat × Value) := [(0, .aload_n 0, 1, 0, 0, 0, .null), (1, .getfield 10, 3, 0, 0, 0, .null), (4, .iload_n 1, 1, 0, 0, 0, .null), (5, .invokevirtual 151, 3, 40, 1, 0, .ref 1), (8, .ifCond .eq 14, 3, 0, 0, 0, .null), (11, .aload_n 0, 1, 0, 0, 0, .null), (12, .getfield 10, 3, 0, 0, 0, .null), (15, .iload_n 2, 1, 0, 0, 0, .null), (16, .invokevirtual 151, 3, 40, 1, 0, .ref 1), (19, .ifCond .ne 5, 3, 0, 0, 0, .null), (22, .iconst (-1), 1, 0, 0, 0, .null), (23, .ireturn, 1, 0, 0, 0, .null), (24, .aload_n 0, 1, 0, 0, 0, .null), (25, .getfield 19, 3, 0, 1, 0, .null), (28, .iload_n 1, 1, 0, 0, 0, .null), (29, .iload_n 2, 1, 0, 0, 0, .null), (30, .invokevirtual 175, 3, 57, 2, 0, .ref 2), (33, .istore_n 3, 1, 0, 0, 0, .null), (34, .iload_n 3, 1, 0, 0, 0, .null), (35, .bipush 9, 2, 0, 0, 0, .null), (37, .if_icmp .le 8, 3, 0, 0, 0, .null), (40, .bipush (-2), 2, 0, 0, 0, .null), (42, .goto 4, 3, 0, 0, 0, .null), (45, .iload_n 3, 1, 0, 0, 0, .null), (46, .ireturn, 1, 0, 0, 0, .null)]
/-- OneRoof.feud(III)I -/
def qx_c60 : List (Nat × Instr × Nat × Nat × Nat × Nat × Value) := [(0, .aload_n 0, 1, 0, 0, 0, .null), (1, .getfield 10, 3, 0, 0, 0, .null), (4, .iload_n 1, 1, 0, 0, 0, .null), (5, .invokevirtual 184, 3, 61, 1, 0, .ref 1), (8, .ifCond .eq 21, 3, 0, 0, 0, .null), (11, .iload_n 2, 1, 0, 0, 0, .null), (12, .invokestatic 187, 3, 62, 1, 2, .null), (15, .ifCond .eq 14, 3, 0, 0, 0, .null), (18, .iload_n 3, 1, 0, 0, 0, .null), (19, .ifCond .lt 10, 3, 0, 0, 0, .null), (22, .iload_n 3, 1, 0, 0, 0, .null), (23, .sipush 3999, 3, 0, 0, 0, .null), (26, .if_icmp .le 5, 3, 0, 0, 0, .null), (29, .iconst (-1), 1, 0, 0, 0, .null), (30, .ireturn, 1, 0, 0, 0, .null), (31, .aload_n 0, 1, 0, 0, 0, .null), (32, .getfield 29, 3, 0, 3, 0, .null), (35, .getfield 190, 3, 3, 7, 0, .null), (38, .bipush 40, 2, 0, 0, 0, .null), (40, .if_icmp .lt 6, 3, 0, 0, 0, .null), (43, .bipush (-3), 2, 0, 0, 0, .null), (45, .ireturn, 1, 0, 0, 0, .null), (46, .aload_n 0, 1, 0, 0, 0, .null), (47, .getfield 29, 3, 0, 3, 0, .null), (50, .iload_n 1, 1, 0, 0, 0, .null), (51, .bipush 100, 2, 0, 0, 0, .null), (53, .idiv, 1, 0, 0, 0, .null), (54, .iload_n 1, 1, 0, 0, 0, .null), (55, .bipush 100, 2, 0, 0, 0, .null), (57, .irem, 1, 0, 0, 0, .null), (58, .iload_n 2, 1, 0, 0, 0, .null), (59, .iload_n 3, 1, 0, 0, 0, .null), (60, .sipush 1000, 3, 0, 0, 0, .null), (63, .idiv, 1, 0, 0, 0, .null), (64, .iload_n 3, 1, 0, 0, 0, .null), (65, .sipush 1000, 3, 0, 0, 0, .null), (68, .irem, 1, 0, 0, 0, .null), (69, .invokevirtual 191, 3, 63, 5, 0, .ref 3), (72, .ireturn, 1, 0, 0, 0, .null)]
/-- OneRoof$Folk.isPair(I)Z -/
def qx_c61 : List (Nat × Instr × Nat × Nat × Nat × Nat × Value) := [(0, .iload_n 1, 1, 0, 0, 0, .null), (1, .ifCond .lt 40, 3, 0, 0, 0, .null), (4, .aload_n 0, 1, 0, 0, 0, .null), (5, .iload_n 1, 1, 0, 0, 0, .null), (6, .bipush 100, 2, 0, 0, 0, .null), (8, .idiv, 1, 0, 0, 0, .null), (9, .invokevirtual 36, 3, 40, 1, 0, .ref 1), (12, .ifCond .eq 29, 3, 0, 0, 0, .null), (15, .aload_n 0, 1, 0, 0, 0, .null), (16, .iload_n 1, 1, 0, 0, 0, .null), (17, .bipush 100, 2, 0, 0, 0, .null), (19, .irem, 1, 0, 0, 0, .null), (20, .invokevirtual 36, 3, 40, 1, 0, .ref 1), (23, .ifCond .eq 18, 3, 0, 0, 0, .null), (26, .iload_n 1, 1, 0, 0, 0, .null), (27, .bipush 100, 2, 0, 0, 0, .null), (29, .idiv, 1, 0, 0, 0, .null), (30, .iload_n 1, 1, 0, 0, 0, .null), (31, .bipush 100, 2, 0, 0, 0, .null), (33, .irem, 1, 0, 0, 0, .null), (34, .if_icmp .eq 7, 3, 0, 0, 0, .null), (37, .iconst 1, 1, 0, 0, 0, .null), (38, .goto 4, 3, 0, 0, 0, .null), (41, .iconst 0, 1, 0, 0, 0, .null), (42, .ireturn, 1, 0, 0, 0, .null)]
/-- OneRoof.isHour(I)Z -/
def qx_c62 : List (Nat × Instr × Nat × Nat × Nat × Nat × Value) := [(0, .iload_n 0, 1, 0, 0, 0, .null), (1, .ifCond .lt 14, 3, 0, 0, 0, .null), (4, .iload_n 0, 1, 0, 0, 0, .null), (5, .sipush 2399, 3, 0, 0, 0, .null), (8, .if_icmp .gt 7, 3, 0, 0, 0, .null), (11, .iconst 1, 1, 0, 0, 0, .null), (12, .goto 4, 3, 0, 0, 0, .null), (15, .iconst 0, 1, 0, 0, 0, .null), (16, .ireturn, 1, 0, 0, 0, .null)]
/-- OneRoof$Feuds.begin(IIIII)I -/
def qx_c63 : List (Nat × Instr × Nat × Nat × Nat × Nat × Value) := [(0, .aload_n 0, 1, 0, 0, 0, .null), (1, .getfield 11, 3, 3, 0, 0, .null), (4, .aload_n 0, 1, 0, 0, 0, .null), (5, .getfield 34, 3, 3, 7, 0, .null), (8, .iload_n 1, 1, 0, 0, 0, .null), (9, .iastore, 1, 0, 0, 0, .null), (10, .aload_n 0, 1, 0, 0, 0, .null), (11, .getfield 15, 3, 3, 1, 0, .null), (14, .aload_n 0, 1, 0, 0, 0, .null), (15, .getfield 34, 3, 3, 7, 0, .null), (18, .iload_n 2, 1, 0, 0, 0, .null), (19, .iastore, 1, 0, 0, 0, .null), (20, .aload_n 0, 1, 0, 0, 0, .null), (21, .getfield 18, 3, 3, 2, 0, .null), (24, .aload_n 0, 1, 0, 0, 0, .null), (25, .getfield 34, 3, 3, 7, 0, .null), (28, .iload_n 3, 1, 0, 0, 0, .null), (29, .iastore, 1, 0, 0, 0, .null), (30, .aload_n 0, 1, 0, 0, 0, .null), (31, .getfield 21, 3, 3, 3, 0, .null), (34, .aload_n 0, 1, 0, 0, 0, .null), (35, .getfield 34, 3, 3, 7, 0, .null), (38, .iload 4, 2, 0, 0, 0, .null), (40, .iastore, 1, 0, 0, 0, .null), (41, .aload_n 0, 1, 0, 0, 0, .null), (42, .getfield 24, 3, 3, 4, 0, .null), (45, .aload_n 0, 1, 0, 0, 0, .null), (46, .getfield 34, 3, 3, 7, 0, .null), (49, .iload 5, 2, 0, 0, 0, .null), (51, .iastore, 1, 0, 0, 0, .null), (52, .aload_n 0, 1, 0, 0, 0, .null), (53, .getfield 27, 3, 3, 5, 0, .null), (56, .aload_n 0, 1, 0, 0, 0, .null), (57, .getfield 34, 3, 3, 7, 0, .null), (60, .sipush 2400, 3, 0, 0, 0, .null), (63, .iastore, 1, 0, 0, 0, .null), (64, .aload_n 0, 1, 0, 0, 0, .null), (65, .dup, 1, 0, 0, 0, .null), (66, .getfield 34, 3, 3, 7, 0, .null), (69, .dup_x1, 1, 0, 0, 0, .null), (70, .iconst 1, 1, 0, 0, 0, .null), (71, .iadd, 1, 0, 0, 0, .null), (72, .putfield 34, 3, 3, 7, 0, .null), (75, .ireturn, 1, 0, 0, 0, .null)]
/-- OneRoof.pay(II)I -/
def qx_c64 : List (Nat × Instr × Nat × Nat × Nat × Nat × Value) := [(0, .iload_n 1, 1, 0, 0, 0, .null), (1, .ifCond .lt 25, 3, 0, 0, 0, .null), (4, .iload_n 1, 1, 0, 0, 0, .null), (5, .aload_n 0, 1, 0, 0, 0, .null), (6, .getfield 29, 3, 0, 3, 0, .null), (9, .getfield 190, 3, 3, 7, 0, .null), (12, .if_icmp .ge 14, 3, 0, 0, 0, .null), (15, .iload_n 2, 1, 0, 0, 0, .null), (16, .ifCond .lt 10, 3, 0, 0, 0, .null), (19, .iload_n 2, 1, 0, 0, 0, .null), (20, .sipush 2400, 3, 0, 0, 0, .null), (23, .if_icmp .le 5, 3, 0, 0, 0, .null), (26, .iconst (-1), 1, 0, 0, 0, .null), (27, .ireturn, 1, 0, 0, 0, .null), (28, .aload_n 0, 1, 0, 0, 0, .null), (29, .getfield 100, 3, 0, 12, 0, .null), (32, .iconst 0, 1, 0, 0, 0, .null), (33, .iload_n 1, 1, 0, 0, 0, .null), (34, .iload_n 2, 1, 0, 0, 0, .null), (35, .invokevirtual 172, 3, 52, 3, 0, .ref 11), (38, .ireturn, 1, 0, 0, 0, .null)]
/-- OneRoof.near(IIII)I -/
def qx_c65 : List (Nat × Instr × Nat × Nat × Nat × Nat × Value) := [(0, .aload_n 0, 1, 0, 0, 0, .null), (1, .getfield 10, 3, 0, 0, 0, .null), (4, .iload_n 1, 1, 0, 0, 0, .null), (5, .invokevirtual 151, 3, 40, 1, 0, .ref 1), (8, .ifCond .eq 29, 3, 0, 0, 0, .null), (11, .aload_n 0, 1, 0, 0, 0, .null), (12, .getfield 10, 3, 0, 0, 0, .null), (15, .iload_n 2, 1, 0, 0, 0, .null), (16, .invokevirtual 151, 3, 40, 1, 0, .ref 1), (19, .ifCond .eq 18, 3, 0, 0, 0, .null), (22, .iload_n 3, 1, 0, 0, 0, .null), (23, .invokestatic 187, 3, 62, 1, 2, .null), (26, .ifCond .eq 11, 3, 0, 0, 0, .null), (29, .iload 4, 2, 0, 0, 0, .null), (31, .invokestatic 169, 3, 41, 1, 2, .null), (34, .ifCond .ne 5, 3, 0, 0, 0, .null), (37, .iconst (-1), 1, 0, 0, 0, .null), (38, .ireturn, 1, 0, 0, 0, .null), (39, .iload_n 1, 1, 0, 0, 0, .null), (40, .iload_n 2, 1, 0, 0, 0, .null), (41, .if_icmp .ne 6, 3, 0, 0, 0, .null), (44, .bipush (-2), 2, 0, 0, 0, .null), (46, .ireturn, 1, 0, 0, 0, .null), (47, .aload_n 0, 1, 0, 0, 0, .null), (48, .getfield 29, 3, 0, 3, 0, .null), (51, .iload_n 1, 1, 0, 0, 0, .null), (52, .iload_n 2, 1, 0, 0, 0, .null), (53, .iload_n 3, 1, 0, 0, 0, .null), (54, .aload_n 0, 1, 0, 0, 0, .null), (55, .getfield 19, 3, 0, 1, 0, .null), (58, .invokevirtual 195, 3, 66, 4, 0, .ref 3), (61, .istore 5, 2, 0, 0, 0, .null), (63, .iload 5, 2, 0, 0, 0, .null), (65, .sipush 576, 3, 0, 0, 0, .null), (68, .if_icmp .lt 6, 3, 0, 0, 0, .null), (71, .bipush (-2), 2, 0, 0, 0, .null), (73, .ireturn, 1, 0, 0, 0, .null), (74, .iload 4, 2, 0, 0, 0, .null), (76, .ifCond .ne 11, 3, 0, 0, 0, .null), (79, .iload 5, 2, 0, 0, 0, .null), (81, .bipush 64, 2, 0, 0, 0, .null), (83, .idiv, 1, 0, 0, 0, .null), (84, .goto 8, 3, 0, 0, 0, .null), (87, .iload 5, 2, 0, 0, 0, .null), (89, .bipush 64, 2, 0, 0, 0, .null), (91, .irem, 1, 0, 0, 0, .null), (92, .ireturn, 1, 0, 0, 0, .null)]
/-- OneRoof$Feuds.nearest(IIILOneRoof$Kinship;)I -/
def qx_c66 : List (Nat × Instr × Nat × Nat × Nat × Nat × Value) := [(0, .sipush 576, 3, 0, 0, 0, .null), (3, .istore 5, 2, 0, 0, 0, .null), (5, .iconst 0, 1, 0, 0, 0, .null), (6, .istore 6, 2, 0, 0, 0, .null), (8, .iload 6, 2, 0, 0, 0, .null), (10, .aload_n 0, 1, 0, 0, 0, .null), (11, .getfield 34, 3, 3, 7, 0, .null), (14, .if_icmp .ge 42, 3, 0, 0, 0, .null), (17, .aload_n 0, 1, 0, 0, 0, .null), (18, .iload 6, 2, 0, 0, 0, .null), (20, .iload_n 3, 1, 0, 0, 0, .null), (21, .invokevirtual 43, 3, 67, 2, 0, .ref 3), (24, .ifCond .eq 26, 3, 0, 0, 0, .null), (27, .iload 5, 2, 0, 0, 0, .null), (29, .aload_n 0, 1, 0, 0, 0, .null), (30, .iload 6, 2, 0, 0, 0, .null), (32, .iload_n 1, 1, 0, 0, 0, .null), (33, .iload_n 2, 1, 0, 0, 0, .null), (34, .aload 4, 2, 0, 0, 0, .null), (36, .invokevirtual 47, 3, 68, 4, 0, .ref 3), (39, .bipush 64, 2, 0, 0, 0, .null), (41, .imul, 1, 0, 0, 0, .null), (42, .iload 6, 2, 0, 0, 0, .null), (44, .iadd, 1, 0, 0, 0, .null), (45, .invokestatic 51, 3, 12, 2, 2, .null), (48, .istore 5, 2, 0, 0, 0, .null), (50, .iinc 6 1, 3, 0, 0, 0, .null), (53, .goto (-45), 3, 0, 0, 0, .null), (56, .iload 5, 2, 0, 0, 0, .null), (58, .ireturn, 1, 0, 0, 0, .null)]
/-- OneRoof$Feuds.isAlight(II)Z -/
def qx_c67 : List (Nat × Instr × Nat × Nat × Nat × Nat × Value) := [(0, .aload_n 0, 1, 0, 0, 0, .null), (1, .getfield 18, 3, 3, 2, 0, .null), (4, .iload_n 1, 1, 0, 0, 0, .null), (5, .iaload, 1, 0, 0, 0, .null), (6, .iload_n 2, 1, 0, 0, 0, .null), (7, .if_icmp .gt 42, 3, 0, 0, 0, .null), (10, .aload_n 0, 1, 0, 0, 0, .null), (11, .getfield 27, 3, 3, 5, 0, .null), (14, .iload_n 1, 1, 0, 0, 0, .null), (15, .iaload, 1, 0, 0, 0, .null), (16, .sipush 2400, 3, 0, 0, 0, .null), (19, .if_icmp .eq 13, 3, 0, 0, 0, .null), (22, .iload_n 2, 1, 0, 0, 0, .null), (23, .aload_n 0, 1, 0, 0, 0, .null), (24, .getfield 27, 3, 3, 5, 0, .null), (27, .iload_n 1, 1, 0, 0, 0, .null), (28, .iaload, 1, 0, 0, 0, .null), (29, .if_icmp .ge 20, 3, 0, 0, 0, .null), (32, .aload_n 0, 1, 0, 0, 0, .null), (33, .getfield 30, 3, 3, 6, 0, .null), (36, .iload_n 1, 1, 0, 0, 0, .null), (37, .lushr, 1, 0, 0, 0, .null), (38, .lconst 1, 1, 0, 0, 0, .null), (39, .land, 1, 0, 0, 0, .null), (40, .lconst 0, 1, 0, 0, 0, .null), (41, .lcmp, 1, 0, 0, 0, .null), (42, .ifCond .ne 7, 3, 0, 0, 0, .null), (45, .iconst 1, 1, 0, 0, 0, .null), (46, .goto 4, 3, 0, 0, 0, .null), (49, .iconst 0, 1, 0, 0, 0, .null), (50, .ireturn, 1, 0, 0, 0, .null)]
/-- OneRoof$Feuds.closeness(IIILOneRoof$Kinship;)I -/
def qx_c68_0 : List (Nat × Instr × Nat × Nat × Nat × Nat × Value) := [(0, .aload 4, 2, 0, 0, 0, .null), (2, .getfield 38, 3, 2, 0, 1, .null), (5, .astore 5, 2, 0, 0, 0, .null), (7, .aload_n 0, 1, 0, 0, 0, .null), (8, .getfield 21, 3, 3, 3, 0, .null), (11, .iload_n 1, 1, 0, 0, 0, .null), (12, .iaload, 1, 0, 0, 0, .null), (13, .istore 6, 2, 0, 0, 0, .null), (15, .bipush 9, 2, 0, 0, 0, .null), (17, .istore 7, 2, 0, 0, 0, .null), (19, .aload 5, 2, 0, 0, 0, .null), (21, .iload_n 2, 1, 0, 0, 0, .null), (22, .bipush 32, 2, 0, 0, 0, .null), (24, .imul, 1, 0, 0, 0, .null), (25, .aload_n 0, 1, 0, 0, 0, .null), (26, .getfield 11, 3, 3, 0, 0, .null), (29, .iload_n 1, 1, 0, 0, 0, .null), (30, .iaload, 1, 0, 0, 0, .null), (31, .iadd, 1, 0, 0, 0, .null), (32, .iaload, 1, 0, 0, 0, .null), (33, .istore 8, 2, 0, 0, 0, .null), (35, .aload 5, 2, 0, 0, 0, .null), (37, .iload_n 3, 1, 0, 0, 0, .null), (38, .bipush 32, 2, 0, 0, 0, .null), (40, .imul, 1, 0, 0, 0, .null), (41, .aload_n 0, 1, 0, 0, 0, .null), (42, .getfield 15, 3, 3, 1, 0, .null), (45, .iload_n 1, 1, 0, 0, 0, .null), (46, .iaload, 1, 0, 0, 0, .null), (47, .iadd, 1, 0, 0, 0, .null), (48, .iaload, 1, 0, 0, 0, .null), (49, .istore 9, 2, 0, 0, 0, .null), (51, .iload 8, 2, 0, 0, 0, .null), (53, .iload 6, 2, 0, 0, 0, .null), (55, .if_icmp .gt 17, 3, 0, 0, 0, .null), (58, .iload 9, 2, 0, 0, 0, .null), (60, .iload 6, 2, 0, 0, 0, .null), (62, .if_icmp .gt 10, 3, 0, 0, 0, .null), (65, .iload 8, 2, 0, 0, 0, .null), (67, .iload 9, 2, 0, 0, 0, .null), (69, .iadd, 1, 0, 0, 0, .null), (70, .istore 7, 2, 0, 0, 0, .null), (72, .aload 5, 2, 0, 0, 0, .null), (74, .iload_n 3, 1, 0, 0, 0, .null), (75, .bipush 32, 2, 0, 0, 0, .null), (77, .imul, 1, 0, 0, 0, .null), (78, .aload_n 0, 1, 0, 0, 0, .null), (79, .getfield 11, 3, 3, 0, 0, .null), (82, .iload_n 1, 1, 0, 0, 0, .null), (83, .iaload, 1, 0, 0, 0, .null)]
def qx_c68_1 : List (Nat × Instr × Nat × Nat × Nat × Nat × Value) := [(84, .iadd, 1, 0, 0, 0, .null), (85, .iaload, 1, 0, 0, 0, .null), (86, .istore 8, 2, 0, 0, 0, .null), (88, .aload 5, 2, 0, 0, 0, .null), (90, .iload_n 2, 1, 0, 0, 0, .null), (91, .bipush 32, 2, 0, 0, 0, .null), (93, .imul, 1, 0, 0, 0, .null), (94, .aload_n 0, 1, 0, 0, 0, .null), (95, .getfield 15, 3, 3, 1, 0, .null), (98, .iload_n 1, 1, 0, 0, 0, .null), (99, .iaload, 1, 0, 0, 0, .null), (100, .iadd, 1, 0, 0, 0, .null), (101, .iaload, 1, 0, 0, 0, .null), (102, .istore 9, 2, 0, 0, 0, .null), (104, .iload 8, 2, 0, 0, 0, .null), (106, .iload 6, 2, 0, 0, 0, .null), (108, .if_icmp .gt 28, 3, 0, 0, 0, .null), (111, .iload 9, 2, 0, 0, 0, .null), (113, .iload 6, 2, 0, 0, 0, .null), (115, .if_icmp .gt 21, 3, 0, 0, 0, .null), (118, .iload 8, 2, 0, 0, 0, .null), (120, .iload 9, 2, 0, 0, 0, .null), (122, .iadd, 1, 0, 0, 0, .null), (123, .iload 7, 2, 0, 0, 0, .null), (125, .if_icmp .ge 11, 3, 0, 0, 0, .null), (128, .iload 8, 2, 0, 0, 0, .null), (130, .iload 9, 2, 0, 0, 0, .null), (132, .iadd, 1, 0, 0, 0, .null), (133, .goto 5, 3, 0, 0, 0, .null), (136, .iload 7, 2, 0, 0, 0, .null), (138, .ireturn, 1, 0, 0, 0, .null)]
def qx_c68 : List (Nat × Instr × Nat × Nat × Nat × Nat × Value) := qx_c68_0 ++ (qx_c68_1)
/-- OneRoof.peace(IJII)I -/
def qx_c69 : List (Nat × Instr × Nat × Nat × Nat × Nat × Value) := [(0, .iload_n 1, 1, 0, 0, 0, .null), (1, .ifCond .lt 25, 3, 0, 0, 0, .null), (4, .iload_n 1, 1, 0, 0, 0, .null), (5, .bipush 10, 2, 0, 0, 0, .null), (7, .irem, 1, 0, 0, 0, .null), (8, .iconst 5, 1, 0, 0, 0, .null), (9, .if_icmp .gt 17, 3, 0, 0, 0, .null), (12, .aload_n 0, 1, 0, 0, 0, .null), (13, .getfield 10, 3, 0, 0, 0, .null), (16, .iload_n 1, 1, 0, 0, 0, .null), (17, .bipush 10, 2, 0, 0, 0, .null), (19, .idiv, 1, 0, 0, 0, .null), (20, .invokevirtual 151, 3, 40, 1, 0, .ref 1), (23, .ifCond .ne 5, 3, 0, 0, 0, .null), (26, .iconst (-1), 1, 0, 0, 0, .null), (27, .ireturn, 1, 0, 0, 0, .null), (28, .lload_n 2, 1, 0, 0, 0, .null), (29, .lconst 0, 1, 0, 0, 0, .null), (30, .lcmp, 1, 0, 0, 0, .null), (31, .ifCond .lt 12, 3, 0, 0, 0, .null), (34, .lload_n 2, 1, 0, 0, 0, .null), (35, .bipush 32, 2, 0, 0, 0, .null), (37, .lushr, 1, 0, 0, 0, .null), (38, .lconst 0, 1, 0, 0, 0, .null), (39, .lcmp, 1, 0, 0, 0, .null), (40, .ifCond .eq 5, 3, 0, 0, 0, .null), (43, .iconst (-1), 1, 0, 0, 0, .null), (44, .ireturn, 1, 0, 0, 0, .null), (45, .iload 4, 2, 0, 0, 0, .null), (47, .invokestatic 199, 3, 70, 1, 2, .null), (50, .ifCond .eq 16, 3, 0, 0, 0, .null), (53, .iload 5, 2, 0, 0, 0, .null), (55, .ifCond .lt 11, 3, 0, 0, 0, .null), (58, .iload 5, 2, 0, 0, 0, .null), (60, .sipush 240, 3, 0, 0, 0, .null), (63, .if_icmp .le 5, 3, 0, 0, 0, .null), (66, .iconst (-1), 1, 0, 0, 0, .null), (67, .ireturn, 1, 0, 0, 0, .null), (68, .aload_n 0, 1, 0, 0, 0, .null), (69, .getfield 36, 3, 0, 4, 0, .null), (72, .getfield 202, 3, 4, 7, 0, .null), (75, .bipush 60, 2, 0, 0, 0, .null), (77, .if_icmp .lt 6, 3, 0, 0, 0, .null), (80, .bipush (-3), 2, 0, 0, 0, .null), (82, .ireturn, 1, 0, 0, 0, .null), (83, .aload_n 0, 1, 0, 0, 0, .null), (84, .getfield 36, 3, 0, 4, 0, .null), (87, .iload_n 1, 1, 0, 0, 0, .null), (88, .bipush 10, 2, 0, 0, 0, .null), (90, .idiv, 1, 0, 0, 0, .null), (91, .iload_n 1, 1, 0, 0, 0, .null), (92, .bipush 10, 2, 0, 0, 0, .null), (94, .irem, 1, 0, 0, 0, .null), (95, .lload_n 2, 1, 0, 0, 0, .null), (96, .iload 4, 2, 0, 0, 0, .null), (98, .iload 5, 2, 0, 0, 0, .null), (100, .invokevirtual 203, 3, 71, 5, 0, .ref 4), (103, .ireturn, 1, 0, 0, 0, .null)]
/-- OneRoof.isSpan(I)Z -/
def qx_c70 : List (Nat × Instr × Nat × Nat × Nat × Nat × Value) := [(0, .iload_n 0, 1, 0, 0, 0, .null), (1, .ifCond .lt 31, 3, 0, 0, 0, .null), (4, .iload_n 0, 1, 0, 0, 0, .null), (5, .sipush 10000, 3, 0, 0, 0, .null), (8, .idiv, 1, 0, 0, 0, .null), (9, .iload_n 0, 1, 0, 0, 0, .null), (10, .sipush 10000, 3, 0, 0, 0, .null), (13, .irem, 1, 0, 0, 0, .null), (14, .if_icmp .gt 18, 3, 0, 0, 0, .null), (17, .iload_n 0, 1, 0, 0, 0, .null), (18, .sipush 10000, 3, 0, 0, 0, .null), (21, .irem, 1, 0, 0, 0, .null), (22, .invokestatic 187, 3, 62, 1, 2, .null), (25, .ifCond .eq 7, 3, 0, 0, 0, .null), (28, .iconst 1, 1, 0, 0, 0, .null), (29, .goto 4, 3, 0, 0, 0, .null), (32, .iconst 0, 1, 0, 0, 0, .null), (33, .ireturn, 1, 0, 0, 0, .null)]
/-- OneRoof$Peaces.begin(IIJII)I -/
def qx_c71_0 : List (Nat × Instr × Nat × Nat × Nat × Nat × Value) := [(0, .aload_n 0, 1, 0, 0, 0, .null), (1, .getfield 9, 3, 4, 0, 0, .null), (4, .aload_n 0, 1, 0, 0, 0, .null), (5, .getfield 34, 3, 4, 7, 0, .null), (8, .iload_n 2, 1, 0, 0, 0, .null), (9, .iastore, 1, 0, 0, 0, .null), (10, .aload_n 0, 1, 0, 0, 0, .null), (11, .getfield 15, 3, 4, 1, 0, .null), (14, .aload_n 0, 1, 0, 0, 0, .null), (15, .getfield 34, 3, 4, 7, 0, .null), (18, .iload_n 1, 1, 0, 0, 0, .null), (19, .iastore, 1, 0, 0, 0, .null), (20, .aload_n 0, 1, 0, 0, 0, .null), (21, .getfield 18, 3, 4, 2, 0, .null), (24, .aload_n 0, 1, 0, 0, 0, .null), (25, .getfield 34, 3, 4, 7, 0, .null), (28, .iload 5, 2, 0, 0, 0, .null), (30, .sipush 10000, 3, 0, 0, 0, .null), (33, .idiv, 1, 0, 0, 0, .null), (34, .iastore, 1, 0, 0, 0, .null), (35, .aload_n 0, 1, 0, 0, 0, .null), (36, .getfield 21, 3, 4, 3, 0, .null), (39, .aload_n 0, 1, 0, 0, 0, .null), (40, .getfield 34, 3, 4, 7, 0, .null), (43, .iload 5, 2, 0, 0, 0, .null), (45, .sipush 10000, 3, 0, 0, 0, .null), (48, .irem, 1, 0, 0, 0, .null), (49, .iastore, 1, 0, 0, 0, .null), (50, .aload_n 0, 1, 0, 0, 0, .null), (51, .getfield 24, 3, 4, 4, 0, .null), (54, .aload_n 0, 1, 0, 0, 0, .null), (55, .getfield 34, 3, 4, 7, 0, .null), (58, .iload 6, 2, 0, 0, 0, .null), (60, .iastore, 1, 0, 0, 0, .null), (61, .aload_n 0, 1, 0, 0, 0, .null), (62, .getfield 27, 3, 4, 5, 0, .null), (65, .aload_n 0, 1, 0, 0, 0, .null), (66, .getfield 34, 3, 4, 7, 0, .null), (69, .aload_n 0, 1, 0, 0, 0, .null), (70, .getfield 21, 3, 4, 3, 0, .null), (73, .aload_n 0, 1, 0, 0, 0, .null), (74, .getfield 34, 3, 4, 7, 0, .null), (77, .iaload, 1, 0, 0, 0, .null), (78, .iload_n 2, 1, 0, 0, 0, .null), (79, .iconst 2, 1, 0, 0, 0, .null), (80, .if_icmp .ne 8, 3, 0, 0, 0, .null), (83, .iload 6, 2, 0, 0, 0, .null), (85, .goto 4, 3, 0, 0, 0, .null), (88, .iconst 0, 1, 0, 0, 0, .null), (89, .iadd, 1, 0, 0, 0, .null)]
def qx_c71_1 : List (Nat × Instr × Nat × Nat × Nat × Nat × Value) := [(90, .iastore, 1, 0, 0, 0, .null), (91, .aload_n 0, 1, 0, 0, 0, .null), (92, .getfield 30, 3, 4, 6, 0, .null), (95, .aload_n 0, 1, 0, 0, 0, .null), (96, .getfield 34, 3, 4, 7, 0, .null), (99, .lload_n 3, 1, 0, 0, 0, .null), (100, .lastore, 1, 0, 0, 0, .null), (101, .aload_n 0, 1, 0, 0, 0, .null), (102, .dup, 1, 0, 0, 0, .null), (103, .getfield 34, 3, 4, 7, 0, .null), (106, .dup_x1, 1, 0, 0, 0, .null), (107, .iconst 1, 1, 0, 0, 0, .null), (108, .iadd, 1, 0, 0, 0, .null), (109, .putfield 34, 3, 4, 7, 0, .null), (112, .ireturn, 1, 0, 0, 0, .null)]
def qx_c71 : List (Nat × Instr × Nat × Nat × Nat × Nat × Value) := qx_c71_0 ++ (qx_c71_1)
/-- OneRoof.ofPeace(II)I -/
def qx_c72 : List (Nat × Instr × Nat × Nat × Nat × Nat × Value) := [(0, .aload_n 0, 1, 0, 0, 0, .null), (1, .getfield 36, 3, 0, 4, 0, .null), (4, .iload_n 1, 1, 0, 0, 0, .null), (5, .invokevirtual 206, 3, 73, 1, 0, .ref 4), (8, .ifCond .ne 5, 3, 0, 0, 0, .null), (11, .iconst (-1), 1, 0, 0, 0, .null), (12, .ireturn, 1, 0, 0, 0, .null), (13, .iload_n 2, 1, 0, 0, 0, .null), (14, .tableswitch 101 0 5 #[38, 48, 58, 68, 78, 88], 38, 0, 0, 0, .null), (52, .aload_n 0, 1, 0, 0, 0, .null), (53, .getfield 36, 3, 0, 4, 0, .null), (56, .getfield 207, 3, 4, 0, 0, .null), (59, .iload_n 1, 1, 0, 0, 0, .null), (60, .iaload, 1, 0, 0, 0, .null), (61, .ireturn, 1, 0, 0, 0, .null), (62, .aload_n 0, 1, 0, 0, 0, .null), (63, .getfield 36, 3, 0, 4, 0, .null), (66, .getfield 210, 3, 4, 1, 0, .null), (69, .iload_n 1, 1, 0, 0, 0, .null), (70, .iaload, 1, 0, 0, 0, .null), (71, .ireturn, 1, 0, 0, 0, .null), (72, .aload_n 0, 1, 0, 0, 0, .null), (73, .getfield 36, 3, 0, 4, 0, .null), (76, .getfield 213, 3, 4, 2, 0, .null), (79, .iload_n 1, 1, 0, 0, 0, .null), (80, .iaload, 1, 0, 0, 0, .null), (81, .ireturn, 1, 0, 0, 0, .null), (82, .aload_n 0, 1, 0, 0, 0, .null), (83, .getfield 36, 3, 0, 4, 0, .null), (86, .getfield 216, 3, 4, 3, 0, .null), (89, .iload_n 1, 1, 0, 0, 0, .null), (90, .iaload, 1, 0, 0, 0, .null), (91, .ireturn, 1, 0, 0, 0, .null), (92, .aload_n 0, 1, 0, 0, 0, .null), (93, .getfield 36, 3, 0, 4, 0, .null), (96, .getfield 219, 3, 4, 4, 0, .null), (99, .iload_n 1, 1, 0, 0, 0, .null), (100, .iaload, 1, 0, 0, 0, .null), (101, .ireturn, 1, 0, 0, 0, .null), (102, .aload_n 0, 1, 0, 0, 0, .null), (103, .getfield 36, 3, 0, 4, 0, .null), (106, .getfield 222, 3, 4, 6, 0, .null), (109, .iload_n 1, 1, 0, 0, 0, .null), (110, .laload, 1, 0, 0, 0, .null), (111, .invokestatic 226, 3, 74, 1, 2, .null), (114, .ireturn, 1, 0, 0, 0, .null), (115, .iconst (-1), 1, 0, 0, 0, .null), (116, .ireturn, 1, 0, 0, 0, .null)]
/-- OneRoof$Peaces.has(I)Z -/
def qx_c73 : List (Nat × Instr × Nat × Nat × Nat × Nat × Value) := [(0, .iload_n 1, 1, 0, 0, 0, .null), (1, .ifCond .lt 15, 3, 0, 0, 0, .null), (4, .iload_n 1, 1, 0, 0, 0, .null), (5, .aload_n 0, 1, 0, 0, 0, .null), (6, .getfield 34, 3, 4, 7, 0, .null), (9, .if_icmp .ge 7, 3, 0, 0, 0, .null), (12, .iconst 1, 1, 0, 0, 0, .null), (13, .goto 4, 3, 0, 0, 0, .null), (16, .iconst 0, 1, 0, 0, 0, .null), (17, .ireturn, 1, 0, 0, 0, .null)]
/-- java/lang/Long.bitCount(J)I -/
def qx_c74 : List (Nat × Instr × Nat × Nat × Nat × Nat × Value) := [(0, .lload_n 0, 1, 0, 0, 0, .null), (1, .lload_n 0, 1, 0, 0, 0, .null), (2, .iconst 1, 1, 0, 0, 0, .null), (3, .lushr, 1, 0, 0, 0, .null), (4, .ldc2_w 314, 3, 0, 0, 2, .long 6148914691236517205), (7, .land, 1, 0, 0, 0, .null), (8, .lsub, 1, 0, 0, 0, .null), (9, .lstore_n 0, 1, 0, 0, 0, .null), (10, .lload_n 0, 1, 0, 0, 0, .null), (11, .ldc2_w 316, 3, 0, 0, 2, .long 3689348814741910323), (14, .land, 1, 0, 0, 0, .null), (15, .lload_n 0, 1, 0, 0, 0, .null), (16, .iconst 2, 1, 0, 0, 0, .null), (17, .lushr, 1, 0, 0, 0, .null), (18, .ldc2_w 316, 3, 0, 0, 2, .long 3689348814741910323), (21, .land, 1, 0, 0, 0, .null), (22, .ladd, 1, 0, 0, 0, .null), (23, .lstore_n 0, 1, 0, 0, 0, .null), (24, .lload_n 0, 1, 0, 0, 0, .null), (25, .lload_n 0, 1, 0, 0, 0, .null), (26, .iconst 4, 1, 0, 0, 0, .null), (27, .lushr, 1, 0, 0, 0, .null), (28, .ladd, 1, 0, 0, 0, .null), (29, .ldc2_w 318, 3, 0, 0, 2, .long 1085102592571150095), (32, .land, 1, 0, 0, 0, .null), (33, .lstore_n 0, 1, 0, 0, 0, .null), (34, .lload_n 0, 1, 0, 0, 0, .null), (35, .lload_n 0, 1, 0, 0, 0, .null), (36, .bipush 8, 2, 0, 0, 0, .null), (38, .lushr, 1, 0, 0, 0, .null), (39, .ladd, 1, 0, 0, 0, .null), (40, .lstore_n 0, 1, 0, 0, 0, .null), (41, .lload_n 0, 1, 0, 0, 0, .null), (42, .lload_n 0, 1, 0, 0, 0, .null), (43, .bipush 16, 2, 0, 0, 0, .null), (45, .lushr, 1, 0, 0, 0, .null), (46, .ladd, 1, 0, 0, 0, .null), (47, .lstore_n 0, 1, 0, 0, 0, .null), (48, .lload_n 0, 1, 0, 0, 0, .null), (49, .lload_n 0, 1, 0, 0, 0, .null), (50, .bipush 32, 2, 0, 0, 0, .null), (52, .lushr, 1, 0, 0, 0, .null), (53, .ladd, 1, 0, 0, 0, .null), (54, .lstore_n 0, 1, 0, 0, 0, .null), (55, .lload_n 0, 1, 0, 0, 0, .null), (56, .l2i, 1, 0, 0, 0, .null), (57, .bipush 127, 2, 0, 0, 0, .null), (59, .iand, 1, 0, 0, 0, .null), (60, .ireturn, 1, 0, 0, 0, .null)]
/-- OneRoof.cover(III)I -/
def qx_c75 : List (Nat × Instr × Nat × Nat × Nat × Nat × Value) := [(0, .aload_n 0, 1, 0, 0, 0, .null), (1, .getfield 36, 3, 0, 4, 0, .null), (4, .iload_n 1, 1, 0, 0, 0, .null), (5, .invokevirtual 206, 3, 73, 1, 0, .ref 4), (8, .ifCond .eq 21, 3, 0, 0, 0, .null), (11, .aload_n 0, 1, 0, 0, 0, .null), (12, .getfield 10, 3, 0, 0, 0, .null), (15, .iload_n 2, 1, 0, 0, 0, .null), (16, .invokevirtual 151, 3, 40, 1, 0, .ref 1), (19, .ifCond .eq 10, 3, 0, 0, 0, .null), (22, .iload_n 3, 1, 0, 0, 0, .null), (23, .invokestatic 169, 3, 41, 1, 2, .null), (26, .ifCond .ne 5, 3, 0, 0, 0, .null), (29, .iconst (-1), 1, 0, 0, 0, .null), (30, .ireturn, 1, 0, 0, 0, .null), (31, .aload_n 0, 1, 0, 0, 0, .null), (32, .getfield 100, 3, 0, 12, 0, .null), (35, .iconst 1, 1, 0, 0, 0, .null), (36, .iload_n 1, 1, 0, 0, 0, .null), (37, .bipush 32, 2, 0, 0, 0, .null), (39, .imul, 1, 0, 0, 0, .null), (40, .iload_n 2, 1, 0, 0, 0, .null), (41, .iadd, 1, 0, 0, 0, .null), (42, .iload_n 3, 1, 0, 0, 0, .null), (43, .invokevirtual 172, 3, 52, 3, 0, .ref 11), (46, .ireturn, 1, 0, 0, 0, .null)]
/-- OneRoof.holds(III)I -/
def qx_c76 : List (Nat × Instr × Nat × Nat × Nat × Nat × Value) := [(0, .aload_n 0, 1, 0, 0, 0, .null), (1, .getfield 36, 3, 0, 4, 0, .null), (4, .iload_n 1, 1, 0, 0, 0, .null), (5, .invokevirtual 206, 3, 73, 1, 0, .ref 4), (8, .ifCond .eq 21, 3, 0, 0, 0, .null), (11, .aload_n 0, 1, 0, 0, 0, .null), (12, .getfield 10, 3, 0, 0, 0, .null), (15, .iload_n 2, 1, 0, 0, 0, .null), (16, .invokevirtual 184, 3, 61, 1, 0, .ref 1), (19, .ifCond .eq 10, 3, 0, 0, 0, .null), (22, .iload_n 3, 1, 0, 0, 0, .null), (23, .invokestatic 187, 3, 62, 1, 2, .null), (26, .ifCond .ne 5, 3, 0, 0, 0, .null), (29, .iconst (-1), 1, 0, 0, 0, .null), (30, .ireturn, 1, 0, 0, 0, .null), (31, .aload_n 0, 1, 0, 0, 0, .null), (32, .getfield 36, 3, 0, 4, 0, .null), (35, .iload_n 1, 1, 0, 0, 0, .null), (36, .iload_n 3, 1, 0, 0, 0, .null), (37, .invokevirtual 232, 3, 77, 2, 0, .ref 4), (40, .ifCond .eq 30, 3, 0, 0, 0, .null), (43, .aload_n 0, 1, 0, 0, 0, .null), (44, .getfield 36, 3, 0, 4, 0, .null), (47, .iload_n 1, 1, 0, 0, 0, .null), (48, .iload_n 2, 1, 0, 0, 0, .null), (49, .bipush 100, 2, 0, 0, 0, .null), (51, .idiv, 1, 0, 0, 0, .null), (52, .iload_n 2, 1, 0, 0, 0, .null), (53, .bipush 100, 2, 0, 0, 0, .null), (55, .irem, 1, 0, 0, 0, .null), (56, .aload_n 0, 1, 0, 0, 0, .null), (57, .getfield 10, 3, 0, 0, 0, .null), (60, .invokevirtual 235, 3, 78, 4, 0, .ref 4), (63, .ifCond .eq 7, 3, 0, 0, 0, .null), (66, .iconst 1, 1, 0, 0, 0, .null), (67, .goto 4, 3, 0, 0, 0, .null), (70, .iconst 0, 1, 0, 0, 0, .null), (71, .ireturn, 1, 0, 0, 0, .null)]
/-- OneRoof$Peaces.standsAt(II)Z -/
def qx_c77 : List (Nat × Instr × Nat × Nat × Nat × Nat × Value) := [(0, .aload_n 0, 1, 0, 0, 0, .null), (1, .getfield 18, 3, 4, 2, 0, .null), (4, .iload_n 1, 1, 0, 0, 0, .null), (5, .iaload, 1, 0, 0, 0, .null), (6, .iload_n 2, 1, 0, 0, 0, .null), (7, .if_icmp .gt 17, 3, 0, 0, 0, .null), (10, .iload_n 2, 1, 0, 0, 0, .null), (11, .aload_n 0, 1, 0, 0, 0, .null), (12, .getfield 27, 3, 4, 5, 0, .null), (15, .iload_n 1, 1, 0, 0, 0, .null), (16, .iaload, 1, 0, 0, 0, .null), (17, .if_icmp .gt 7, 3, 0, 0, 0, .null), (20, .iconst 1, 1, 0, 0, 0, .null), (21, .goto 4, 3, 0, 0, 0, .null), (24, .iconst 0, 1, 0, 0, 0, .null), (25, .ireturn, 1, 0, 0, 0, .null)]
/-- OneRoof$Peaces.reaches(IIILOneRoof$Folk;)Z -/
def qx_c78_0 : List (Nat × Instr × Nat × Nat × Nat × Nat × Value) := [(0, .lconst 1, 1, 0, 0, 0, .null), (1, .iload_n 2, 1, 0, 0, 0, .null), (2, .lshl, 1, 0, 0, 0, .null), (3, .lconst 1, 1, 0, 0, 0, .null), (4, .iload_n 3, 1, 0, 0, 0, .null), (5, .lshl, 1, 0, 0, 0, .null), (6, .lor, 1, 0, 0, 0, .null), (7, .lstore 5, 2, 0, 0, 0, .null), (9, .lconst 1, 1, 0, 0, 0, .null), (10, .aload_n 0, 1, 0, 0, 0, .null), (11, .getfield 15, 3, 4, 1, 0, .null), (14, .iload_n 1, 1, 0, 0, 0, .null), (15, .iaload, 1, 0, 0, 0, .null), (16, .lshl, 1, 0, 0, 0, .null), (17, .lstore 7, 2, 0, 0, 0, .null), (19, .aload_n 0, 1, 0, 0, 0, .null), (20, .getfield 30, 3, 4, 6, 0, .null), (23, .iload_n 1, 1, 0, 0, 0, .null), (24, .laload, 1, 0, 0, 0, .null), (25, .lstore 9, 2, 0, 0, 0, .null), (27, .aload_n 0, 1, 0, 0, 0, .null), (28, .getfield 9, 3, 4, 0, 0, .null), (31, .iload_n 1, 1, 0, 0, 0, .null), (32, .iaload, 1, 0, 0, 0, .null), (33, .tableswitch 123 0 5 #[39, 68, 68, 88, 104, 121], 39, 0, 0, 0, .null), (72, .aload 4, 2, 0, 0, 0, .null), (74, .getfield 38, 3, 1, 4, 0, .null), (77, .iload_n 2, 1, 0, 0, 0, .null), (78, .laload, 1, 0, 0, 0, .null), (79, .aload 4, 2, 0, 0, 0, .null), (81, .getfield 38, 3, 1, 4, 0, .null), (84, .iload_n 3, 1, 0, 0, 0, .null), (85, .laload, 1, 0, 0, 0, .null), (86, .land, 1, 0, 0, 0, .null), (87, .lload 7, 2, 0, 0, 0, .null), (89, .land, 1, 0, 0, 0, .null), (90, .lconst 0, 1, 0, 0, 0, .null), (91, .lcmp, 1, 0, 0, 0, .null), (92, .ifCond .eq 7, 3, 0, 0, 0, .null), (95, .iconst 1, 1, 0, 0, 0, .null), (96, .goto 4, 3, 0, 0, 0, .null), (99, .iconst 0, 1, 0, 0, 0, .null), (100, .ireturn, 1, 0, 0, 0, .null), (101, .lload 9, 2, 0, 0, 0, .null), (103, .lload 7, 2, 0, 0, 0, .null), (105, .lor, 1, 0, 0, 0, .null), (106, .lload 5, 2, 0, 0, 0, .null), (108, .land, 1, 0, 0, 0, .null), (109, .lload 5, 2, 0, 0, 0, .null), (111, .lcmp, 1, 0, 0, 0, .null)]
def qx_c78_1 : List (Nat × Instr × Nat × Nat × Nat × Nat × Value) := [(112, .ifCond .ne 7, 3, 0, 0, 0, .null), (115, .iconst 1, 1, 0, 0, 0, .null), (116, .goto 4, 3, 0, 0, 0, .null), (119, .iconst 0, 1, 0, 0, 0, .null), (120, .ireturn, 1, 0, 0, 0, .null), (121, .lload 9, 2, 0, 0, 0, .null), (123, .lload 5, 2, 0, 0, 0, .null), (125, .land, 1, 0, 0, 0, .null), (126, .lconst 0, 1, 0, 0, 0, .null), (127, .lcmp, 1, 0, 0, 0, .null), (128, .ifCond .eq 7, 3, 0, 0, 0, .null), (131, .iconst 1, 1, 0, 0, 0, .null), (132, .goto 4, 3, 0, 0, 0, .null), (135, .iconst 0, 1, 0, 0, 0, .null), (136, .ireturn, 1, 0, 0, 0, .null), (137, .lload 9, 2, 0, 0, 0, .null), (139, .lload 5, 2, 0, 0, 0, .null), (141, .land, 1, 0, 0, 0, .null), (142, .lload 5, 2, 0, 0, 0, .null), (144, .lcmp, 1, 0, 0, 0, .null), (145, .ifCond .ne 7, 3, 0, 0, 0, .null), (148, .iconst 1, 1, 0, 0, 0, .null), (149, .goto 4, 3, 0, 0, 0, .null), (152, .iconst 0, 1, 0, 0, 0, .null), (153, .ireturn, 1, 0, 0, 0, .null), (154, .iconst 1, 1, 0, 0, 0, .null), (155, .ireturn, 1, 0, 0, 0, .null), (156, .iconst 0, 1, 0, 0, 0, .null), (157, .ireturn, 1, 0, 0, 0, .null)]
def qx_c78 : List (Nat × Instr × Nat × Nat × Nat × Nat × Value) := qx_c78_0 ++ (qx_c78_1)
/-- OneRoof.between(II)I -/
def qx_c79 : List (Nat × Instr × Nat × Nat × Nat × Nat × Value) := [(0, .aload_n 0, 1, 0, 0, 0, .null), (1, .getfield 10, 3, 0, 0, 0, .null), (4, .iload_n 1, 1, 0, 0, 0, .null), (5, .invokevirtual 184, 3, 61, 1, 0, .ref 1), (8, .ifCond .eq 10, 3, 0, 0, 0, .null), (11, .iload_n 2, 1, 0, 0, 0, .null), (12, .invokestatic 187, 3, 62, 1, 2, .null), (15, .ifCond .ne 5, 3, 0, 0, 0, .null), (18, .iconst (-1), 1, 0, 0, 0, .null), (19, .ireturn, 1, 0, 0, 0, .null), (20, .aload_n 0, 1, 0, 0, 0, .null), (21, .getfield 36, 3, 0, 4, 0, .null), (24, .iload_n 1, 1, 0, 0, 0, .null), (25, .bipush 100, 2, 0, 0, 0, .null), (27, .idiv, 1, 0, 0, 0, .null), (28, .iload_n 1, 1, 0, 0, 0, .null), (29, .bipush 100, 2, 0, 0, 0, .null), (31, .irem, 1, 0, 0, 0, .null), (32, .iload_n 2, 1, 0, 0, 0, .null), (33, .aload_n 0, 1, 0, 0, 0, .null), (34, .getfield 10, 3, 0, 0, 0, .null), (37, .invokevirtual 239, 3, 80, 4, 0, .ref 4), (40, .invokestatic 226, 3, 74, 1, 2, .null), (43, .ireturn, 1, 0, 0, 0, .null)]
/-- OneRoof$Peaces.holding(IIILOneRoof$Folk;)J -/
def qx_c80 : List (Nat × Instr × Nat × Nat × Nat × Nat × Value) := [(0, .lconst 0, 1, 0, 0, 0, .null), (1, .lstore 5, 2, 0, 0, 0, .null), (3, .iconst 0, 1, 0, 0, 0, .null), (4, .istore 7, 2, 0, 0, 0, .null), (6, .iload 7, 2, 0, 0, 0, .null), (8, .aload_n 0, 1, 0, 0, 0, .null), (9, .getfield 34, 3, 4, 7, 0, .null), (12, .if_icmp .ge 41, 3, 0, 0, 0, .null), (15, .aload_n 0, 1, 0, 0, 0, .null), (16, .iload 7, 2, 0, 0, 0, .null), (18, .iload_n 3, 1, 0, 0, 0, .null), (19, .invokevirtual 43, 3, 77, 2, 0, .ref 4), (22, .ifCond .eq 25, 3, 0, 0, 0, .null), (25, .aload_n 0, 1, 0, 0, 0, .null), (26, .iload 7, 2, 0, 0, 0, .null), (28, .iload_n 1, 1, 0, 0, 0, .null), (29, .iload_n 2, 1, 0, 0, 0, .null), (30, .aload 4, 2, 0, 0, 0, .null), (32, .invokevirtual 47, 3, 78, 4, 0, .ref 4), (35, .ifCond .eq 12, 3, 0, 0, 0, .null), (38, .lload 5, 2, 0, 0, 0, .null), (40, .lconst 1, 1, 0, 0, 0, .null), (41, .iload 7, 2, 0, 0, 0, .null), (43, .lshl, 1, 0, 0, 0, .null), (44, .lor, 1, 0, 0, 0, .null), (45, .lstore 5, 2, 0, 0, 0, .null), (47, .iinc 7 1, 3, 0, 0, 0, .null), (50, .goto (-44), 3, 0, 0, 0, .null), (53, .lload 5, 2, 0, 0, 0, .null), (55, .lreturn, 1, 0, 0, 0, .null)]
/-- OneRoof.proof(II)I -/
def qx_c81 : List (Nat × Instr × Nat × Nat × Nat × Nat × Value) := [(0, .aload_n 0, 1, 0, 0, 0, .null), (1, .getfield 10, 3, 0, 0, 0, .null), (4, .iload_n 1, 1, 0, 0, 0, .null), (5, .invokevirtual 184, 3, 61, 1, 0, .ref 1), (8, .ifCond .eq 10, 3, 0, 0, 0, .null), (11, .iload_n 2, 1, 0, 0, 0, .null), (12, .invokestatic 187, 3, 62, 1, 2, .null), (15, .ifCond .ne 5, 3, 0, 0, 0, .null), (18, .iconst (-1), 1, 0, 0, 0, .null), (19, .ireturn, 1, 0, 0, 0, .null), (20, .aload_n 0, 1, 0, 0, 0, .null), (21, .getfield 36, 3, 0, 4, 0, .null), (24, .iload_n 1, 1, 0, 0, 0, .null), (25, .bipush 100, 2, 0, 0, 0, .null), (27, .idiv, 1, 0, 0, 0, .null), (28, .iload_n 1, 1, 0, 0, 0, .null), (29, .bipush 100, 2, 0, 0, 0, .null), (31, .irem, 1, 0, 0, 0, .null), (32, .iload_n 2, 1, 0, 0, 0, .null), (33, .aload_n 0, 1, 0, 0, 0, .null), (34, .getfield 10, 3, 0, 0, 0, .null), (37, .invokevirtual 239, 3, 80, 4, 0, .ref 4), (40, .lstore_n 3, 1, 0, 0, 0, .null), (41, .lload_n 3, 1, 0, 0, 0, .null), (42, .invokestatic 226, 3, 74, 1, 2, .null), (45, .iconst 1, 1, 0, 0, 0, .null), (46, .if_icmp .ne 10, 3, 0, 0, 0, .null), (49, .lload_n 3, 1, 0, 0, 0, .null), (50, .invokestatic 243, 3, 82, 1, 2, .null), (53, .goto 5, 3, 0, 0, 0, .null), (56, .bipush (-2), 2, 0, 0, 0, .null), (58, .ireturn, 1, 0, 0, 0, .null)]
/-- java/lang/Long.numberOfTrailingZeros(J)I -/
def qx_c82 : List (Nat × Instr × Nat × Nat × Nat × Nat × Value) := [(0, .lload_n 0, 1, 0, 0, 0, .null), (1, .l2i, 1, 0, 0, 0, .null), (2, .istore_n 2, 1, 0, 0, 0, .null), (3, .iload_n 2, 1, 0, 0, 0, .null), (4, .ifCond .ne 17, 3, 0, 0, 0, .null), (7, .bipush 32, 2, 0, 0, 0, .null), (9, .lload_n 0, 1, 0, 0, 0, .null), (10, .bipush 32, 2, 0, 0, 0, .null), (12, .lushr, 1, 0, 0, 0, .null), (13, .l2i, 1, 0, 0, 0, .null), (14, .invokestatic 311, 3, 83, 1, 2, .null), (17, .iadd, 1, 0, 0, 0, .null), (18, .goto 7, 3, 0, 0, 0, .null), (21, .iload_n 2, 1, 0, 0, 0, .null), (22, .invokestatic 311, 3, 83, 1, 2, .null), (25, .ireturn, 1, 0, 0, 0, .null)]
/-- java/lang/Integer.numberOfTrailingZeros(I)I -/
def qx_c83 : List (Nat × Instr × Nat × Nat × Nat × Nat × Value) := [(0, .iload_n 0, 1, 0, 0, 0, .null), (1, .iconst (-1), 1, 0, 0, 0, .null), (2, .ixor, 1, 0, 0, 0, .null), (3, .iload_n 0, 1, 0, 0, 0, .null), (4, .iconst 1, 1, 0, 0, 0, .null), (5, .isub, 1, 0, 0, 0, .null), (6, .iand, 1, 0, 0, 0, .null), (7, .istore_n 0, 1, 0, 0, 0, .null), (8, .iload_n 0, 1, 0, 0, 0, .null), (9, .ifCond .gt 8, 3, 0, 0, 0, .null), (12, .iload_n 0, 1, 0, 0, 0, .null), (13, .bipush 32, 2, 0, 0, 0, .null), (15, .iand, 1, 0, 0, 0, .null), (16, .ireturn, 1, 0, 0, 0, .null), (17, .iconst 1, 1, 0, 0, 0, .null), (18, .istore_n 1, 1, 0, 0, 0, .null), (19, .iload_n 0, 1, 0, 0, 0, .null), (20, .ldc_w 264, 3, 0, 0, 0, .int 65536), (23, .if_icmp .le 11, 3, 0, 0, 0, .null), (26, .iinc 1 16, 3, 0, 0, 0, .null), (29, .iload_n 0, 1, 0, 0, 0, .null), (30, .bipush 16, 2, 0, 0, 0, .null), (32, .iushr, 1, 0, 0, 0, .null), (33, .istore_n 0, 1, 0, 0, 0, .null), (34, .iload_n 0, 1, 0, 0, 0, .null), (35, .sipush 256, 3, 0, 0, 0, .null), (38, .if_icmp .le 11, 3, 0, 0, 0, .null), (41, .iinc 1 8, 3, 0, 0, 0, .null), (44, .iload_n 0, 1, 0, 0, 0, .null), (45, .bipush 8, 2, 0, 0, 0, .null), (47, .iushr, 1, 0, 0, 0, .null), (48, .istore_n 0, 1, 0, 0, 0, .null), (49, .iload_n 0, 1, 0, 0, 0, .null), (50, .bipush 16, 2, 0, 0, 0, .null), (52, .if_icmp .le 10, 3, 0, 0, 0, .null), (55, .iinc 1 4, 3, 0, 0, 0, .null), (58, .iload_n 0, 1, 0, 0, 0, .null), (59, .iconst 4, 1, 0, 0, 0, .null), (60, .iushr, 1, 0, 0, 0, .null), (61, .istore_n 0, 1, 0, 0, 0, .null), (62, .iload_n 0, 1, 0, 0, 0, .null), (63, .iconst 4, 1, 0, 0, 0, .null), (64, .if_icmp .le 10, 3, 0, 0, 0, .null), (67, .iinc 1 2, 3, 0, 0, 0, .null), (70, .iload_n 0, 1, 0, 0, 0, .null), (71, .iconst 2, 1, 0, 0, 0, .null), (72, .iushr, 1, 0, 0, 0, .null), (73, .istore_n 0, 1, 0, 0, 0, .null), (74, .iload_n 1, 1, 0, 0, 0, .null), (75, .iload_n 0, 1, 0, 0, 0, .null), (76, .iconst 1, 1, 0, 0, 0, .null), (77, .iushr, 1, 0, 0, 0, .null), (78, .iadd, 1, 0, 0, 0, .null), (79, .ireturn, 1, 0, 0, 0, .null)]
/-- OneRoof.feed(II)I -/
def qx_c84 : List (Nat × Instr × Nat × Nat × Nat × Nat × Value) := [(0, .iload_n 1, 1, 0, 0, 0, .null), (1, .iconst 1, 1, 0, 0, 0, .null), (2, .if_icmp .lt 8, 3, 0, 0, 0, .null), (5, .iload_n 1, 1, 0, 0, 0, .null), (6, .iconst 4, 1, 0, 0, 0, .null), (7, .if_icmp .le 5, 3, 0, 0, 0, .null), (10, .iconst (-1), 1, 0, 0, 0, .null), (11, .ireturn, 1, 0, 0, 0, .null), (12, .aload_n 0, 1, 0, 0, 0, .null), (13, .getfield 114, 3, 0, 15, 0, .null), (16, .iload_n 1, 1, 0, 0, 0, .null), (17, .iadd, 1, 0, 0, 0, .null), (18, .bipush 120, 2, 0, 0, 0, .null), (20, .if_icmp .le 6, 3, 0, 0, 0, .null), (23, .bipush (-3), 2, 0, 0, 0, .null), (25, .ireturn, 1, 0, 0, 0, .null), (26, .iconst 0, 1, 0, 0, 0, .null), (27, .istore_n 3, 1, 0, 0, 0, .null), (28, .iload_n 3, 1, 0, 0, 0, .null), (29, .iload_n 1, 1, 0, 0, 0, .null), (30, .if_icmp .ge 30, 3, 0, 0, 0, .null), (33, .aload_n 0, 1, 0, 0, 0, .null), (34, .getfield 104, 3, 0, 13, 0, .null), (37, .aload_n 0, 1, 0, 0, 0, .null), (38, .getfield 114, 3, 0, 15, 0, .null), (41, .iload_n 3, 1, 0, 0, 0, .null), (42, .iadd, 1, 0, 0, 0, .null), (43, .iload_n 2, 1, 0, 0, 0, .null), (44, .bipush 8, 2, 0, 0, 0, .null), (46, .iload_n 3, 1, 0, 0, 0, .null), (47, .imul, 1, 0, 0, 0, .null), (48, .iushr, 1, 0, 0, 0, .null), (49, .sipush 255, 3, 0, 0, 0, .null), (52, .iand, 1, 0, 0, 0, .null), (53, .iastore, 1, 0, 0, 0, .null), (54, .iinc 3 1, 3, 0, 0, 0, .null), (57, .goto (-29), 3, 0, 0, 0, .null), (60, .aload_n 0, 1, 0, 0, 0, .null), (61, .dup, 1, 0, 0, 0, .null), (62, .getfield 114, 3, 0, 15, 0, .null), (65, .iload_n 1, 1, 0, 0, 0, .null), (66, .iadd, 1, 0, 0, 0, .null), (67, .putfield 114, 3, 0, 15, 0, .null), (70, .aload_n 0, 1, 0, 0, 0, .null), (71, .getfield 114, 3, 0, 15, 0, .null), (74, .ireturn, 1, 0, 0, 0, .null)]
/-- OneRoof.custom(I)I -/
def qx_c85 : List (Nat × Instr × Nat × Nat × Nat × Nat × Value) := [(0, .iload_n 1, 1, 0, 0, 0, .null), (1, .ifCond .eq 10, 3, 0, 0, 0, .null), (4, .iload_n 1, 1, 0, 0, 0, .null), (5, .iconst 1, 1, 0, 0, 0, .null), (6, .if_icmp .eq 5, 3, 0, 0, 0, .null), (9, .iconst (-1), 1, 0, 0, 0, .null), (10, .ireturn, 1, 0, 0, 0, .null), (11, .aload_n 0, 1, 0, 0, 0, .null), (12, .getfield 110, 3, 0, 14, 0, .null), (15, .aload_n 0, 1, 0, 0, 0, .null), (16, .getfield 104, 3, 0, 13, 0, .null), (19, .aload_n 0, 1, 0, 0, 0, .null), (20, .getfield 114, 3, 0, 15, 0, .null), (23, .invokevirtual 246, 3, 86, 2, 0, .ref 7), (26, .istore_n 2, 1, 0, 0, 0, .null), (27, .aload_n 0, 1, 0, 0, 0, .null), (28, .iconst 0, 1, 0, 0, 0, .null), (29, .putfield 114, 3, 0, 15, 0, .null), (32, .iload_n 2, 1, 0, 0, 0, .null), (33, .ifCond .lt 8, 3, 0, 0, 0, .null), (36, .bipush (-100), 2, 0, 0, 0, .null), (38, .iload_n 2, 1, 0, 0, 0, .null), (39, .isub, 1, 0, 0, 0, .null), (40, .ireturn, 1, 0, 0, 0, .null), (41, .aload_n 0, 1, 0, 0, 0, .null), (42, .getfield 63, 3, 0, 7, 0, .null), (45, .iload_n 1, 1, 0, 0, 0, .null), (46, .aaload, 1, 0, 0, 0, .null), (47, .astore_n 3, 1, 0, 0, 0, .null), (48, .aload_n 0, 1, 0, 0, 0, .null), (49, .getfield 63, 3, 0, 7, 0, .null), (52, .iload_n 1, 1, 0, 0, 0, .null), (53, .aload_n 0, 1, 0, 0, 0, .null), (54, .getfield 110, 3, 0, 14, 0, .null), (57, .aastore, 1, 0, 0, 0, .null), (58, .aload_n 0, 1, 0, 0, 0, .null), (59, .aload_n 3, 1, 0, 0, 0, .null), (60, .putfield 110, 3, 0, 14, 0, .null), (63, .iconst 1, 1, 0, 0, 0, .null), (64, .ireturn, 1, 0, 0, 0, .null)]
/-- OneRoof$Custom.read([II)I -/
def qx_c86 : List (Nat × Instr × Nat × Nat × Nat × Nat × Value) := [(0, .aload_n 0, 1, 0, 0, 0, .null), (1, .iload_n 2, 1, 0, 0, 0, .null), (2, .aload_n 1, 1, 0, 0, 0, .null), (3, .arraylength, 1, 0, 0, 0, .null), (4, .invokestatic 43, 3, 12, 2, 2, .null), (7, .aload_n 0, 1, 0, 0, 0, .null), (8, .getfield 9, 3, 7, 0, 0, .null), (11, .arraylength, 1, 0, 0, 0, .null), (12, .invokestatic 43, 3, 12, 2, 2, .null), (15, .putfield 21, 3, 7, 3, 0, .null), (18, .aload_n 1, 1, 0, 0, 0, .null), (19, .iconst 0, 1, 0, 0, 0, .null), (20, .aload_n 0, 1, 0, 0, 0, .null), (21, .getfield 9, 3, 7, 0, 0, .null), (24, .iconst 0, 1, 0, 0, 0, .null), (25, .aload_n 0, 1, 0, 0, 0, .null), (26, .getfield 21, 3, 7, 3, 0, .null), (29, .invokestatic 60, 3, 0, 5, 7, .null), (32, .aload_n 0, 1, 0, 0, 0, .null), (33, .invokevirtual 53, 3, 18, 0, 0, .ref 7), (36, .ireturn, 1, 0, 0, 0, .null)]
/-- OneRoof.must(IJI)I -/
def qx_c87 : List (Nat × Instr × Nat × Nat × Nat × Nat × Value) := [(0, .aload_n 0, 1, 0, 0, 0, .null), (1, .getfield 10, 3, 0, 0, 0, .null), (4, .iload_n 1, 1, 0, 0, 0, .null), (5, .invokevirtual 184, 3, 61, 1, 0, .ref 1), (8, .ifCond .eq 22, 3, 0, 0, 0, .null), (11, .aload_n 0, 1, 0, 0, 0, .null), (12, .getfield 10, 3, 0, 0, 0, .null), (15, .lload_n 2, 1, 0, 0, 0, .null), (16, .invokevirtual 250, 3, 88, 1, 0, .ref 1), (19, .ifCond .eq 11, 3, 0, 0, 0, .null), (22, .iload 4, 2, 0, 0, 0, .null), (24, .invokestatic 187, 3, 62, 1, 2, .null), (27, .ifCond .ne 6, 3, 0, 0, 0, .null), (30, .ldc 254, 2, 0, 0, 0, .int (-2000000000)), (32, .ireturn, 1, 0, 0, 0, .null), (33, .lload_n 2, 1, 0, 0, 0, .null), (34, .aload_n 0, 1, 0, 0, 0, .null), (35, .getfield 10, 3, 0, 0, 0, .null), (38, .getfield 161, 3, 1, 5, 0, .null), (41, .ldc2_w 255, 3, 0, 0, 2, .long (-1)), (44, .lxor, 1, 0, 0, 0, .null), (45, .land, 1, 0, 0, 0, .null), (46, .lstore 5, 2, 0, 0, 0, .null), (48, .lload 5, 2, 0, 0, 0, .null), (50, .iload_n 1, 1, 0, 0, 0, .null), (51, .bipush 100, 2, 0, 0, 0, .null), (53, .idiv, 1, 0, 0, 0, .null), (54, .invokestatic 165, 3, 50, 2, 2, .null), (57, .ifCond .eq 15, 3, 0, 0, 0, .null), (60, .lload 5, 2, 0, 0, 0, .null), (62, .iload_n 1, 1, 0, 0, 0, .null), (63, .bipush 100, 2, 0, 0, 0, .null), (65, .irem, 1, 0, 0, 0, .null), (66, .invokestatic 165, 3, 50, 2, 2, .null), (69, .ifCond .ne 6, 3, 0, 0, 0, .null), (72, .ldc 254, 2, 0, 0, 0, .int (-2000000000)), (74, .ireturn, 1, 0, 0, 0, .null), (75, .aload_n 0, 1, 0, 0, 0, .null), (76, .getfield 72, 3, 0, 8, 0, .null), (79, .iload 4, 2, 0, 0, 0, .null), (81, .invokevirtual 257, 3, 89, 1, 0, .ref 8), (84, .aload_n 0, 1, 0, 0, 0, .null), (85, .getfield 72, 3, 0, 8, 0, .null), (88, .iconst 0, 1, 0, 0, 0, .null), (89, .iload_n 1, 1, 0, 0, 0, .null), (90, .bipush 100, 2, 0, 0, 0, .null), (92, .idiv, 1, 0, 0, 0, .null), (93, .iload_n 1, 1, 0, 0, 0, .null), (94, .bipush 100, 2, 0, 0, 0, .null), (96, .irem, 1, 0, 0, 0, .null), (97, .iconst (-1), 1, 0, 0, 0, .null), (98, .lload 5, 2, 0, 0, 0, .null), (100, .invokevirtual 261, 3, 90, 5, 0, .ref 8), (103, .ireturn, 1, 0, 0, 0, .null)]
/-- OneRoof$Folk.isSet(J)Z -/
def qx_c88 : List (Nat × Instr × Nat × Nat × Nat × Nat × Value) := [(0, .lload_n 1, 1, 0, 0, 0, .null), (1, .lconst 0, 1, 0, 0, 0, .null), (2, .lcmp, 1, 0, 0, 0, .null), (3, .ifCond .lt 18, 3, 0, 0, 0, .null), (6, .lload_n 1, 1, 0, 0, 0, .null), (7, .aload_n 0, 1, 0, 0, 0, .null), (8, .getfield 32, 3, 1, 6, 0, .null), (11, .lushr, 1, 0, 0, 0, .null), (12, .lconst 0, 1, 0, 0, 0, .null), (13, .lcmp, 1, 0, 0, 0, .null), (14, .ifCond .ne 7, 3, 0, 0, 0, .null), (17, .iconst 1, 1, 0, 0, 0, .null), (18, .goto 4, 3, 0, 0, 0, .null), (21, .iconst 0, 1, 0, 0, 0, .null), (22, .ireturn, 1, 0, 0, 0, .null)]
/-- OneRoof$Moment.open(I)V -/
def qx_c89 : List (Nat × Instr × Nat × Nat × Nat × Nat × Value) := [(0, .aload_n 0, 1, 0, 0, 0, .null), (1, .iload_n 1, 1, 0, 0, 0, .null), (2, .putfield 34, 3, 8, 11, 0, .null), (5, .aload_n 0, 1, 0, 0, 0, .null), (6, .dup, 1, 0, 0, 0, .null), (7, .getfield 38, 3, 8, 12, 0, .null), (10, .iconst 1, 1, 0, 0, 0, .null), (11, .iadd, 1, 0, 0, 0, .null), (12, .putfield 38, 3, 8, 12, 0, .null), (15, .return_, 1, 0, 0, 0, .null)]
/-- OneRoof$Moment.weigh(IIIIJ)I -/
def qx_c90_0 : List (Nat × Instr × Nat × Nat × Nat × Nat × Value) := [(0, .aload_n 0, 1, 0, 0, 0, .null), (1, .getfield 57, 3, 8, 4, 0, .null), (4, .iload_n 1, 1, 0, 0, 0, .null), (5, .aaload, 1, 0, 0, 0, .null), (6, .astore 7, 2, 0, 0, 0, .null), (8, .aload 7, 2, 0, 0, 0, .null), (10, .iconst 0, 1, 0, 0, 0, .null), (11, .invokevirtual 92, 3, 91, 1, 0, .ref 7), (14, .ifCond .ne 12, 3, 0, 0, 0, .null), (17, .aload 7, 2, 0, 0, 0, .null), (19, .iconst 1, 1, 0, 0, 0, .null), (20, .invokevirtual 92, 3, 91, 1, 0, .ref 7), (23, .ifCond .eq 40, 3, 0, 0, 0, .null), (26, .aload_n 0, 1, 0, 0, 0, .null), (27, .iload_n 2, 1, 0, 0, 0, .null), (28, .iload_n 3, 1, 0, 0, 0, .null), (29, .invokevirtual 95, 3, 92, 2, 0, .ref 8), (32, .bipush 64, 2, 0, 0, 0, .null), (34, .idiv, 1, 0, 0, 0, .null), (35, .istore 8, 2, 0, 0, 0, .null), (37, .aload_n 0, 1, 0, 0, 0, .null), (38, .getfield 11, 3, 8, 5, 0, .null), (41, .iconst 0, 1, 0, 0, 0, .null), (42, .iload 8, 2, 0, 0, 0, .null), (44, .bipush 9, 2, 0, 0, 0, .null), (46, .if_icmp .ge 7, 3, 0, 0, 0, .null), (49, .iconst 1, 1, 0, 0, 0, .null), (50, .goto 4, 3, 0, 0, 0, .null), (53, .iconst 0, 1, 0, 0, 0, .null), (54, .iastore, 1, 0, 0, 0, .null), (55, .aload_n 0, 1, 0, 0, 0, .null), (56, .getfield 11, 3, 8, 5, 0, .null), (59, .iconst 1, 1, 0, 0, 0, .null), (60, .iload 8, 2, 0, 0, 0, .null), (62, .iastore, 1, 0, 0, 0, .null), (63, .aload 7, 2, 0, 0, 0, .null), (65, .iconst 2, 1, 0, 0, 0, .null), (66, .invokevirtual 92, 3, 91, 1, 0, .ref 7), (69, .ifCond .eq 18, 3, 0, 0, 0, .null), (72, .aload_n 0, 1, 0, 0, 0, .null), (73, .getfield 11, 3, 8, 5, 0, .null), (76, .iconst 2, 1, 0, 0, 0, .null), (77, .aload_n 0, 1, 0, 0, 0, .null), (78, .iload_n 2, 1, 0, 0, 0, .null), (79, .iload_n 3, 1, 0, 0, 0, .null), (80, .invokevirtual 98, 3, 94, 2, 0, .ref 8), (83, .invokestatic 102, 3, 74, 1, 2, .null), (86, .iastore, 1, 0, 0, 0, .null), (87, .aload 7, 2, 0, 0, 0, .null), (89, .bipush 7, 2, 0, 0, 0, .null)]
def qx_c90_1 : List (Nat × Instr × Nat × Nat × Nat × Nat × Value) := [(91, .invokevirtual 92, 3, 91, 1, 0, .ref 7), (94, .ifCond .eq 20, 3, 0, 0, 0, .null), (97, .aload_n 0, 1, 0, 0, 0, .null), (98, .getfield 11, 3, 8, 5, 0, .null), (101, .bipush 7, 2, 0, 0, 0, .null), (103, .aload_n 0, 1, 0, 0, 0, .null), (104, .getfield 41, 3, 8, 0, 0, .null), (107, .iload_n 2, 1, 0, 0, 0, .null), (108, .lload 5, 2, 0, 0, 0, .null), (110, .invokevirtual 108, 3, 95, 2, 0, .ref 1), (113, .iastore, 1, 0, 0, 0, .null), (114, .aload_n 0, 1, 0, 0, 0, .null), (115, .getfield 11, 3, 8, 5, 0, .null), (118, .iconst 3, 1, 0, 0, 0, .null), (119, .aload_n 0, 1, 0, 0, 0, .null), (120, .getfield 41, 3, 8, 0, 0, .null), (123, .getfield 114, 3, 1, 2, 0, .null), (126, .iload_n 2, 1, 0, 0, 0, .null), (127, .iaload, 1, 0, 0, 0, .null), (128, .iastore, 1, 0, 0, 0, .null), (129, .aload_n 0, 1, 0, 0, 0, .null), (130, .getfield 11, 3, 8, 5, 0, .null), (133, .iconst 4, 1, 0, 0, 0, .null), (134, .aload_n 0, 1, 0, 0, 0, .null), (135, .getfield 41, 3, 8, 0, 0, .null), (138, .getfield 114, 3, 1, 2, 0, .null), (141, .iload_n 3, 1, 0, 0, 0, .null), (142, .iaload, 1, 0, 0, 0, .null), (143, .iastore, 1, 0, 0, 0, .null), (144, .aload_n 0, 1, 0, 0, 0, .null), (145, .getfield 11, 3, 8, 5, 0, .null), (148, .iconst 5, 1, 0, 0, 0, .null), (149, .aload_n 0, 1, 0, 0, 0, .null), (150, .getfield 41, 3, 8, 0, 0, .null), (153, .getfield 117, 3, 1, 4, 0, .null), (156, .iload_n 2, 1, 0, 0, 0, .null), (157, .laload, 1, 0, 0, 0, .null), (158, .iload_n 3, 1, 0, 0, 0, .null), (159, .invokestatic 120, 3, 50, 2, 3, .null), (162, .ifCond .eq 7, 3, 0, 0, 0, .null), (165, .iconst 1, 1, 0, 0, 0, .null), (166, .goto 4, 3, 0, 0, 0, .null), (169, .iconst 0, 1, 0, 0, 0, .null), (170, .iastore, 1, 0, 0, 0, .null), (171, .aload_n 0, 1, 0, 0, 0, .null), (172, .getfield 11, 3, 8, 5, 0, .null), (175, .bipush 6, 2, 0, 0, 0, .null), (177, .aload_n 0, 1, 0, 0, 0, .null), (178, .getfield 45, 3, 8, 1, 0, .null), (181, .iload_n 2, 1, 0, 0, 0, .null)]
def qx_c90_2 : List (Nat × Instr × Nat × Nat × Nat × Nat × Value) := [(182, .iload_n 3, 1, 0, 0, 0, .null), (183, .invokevirtual 124, 3, 57, 2, 0, .ref 2), (186, .bipush 9, 2, 0, 0, 0, .null), (188, .invokestatic 70, 3, 12, 2, 2, .null), (191, .iastore, 1, 0, 0, 0, .null), (192, .aload_n 0, 1, 0, 0, 0, .null), (193, .getfield 11, 3, 8, 5, 0, .null), (196, .bipush 8, 2, 0, 0, 0, .null), (198, .iload 4, 2, 0, 0, 0, .null), (200, .iconst (-1), 1, 0, 0, 0, .null), (201, .if_icmp .ne 7, 3, 0, 0, 0, .null), (204, .iconst 0, 1, 0, 0, 0, .null), (205, .goto 18, 3, 0, 0, 0, .null), (208, .aload_n 0, 1, 0, 0, 0, .null), (209, .getfield 45, 3, 8, 1, 0, .null), (212, .iload_n 2, 1, 0, 0, 0, .null), (213, .iload 4, 2, 0, 0, 0, .null), (215, .invokevirtual 124, 3, 57, 2, 0, .ref 2), (218, .bipush 9, 2, 0, 0, 0, .null), (220, .invokestatic 70, 3, 12, 2, 2, .null), (223, .iastore, 1, 0, 0, 0, .null), (224, .aload 7, 2, 0, 0, 0, .null), (226, .aload_n 0, 1, 0, 0, 0, .null), (227, .getfield 11, 3, 8, 5, 0, .null), (230, .invokevirtual 129, 3, 96, 1, 0, .ref 7), (233, .ireturn, 1, 0, 0, 0, .null)]
def qx_c90 : List (Nat × Instr × Nat × Nat × Nat × Nat × Value) := qx_c90_0 ++ (qx_c90_1 ++ (qx_c90_2))
/-- OneRoof$Custom.asks(I)Z -/
def qx_c91 : List (Nat × Instr × Nat × Nat × Nat × Nat × Value) := [(0, .aload_n 0, 1, 0, 0, 0, .null), (1, .getfield 31, 3, 7, 6, 0, .null), (4, .i2l, 1, 0, 0, 0, .null), (5, .iload_n 1, 1, 0, 0, 0, .null), (6, .invokestatic 56, 3, 50, 2, 3, .null), (9, .ireturn, 1, 0, 0, 0, .null)]
/-- OneRoof$Moment.nearKey(II)I -/
def qx_c92 : List (Nat × Instr × Nat × Nat × Nat × Nat × Value) := [(0, .iload_n 1, 1, 0, 0, 0, .null), (1, .iload_n 2, 1, 0, 0, 0, .null), (2, .invokestatic 79, 3, 93, 2, 2, .null), (5, .istore_n 3, 1, 0, 0, 0, .null), (6, .aload_n 0, 1, 0, 0, 0, .null), (7, .getfield 20, 3, 8, 7, 0, .null), (10, .iload_n 3, 1, 0, 0, 0, .null), (11, .iaload, 1, 0, 0, 0, .null), (12, .aload_n 0, 1, 0, 0, 0, .null), (13, .getfield 38, 3, 8, 12, 0, .null), (16, .if_icmp .eq 36, 3, 0, 0, 0, .null), (19, .aload_n 0, 1, 0, 0, 0, .null), (20, .getfield 20, 3, 8, 7, 0, .null), (23, .iload_n 3, 1, 0, 0, 0, .null), (24, .aload_n 0, 1, 0, 0, 0, .null), (25, .getfield 38, 3, 8, 12, 0, .null), (28, .iastore, 1, 0, 0, 0, .null), (29, .aload_n 0, 1, 0, 0, 0, .null), (30, .getfield 17, 3, 8, 6, 0, .null), (33, .iload_n 3, 1, 0, 0, 0, .null), (34, .aload_n 0, 1, 0, 0, 0, .null), (35, .getfield 49, 3, 8, 2, 0, .null), (38, .iload_n 1, 1, 0, 0, 0, .null), (39, .iload_n 2, 1, 0, 0, 0, .null), (40, .aload_n 0, 1, 0, 0, 0, .null), (41, .getfield 34, 3, 8, 11, 0, .null), (44, .aload_n 0, 1, 0, 0, 0, .null), (45, .getfield 45, 3, 8, 1, 0, .null), (48, .invokevirtual 82, 3, 66, 4, 0, .ref 3), (51, .iastore, 1, 0, 0, 0, .null), (52, .aload_n 0, 1, 0, 0, 0, .null), (53, .getfield 17, 3, 8, 6, 0, .null), (56, .iload_n 3, 1, 0, 0, 0, .null), (57, .iaload, 1, 0, 0, 0, .null), (58, .ireturn, 1, 0, 0, 0, .null)]
/-- OneRoof$Moment.cell(II)I -/
def qx_c93 : List (Nat × Instr × Nat × Nat × Nat × Nat × Value) := [(0, .iload_n 0, 1, 0, 0, 0, .null), (1, .iload_n 1, 1, 0, 0, 0, .null), (2, .invokestatic 70, 3, 12, 2, 2, .null), (5, .istore_n 2, 1, 0, 0, 0, .null), (6, .iload_n 0, 1, 0, 0, 0, .null), (7, .iload_n 1, 1, 0, 0, 0, .null), (8, .invokestatic 76, 3, 30, 2, 2, .null), (11, .istore_n 3, 1, 0, 0, 0, .null), (12, .iload_n 3, 1, 0, 0, 0, .null), (13, .iload_n 3, 1, 0, 0, 0, .null), (14, .iconst 1, 1, 0, 0, 0, .null), (15, .isub, 1, 0, 0, 0, .null), (16, .imul, 1, 0, 0, 0, .null), (17, .iconst 2, 1, 0, 0, 0, .null), (18, .idiv, 1, 0, 0, 0, .null), (19, .iload_n 2, 1, 0, 0, 0, .null), (20, .iadd, 1, 0, 0, 0, .null), (21, .ireturn, 1, 0, 0, 0, .null)]
/-- OneRoof$Moment.held(II)J -/
def qx_c94 : List (Nat × Instr × Nat × Nat × Nat × Nat × Value) := [(0, .iload_n 1, 1, 0, 0, 0, .null), (1, .iload_n 2, 1, 0, 0, 0, .null), (2, .invokestatic 79, 3, 93, 2, 2, .null), (5, .istore_n 3, 1, 0, 0, 0, .null), (6, .aload_n 0, 1, 0, 0, 0, .null), (7, .getfield 27, 3, 8, 9, 0, .null), (10, .iload_n 3, 1, 0, 0, 0, .null), (11, .iaload, 1, 0, 0, 0, .null), (12, .aload_n 0, 1, 0, 0, 0, .null), (13, .getfield 38, 3, 8, 12, 0, .null), (16, .if_icmp .eq 36, 3, 0, 0, 0, .null), (19, .aload_n 0, 1, 0, 0, 0, .null), (20, .getfield 27, 3, 8, 9, 0, .null), (23, .iload_n 3, 1, 0, 0, 0, .null), (24, .aload_n 0, 1, 0, 0, 0, .null), (25, .getfield 38, 3, 8, 12, 0, .null), (28, .iastore, 1, 0, 0, 0, .null), (29, .aload_n 0, 1, 0, 0, 0, .null), (30, .getfield 23, 3, 8, 8, 0, .null), (33, .iload_n 3, 1, 0, 0, 0, .null), (34, .aload_n 0, 1, 0, 0, 0, .null), (35, .getfield 53, 3, 8, 3, 0, .null), (38, .iload_n 1, 1, 0, 0, 0, .null), (39, .iload_n 2, 1, 0, 0, 0, .null), (40, .aload_n 0, 1, 0, 0, 0, .null), (41, .getfield 34, 3, 8, 11, 0, .null), (44, .aload_n 0, 1, 0, 0, 0, .null), (45, .getfield 41, 3, 8, 0, 0, .null), (48, .invokevirtual 86, 3, 80, 4, 0, .ref 4), (51, .lastore, 1, 0, 0, 0, .null), (52, .aload_n 0, 1, 0, 0, 0, .null), (53, .getfield 23, 3, 8, 8, 0, .null), (56, .iload_n 3, 1, 0, 0, 0, .null), (57, .laload, 1, 0, 0, 0, .null), (58, .aload_n 0, 1, 0, 0, 0, .null), (59, .getfield 30, 3, 8, 10, 0, .null), (62, .ldc2_w 90, 3, 0, 0, 2, .long (-1)), (65, .lxor, 1, 0, 0, 0, .null), (66, .land, 1, 0, 0, 0, .null), (67, .lreturn, 1, 0, 0, 0, .null)]
/-- OneRoof$Folk.sharingLord(IJ)I -/
def qx_c95 : List (Nat × Instr × Nat × Nat × Nat × Nat × Value) := [(0, .iconst 0, 1, 0, 0, 0, .null), (1, .istore 4, 2, 0, 0, 0, .null), (3, .iconst 0, 1, 0, 0, 0, .null), (4, .istore 5, 2, 0, 0, 0, .null), (6, .iload 5, 2, 0, 0, 0, .null), (8, .aload_n 0, 1, 0, 0, 0, .null), (9, .getfield 32, 3, 1, 6, 0, .null), (12, .if_icmp .ge 37, 3, 0, 0, 0, .null), (15, .lload_n 2, 1, 0, 0, 0, .null), (16, .iload 5, 2, 0, 0, 0, .null), (18, .invokestatic 43, 3, 50, 2, 3, .null), (21, .ifCond .eq 22, 3, 0, 0, 0, .null), (24, .aload_n 0, 1, 0, 0, 0, .null), (25, .getfield 9, 3, 1, 0, 0, .null), (28, .iload 5, 2, 0, 0, 0, .null), (30, .iaload, 1, 0, 0, 0, .null), (31, .aload_n 0, 1, 0, 0, 0, .null), (32, .getfield 9, 3, 1, 0, 0, .null), (35, .iload_n 1, 1, 0, 0, 0, .null), (36, .iaload, 1, 0, 0, 0, .null), (37, .if_icmp .ne 6, 3, 0, 0, 0, .null), (40, .iinc 4 1, 3, 0, 0, 0, .null), (43, .iinc 5 1, 3, 0, 0, 0, .null), (46, .goto (-40), 3, 0, 0, 0, .null), (49, .iload 4, 2, 0, 0, 0, .null), (51, .ireturn, 1, 0, 0, 0, .null)]
/-- OneRoof$Custom.worth([I)I -/
def qx_c96_0 : List (Nat × Instr × Nat × Nat × Nat × Nat × Value) := [(0, .iconst 0, 1, 0, 0, 0, .null), (1, .istore_n 2, 1, 0, 0, 0, .null), (2, .iconst 0, 1, 0, 0, 0, .null), (3, .istore_n 3, 1, 0, 0, 0, .null), (4, .iload_n 3, 1, 0, 0, 0, .null), (5, .aload_n 0, 1, 0, 0, 0, .null), (6, .getfield 28, 3, 7, 5, 0, .null), (9, .if_icmp .ge 231, 3, 0, 0, 0, .null), (12, .aload_n 0, 1, 0, 0, 0, .null), (13, .getfield 15, 3, 7, 1, 0, .null), (16, .iload_n 3, 1, 0, 0, 0, .null), (17, .iaload, 1, 0, 0, 0, .null), (18, .bipush 16, 2, 0, 0, 0, .null), (20, .iushr, 1, 0, 0, 0, .null), (21, .istore 4, 2, 0, 0, 0, .null), (23, .aload_n 0, 1, 0, 0, 0, .null), (24, .getfield 15, 3, 7, 1, 0, .null), (27, .iload_n 3, 1, 0, 0, 0, .null), (28, .iaload, 1, 0, 0, 0, .null), (29, .ldc 103, 2, 0, 0, 0, .int 65535), (31, .iand, 1, 0, 0, 0, .null), (32, .istore 5, 2, 0, 0, 0, .null), (34, .iload 4, 2, 0, 0, 0, .null), (36, .bipush 48, 2, 0, 0, 0, .null), (38, .if_icmp .eq 10, 3, 0, 0, 0, .null), (41, .iload 4, 2, 0, 0, 0, .null), (43, .bipush 97, 2, 0, 0, 0, .null), (45, .if_icmp .ne 53, 3, 0, 0, 0, .null), (48, .iload_n 2, 1, 0, 0, 0, .null), (49, .aload_n 0, 1, 0, 0, 0, .null), (50, .getfield 18, 3, 7, 2, 0, .null), (53, .arraylength, 1, 0, 0, 0, .null), (54, .if_icmp .lt 5, 3, 0, 0, 0, .null), (57, .iconst 0, 1, 0, 0, 0, .null), (58, .ireturn, 1, 0, 0, 0, .null), (59, .aload_n 0, 1, 0, 0, 0, .null), (60, .getfield 18, 3, 7, 2, 0, .null), (63, .iload_n 2, 1, 0, 0, 0, .null), (64, .iinc 2 1, 3, 0, 0, 0, .null), (67, .iload 4, 2, 0, 0, 0, .null), (69, .bipush 48, 2, 0, 0, 0, .null), (71, .if_icmp .ne 8, 3, 0, 0, 0, .null), (74, .iload 5, 2, 0, 0, 0, .null), (76, .goto 18, 3, 0, 0, 0, .null), (79, .iload 5, 2, 0, 0, 0, .null), (81, .aload_n 1, 1, 0, 0, 0, .null), (82, .arraylength, 1, 0, 0, 0, .null), (83, .if_icmp .ge 10, 3, 0, 0, 0, .null), (86, .aload_n 1, 1, 0, 0, 0, .null), (87, .iload 5, 2, 0, 0, 0, .null)]
def qx_c96_1 : List (Nat × Instr × Nat × Nat × Nat × Nat × Value) := [(89, .iaload, 1, 0, 0, 0, .null), (90, .goto 4, 3, 0, 0, 0, .null), (93, .iconst 0, 1, 0, 0, 0, .null), (94, .iastore, 1, 0, 0, 0, .null), (95, .goto 139, 3, 0, 0, 0, .null), (98, .iload_n 2, 1, 0, 0, 0, .null), (99, .iconst 1, 1, 0, 0, 0, .null), (100, .if_icmp .ge 5, 3, 0, 0, 0, .null), (103, .iconst 0, 1, 0, 0, 0, .null), (104, .ireturn, 1, 0, 0, 0, .null), (105, .aload_n 0, 1, 0, 0, 0, .null), (106, .getfield 18, 3, 7, 2, 0, .null), (109, .iload_n 2, 1, 0, 0, 0, .null), (110, .iconst 1, 1, 0, 0, 0, .null), (111, .isub, 1, 0, 0, 0, .null), (112, .iaload, 1, 0, 0, 0, .null), (113, .istore 6, 2, 0, 0, 0, .null), (115, .iload 4, 2, 0, 0, 0, .null), (117, .bipush 59, 2, 0, 0, 0, .null), (119, .if_icmp .ne 6, 3, 0, 0, 0, .null), (122, .iload 6, 2, 0, 0, 0, .null), (124, .ireturn, 1, 0, 0, 0, .null), (125, .iload 4, 2, 0, 0, 0, .null), (127, .bipush 63, 2, 0, 0, 0, .null), (129, .if_icmp .ne 23, 3, 0, 0, 0, .null), (132, .iinc 2 (-1), 3, 0, 0, 0, .null), (135, .iload 6, 2, 0, 0, 0, .null), (137, .ifCond .ne 97, 3, 0, 0, 0, .null), (140, .iload_n 3, 1, 0, 0, 0, .null), (141, .iload 5, 2, 0, 0, 0, .null), (143, .iconst 1, 1, 0, 0, 0, .null), (144, .isub, 1, 0, 0, 0, .null), (145, .invokestatic 104, 3, 30, 2, 2, .null), (148, .istore_n 3, 1, 0, 0, 0, .null), (149, .goto 85, 3, 0, 0, 0, .null), (152, .iload 4, 2, 0, 0, 0, .null), (154, .bipush 33, 2, 0, 0, 0, .null), (156, .if_icmp .ne 24, 3, 0, 0, 0, .null), (159, .aload_n 0, 1, 0, 0, 0, .null), (160, .getfield 18, 3, 7, 2, 0, .null), (163, .iload_n 2, 1, 0, 0, 0, .null), (164, .iconst 1, 1, 0, 0, 0, .null), (165, .isub, 1, 0, 0, 0, .null), (166, .iload 6, 2, 0, 0, 0, .null), (168, .ifCond .ne 7, 3, 0, 0, 0, .null), (171, .iconst 1, 1, 0, 0, 0, .null), (172, .goto 4, 3, 0, 0, 0, .null), (175, .iconst 0, 1, 0, 0, 0, .null), (176, .iastore, 1, 0, 0, 0, .null), (177, .goto 57, 3, 0, 0, 0, .null)]
def qx_c96_2 : List (Nat × Instr × Nat × Nat × Nat × Nat × Value) := [(180, .iload 4, 2, 0, 0, 0, .null), (182, .bipush 126, 2, 0, 0, 0, .null), (184, .if_icmp .ne 17, 3, 0, 0, 0, .null), (187, .aload_n 0, 1, 0, 0, 0, .null), (188, .getfield 18, 3, 7, 2, 0, .null), (191, .iload_n 2, 1, 0, 0, 0, .null), (192, .iconst 1, 1, 0, 0, 0, .null), (193, .isub, 1, 0, 0, 0, .null), (194, .iload 6, 2, 0, 0, 0, .null), (196, .ineg, 1, 0, 0, 0, .null), (197, .iastore, 1, 0, 0, 0, .null), (198, .goto 36, 3, 0, 0, 0, .null), (201, .iload_n 2, 1, 0, 0, 0, .null), (202, .iconst 2, 1, 0, 0, 0, .null), (203, .if_icmp .ge 5, 3, 0, 0, 0, .null), (206, .iconst 0, 1, 0, 0, 0, .null), (207, .ireturn, 1, 0, 0, 0, .null), (208, .iinc 2 (-1), 3, 0, 0, 0, .null), (211, .aload_n 0, 1, 0, 0, 0, .null), (212, .getfield 18, 3, 7, 2, 0, .null), (215, .iload_n 2, 1, 0, 0, 0, .null), (216, .iconst 1, 1, 0, 0, 0, .null), (217, .isub, 1, 0, 0, 0, .null), (218, .iload 4, 2, 0, 0, 0, .null), (220, .aload_n 0, 1, 0, 0, 0, .null), (221, .getfield 18, 3, 7, 2, 0, .null), (224, .iload_n 2, 1, 0, 0, 0, .null), (225, .iconst 1, 1, 0, 0, 0, .null), (226, .isub, 1, 0, 0, 0, .null), (227, .iaload, 1, 0, 0, 0, .null), (228, .iload 6, 2, 0, 0, 0, .null), (230, .invokestatic 107, 3, 97, 3, 2, .null), (233, .iastore, 1, 0, 0, 0, .null), (234, .iinc 3 1, 3, 0, 0, 0, .null), (237, .goto (-233), 3, 0, 0, 0, .null), (240, .iconst 0, 1, 0, 0, 0, .null), (241, .ireturn, 1, 0, 0, 0, .null)]
def qx_c96 : List (Nat × Instr × Nat × Nat × Nat × Nat × Value) := qx_c96_0 ++ (qx_c96_1 ++ (qx_c96_2))
/-- OneRoof$Custom.joined(III)I -/
def qx_c97_0 : List (Nat × Instr × Nat × Nat × Nat × Nat × Value) := [(0, .iload_n 0, 1, 0, 0, 0, .null), (1, .lookupswitch 188 #[(37, 176), (38, 105), (42, 160), (43, 152), (45, 156), (47, 164), (60, 119), (61, 130), (62, 141), (124, 91)], 91, 0, 0, 0, .null), (92, .iload_n 1, 1, 0, 0, 0, .null), (93, .ifCond .ne 7, 3, 0, 0, 0, .null), (96, .iload_n 2, 1, 0, 0, 0, .null), (97, .ifCond .eq 7, 3, 0, 0, 0, .null), (100, .iconst 1, 1, 0, 0, 0, .null), (101, .goto 4, 3, 0, 0, 0, .null), (104, .iconst 0, 1, 0, 0, 0, .null), (105, .ireturn, 1, 0, 0, 0, .null), (106, .iload_n 1, 1, 0, 0, 0, .null), (107, .ifCond .eq 11, 3, 0, 0, 0, .null), (110, .iload_n 2, 1, 0, 0, 0, .null), (111, .ifCond .eq 7, 3, 0, 0, 0, .null), (114, .iconst 1, 1, 0, 0, 0, .null), (115, .goto 4, 3, 0, 0, 0, .null), (118, .iconst 0, 1, 0, 0, 0, .null), (119, .ireturn, 1, 0, 0, 0, .null), (120, .iload_n 1, 1, 0, 0, 0, .null), (121, .iload_n 2, 1, 0, 0, 0, .null), (122, .if_icmp .ge 7, 3, 0, 0, 0, .null), (125, .iconst 1, 1, 0, 0, 0, .null), (126, .goto 4, 3, 0, 0, 0, .null), (129, .iconst 0, 1, 0, 0, 0, .null), (130, .ireturn, 1, 0, 0, 0, .null), (131, .iload_n 1, 1, 0, 0, 0, .null), (132, .iload_n 2, 1, 0, 0, 0, .null), (133, .if_icmp .ne 7, 3, 0, 0, 0, .null), (136, .iconst 1, 1, 0, 0, 0, .null), (137, .goto 4, 3, 0, 0, 0, .null), (140, .iconst 0, 1, 0, 0, 0, .null), (141, .ireturn, 1, 0, 0, 0, .null), (142, .iload_n 1, 1, 0, 0, 0, .null), (143, .iload_n 2, 1, 0, 0, 0, .null), (144, .if_icmp .le 7, 3, 0, 0, 0, .null), (147, .iconst 1, 1, 0, 0, 0, .null), (148, .goto 4, 3, 0, 0, 0, .null), (151, .iconst 0, 1, 0, 0, 0, .null), (152, .ireturn, 1, 0, 0, 0, .null), (153, .iload_n 1, 1, 0, 0, 0, .null), (154, .iload_n 2, 1, 0, 0, 0, .null), (155, .iadd, 1, 0, 0, 0, .null), (156, .ireturn, 1, 0, 0, 0, .null), (157, .iload_n 1, 1, 0, 0, 0, .null), (158, .iload_n 2, 1, 0, 0, 0, .null), (159, .isub, 1, 0, 0, 0, .null), (160, .ireturn, 1, 0, 0, 0, .null), (161, .iload_n 1, 1, 0, 0, 0, .null), (162, .iload_n 2, 1, 0, 0, 0, .null), (163, .imul, 1, 0, 0, 0, .null)]
def qx_c97_1 : List (Nat × Instr × Nat × Nat × Nat × Nat × Value) := [(164, .ireturn, 1, 0, 0, 0, .null), (165, .iload_n 2, 1, 0, 0, 0, .null), (166, .ifCond .ne 7, 3, 0, 0, 0, .null), (169, .iconst 0, 1, 0, 0, 0, .null), (170, .goto 6, 3, 0, 0, 0, .null), (173, .iload_n 1, 1, 0, 0, 0, .null), (174, .iload_n 2, 1, 0, 0, 0, .null), (175, .idiv, 1, 0, 0, 0, .null), (176, .ireturn, 1, 0, 0, 0, .null), (177, .iload_n 2, 1, 0, 0, 0, .null), (178, .ifCond .ne 7, 3, 0, 0, 0, .null), (181, .iconst 0, 1, 0, 0, 0, .null), (182, .goto 6, 3, 0, 0, 0, .null), (185, .iload_n 1, 1, 0, 0, 0, .null), (186, .iload_n 2, 1, 0, 0, 0, .null), (187, .irem, 1, 0, 0, 0, .null), (188, .ireturn, 1, 0, 0, 0, .null), (189, .iconst 0, 1, 0, 0, 0, .null), (190, .ireturn, 1, 0, 0, 0, .null)]
def qx_c97 : List (Nat × Instr × Nat × Nat × Nat × Nat × Value) := qx_c97_0 ++ (qx_c97_1)
/-- OneRoof.together(JII)I -/
def qx_c98_0 : List (Nat × Instr × Nat × Nat × Nat × Nat × Value) := [(0, .aload_n 0, 1, 0, 0, 0, .null), (1, .getfield 10, 3, 0, 0, 0, .null), (4, .lload_n 1, 1, 0, 0, 0, .null), (5, .invokevirtual 250, 3, 88, 1, 0, .ref 1), (8, .ifCond .eq 21, 3, 0, 0, 0, .null), (11, .iload_n 3, 1, 0, 0, 0, .null), (12, .invokestatic 265, 3, 99, 1, 2, .null), (15, .ifCond .eq 14, 3, 0, 0, 0, .null), (18, .iload 4, 2, 0, 0, 0, .null), (20, .ifCond .lt 9, 3, 0, 0, 0, .null), (23, .iload 4, 2, 0, 0, 0, .null), (25, .iconst 2, 1, 0, 0, 0, .null), (26, .if_icmp .le 5, 3, 0, 0, 0, .null), (29, .iconst (-1), 1, 0, 0, 0, .null), (30, .ireturn, 1, 0, 0, 0, .null), (31, .lload_n 1, 1, 0, 0, 0, .null), (32, .aload_n 0, 1, 0, 0, 0, .null), (33, .getfield 10, 3, 0, 0, 0, .null), (36, .getfield 161, 3, 1, 5, 0, .null), (39, .ldc2_w 255, 3, 0, 0, 2, .long (-1)), (42, .lxor, 1, 0, 0, 0, .null), (43, .land, 1, 0, 0, 0, .null), (44, .lstore 5, 2, 0, 0, 0, .null), (46, .iload_n 3, 1, 0, 0, 0, .null), (47, .sipush 10000, 3, 0, 0, 0, .null), (50, .idiv, 1, 0, 0, 0, .null), (51, .istore 7, 2, 0, 0, 0, .null), (53, .iload_n 3, 1, 0, 0, 0, .null), (54, .sipush 10000, 3, 0, 0, 0, .null), (57, .irem, 1, 0, 0, 0, .null), (58, .istore 8, 2, 0, 0, 0, .null), (60, .iload 7, 2, 0, 0, 0, .null), (62, .istore 9, 2, 0, 0, 0, .null), (64, .iload 9, 2, 0, 0, 0, .null), (66, .iload 8, 2, 0, 0, 0, .null), (68, .if_icmp .gt 86, 3, 0, 0, 0, .null), (71, .iload 9, 2, 0, 0, 0, .null), (73, .iload 7, 2, 0, 0, 0, .null), (75, .if_icmp .le 18, 3, 0, 0, 0, .null), (78, .aload_n 0, 1, 0, 0, 0, .null), (79, .getfield 72, 3, 0, 8, 0, .null), (82, .iload 9, 2, 0, 0, 0, .null), (84, .invokevirtual 268, 3, 100, 1, 0, .ref 8), (87, .ifCond .ne 6, 3, 0, 0, 0, .null), (90, .goto 58, 3, 0, 0, 0, .null), (93, .aload_n 0, 1, 0, 0, 0, .null), (94, .getfield 72, 3, 0, 8, 0, .null), (97, .iload 9, 2, 0, 0, 0, .null), (99, .invokevirtual 257, 3, 89, 1, 0, .ref 8), (102, .aload_n 0, 1, 0, 0, 0, .null)]
def qx_c98_1 : List (Nat × Instr × Nat × Nat × Nat × Nat × Value) := [(103, .getfield 72, 3, 0, 8, 0, .null), (106, .lload 5, 2, 0, 0, 0, .null), (108, .invokevirtual 271, 3, 103, 1, 0, .ref 8), (111, .istore 10, 2, 0, 0, 0, .null), (113, .iload 10, 2, 0, 0, 0, .null), (115, .ifCond .lt 33, 3, 0, 0, 0, .null), (118, .iload 4, 2, 0, 0, 0, .null), (120, .ifCond .ne 8, 3, 0, 0, 0, .null), (123, .iload 9, 2, 0, 0, 0, .null), (125, .goto 22, 3, 0, 0, 0, .null), (128, .iload 4, 2, 0, 0, 0, .null), (130, .iconst 1, 1, 0, 0, 0, .null), (131, .if_icmp .ne 11, 3, 0, 0, 0, .null), (134, .iload 10, 2, 0, 0, 0, .null), (136, .bipush 100, 2, 0, 0, 0, .null), (138, .idiv, 1, 0, 0, 0, .null), (139, .goto 8, 3, 0, 0, 0, .null), (142, .iload 10, 2, 0, 0, 0, .null), (144, .bipush 100, 2, 0, 0, 0, .null), (146, .irem, 1, 0, 0, 0, .null), (147, .ireturn, 1, 0, 0, 0, .null), (148, .iinc 9 1, 3, 0, 0, 0, .null), (151, .goto (-87), 3, 0, 0, 0, .null), (154, .bipush (-2), 2, 0, 0, 0, .null), (156, .ireturn, 1, 0, 0, 0, .null)]
def qx_c98 : List (Nat × Instr × Nat × Nat × Nat × Nat × Value) := qx_c98_0 ++ (qx_c98_1)
/-- OneRoof.isWindow(I)Z -/
def qx_c99 : List (Nat × Instr × Nat × Nat × Nat × Nat × Value) := [(0, .iload_n 0, 1, 0, 0, 0, .null), (1, .invokestatic 199, 3, 70, 1, 2, .null), (4, .ifCond .eq 23, 3, 0, 0, 0, .null), (7, .iload_n 0, 1, 0, 0, 0, .null), (8, .sipush 10000, 3, 0, 0, 0, .null), (11, .irem, 1, 0, 0, 0, .null), (12, .iload_n 0, 1, 0, 0, 0, .null), (13, .sipush 10000, 3, 0, 0, 0, .null), (16, .idiv, 1, 0, 0, 0, .null), (17, .isub, 1, 0, 0, 0, .null), (18, .bipush 48, 2, 0, 0, 0, .null), (20, .if_icmp .ge 7, 3, 0, 0, 0, .null), (23, .iconst 1, 1, 0, 0, 0, .null), (24, .goto 4, 3, 0, 0, 0, .null), (27, .iconst 0, 1, 0, 0, 0, .null), (28, .ireturn, 1, 0, 0, 0, .null)]
/-- OneRoof$Moment.turnsAt(I)Z -/
def qx_c100 : List (Nat × Instr × Nat × Nat × Nat × Nat × Value) := [(0, .aload_n 0, 1, 0, 0, 0, .null), (1, .getfield 49, 3, 8, 2, 0, .null), (4, .iload_n 1, 1, 0, 0, 0, .null), (5, .invokevirtual 61, 3, 101, 1, 0, .ref 3), (8, .ifCond .ne 14, 3, 0, 0, 0, .null), (11, .aload_n 0, 1, 0, 0, 0, .null), (12, .getfield 53, 3, 8, 3, 0, .null), (15, .iload_n 1, 1, 0, 0, 0, .null), (16, .invokevirtual 67, 3, 102, 1, 0, .ref 4), (19, .ifCond .eq 7, 3, 0, 0, 0, .null), (22, .iconst 1, 1, 0, 0, 0, .null), (23, .goto 4, 3, 0, 0, 0, .null), (26, .iconst 0, 1, 0, 0, 0, .null), (27, .ireturn, 1, 0, 0, 0, .null)]
/-- OneRoof$Feuds.turnsAt(I)Z -/
def qx_c101 : List (Nat × Instr × Nat × Nat × Nat × Nat × Value) := [(0, .iconst 0, 1, 0, 0, 0, .null), (1, .istore_n 2, 1, 0, 0, 0, .null), (2, .iload_n 2, 1, 0, 0, 0, .null), (3, .aload_n 0, 1, 0, 0, 0, .null), (4, .getfield 34, 3, 3, 7, 0, .null), (7, .if_icmp .ge 31, 3, 0, 0, 0, .null), (10, .aload_n 0, 1, 0, 0, 0, .null), (11, .getfield 18, 3, 3, 2, 0, .null), (14, .iload_n 2, 1, 0, 0, 0, .null), (15, .iaload, 1, 0, 0, 0, .null), (16, .iload_n 1, 1, 0, 0, 0, .null), (17, .if_icmp .eq 13, 3, 0, 0, 0, .null), (20, .aload_n 0, 1, 0, 0, 0, .null), (21, .getfield 27, 3, 3, 5, 0, .null), (24, .iload_n 2, 1, 0, 0, 0, .null), (25, .iaload, 1, 0, 0, 0, .null), (26, .iload_n 1, 1, 0, 0, 0, .null), (27, .if_icmp .ne 5, 3, 0, 0, 0, .null), (30, .iconst 1, 1, 0, 0, 0, .null), (31, .ireturn, 1, 0, 0, 0, .null), (32, .iinc 2 1, 3, 0, 0, 0, .null), (35, .goto (-33), 3, 0, 0, 0, .null), (38, .iconst 0, 1, 0, 0, 0, .null), (39, .ireturn, 1, 0, 0, 0, .null)]
/-- OneRoof$Peaces.turnsAt(I)Z -/
def qx_c102 : List (Nat × Instr × Nat × Nat × Nat × Nat × Value) := [(0, .iconst 0, 1, 0, 0, 0, .null), (1, .istore_n 2, 1, 0, 0, 0, .null), (2, .iload_n 2, 1, 0, 0, 0, .null), (3, .aload_n 0, 1, 0, 0, 0, .null), (4, .getfield 34, 3, 4, 7, 0, .null), (7, .if_icmp .ge 33, 3, 0, 0, 0, .null), (10, .aload_n 0, 1, 0, 0, 0, .null), (11, .getfield 18, 3, 4, 2, 0, .null), (14, .iload_n 2, 1, 0, 0, 0, .null), (15, .iaload, 1, 0, 0, 0, .null), (16, .iload_n 1, 1, 0, 0, 0, .null), (17, .if_icmp .eq 15, 3, 0, 0, 0, .null), (20, .aload_n 0, 1, 0, 0, 0, .null), (21, .getfield 27, 3, 4, 5, 0, .null), (24, .iload_n 2, 1, 0, 0, 0, .null), (25, .iaload, 1, 0, 0, 0, .null), (26, .iconst 1, 1, 0, 0, 0, .null), (27, .iadd, 1, 0, 0, 0, .null), (28, .iload_n 1, 1, 0, 0, 0, .null), (29, .if_icmp .ne 5, 3, 0, 0, 0, .null), (32, .iconst 1, 1, 0, 0, 0, .null), (33, .ireturn, 1, 0, 0, 0, .null), (34, .iinc 2 1, 3, 0, 0, 0, .null), (37, .goto (-35), 3, 0, 0, 0, .null), (40, .iconst 0, 1, 0, 0, 0, .null), (41, .ireturn, 1, 0, 0, 0, .null)]
/-- OneRoof$Moment.firstStrike(J)I -/
def qx_c103 : List (Nat × Instr × Nat × Nat × Nat × Nat × Value) := [(0, .iconst 0, 1, 0, 0, 0, .null), (1, .istore_n 3, 1, 0, 0, 0, .null), (2, .iload_n 3, 1, 0, 0, 0, .null), (3, .aload_n 0, 1, 0, 0, 0, .null), (4, .getfield 41, 3, 8, 0, 0, .null), (7, .getfield 133, 3, 1, 6, 0, .null), (10, .if_icmp .ge 77, 3, 0, 0, 0, .null), (13, .lload_n 1, 1, 0, 0, 0, .null), (14, .iload_n 3, 1, 0, 0, 0, .null), (15, .invokestatic 120, 3, 50, 2, 3, .null), (18, .ifCond .ne 6, 3, 0, 0, 0, .null), (21, .goto 60, 3, 0, 0, 0, .null), (24, .iconst 0, 1, 0, 0, 0, .null), (25, .istore 4, 2, 0, 0, 0, .null), (27, .iload 4, 2, 0, 0, 0, .null), (29, .aload_n 0, 1, 0, 0, 0, .null), (30, .getfield 41, 3, 8, 0, 0, .null), (33, .getfield 133, 3, 1, 6, 0, .null), (36, .if_icmp .ge 45, 3, 0, 0, 0, .null), (39, .iload_n 3, 1, 0, 0, 0, .null), (40, .iload 4, 2, 0, 0, 0, .null), (42, .if_icmp .eq 33, 3, 0, 0, 0, .null), (45, .lload_n 1, 1, 0, 0, 0, .null), (46, .iload 4, 2, 0, 0, 0, .null), (48, .invokestatic 120, 3, 50, 2, 3, .null), (51, .ifCond .eq 24, 3, 0, 0, 0, .null), (54, .aload_n 0, 1, 0, 0, 0, .null), (55, .iconst 0, 1, 0, 0, 0, .null), (56, .iload_n 3, 1, 0, 0, 0, .null), (57, .iload 4, 2, 0, 0, 0, .null), (59, .iconst (-1), 1, 0, 0, 0, .null), (60, .lload_n 1, 1, 0, 0, 0, .null), (61, .invokevirtual 136, 3, 90, 5, 0, .ref 8), (64, .ifCond .eq 11, 3, 0, 0, 0, .null), (67, .bipush 100, 2, 0, 0, 0, .null), (69, .iload_n 3, 1, 0, 0, 0, .null), (70, .imul, 1, 0, 0, 0, .null), (71, .iload 4, 2, 0, 0, 0, .null), (73, .iadd, 1, 0, 0, 0, .null), (74, .ireturn, 1, 0, 0, 0, .null), (75, .iinc 4 1, 3, 0, 0, 0, .null), (78, .goto (-51), 3, 0, 0, 0, .null), (81, .iinc 3 1, 3, 0, 0, 0, .null), (84, .goto (-82), 3, 0, 0, 0, .null), (87, .iconst (-1), 1, 0, 0, 0, .null), (88, .ireturn, 1, 0, 0, 0, .null)]
/-- OneRoof.bars(II)I -/
def qx_c104 : List (Nat × Instr × Nat × Nat × Nat × Nat × Value) := [(0, .aload_n 0, 1, 0, 0, 0, .null), (1, .getfield 10, 3, 0, 0, 0, .null), (4, .iload_n 1, 1, 0, 0, 0, .null), (5, .invokevirtual 184, 3, 61, 1, 0, .ref 1), (8, .ifCond .eq 10, 3, 0, 0, 0, .null), (11, .iload_n 2, 1, 0, 0, 0, .null), (12, .invokestatic 265, 3, 99, 1, 2, .null), (15, .ifCond .ne 5, 3, 0, 0, 0, .null), (18, .iconst (-1), 1, 0, 0, 0, .null), (19, .ireturn, 1, 0, 0, 0, .null), (20, .aload_n 0, 1, 0, 0, 0, .null), (21, .getfield 72, 3, 0, 8, 0, .null), (24, .iload_n 1, 1, 0, 0, 0, .null), (25, .bipush 100, 2, 0, 0, 0, .null), (27, .idiv, 1, 0, 0, 0, .null), (28, .iload_n 1, 1, 0, 0, 0, .null), (29, .bipush 100, 2, 0, 0, 0, .null), (31, .irem, 1, 0, 0, 0, .null), (32, .iload_n 2, 1, 0, 0, 0, .null), (33, .sipush 10000, 3, 0, 0, 0, .null), (36, .idiv, 1, 0, 0, 0, .null), (37, .iload_n 2, 1, 0, 0, 0, .null), (38, .sipush 10000, 3, 0, 0, 0, .null), (41, .irem, 1, 0, 0, 0, .null), (42, .invokevirtual 274, 3, 105, 4, 0, .ref 8), (45, .ifCond .eq 7, 3, 0, 0, 0, .null), (48, .iconst 1, 1, 0, 0, 0, .null), (49, .goto 4, 3, 0, 0, 0, .null), (52, .iconst 0, 1, 0, 0, 0, .null), (53, .ireturn, 1, 0, 0, 0, .null)]
/-- OneRoof$Moment.barred(IIII)Z -/
def qx_c105 : List (Nat × Instr × Nat × Nat × Nat × Nat × Value) := [(0, .iload_n 3, 1, 0, 0, 0, .null), (1, .istore 5, 2, 0, 0, 0, .null), (3, .iload 5, 2, 0, 0, 0, .null), (5, .iload 4, 2, 0, 0, 0, .null), (7, .if_icmp .gt 53, 3, 0, 0, 0, .null), (10, .iload 5, 2, 0, 0, 0, .null), (12, .iload_n 3, 1, 0, 0, 0, .null), (13, .if_icmp .le 15, 3, 0, 0, 0, .null), (16, .aload_n 0, 1, 0, 0, 0, .null), (17, .iload 5, 2, 0, 0, 0, .null), (19, .invokevirtual 140, 3, 100, 1, 0, .ref 8), (22, .ifCond .ne 6, 3, 0, 0, 0, .null), (25, .goto 29, 3, 0, 0, 0, .null), (28, .aload_n 0, 1, 0, 0, 0, .null), (29, .iload 5, 2, 0, 0, 0, .null), (31, .invokevirtual 141, 3, 89, 1, 0, .ref 8), (34, .aload_n 0, 1, 0, 0, 0, .null), (35, .iload_n 1, 1, 0, 0, 0, .null), (36, .iload_n 2, 1, 0, 0, 0, .null), (37, .invokevirtual 145, 3, 106, 2, 0, .ref 8), (40, .ifCond .ne 12, 3, 0, 0, 0, .null), (43, .aload_n 0, 1, 0, 0, 0, .null), (44, .iload_n 2, 1, 0, 0, 0, .null), (45, .iload_n 1, 1, 0, 0, 0, .null), (46, .invokevirtual 145, 3, 106, 2, 0, .ref 8), (49, .ifCond .eq 5, 3, 0, 0, 0, .null), (52, .iconst 1, 1, 0, 0, 0, .null), (53, .ireturn, 1, 0, 0, 0, .null), (54, .iinc 5 1, 3, 0, 0, 0, .null), (57, .goto (-54), 3, 0, 0, 0, .null), (60, .iconst 0, 1, 0, 0, 0, .null), (61, .ireturn, 1, 0, 0, 0, .null)]
/-- OneRoof$Moment.mustAlone(II)Z -/
def qx_c106 : List (Nat × Instr × Nat × Nat × Nat × Nat × Value) := [(0, .aload_n 0, 1, 0, 0, 0, .null), (1, .iconst 0, 1, 0, 0, 0, .null), (2, .iload_n 1, 1, 0, 0, 0, .null), (3, .iload_n 2, 1, 0, 0, 0, .null), (4, .iconst (-1), 1, 0, 0, 0, .null), (5, .lconst 1, 1, 0, 0, 0, .null), (6, .iload_n 1, 1, 0, 0, 0, .null), (7, .lshl, 1, 0, 0, 0, .null), (8, .lconst 1, 1, 0, 0, 0, .null), (9, .iload_n 2, 1, 0, 0, 0, .null), (10, .lshl, 1, 0, 0, 0, .null), (11, .lor, 1, 0, 0, 0, .null), (12, .invokevirtual 136, 3, 90, 5, 0, .ref 8), (15, .ifCond .eq 7, 3, 0, 0, 0, .null), (18, .iconst 1, 1, 0, 0, 0, .null), (19, .goto 4, 3, 0, 0, 0, .null), (22, .iconst 0, 1, 0, 0, 0, .null), (23, .ireturn, 1, 0, 0, 0, .null)]
/-- OneRoof.most(JJI)J -/
def qx_c107 : List (Nat × Instr × Nat × Nat × Nat × Nat × Value) := [(0, .aload_n 0, 1, 0, 0, 0, .null), (1, .getfield 10, 3, 0, 0, 0, .null), (4, .lload_n 1, 1, 0, 0, 0, .null), (5, .invokevirtual 250, 3, 88, 1, 0, .ref 1), (8, .ifCond .eq 23, 3, 0, 0, 0, .null), (11, .lload_n 3, 1, 0, 0, 0, .null), (12, .lload_n 1, 1, 0, 0, 0, .null), (13, .ldc2_w 255, 3, 0, 0, 2, .long (-1)), (16, .lxor, 1, 0, 0, 0, .null), (17, .land, 1, 0, 0, 0, .null), (18, .lconst 0, 1, 0, 0, 0, .null), (19, .lcmp, 1, 0, 0, 0, .null), (20, .ifCond .ne 11, 3, 0, 0, 0, .null), (23, .iload 5, 2, 0, 0, 0, .null), (25, .invokestatic 265, 3, 99, 1, 2, .null), (28, .ifCond .ne 7, 3, 0, 0, 0, .null), (31, .ldc2_w 255, 3, 0, 0, 2, .long (-1)), (34, .lreturn, 1, 0, 0, 0, .null), (35, .lload_n 1, 1, 0, 0, 0, .null), (36, .aload_n 0, 1, 0, 0, 0, .null), (37, .getfield 10, 3, 0, 0, 0, .null), (40, .getfield 161, 3, 1, 5, 0, .null), (43, .ldc2_w 255, 3, 0, 0, 2, .long (-1)), (46, .lxor, 1, 0, 0, 0, .null), (47, .land, 1, 0, 0, 0, .null), (48, .lstore 6, 2, 0, 0, 0, .null), (50, .lload 6, 2, 0, 0, 0, .null), (52, .bipush 12, 2, 0, 0, 0, .null), (54, .invokestatic 278, 3, 108, 2, 2, .null), (57, .ifCond .ne 7, 3, 0, 0, 0, .null), (60, .ldc2_w 255, 3, 0, 0, 2, .long (-1)), (63, .lreturn, 1, 0, 0, 0, .null), (64, .aload_n 0, 1, 0, 0, 0, .null), (65, .getfield 81, 3, 0, 9, 0, .null), (68, .lload 6, 2, 0, 0, 0, .null), (70, .invokevirtual 281, 3, 109, 1, 0, .ref 9), (73, .aload_n 0, 1, 0, 0, 0, .null), (74, .getfield 81, 3, 0, 9, 0, .null), (77, .iload 5, 2, 0, 0, 0, .null), (79, .sipush 10000, 3, 0, 0, 0, .null), (82, .idiv, 1, 0, 0, 0, .null), (83, .iload 5, 2, 0, 0, 0, .null), (85, .sipush 10000, 3, 0, 0, 0, .null), (88, .irem, 1, 0, 0, 0, .null), (89, .invokevirtual 285, 3, 110, 2, 0, .ref 9), (92, .aload_n 0, 1, 0, 0, 0, .null), (93, .getfield 81, 3, 0, 9, 0, .null), (96, .lload_n 3, 1, 0, 0, 0, .null), (97, .lload 6, 2, 0, 0, 0, .null), (99, .land, 1, 0, 0, 0, .null), (100, .invokevirtual 289, 3, 111, 1, 0, .ref 9), (103, .lreturn, 1, 0, 0, 0, .null)]
/-- OneRoof.isGathering(JI)Z -/
def qx_c108 : List (Nat × Instr × Nat × Nat × Nat × Nat × Value) := [(0, .lload_n 0, 1, 0, 0, 0, .null), (1, .lconst 0, 1, 0, 0, 0, .null), (2, .lcmp, 1, 0, 0, 0, .null), (3, .ifCond .eq 15, 3, 0, 0, 0, .null), (6, .lload_n 0, 1, 0, 0, 0, .null), (7, .invokestatic 226, 3, 74, 1, 2, .null), (10, .iload_n 2, 1, 0, 0, 0, .null), (11, .if_icmp .gt 7, 3, 0, 0, 0, .null), (14, .iconst 1, 1, 0, 0, 0, .null), (15, .goto 4, 3, 0, 0, 0, .null), (18, .iconst 0, 1, 0, 0, 0, .null), (19, .ireturn, 1, 0, 0, 0, .null)]
/-- OneRoof$Guests.gather(J)V -/
def qx_c109 : List (Nat × Instr × Nat × Nat × Nat × Nat × Value) := [(0, .aload_n 0, 1, 0, 0, 0, .null), (1, .iconst 0, 1, 0, 0, 0, .null), (2, .putfield 15, 3, 9, 2, 0, .null), (5, .iconst 0, 1, 0, 0, 0, .null), (6, .istore_n 3, 1, 0, 0, 0, .null), (7, .iload_n 3, 1, 0, 0, 0, .null), (8, .bipush 32, 2, 0, 0, 0, .null), (10, .if_icmp .ge 46, 3, 0, 0, 0, .null), (13, .aload_n 0, 1, 0, 0, 0, .null), (14, .getfield 15, 3, 9, 2, 0, .null), (17, .aload_n 0, 1, 0, 0, 0, .null), (18, .getfield 9, 3, 9, 1, 0, .null), (21, .arraylength, 1, 0, 0, 0, .null), (22, .if_icmp .ge 34, 3, 0, 0, 0, .null), (25, .lload_n 1, 1, 0, 0, 0, .null), (26, .iload_n 3, 1, 0, 0, 0, .null), (27, .invokestatic 38, 3, 50, 2, 3, .null), (30, .ifCond .eq 20, 3, 0, 0, 0, .null), (33, .aload_n 0, 1, 0, 0, 0, .null), (34, .getfield 9, 3, 9, 1, 0, .null), (37, .aload_n 0, 1, 0, 0, 0, .null), (38, .dup, 1, 0, 0, 0, .null), (39, .getfield 15, 3, 9, 2, 0, .null), (42, .dup_x1, 1, 0, 0, 0, .null), (43, .iconst 1, 1, 0, 0, 0, .null), (44, .iadd, 1, 0, 0, 0, .null), (45, .putfield 15, 3, 9, 2, 0, .null), (48, .iload_n 3, 1, 0, 0, 0, .null), (49, .iastore, 1, 0, 0, 0, .null), (50, .iinc 3 1, 3, 0, 0, 0, .null), (53, .goto (-46), 3, 0, 0, 0, .null), (56, .return_, 1, 0, 0, 0, .null)]
/-- OneRoof$Guests.learnBars(II)V -/
def qx_c110 : List (Nat × Instr × Nat × Nat × Nat × Nat × Value) := [(0, .aload_n 0, 1, 0, 0, 0, .null), (1, .getfield 19, 3, 9, 3, 0, .null), (4, .iconst 0, 1, 0, 0, 0, .null), (5, .invokestatic 42, 3, 4, 2, 2, .null), (8, .iconst 0, 1, 0, 0, 0, .null), (9, .istore_n 3, 1, 0, 0, 0, .null), (10, .iload_n 3, 1, 0, 0, 0, .null), (11, .aload_n 0, 1, 0, 0, 0, .null), (12, .getfield 15, 3, 9, 2, 0, .null), (15, .if_icmp .ge 83, 3, 0, 0, 0, .null), (18, .iload_n 3, 1, 0, 0, 0, .null), (19, .iconst 1, 1, 0, 0, 0, .null), (20, .iadd, 1, 0, 0, 0, .null), (21, .istore 4, 2, 0, 0, 0, .null), (23, .iload 4, 2, 0, 0, 0, .null), (25, .aload_n 0, 1, 0, 0, 0, .null), (26, .getfield 15, 3, 9, 2, 0, .null), (29, .if_icmp .ge 63, 3, 0, 0, 0, .null), (32, .aload_n 0, 1, 0, 0, 0, .null), (33, .getfield 34, 3, 9, 0, 0, .null), (36, .aload_n 0, 1, 0, 0, 0, .null), (37, .getfield 9, 3, 9, 1, 0, .null), (40, .iload_n 3, 1, 0, 0, 0, .null), (41, .iaload, 1, 0, 0, 0, .null), (42, .aload_n 0, 1, 0, 0, 0, .null), (43, .getfield 9, 3, 9, 1, 0, .null), (46, .iload 4, 2, 0, 0, 0, .null), (48, .iaload, 1, 0, 0, 0, .null), (49, .iload_n 1, 1, 0, 0, 0, .null), (50, .iload_n 2, 1, 0, 0, 0, .null), (51, .invokevirtual 48, 3, 105, 4, 0, .ref 8), (54, .ifCond .ne 6, 3, 0, 0, 0, .null), (57, .goto 29, 3, 0, 0, 0, .null), (60, .aload_n 0, 1, 0, 0, 0, .null), (61, .getfield 19, 3, 9, 3, 0, .null), (64, .iload_n 3, 1, 0, 0, 0, .null), (65, .dup2, 1, 0, 0, 0, .null), (66, .iaload, 1, 0, 0, 0, .null), (67, .iconst 1, 1, 0, 0, 0, .null), (68, .iload 4, 2, 0, 0, 0, .null), (70, .ishl, 1, 0, 0, 0, .null), (71, .ior, 1, 0, 0, 0, .null), (72, .iastore, 1, 0, 0, 0, .null), (73, .aload_n 0, 1, 0, 0, 0, .null), (74, .getfield 19, 3, 9, 3, 0, .null), (77, .iload 4, 2, 0, 0, 0, .null), (79, .dup2, 1, 0, 0, 0, .null), (80, .iaload, 1, 0, 0, 0, .null), (81, .iconst 1, 1, 0, 0, 0, .null), (82, .iload_n 3, 1, 0, 0, 0, .null), (83, .ishl, 1, 0, 0, 0, .null), (84, .ior, 1, 0, 0, 0, .null), (85, .iastore, 1, 0, 0, 0, .null), (86, .iinc 4 1, 3, 0, 0, 0, .null), (89, .goto (-66), 3, 0, 0, 0, .null), (92, .iinc 3 1, 3, 0, 0, 0, .null), (95, .goto (-85), 3, 0, 0, 0, .null), (98, .return_, 1, 0, 0, 0, .null)]
/-- OneRoof$Guests.heaviest(J)J -/
def qx_c111_0 : List (Nat × Instr × Nat × Nat × Nat × Nat × Value) := [(0, .iconst 0, 1, 0, 0, 0, .null), (1, .istore_n 3, 1, 0, 0, 0, .null), (2, .iconst 0, 1, 0, 0, 0, .null), (3, .istore 4, 2, 0, 0, 0, .null), (5, .iload 4, 2, 0, 0, 0, .null), (7, .aload_n 0, 1, 0, 0, 0, .null), (8, .getfield 15, 3, 9, 2, 0, .null), (11, .if_icmp .ge 30, 3, 0, 0, 0, .null), (14, .lload_n 1, 1, 0, 0, 0, .null), (15, .aload_n 0, 1, 0, 0, 0, .null), (16, .getfield 9, 3, 9, 1, 0, .null), (19, .iload 4, 2, 0, 0, 0, .null), (21, .iaload, 1, 0, 0, 0, .null), (22, .invokestatic 38, 3, 50, 2, 3, .null), (25, .ifCond .eq 10, 3, 0, 0, 0, .null), (28, .iload_n 3, 1, 0, 0, 0, .null), (29, .iconst 1, 1, 0, 0, 0, .null), (30, .iload 4, 2, 0, 0, 0, .null), (32, .ishl, 1, 0, 0, 0, .null), (33, .ior, 1, 0, 0, 0, .null), (34, .istore_n 3, 1, 0, 0, 0, .null), (35, .iinc 4 1, 3, 0, 0, 0, .null), (38, .goto (-33), 3, 0, 0, 0, .null), (41, .iconst (-1), 1, 0, 0, 0, .null), (42, .istore 4, 2, 0, 0, 0, .null), (44, .iconst (-1), 1, 0, 0, 0, .null), (45, .istore 5, 2, 0, 0, 0, .null), (47, .iconst 0, 1, 0, 0, 0, .null), (48, .istore 6, 2, 0, 0, 0, .null), (50, .iload 6, 2, 0, 0, 0, .null), (52, .iconst 1, 1, 0, 0, 0, .null), (53, .aload_n 0, 1, 0, 0, 0, .null), (54, .getfield 15, 3, 9, 2, 0, .null), (57, .ishl, 1, 0, 0, 0, .null), (58, .if_icmp .ge 74, 3, 0, 0, 0, .null), (61, .iload 6, 2, 0, 0, 0, .null), (63, .iload_n 3, 1, 0, 0, 0, .null), (64, .iand, 1, 0, 0, 0, .null), (65, .iload_n 3, 1, 0, 0, 0, .null), (66, .if_icmp .eq 6, 3, 0, 0, 0, .null), (69, .goto 57, 3, 0, 0, 0, .null), (72, .aload_n 0, 1, 0, 0, 0, .null), (73, .iload 6, 2, 0, 0, 0, .null), (75, .invokevirtual 67, 3, 112, 1, 0, .ref 9), (78, .istore 7, 2, 0, 0, 0, .null), (80, .iload 7, 2, 0, 0, 0, .null), (82, .ifCond .lt 44, 3, 0, 0, 0, .null), (85, .iload 7, 2, 0, 0, 0, .null), (87, .iload 5, 2, 0, 0, 0, .null), (89, .if_icmp .ge 6, 3, 0, 0, 0, .null)]
def qx_c111_1 : List (Nat × Instr × Nat × Nat × Nat × Nat × Value) := [(92, .goto 34, 3, 0, 0, 0, .null), (95, .iload 7, 2, 0, 0, 0, .null), (97, .iload 5, 2, 0, 0, 0, .null), (99, .if_icmp .ne 19, 3, 0, 0, 0, .null), (102, .iload 6, 2, 0, 0, 0, .null), (104, .invokestatic 70, 3, 114, 1, 2, .null), (107, .iload 4, 2, 0, 0, 0, .null), (109, .invokestatic 70, 3, 114, 1, 2, .null), (112, .if_icmp .gt 6, 3, 0, 0, 0, .null), (115, .goto 11, 3, 0, 0, 0, .null), (118, .iload 6, 2, 0, 0, 0, .null), (120, .istore 4, 2, 0, 0, 0, .null), (122, .iload 7, 2, 0, 0, 0, .null), (124, .istore 5, 2, 0, 0, 0, .null), (126, .iinc 6 1, 3, 0, 0, 0, .null), (129, .goto (-79), 3, 0, 0, 0, .null), (132, .iload 4, 2, 0, 0, 0, .null), (134, .ifCond .ge 9, 3, 0, 0, 0, .null), (137, .ldc2_w 75, 3, 0, 0, 2, .long (-2)), (140, .goto 9, 3, 0, 0, 0, .null), (143, .aload_n 0, 1, 0, 0, 0, .null), (144, .iload 4, 2, 0, 0, 0, .null), (146, .invokevirtual 77, 3, 115, 1, 0, .ref 9), (149, .lreturn, 1, 0, 0, 0, .null)]
def qx_c111 : List (Nat × Instr × Nat × Nat × Nat × Nat × Value) := qx_c111_0 ++ (qx_c111_1)
/-- OneRoof$Guests.calmWeight(I)I -/
def qx_c112 : List (Nat × Instr × Nat × Nat × Nat × Nat × Value) := [(0, .iconst 0, 1, 0, 0, 0, .null), (1, .istore_n 2, 1, 0, 0, 0, .null), (2, .iconst 0, 1, 0, 0, 0, .null), (3, .istore_n 3, 1, 0, 0, 0, .null), (4, .iload_n 3, 1, 0, 0, 0, .null), (5, .aload_n 0, 1, 0, 0, 0, .null), (6, .getfield 15, 3, 9, 2, 0, .null), (9, .if_icmp .ge 42, 3, 0, 0, 0, .null), (12, .iload_n 1, 1, 0, 0, 0, .null), (13, .i2l, 1, 0, 0, 0, .null), (14, .iload_n 3, 1, 0, 0, 0, .null), (15, .invokestatic 38, 3, 50, 2, 3, .null), (18, .ifCond .ne 6, 3, 0, 0, 0, .null), (21, .goto 24, 3, 0, 0, 0, .null), (24, .aload_n 0, 1, 0, 0, 0, .null), (25, .getfield 19, 3, 9, 3, 0, .null), (28, .iload_n 3, 1, 0, 0, 0, .null), (29, .iaload, 1, 0, 0, 0, .null), (30, .iload_n 1, 1, 0, 0, 0, .null), (31, .iand, 1, 0, 0, 0, .null), (32, .ifCond .eq 5, 3, 0, 0, 0, .null), (35, .iconst (-1), 1, 0, 0, 0, .null), (36, .ireturn, 1, 0, 0, 0, .null), (37, .iload_n 2, 1, 0, 0, 0, .null), (38, .aload_n 0, 1, 0, 0, 0, .null), (39, .iload_n 3, 1, 0, 0, 0, .null), (40, .invokevirtual 63, 3, 113, 1, 0, .ref 9), (43, .iadd, 1, 0, 0, 0, .null), (44, .istore_n 2, 1, 0, 0, 0, .null), (45, .iinc 3 1, 3, 0, 0, 0, .null), (48, .goto (-44), 3, 0, 0, 0, .null), (51, .iload_n 2, 1, 0, 0, 0, .null), (52, .ireturn, 1, 0, 0, 0, .null)]
/-- OneRoof$Guests.weightAt(I)I -/
def qx_c113 : List (Nat × Instr × Nat × Nat × Nat × Nat × Value) := [(0, .aload_n 0, 1, 0, 0, 0, .null), (1, .getfield 34, 3, 9, 0, 0, .null), (4, .getfield 54, 3, 8, 0, 0, .null), (7, .getfield 58, 3, 1, 1, 0, .null), (10, .aload_n 0, 1, 0, 0, 0, .null), (11, .getfield 9, 3, 9, 1, 0, .null), (14, .iload_n 1, 1, 0, 0, 0, .null), (15, .iaload, 1, 0, 0, 0, .null), (16, .iaload, 1, 0, 0, 0, .null), (17, .ireturn, 1, 0, 0, 0, .null)]
/-- java/lang/Integer.bitCount(I)I -/
def qx_c114 : List (Nat × Instr × Nat × Nat × Nat × Nat × Value) := [(0, .iload_n 0, 1, 0, 0, 0, .null), (1, .iload_n 0, 1, 0, 0, 0, .null), (2, .iconst 1, 1, 0, 0, 0, .null), (3, .iushr, 1, 0, 0, 0, .null), (4, .ldc_w 265, 3, 0, 0, 0, .int 1431655765), (7, .iand, 1, 0, 0, 0, .null), (8, .isub, 1, 0, 0, 0, .null), (9, .istore_n 0, 1, 0, 0, 0, .null), (10, .iload_n 0, 1, 0, 0, 0, .null), (11, .ldc_w 266, 3, 0, 0, 0, .int 858993459), (14, .iand, 1, 0, 0, 0, .null), (15, .iload_n 0, 1, 0, 0, 0, .null), (16, .iconst 2, 1, 0, 0, 0, .null), (17, .iushr, 1, 0, 0, 0, .null), (18, .ldc_w 266, 3, 0, 0, 0, .int 858993459), (21, .iand, 1, 0, 0, 0, .null), (22, .iadd, 1, 0, 0, 0, .null), (23, .istore_n 0, 1, 0, 0, 0, .null), (24, .iload_n 0, 1, 0, 0, 0, .null), (25, .iload_n 0, 1, 0, 0, 0, .null), (26, .iconst 4, 1, 0, 0, 0, .null), (27, .iushr, 1, 0, 0, 0, .null), (28, .iadd, 1, 0, 0, 0, .null), (29, .ldc_w 267, 3, 0, 0, 0, .int 252645135), (32, .iand, 1, 0, 0, 0, .null), (33, .istore_n 0, 1, 0, 0, 0, .null), (34, .iload_n 0, 1, 0, 0, 0, .null), (35, .iload_n 0, 1, 0, 0, 0, .null), (36, .bipush 8, 2, 0, 0, 0, .null), (38, .iushr, 1, 0, 0, 0, .null), (39, .iadd, 1, 0, 0, 0, .null), (40, .istore_n 0, 1, 0, 0, 0, .null), (41, .iload_n 0, 1, 0, 0, 0, .null), (42, .iload_n 0, 1, 0, 0, 0, .null), (43, .bipush 16, 2, 0, 0, 0, .null), (45, .iushr, 1, 0, 0, 0, .null), (46, .iadd, 1, 0, 0, 0, .null), (47, .istore_n 0, 1, 0, 0, 0, .null), (48, .iload_n 0, 1, 0, 0, 0, .null), (49, .bipush 63, 2, 0, 0, 0, .null), (51, .iand, 1, 0, 0, 0, .null), (52, .ireturn, 1, 0, 0, 0, .null)]
/-- OneRoof$Guests.asPeople(I)J -/
def qx_c115 : List (Nat × Instr × Nat × Nat × Nat × Nat × Value) := [(0, .lconst 0, 1, 0, 0, 0, .null), (1, .lstore_n 2, 1, 0, 0, 0, .null), (2, .iconst 0, 1, 0, 0, 0, .null), (3, .istore 4, 2, 0, 0, 0, .null), (5, .iload 4, 2, 0, 0, 0, .null), (7, .aload_n 0, 1, 0, 0, 0, .null), (8, .getfield 15, 3, 9, 2, 0, .null), (11, .if_icmp .ge 31, 3, 0, 0, 0, .null), (14, .iload_n 1, 1, 0, 0, 0, .null), (15, .i2l, 1, 0, 0, 0, .null), (16, .iload 4, 2, 0, 0, 0, .null), (18, .invokestatic 38, 3, 50, 2, 3, .null), (21, .ifCond .eq 15, 3, 0, 0, 0, .null), (24, .lload_n 2, 1, 0, 0, 0, .null), (25, .lconst 1, 1, 0, 0, 0, .null), (26, .aload_n 0, 1, 0, 0, 0, .null), (27, .getfield 9, 3, 9, 1, 0, .null), (30, .iload 4, 2, 0, 0, 0, .null), (32, .iaload, 1, 0, 0, 0, .null), (33, .lshl, 1, 0, 0, 0, .null), (34, .lor, 1, 0, 0, 0, .null), (35, .lstore_n 2, 1, 0, 0, 0, .null), (36, .iinc 4 1, 3, 0, 0, 0, .null), (39, .goto (-34), 3, 0, 0, 0, .null), (42, .lload_n 2, 1, 0, 0, 0, .null), (43, .lreturn, 1, 0, 0, 0, .null)]
/-- OneRoof.rooms(JII)J -/
def qx_c116 : List (Nat × Instr × Nat × Nat × Nat × Nat × Value) := [(0, .aload_n 0, 1, 0, 0, 0, .null), (1, .getfield 10, 3, 0, 0, 0, .null), (4, .lload_n 1, 1, 0, 0, 0, .null), (5, .invokevirtual 250, 3, 88, 1, 0, .ref 1), (8, .ifCond .eq 18, 3, 0, 0, 0, .null), (11, .iload_n 3, 1, 0, 0, 0, .null), (12, .invokestatic 265, 3, 99, 1, 2, .null), (15, .ifCond .eq 11, 3, 0, 0, 0, .null), (18, .iload 4, 2, 0, 0, 0, .null), (20, .invokestatic 169, 3, 41, 1, 2, .null), (23, .ifCond .ne 7, 3, 0, 0, 0, .null), (26, .ldc2_w 255, 3, 0, 0, 2, .long (-1)), (29, .lreturn, 1, 0, 0, 0, .null), (30, .lload_n 1, 1, 0, 0, 0, .null), (31, .aload_n 0, 1, 0, 0, 0, .null), (32, .getfield 10, 3, 0, 0, 0, .null), (35, .getfield 161, 3, 1, 5, 0, .null), (38, .ldc2_w 255, 3, 0, 0, 2, .long (-1)), (41, .lxor, 1, 0, 0, 0, .null), (42, .land, 1, 0, 0, 0, .null), (43, .lstore 5, 2, 0, 0, 0, .null), (45, .lload 5, 2, 0, 0, 0, .null), (47, .bipush 12, 2, 0, 0, 0, .null), (49, .invokestatic 278, 3, 108, 2, 2, .null), (52, .ifCond .ne 7, 3, 0, 0, 0, .null), (55, .ldc2_w 255, 3, 0, 0, 2, .long (-1)), (58, .lreturn, 1, 0, 0, 0, .null), (59, .aload_n 0, 1, 0, 0, 0, .null), (60, .getfield 81, 3, 0, 9, 0, .null), (63, .lload 5, 2, 0, 0, 0, .null), (65, .invokevirtual 281, 3, 109, 1, 0, .ref 9), (68, .aload_n 0, 1, 0, 0, 0, .null), (69, .getfield 81, 3, 0, 9, 0, .null), (72, .iload_n 3, 1, 0, 0, 0, .null), (73, .sipush 10000, 3, 0, 0, 0, .null), (76, .idiv, 1, 0, 0, 0, .null), (77, .iload_n 3, 1, 0, 0, 0, .null), (78, .sipush 10000, 3, 0, 0, 0, .null), (81, .irem, 1, 0, 0, 0, .null), (82, .invokevirtual 285, 3, 110, 2, 0, .ref 9), (85, .aload_n 0, 1, 0, 0, 0, .null), (86, .getfield 81, 3, 0, 9, 0, .null), (89, .iload 4, 2, 0, 0, 0, .null), (91, .invokevirtual 293, 3, 117, 1, 0, .ref 9), (94, .lreturn, 1, 0, 0, 0, .null)]
/-- OneRoof$Guests.twoRooms(I)J -/
def qx_c117_0 : List (Nat × Instr × Nat × Nat × Nat × Nat × Value) := [(0, .aload_n 0, 1, 0, 0, 0, .null), (1, .invokevirtual 81, 3, 118, 0, 0, .ref 9), (4, .iconst 1, 1, 0, 0, 0, .null), (5, .aload_n 0, 1, 0, 0, 0, .null), (6, .getfield 15, 3, 9, 2, 0, .null), (9, .ishl, 1, 0, 0, 0, .null), (10, .iconst 1, 1, 0, 0, 0, .null), (11, .isub, 1, 0, 0, 0, .null), (12, .istore_n 2, 1, 0, 0, 0, .null), (13, .iconst 0, 1, 0, 0, 0, .null), (14, .istore_n 3, 1, 0, 0, 0, .null), (15, .iconst (-1), 1, 0, 0, 0, .null), (16, .istore 4, 2, 0, 0, 0, .null), (18, .iconst (-1), 1, 0, 0, 0, .null), (19, .istore 5, 2, 0, 0, 0, .null), (21, .iconst 0, 1, 0, 0, 0, .null), (22, .istore 6, 2, 0, 0, 0, .null), (24, .iload 6, 2, 0, 0, 0, .null), (26, .iload_n 2, 1, 0, 0, 0, .null), (27, .if_icmp .gt 76, 3, 0, 0, 0, .null), (30, .aload_n 0, 1, 0, 0, 0, .null), (31, .iload 6, 2, 0, 0, 0, .null), (33, .invokevirtual 67, 3, 112, 1, 0, .ref 9), (36, .istore 7, 2, 0, 0, 0, .null), (38, .iload 7, 2, 0, 0, 0, .null), (40, .ifCond .ge 6, 3, 0, 0, 0, .null), (43, .goto 54, 3, 0, 0, 0, .null), (46, .iload 7, 2, 0, 0, 0, .null), (48, .aload_n 0, 1, 0, 0, 0, .null), (49, .getfield 22, 3, 9, 4, 0, .null), (52, .iload_n 2, 1, 0, 0, 0, .null), (53, .iload 6, 2, 0, 0, 0, .null), (55, .iconst (-1), 1, 0, 0, 0, .null), (56, .ixor, 1, 0, 0, 0, .null), (57, .iand, 1, 0, 0, 0, .null), (58, .iaload, 1, 0, 0, 0, .null), (59, .iadd, 1, 0, 0, 0, .null), (60, .istore 8, 2, 0, 0, 0, .null), (62, .iload 8, 2, 0, 0, 0, .null), (64, .iload 4, 2, 0, 0, 0, .null), (66, .if_icmp .lt 31, 3, 0, 0, 0, .null), (69, .iload 8, 2, 0, 0, 0, .null), (71, .iload 4, 2, 0, 0, 0, .null), (73, .if_icmp .ne 13, 3, 0, 0, 0, .null), (76, .iload 7, 2, 0, 0, 0, .null), (78, .iload 5, 2, 0, 0, 0, .null), (80, .if_icmp .gt 6, 3, 0, 0, 0, .null), (83, .goto 14, 3, 0, 0, 0, .null), (86, .iload 6, 2, 0, 0, 0, .null), (88, .istore_n 3, 1, 0, 0, 0, .null)]
def qx_c117_1 : List (Nat × Instr × Nat × Nat × Nat × Nat × Value) := [(89, .iload 8, 2, 0, 0, 0, .null), (91, .istore 4, 2, 0, 0, 0, .null), (93, .iload 7, 2, 0, 0, 0, .null), (95, .istore 5, 2, 0, 0, 0, .null), (97, .iinc 6 1, 3, 0, 0, 0, .null), (100, .goto (-76), 3, 0, 0, 0, .null), (103, .iload_n 1, 1, 0, 0, 0, .null), (104, .ifCond .ne 9, 3, 0, 0, 0, .null), (107, .iload 4, 2, 0, 0, 0, .null), (109, .i2l, 1, 0, 0, 0, .null), (110, .goto 8, 3, 0, 0, 0, .null), (113, .aload_n 0, 1, 0, 0, 0, .null), (114, .iload_n 3, 1, 0, 0, 0, .null), (115, .invokevirtual 77, 3, 115, 1, 0, .ref 9), (118, .lreturn, 1, 0, 0, 0, .null)]
def qx_c117 : List (Nat × Instr × Nat × Nat × Nat × Nat × Value) := qx_c117_0 ++ (qx_c117_1)
/-- OneRoof$Guests.fillHeaviestWithin()V -/
def qx_c118 : List (Nat × Instr × Nat × Nat × Nat × Nat × Value) := [(0, .aload_n 0, 1, 0, 0, 0, .null), (1, .getfield 22, 3, 9, 4, 0, .null), (4, .iconst 0, 1, 0, 0, 0, .null), (5, .iconst 0, 1, 0, 0, 0, .null), (6, .iastore, 1, 0, 0, 0, .null), (7, .iconst 1, 1, 0, 0, 0, .null), (8, .istore_n 1, 1, 0, 0, 0, .null), (9, .iload_n 1, 1, 0, 0, 0, .null), (10, .iconst 1, 1, 0, 0, 0, .null), (11, .aload_n 0, 1, 0, 0, 0, .null), (12, .getfield 15, 3, 9, 2, 0, .null), (15, .ishl, 1, 0, 0, 0, .null), (16, .if_icmp .ge 56, 3, 0, 0, 0, .null), (19, .iload_n 1, 1, 0, 0, 0, .null), (20, .invokestatic 84, 3, 83, 1, 2, .null), (23, .istore_n 2, 1, 0, 0, 0, .null), (24, .iload_n 1, 1, 0, 0, 0, .null), (25, .iload_n 1, 1, 0, 0, 0, .null), (26, .iconst 1, 1, 0, 0, 0, .null), (27, .isub, 1, 0, 0, 0, .null), (28, .iand, 1, 0, 0, 0, .null), (29, .istore_n 3, 1, 0, 0, 0, .null), (30, .aload_n 0, 1, 0, 0, 0, .null), (31, .getfield 22, 3, 9, 4, 0, .null), (34, .iload_n 1, 1, 0, 0, 0, .null), (35, .aload_n 0, 1, 0, 0, 0, .null), (36, .getfield 22, 3, 9, 4, 0, .null), (39, .iload_n 3, 1, 0, 0, 0, .null), (40, .iaload, 1, 0, 0, 0, .null), (41, .aload_n 0, 1, 0, 0, 0, .null), (42, .iload_n 2, 1, 0, 0, 0, .null), (43, .invokevirtual 63, 3, 113, 1, 0, .ref 9), (46, .aload_n 0, 1, 0, 0, 0, .null), (47, .getfield 22, 3, 9, 4, 0, .null), (50, .iload_n 3, 1, 0, 0, 0, .null), (51, .aload_n 0, 1, 0, 0, 0, .null), (52, .getfield 19, 3, 9, 3, 0, .null), (55, .iload_n 2, 1, 0, 0, 0, .null), (56, .iaload, 1, 0, 0, 0, .null), (57, .iconst (-1), 1, 0, 0, 0, .null), (58, .ixor, 1, 0, 0, 0, .null), (59, .iand, 1, 0, 0, 0, .null), (60, .iaload, 1, 0, 0, 0, .null), (61, .iadd, 1, 0, 0, 0, .null), (62, .invokestatic 87, 3, 30, 2, 2, .null), (65, .iastore, 1, 0, 0, 0, .null), (66, .iinc 1 1, 3, 0, 0, 0, .null), (69, .goto (-60), 3, 0, 0, 0, .null), (72, .return_, 1, 0, 0, 0, .null)]
/-- OneRoof.buy(JII)J -/
def qx_c119 : List (Nat × Instr × Nat × Nat × Nat × Nat × Value) := [(0, .aload_n 0, 1, 0, 0, 0, .null), (1, .getfield 10, 3, 0, 0, 0, .null), (4, .lload_n 1, 1, 0, 0, 0, .null), (5, .invokevirtual 250, 3, 88, 1, 0, .ref 1), (8, .ifCond .eq 18, 3, 0, 0, 0, .null), (11, .iload_n 3, 1, 0, 0, 0, .null), (12, .invokestatic 265, 3, 99, 1, 2, .null), (15, .ifCond .eq 11, 3, 0, 0, 0, .null), (18, .iload 4, 2, 0, 0, 0, .null), (20, .invokestatic 169, 3, 41, 1, 2, .null), (23, .ifCond .ne 7, 3, 0, 0, 0, .null), (26, .ldc2_w 255, 3, 0, 0, 2, .long (-1)), (29, .lreturn, 1, 0, 0, 0, .null), (30, .lload_n 1, 1, 0, 0, 0, .null), (31, .aload_n 0, 1, 0, 0, 0, .null), (32, .getfield 10, 3, 0, 0, 0, .null), (35, .getfield 161, 3, 1, 5, 0, .null), (38, .ldc2_w 255, 3, 0, 0, 2, .long (-1)), (41, .lxor, 1, 0, 0, 0, .null), (42, .land, 1, 0, 0, 0, .null), (43, .lstore 5, 2, 0, 0, 0, .null), (45, .lload 5, 2, 0, 0, 0, .null), (47, .bipush 12, 2, 0, 0, 0, .null), (49, .invokestatic 278, 3, 108, 2, 2, .null), (52, .ifCond .ne 7, 3, 0, 0, 0, .null), (55, .ldc2_w 255, 3, 0, 0, 2, .long (-1)), (58, .lreturn, 1, 0, 0, 0, .null), (59, .aload_n 0, 1, 0, 0, 0, .null), (60, .getfield 81, 3, 0, 9, 0, .null), (63, .lload 5, 2, 0, 0, 0, .null), (65, .invokevirtual 281, 3, 109, 1, 0, .ref 9), (68, .aload_n 0, 1, 0, 0, 0, .null), (69, .getfield 81, 3, 0, 9, 0, .null), (72, .iload_n 3, 1, 0, 0, 0, .null), (73, .sipush 10000, 3, 0, 0, 0, .null), (76, .idiv, 1, 0, 0, 0, .null), (77, .iload_n 3, 1, 0, 0, 0, .null), (78, .sipush 10000, 3, 0, 0, 0, .null), (81, .irem, 1, 0, 0, 0, .null), (82, .iload 4, 2, 0, 0, 0, .null), (84, .invokevirtual 297, 3, 120, 3, 0, .ref 9), (87, .lreturn, 1, 0, 0, 0, .null)]
/-- OneRoof$Guests.payOff(III)J -/
def qx_c120 : List (Nat × Instr × Nat × Nat × Nat × Nat × Value) := [(0, .aload_n 0, 1, 0, 0, 0, .null), (1, .getfield 34, 3, 9, 0, 0, .null), (4, .getfield 93, 3, 8, 2, 0, .null), (7, .astore 4, 2, 0, 0, 0, .null), (9, .aload 4, 2, 0, 0, 0, .null), (11, .iload_n 1, 1, 0, 0, 0, .null), (12, .bipush 10, 2, 0, 0, 0, .null), (14, .invokevirtual 97, 3, 121, 2, 0, .ref 3), (17, .lstore 5, 2, 0, 0, 0, .null), (19, .lconst 0, 1, 0, 0, 0, .null), (20, .lstore 7, 2, 0, 0, 0, .null), (22, .iconst 0, 1, 0, 0, 0, .null), (23, .istore 9, 2, 0, 0, 0, .null), (25, .iload 9, 2, 0, 0, 0, .null), (27, .bipush 10, 2, 0, 0, 0, .null), (29, .if_icmp .gt 80, 3, 0, 0, 0, .null), (32, .aload 4, 2, 0, 0, 0, .null), (34, .lload 7, 2, 0, 0, 0, .null), (36, .putfield 103, 3, 3, 6, 0, .null), (39, .aload_n 0, 1, 0, 0, 0, .null), (40, .iload_n 1, 1, 0, 0, 0, .null), (41, .iload_n 2, 1, 0, 0, 0, .null), (42, .invokevirtual 107, 3, 122, 2, 0, .ref 9), (45, .lstore 10, 2, 0, 0, 0, .null), (47, .aload 4, 2, 0, 0, 0, .null), (49, .lconst 0, 1, 0, 0, 0, .null), (50, .putfield 103, 3, 3, 6, 0, .null), (53, .lload 10, 2, 0, 0, 0, .null), (55, .lconst 0, 1, 0, 0, 0, .null), (56, .lcmp, 1, 0, 0, 0, .null), (57, .ifCond .ne 21, 3, 0, 0, 0, .null), (60, .iload_n 3, 1, 0, 0, 0, .null), (61, .ifCond .ne 14, 3, 0, 0, 0, .null), (64, .aload 4, 2, 0, 0, 0, .null), (66, .lload 7, 2, 0, 0, 0, .null), (68, .invokevirtual 110, 3, 124, 1, 0, .ref 3), (71, .i2l, 1, 0, 0, 0, .null), (72, .goto 5, 3, 0, 0, 0, .null), (75, .lload 7, 2, 0, 0, 0, .null), (77, .lreturn, 1, 0, 0, 0, .null), (78, .lload 10, 2, 0, 0, 0, .null), (80, .lload 5, 2, 0, 0, 0, .null), (82, .ldc2_w 114, 3, 0, 0, 2, .long (-1)), (85, .lxor, 1, 0, 0, 0, .null), (86, .land, 1, 0, 0, 0, .null), (87, .lconst 0, 1, 0, 0, 0, .null), (88, .lcmp, 1, 0, 0, 0, .null), (89, .ifCond .eq 7, 3, 0, 0, 0, .null), (92, .ldc2_w 75, 3, 0, 0, 2, .long (-2)), (95, .lreturn, 1, 0, 0, 0, .null), (96, .lload 7, 2, 0, 0, 0, .null), (98, .lload 10, 2, 0, 0, 0, .null), (100, .lor, 1, 0, 0, 0, .null), (101, .lstore 7, 2, 0, 0, 0, .null), (103, .iinc 9 1, 3, 0, 0, 0, .null), (106, .goto (-81), 3, 0, 0, 0, .null), (109, .ldc2_w 75, 3, 0, 0, 2, .long (-2)), (112, .lreturn, 1, 0, 0, 0, .null)]
/-- OneRoof$Feuds.firstOpen(II)J -/
def qx_c121 : List (Nat × Instr × Nat × Nat × Nat × Nat × Value) := [(0, .lconst 0, 1, 0, 0, 0, .null), (1, .lstore_n 3, 1, 0, 0, 0, .null), (2, .iconst 0, 1, 0, 0, 0, .null), (3, .istore 5, 2, 0, 0, 0, .null), (5, .iload 5, 2, 0, 0, 0, .null), (7, .aload_n 0, 1, 0, 0, 0, .null), (8, .getfield 34, 3, 3, 7, 0, .null), (11, .if_icmp .ge 35, 3, 0, 0, 0, .null), (14, .lload_n 3, 1, 0, 0, 0, .null), (15, .invokestatic 62, 3, 74, 1, 2, .null), (18, .iload_n 2, 1, 0, 0, 0, .null), (19, .if_icmp .ge 27, 3, 0, 0, 0, .null), (22, .aload_n 0, 1, 0, 0, 0, .null), (23, .getfield 27, 3, 3, 5, 0, .null), (26, .iload 5, 2, 0, 0, 0, .null), (28, .iaload, 1, 0, 0, 0, .null), (29, .iload_n 1, 1, 0, 0, 0, .null), (30, .if_icmp .le 10, 3, 0, 0, 0, .null), (33, .lload_n 3, 1, 0, 0, 0, .null), (34, .lconst 1, 1, 0, 0, 0, .null), (35, .iload 5, 2, 0, 0, 0, .null), (37, .lshl, 1, 0, 0, 0, .null), (38, .lor, 1, 0, 0, 0, .null), (39, .lstore_n 3, 1, 0, 0, 0, .null), (40, .iinc 5 1, 3, 0, 0, 0, .null), (43, .goto (-38), 3, 0, 0, 0, .null), (46, .lload_n 3, 1, 0, 0, 0, .null), (47, .lreturn, 1, 0, 0, 0, .null)]
/-- OneRoof$Guests.pressingFeuds(II)J -/
def qx_c122_0 : List (Nat × Instr × Nat × Nat × Nat × Nat × Value) := [(0, .iload_n 1, 1, 0, 0, 0, .null), (1, .istore_n 3, 1, 0, 0, 0, .null), (2, .iload_n 3, 1, 0, 0, 0, .null), (3, .iload_n 2, 1, 0, 0, 0, .null), (4, .if_icmp .gt 136, 3, 0, 0, 0, .null), (7, .iload_n 3, 1, 0, 0, 0, .null), (8, .iload_n 1, 1, 0, 0, 0, .null), (9, .if_icmp .le 17, 3, 0, 0, 0, .null), (12, .aload_n 0, 1, 0, 0, 0, .null), (13, .getfield 34, 3, 9, 0, 0, .null), (16, .iload_n 3, 1, 0, 0, 0, .null), (17, .invokevirtual 116, 3, 100, 1, 0, .ref 8), (20, .ifCond .ne 6, 3, 0, 0, 0, .null), (23, .goto 111, 3, 0, 0, 0, .null), (26, .aload_n 0, 1, 0, 0, 0, .null), (27, .getfield 34, 3, 9, 0, 0, .null), (30, .iload_n 3, 1, 0, 0, 0, .null), (31, .invokevirtual 120, 3, 89, 1, 0, .ref 8), (34, .iconst 0, 1, 0, 0, 0, .null), (35, .istore 4, 2, 0, 0, 0, .null), (37, .iload 4, 2, 0, 0, 0, .null), (39, .aload_n 0, 1, 0, 0, 0, .null), (40, .getfield 15, 3, 9, 2, 0, .null), (43, .if_icmp .ge 91, 3, 0, 0, 0, .null), (46, .iconst 0, 1, 0, 0, 0, .null), (47, .istore 5, 2, 0, 0, 0, .null), (49, .iload 5, 2, 0, 0, 0, .null), (51, .aload_n 0, 1, 0, 0, 0, .null), (52, .getfield 15, 3, 9, 2, 0, .null), (55, .if_icmp .ge 73, 3, 0, 0, 0, .null), (58, .iload 4, 2, 0, 0, 0, .null), (60, .iload 5, 2, 0, 0, 0, .null), (62, .if_icmp .eq 60, 3, 0, 0, 0, .null), (65, .aload_n 0, 1, 0, 0, 0, .null), (66, .getfield 34, 3, 9, 0, 0, .null), (69, .aload_n 0, 1, 0, 0, 0, .null), (70, .getfield 9, 3, 9, 1, 0, .null), (73, .iload 4, 2, 0, 0, 0, .null), (75, .iaload, 1, 0, 0, 0, .null), (76, .aload_n 0, 1, 0, 0, 0, .null), (77, .getfield 9, 3, 9, 1, 0, .null), (80, .iload 5, 2, 0, 0, 0, .null), (82, .iaload, 1, 0, 0, 0, .null), (83, .invokevirtual 124, 3, 106, 2, 0, .ref 8), (86, .ifCond .eq 36, 3, 0, 0, 0, .null), (89, .aload_n 0, 1, 0, 0, 0, .null), (90, .getfield 34, 3, 9, 0, 0, .null), (93, .getfield 93, 3, 8, 2, 0, .null), (96, .aload_n 0, 1, 0, 0, 0, .null), (97, .getfield 9, 3, 9, 1, 0, .null)]
def qx_c122_1 : List (Nat × Instr × Nat × Nat × Nat × Nat × Value) := [(100, .iload 4, 2, 0, 0, 0, .null), (102, .iaload, 1, 0, 0, 0, .null), (103, .aload_n 0, 1, 0, 0, 0, .null), (104, .getfield 9, 3, 9, 1, 0, .null), (107, .iload 5, 2, 0, 0, 0, .null), (109, .iaload, 1, 0, 0, 0, .null), (110, .iload_n 3, 1, 0, 0, 0, .null), (111, .aload_n 0, 1, 0, 0, 0, .null), (112, .getfield 34, 3, 9, 0, 0, .null), (115, .getfield 128, 3, 8, 1, 0, .null), (118, .invokevirtual 132, 3, 123, 4, 0, .ref 3), (121, .lreturn, 1, 0, 0, 0, .null), (122, .iinc 5 1, 3, 0, 0, 0, .null), (125, .goto (-76), 3, 0, 0, 0, .null), (128, .iinc 4 1, 3, 0, 0, 0, .null), (131, .goto (-94), 3, 0, 0, 0, .null), (134, .iinc 3 1, 3, 0, 0, 0, .null), (137, .goto (-135), 3, 0, 0, 0, .null), (140, .lconst 0, 1, 0, 0, 0, .null), (141, .lreturn, 1, 0, 0, 0, .null)]
def qx_c122 : List (Nat × Instr × Nat × Nat × Nat × Nat × Value) := qx_c122_0 ++ (qx_c122_1)
/-- OneRoof$Feuds.nearestOnes(IIILOneRoof$Kinship;)J -/
def qx_c123 : List (Nat × Instr × Nat × Nat × Nat × Nat × Value) := [(0, .aload_n 0, 1, 0, 0, 0, .null), (1, .iload_n 1, 1, 0, 0, 0, .null), (2, .iload_n 2, 1, 0, 0, 0, .null), (3, .iload_n 3, 1, 0, 0, 0, .null), (4, .aload 4, 2, 0, 0, 0, .null), (6, .invokevirtual 57, 3, 66, 4, 0, .ref 3), (9, .bipush 64, 2, 0, 0, 0, .null), (11, .idiv, 1, 0, 0, 0, .null), (12, .istore 5, 2, 0, 0, 0, .null), (14, .lconst 0, 1, 0, 0, 0, .null), (15, .lstore 6, 2, 0, 0, 0, .null), (17, .iconst 0, 1, 0, 0, 0, .null), (18, .istore 8, 2, 0, 0, 0, .null), (20, .iload 8, 2, 0, 0, 0, .null), (22, .aload_n 0, 1, 0, 0, 0, .null), (23, .getfield 34, 3, 3, 7, 0, .null), (26, .if_icmp .ge 43, 3, 0, 0, 0, .null), (29, .aload_n 0, 1, 0, 0, 0, .null), (30, .iload 8, 2, 0, 0, 0, .null), (32, .iload_n 3, 1, 0, 0, 0, .null), (33, .invokevirtual 43, 3, 67, 2, 0, .ref 3), (36, .ifCond .eq 27, 3, 0, 0, 0, .null), (39, .aload_n 0, 1, 0, 0, 0, .null), (40, .iload 8, 2, 0, 0, 0, .null), (42, .iload_n 1, 1, 0, 0, 0, .null), (43, .iload_n 2, 1, 0, 0, 0, .null), (44, .aload 4, 2, 0, 0, 0, .null), (46, .invokevirtual 47, 3, 68, 4, 0, .ref 3), (49, .iload 5, 2, 0, 0, 0, .null), (51, .if_icmp .ne 12, 3, 0, 0, 0, .null), (54, .lload 6, 2, 0, 0, 0, .null), (56, .lconst 1, 1, 0, 0, 0, .null), (57, .iload 8, 2, 0, 0, 0, .null), (59, .lshl, 1, 0, 0, 0, .null), (60, .lor, 1, 0, 0, 0, .null), (61, .lstore 6, 2, 0, 0, 0, .null), (63, .iinc 8 1, 3, 0, 0, 0, .null), (66, .goto (-46), 3, 0, 0, 0, .null), (69, .iload 5, 2, 0, 0, 0, .null), (71, .bipush 9, 2, 0, 0, 0, .null), (73, .if_icmp .ge 8, 3, 0, 0, 0, .null), (76, .lload 6, 2, 0, 0, 0, .null), (78, .goto 6, 3, 0, 0, 0, .null), (81, .ldc2_w 60, 3, 0, 0, 2, .long (-1)), (84, .lreturn, 1, 0, 0, 0, .null)]
/-- OneRoof$Feuds.priceOf(J)I -/
def qx_c124 : List (Nat × Instr × Nat × Nat × Nat × Nat × Value) := [(0, .iconst 0, 1, 0, 0, 0, .null), (1, .istore_n 3, 1, 0, 0, 0, .null), (2, .iconst 0, 1, 0, 0, 0, .null), (3, .istore 4, 2, 0, 0, 0, .null), (5, .iload 4, 2, 0, 0, 0, .null), (7, .aload_n 0, 1, 0, 0, 0, .null), (8, .getfield 34, 3, 3, 7, 0, .null), (11, .if_icmp .ge 28, 3, 0, 0, 0, .null), (14, .lload_n 1, 1, 0, 0, 0, .null), (15, .iload 4, 2, 0, 0, 0, .null), (17, .invokestatic 68, 3, 50, 2, 3, .null), (20, .ifCond .eq 13, 3, 0, 0, 0, .null), (23, .iload_n 3, 1, 0, 0, 0, .null), (24, .aload_n 0, 1, 0, 0, 0, .null), (25, .getfield 24, 3, 3, 4, 0, .null), (28, .iload 4, 2, 0, 0, 0, .null), (30, .iaload, 1, 0, 0, 0, .null), (31, .iadd, 1, 0, 0, 0, .null), (32, .istore_n 3, 1, 0, 0, 0, .null), (33, .iinc 4 1, 3, 0, 0, 0, .null), (36, .goto (-31), 3, 0, 0, 0, .null), (39, .iload_n 3, 1, 0, 0, 0, .null), (40, .ireturn, 1, 0, 0, 0, .null)]
/-- OneRoof.road(II)I -/
def qx_c125 : List (Nat × Instr × Nat × Nat × Nat × Nat × Value) := [(0, .aload_n 0, 1, 0, 0, 0, .null), (1, .getfield 10, 3, 0, 0, 0, .null), (4, .iload_n 1, 1, 0, 0, 0, .null), (5, .invokevirtual 151, 3, 40, 1, 0, .ref 1), (8, .ifCond .eq 12, 3, 0, 0, 0, .null), (11, .iload_n 2, 1, 0, 0, 0, .null), (12, .ifCond .lt 8, 3, 0, 0, 0, .null), (15, .iload_n 2, 1, 0, 0, 0, .null), (16, .iconst 3, 1, 0, 0, 0, .null), (17, .if_icmp .le 5, 3, 0, 0, 0, .null), (20, .iconst (-1), 1, 0, 0, 0, .null), (21, .ireturn, 1, 0, 0, 0, .null), (22, .aload_n 0, 1, 0, 0, 0, .null), (23, .getfield 10, 3, 0, 0, 0, .null), (26, .getfield 301, 3, 1, 3, 0, .null), (29, .iload_n 1, 1, 0, 0, 0, .null), (30, .iaload, 1, 0, 0, 0, .null), (31, .istore_n 3, 1, 0, 0, 0, .null), (32, .aload_n 0, 1, 0, 0, 0, .null), (33, .getfield 10, 3, 0, 0, 0, .null), (36, .getfield 301, 3, 1, 3, 0, .null), (39, .iload_n 1, 1, 0, 0, 0, .null), (40, .iload_n 2, 1, 0, 0, 0, .null), (41, .iastore, 1, 0, 0, 0, .null), (42, .iload_n 3, 1, 0, 0, 0, .null), (43, .ireturn, 1, 0, 0, 0, .null)]
/-- OneRoof.leave(JII)I -/
def qx_c126 : List (Nat × Instr × Nat × Nat × Nat × Nat × Value) := [(0, .aload_n 0, 1, 0, 0, 0, .null), (1, .getfield 10, 3, 0, 0, 0, .null), (4, .lload_n 1, 1, 0, 0, 0, .null), (5, .invokevirtual 250, 3, 88, 1, 0, .ref 1), (8, .ifCond .eq 25, 3, 0, 0, 0, .null), (11, .iload_n 3, 1, 0, 0, 0, .null), (12, .invokestatic 187, 3, 62, 1, 2, .null), (15, .ifCond .eq 18, 3, 0, 0, 0, .null), (18, .iload 4, 2, 0, 0, 0, .null), (20, .bipush 100, 2, 0, 0, 0, .null), (22, .if_icmp .lt 11, 3, 0, 0, 0, .null), (25, .iload 4, 2, 0, 0, 0, .null), (27, .sipush 2499, 3, 0, 0, 0, .null), (30, .if_icmp .le 5, 3, 0, 0, 0, .null), (33, .iconst (-1), 1, 0, 0, 0, .null), (34, .ireturn, 1, 0, 0, 0, .null), (35, .lload_n 1, 1, 0, 0, 0, .null), (36, .aload_n 0, 1, 0, 0, 0, .null), (37, .getfield 10, 3, 0, 0, 0, .null), (40, .getfield 161, 3, 1, 5, 0, .null), (43, .ldc2_w 255, 3, 0, 0, 2, .long (-1)), (46, .lxor, 1, 0, 0, 0, .null), (47, .land, 1, 0, 0, 0, .null), (48, .lstore 5, 2, 0, 0, 0, .null), (50, .lload 5, 2, 0, 0, 0, .null), (52, .bipush 6, 2, 0, 0, 0, .null), (54, .invokestatic 278, 3, 108, 2, 2, .null), (57, .ifCond .ne 5, 3, 0, 0, 0, .null), (60, .iconst (-1), 1, 0, 0, 0, .null), (61, .ireturn, 1, 0, 0, 0, .null), (62, .aload_n 0, 1, 0, 0, 0, .null), (63, .getfield 81, 3, 0, 9, 0, .null), (66, .lload 5, 2, 0, 0, 0, .null), (68, .invokevirtual 281, 3, 109, 1, 0, .ref 9), (71, .aload_n 0, 1, 0, 0, 0, .null), (72, .getfield 81, 3, 0, 9, 0, .null), (75, .iload_n 3, 1, 0, 0, 0, .null), (76, .iload 4, 2, 0, 0, 0, .null), (78, .bipush 100, 2, 0, 0, 0, .null), (80, .idiv, 1, 0, 0, 0, .null), (81, .iload 4, 2, 0, 0, 0, .null), (83, .bipush 100, 2, 0, 0, 0, .null), (85, .irem, 1, 0, 0, 0, .null), (86, .invokevirtual 304, 3, 127, 3, 0, .ref 9), (89, .aload_n 0, 1, 0, 0, 0, .null), (90, .getfield 81, 3, 0, 9, 0, .null), (93, .invokevirtual 307, 3, 129, 0, 0, .ref 9), (96, .ireturn, 1, 0, 0, 0, .null)]
/-- OneRoof$Guests.learnMeetings(III)V -/
def qx_c127_0 : List (Nat × Instr × Nat × Nat × Nat × Nat × Value) := [(0, .aload_n 0, 1, 0, 0, 0, .null), (1, .iload_n 2, 1, 0, 0, 0, .null), (2, .iconst 1, 1, 0, 0, 0, .null), (3, .if_icmp .ge 7, 3, 0, 0, 0, .null), (6, .iconst 0, 1, 0, 0, 0, .null), (7, .goto 6, 3, 0, 0, 0, .null), (10, .iload_n 3, 1, 0, 0, 0, .null), (11, .iload_n 2, 1, 0, 0, 0, .null), (12, .idiv, 1, 0, 0, 0, .null), (13, .putfield 31, 3, 9, 7, 0, .null), (16, .aload_n 0, 1, 0, 0, 0, .null), (17, .getfield 25, 3, 9, 5, 0, .null), (20, .iconst 0, 1, 0, 0, 0, .null), (21, .invokestatic 42, 3, 4, 2, 2, .null), (24, .iconst 0, 1, 0, 0, 0, .null), (25, .istore 4, 2, 0, 0, 0, .null), (27, .iload 4, 2, 0, 0, 0, .null), (29, .aload_n 0, 1, 0, 0, 0, .null), (30, .getfield 15, 3, 9, 2, 0, .null), (33, .if_icmp .ge 106, 3, 0, 0, 0, .null), (36, .aload_n 0, 1, 0, 0, 0, .null), (37, .getfield 34, 3, 9, 0, 0, .null), (40, .iload_n 1, 1, 0, 0, 0, .null), (41, .iload 4, 2, 0, 0, 0, .null), (43, .iload_n 2, 1, 0, 0, 0, .null), (44, .imul, 1, 0, 0, 0, .null), (45, .iadd, 1, 0, 0, 0, .null), (46, .invokevirtual 120, 3, 89, 1, 0, .ref 8), (49, .iconst 0, 1, 0, 0, 0, .null), (50, .istore 5, 2, 0, 0, 0, .null), (52, .iload 5, 2, 0, 0, 0, .null), (54, .aload_n 0, 1, 0, 0, 0, .null), (55, .getfield 15, 3, 9, 2, 0, .null), (58, .if_icmp .ge 75, 3, 0, 0, 0, .null), (61, .iconst 0, 1, 0, 0, 0, .null), (62, .istore 6, 2, 0, 0, 0, .null), (64, .iload 6, 2, 0, 0, 0, .null), (66, .aload_n 0, 1, 0, 0, 0, .null), (67, .getfield 15, 3, 9, 2, 0, .null), (70, .if_icmp .ge 57, 3, 0, 0, 0, .null), (73, .iload 5, 2, 0, 0, 0, .null), (75, .iload 6, 2, 0, 0, 0, .null), (77, .if_icmp .eq 44, 3, 0, 0, 0, .null), (80, .aload_n 0, 1, 0, 0, 0, .null), (81, .aload_n 0, 1, 0, 0, 0, .null), (82, .getfield 9, 3, 9, 1, 0, .null), (85, .iload 5, 2, 0, 0, 0, .null), (87, .iaload, 1, 0, 0, 0, .null), (88, .aload_n 0, 1, 0, 0, 0, .null), (89, .getfield 9, 3, 9, 1, 0, .null)]
def qx_c127_1 : List (Nat × Instr × Nat × Nat × Nat × Nat × Value) := [(92, .iload 6, 2, 0, 0, 0, .null), (94, .iaload, 1, 0, 0, 0, .null), (95, .invokevirtual 136, 3, 128, 2, 0, .ref 9), (98, .ifCond .eq 23, 3, 0, 0, 0, .null), (101, .aload_n 0, 1, 0, 0, 0, .null), (102, .getfield 25, 3, 9, 5, 0, .null), (105, .iload 4, 2, 0, 0, 0, .null), (107, .bipush 6, 2, 0, 0, 0, .null), (109, .imul, 1, 0, 0, 0, .null), (110, .iload 5, 2, 0, 0, 0, .null), (112, .iadd, 1, 0, 0, 0, .null), (113, .dup2, 1, 0, 0, 0, .null), (114, .iaload, 1, 0, 0, 0, .null), (115, .iconst 1, 1, 0, 0, 0, .null), (116, .iload 6, 2, 0, 0, 0, .null), (118, .ishl, 1, 0, 0, 0, .null), (119, .ior, 1, 0, 0, 0, .null), (120, .iastore, 1, 0, 0, 0, .null), (121, .iinc 6 1, 3, 0, 0, 0, .null), (124, .goto (-60), 3, 0, 0, 0, .null), (127, .iinc 5 1, 3, 0, 0, 0, .null), (130, .goto (-78), 3, 0, 0, 0, .null), (133, .iinc 4 1, 3, 0, 0, 0, .null), (136, .goto (-109), 3, 0, 0, 0, .null), (139, .return_, 1, 0, 0, 0, .null)]
def qx_c127 : List (Nat × Instr × Nat × Nat × Nat × Nat × Value) := qx_c127_0 ++ (qx_c127_1)
/-- OneRoof$Guests.clash(II)Z -/
def qx_c128 : List (Nat × Instr × Nat × Nat × Nat × Nat × Value) := [(0, .aload_n 0, 1, 0, 0, 0, .null), (1, .getfield 34, 3, 9, 0, 0, .null), (4, .getfield 54, 3, 8, 0, 0, .null), (7, .getfield 139, 3, 1, 3, 0, .null), (10, .iload_n 1, 1, 0, 0, 0, .null), (11, .iaload, 1, 0, 0, 0, .null), (12, .aload_n 0, 1, 0, 0, 0, .null), (13, .getfield 34, 3, 9, 0, 0, .null), (16, .getfield 54, 3, 8, 0, 0, .null), (19, .getfield 139, 3, 1, 3, 0, .null), (22, .iload_n 2, 1, 0, 0, 0, .null), (23, .iaload, 1, 0, 0, 0, .null), (24, .if_icmp .ne 36, 3, 0, 0, 0, .null), (27, .aload_n 0, 1, 0, 0, 0, .null), (28, .getfield 34, 3, 9, 0, 0, .null), (31, .iload_n 1, 1, 0, 0, 0, .null), (32, .iload_n 2, 1, 0, 0, 0, .null), (33, .invokevirtual 142, 3, 92, 2, 0, .ref 8), (36, .sipush 576, 3, 0, 0, 0, .null), (39, .if_icmp .ge 21, 3, 0, 0, 0, .null), (42, .aload_n 0, 1, 0, 0, 0, .null), (43, .getfield 34, 3, 9, 0, 0, .null), (46, .iload_n 1, 1, 0, 0, 0, .null), (47, .iload_n 2, 1, 0, 0, 0, .null), (48, .invokevirtual 145, 3, 94, 2, 0, .ref 8), (51, .lconst 0, 1, 0, 0, 0, .null), (52, .lcmp, 1, 0, 0, 0, .null), (53, .ifCond .ne 7, 3, 0, 0, 0, .null), (56, .iconst 1, 1, 0, 0, 0, .null), (57, .goto 4, 3, 0, 0, 0, .null), (60, .iconst 0, 1, 0, 0, 0, .null), (61, .ireturn, 1, 0, 0, 0, .null)]
/-- OneRoof$Guests.firstOrder()I -/
def qx_c129 : List (Nat × Instr × Nat × Nat × Nat × Nat × Value) := [(0, .aload_n 0, 1, 0, 0, 0, .null), (1, .iconst 0, 1, 0, 0, 0, .null), (2, .iconst 0, 1, 0, 0, 0, .null), (3, .iconst 0, 1, 0, 0, 0, .null), (4, .invokevirtual 148, 3, 130, 3, 0, .ref 9), (7, .ireturn, 1, 0, 0, 0, .null)]
/-- OneRoof$Guests.depart(III)I -/
def qx_c130 : List (Nat × Instr × Nat × Nat × Nat × Nat × Value) := [(0, .iload_n 1, 1, 0, 0, 0, .null), (1, .aload_n 0, 1, 0, 0, 0, .null), (2, .getfield 15, 3, 9, 2, 0, .null), (5, .if_icmp .ge 9, 3, 0, 0, 0, .null), (8, .iload_n 1, 1, 0, 0, 0, .null), (9, .bipush 6, 2, 0, 0, 0, .null), (11, .if_icmp .lt 5, 3, 0, 0, 0, .null), (14, .iload_n 3, 1, 0, 0, 0, .null), (15, .ireturn, 1, 0, 0, 0, .null), (16, .iconst 0, 1, 0, 0, 0, .null), (17, .istore 4, 2, 0, 0, 0, .null), (19, .iload 4, 2, 0, 0, 0, .null), (21, .aload_n 0, 1, 0, 0, 0, .null), (22, .getfield 15, 3, 9, 2, 0, .null), (25, .if_icmp .ge 74, 3, 0, 0, 0, .null), (28, .iload_n 2, 1, 0, 0, 0, .null), (29, .i2l, 1, 0, 0, 0, .null), (30, .iload 4, 2, 0, 0, 0, .null), (32, .invokestatic 38, 3, 50, 2, 3, .null), (35, .ifCond .ne 58, 3, 0, 0, 0, .null), (38, .aload_n 0, 1, 0, 0, 0, .null), (39, .iload_n 1, 1, 0, 0, 0, .null), (40, .iload 4, 2, 0, 0, 0, .null), (42, .invokevirtual 152, 3, 131, 2, 0, .ref 9), (45, .ifCond .eq 6, 3, 0, 0, 0, .null), (48, .goto 45, 3, 0, 0, 0, .null), (51, .aload_n 0, 1, 0, 0, 0, .null), (52, .getfield 28, 3, 9, 6, 0, .null), (55, .iload_n 1, 1, 0, 0, 0, .null), (56, .iload 4, 2, 0, 0, 0, .null), (58, .iastore, 1, 0, 0, 0, .null), (59, .aload_n 0, 1, 0, 0, 0, .null), (60, .iload_n 1, 1, 0, 0, 0, .null), (61, .iconst 1, 1, 0, 0, 0, .null), (62, .iadd, 1, 0, 0, 0, .null), (63, .iload_n 2, 1, 0, 0, 0, .null), (64, .iconst 1, 1, 0, 0, 0, .null), (65, .iload 4, 2, 0, 0, 0, .null), (67, .ishl, 1, 0, 0, 0, .null), (68, .ior, 1, 0, 0, 0, .null), (69, .bipush 10, 2, 0, 0, 0, .null), (71, .iload_n 3, 1, 0, 0, 0, .null), (72, .imul, 1, 0, 0, 0, .null), (73, .iload 4, 2, 0, 0, 0, .null), (75, .iadd, 1, 0, 0, 0, .null), (76, .iconst 1, 1, 0, 0, 0, .null), (77, .iadd, 1, 0, 0, 0, .null), (78, .invokevirtual 148, 3, 130, 3, 0, .ref 9), (81, .istore 5, 2, 0, 0, 0, .null), (83, .iload 5, 2, 0, 0, 0, .null), (85, .bipush (-2), 2, 0, 0, 0, .null), (87, .if_icmp .eq 6, 3, 0, 0, 0, .null), (90, .iload 5, 2, 0, 0, 0, .null), (92, .ireturn, 1, 0, 0, 0, .null), (93, .iinc 4 1, 3, 0, 0, 0, .null), (96, .goto (-77), 3, 0, 0, 0, .null), (99, .bipush (-2), 2, 0, 0, 0, .null), (101, .ireturn, 1, 0, 0, 0, .null)]
/-- OneRoof$Guests.meetsEarlier(II)Z -/
def qx_c131 : List (Nat × Instr × Nat × Nat × Nat × Nat × Value) := [(0, .iconst 0, 1, 0, 0, 0, .null), (1, .iload_n 1, 1, 0, 0, 0, .null), (2, .aload_n 0, 1, 0, 0, 0, .null), (3, .getfield 31, 3, 9, 7, 0, .null), (6, .isub, 1, 0, 0, 0, .null), (7, .invokestatic 87, 3, 30, 2, 2, .null), (10, .istore_n 3, 1, 0, 0, 0, .null), (11, .iload_n 3, 1, 0, 0, 0, .null), (12, .iload_n 1, 1, 0, 0, 0, .null), (13, .if_icmp .ge 35, 3, 0, 0, 0, .null), (16, .aload_n 0, 1, 0, 0, 0, .null), (17, .getfield 25, 3, 9, 5, 0, .null), (20, .iload_n 1, 1, 0, 0, 0, .null), (21, .bipush 6, 2, 0, 0, 0, .null), (23, .imul, 1, 0, 0, 0, .null), (24, .iload_n 2, 1, 0, 0, 0, .null), (25, .iadd, 1, 0, 0, 0, .null), (26, .iaload, 1, 0, 0, 0, .null), (27, .i2l, 1, 0, 0, 0, .null), (28, .aload_n 0, 1, 0, 0, 0, .null), (29, .getfield 28, 3, 9, 6, 0, .null), (32, .iload_n 3, 1, 0, 0, 0, .null), (33, .iaload, 1, 0, 0, 0, .null), (34, .invokestatic 38, 3, 50, 2, 3, .null), (37, .ifCond .eq 5, 3, 0, 0, 0, .null), (40, .iconst 1, 1, 0, 0, 0, .null), (41, .ireturn, 1, 0, 0, 0, .null), (42, .iinc 3 1, 3, 0, 0, 0, .null), (45, .goto (-34), 3, 0, 0, 0, .null), (48, .iconst 0, 1, 0, 0, 0, .null), (49, .ireturn, 1, 0, 0, 0, .null)]
/-- OneRoof.strike(IJII)I -/
def qx_c132_0 : List (Nat × Instr × Nat × Nat × Nat × Nat × Value) := [(0, .aload_n 0, 1, 0, 0, 0, .null), (1, .getfield 10, 3, 0, 0, 0, .null), (4, .iload_n 1, 1, 0, 0, 0, .null), (5, .invokevirtual 184, 3, 61, 1, 0, .ref 1), (8, .ifCond .eq 30, 3, 0, 0, 0, .null), (11, .aload_n 0, 1, 0, 0, 0, .null), (12, .getfield 10, 3, 0, 0, 0, .null), (15, .lload_n 2, 1, 0, 0, 0, .null), (16, .invokevirtual 250, 3, 88, 1, 0, .ref 1), (19, .ifCond .eq 19, 3, 0, 0, 0, .null), (22, .iload 4, 2, 0, 0, 0, .null), (24, .invokestatic 187, 3, 62, 1, 2, .null), (27, .ifCond .eq 11, 3, 0, 0, 0, .null), (30, .iload 5, 2, 0, 0, 0, .null), (32, .invokestatic 169, 3, 41, 1, 2, .null), (35, .ifCond .ne 5, 3, 0, 0, 0, .null), (38, .iconst (-1), 1, 0, 0, 0, .null), (39, .ireturn, 1, 0, 0, 0, .null), (40, .lload_n 2, 1, 0, 0, 0, .null), (41, .aload_n 0, 1, 0, 0, 0, .null), (42, .getfield 10, 3, 0, 0, 0, .null), (45, .getfield 161, 3, 1, 5, 0, .null), (48, .ldc2_w 255, 3, 0, 0, 2, .long (-1)), (51, .lxor, 1, 0, 0, 0, .null), (52, .land, 1, 0, 0, 0, .null), (53, .lstore 6, 2, 0, 0, 0, .null), (55, .lload 6, 2, 0, 0, 0, .null), (57, .iload_n 1, 1, 0, 0, 0, .null), (58, .bipush 100, 2, 0, 0, 0, .null), (60, .idiv, 1, 0, 0, 0, .null), (61, .invokestatic 165, 3, 50, 2, 2, .null), (64, .ifCond .eq 15, 3, 0, 0, 0, .null), (67, .lload 6, 2, 0, 0, 0, .null), (69, .iload_n 1, 1, 0, 0, 0, .null), (70, .bipush 100, 2, 0, 0, 0, .null), (72, .irem, 1, 0, 0, 0, .null), (73, .invokestatic 165, 3, 50, 2, 2, .null), (76, .ifCond .ne 5, 3, 0, 0, 0, .null), (79, .iconst (-1), 1, 0, 0, 0, .null), (80, .ireturn, 1, 0, 0, 0, .null), (81, .aload_n 0, 1, 0, 0, 0, .null), (82, .getfield 72, 3, 0, 8, 0, .null), (85, .iload 4, 2, 0, 0, 0, .null), (87, .invokevirtual 257, 3, 89, 1, 0, .ref 8), (90, .aload_n 0, 1, 0, 0, 0, .null), (91, .getfield 88, 3, 0, 10, 0, .null), (94, .iload_n 1, 1, 0, 0, 0, .null), (95, .bipush 100, 2, 0, 0, 0, .null), (97, .idiv, 1, 0, 0, 0, .null), (98, .iload_n 1, 1, 0, 0, 0, .null)]
def qx_c132_1 : List (Nat × Instr × Nat × Nat × Nat × Nat × Value) := [(99, .bipush 100, 2, 0, 0, 0, .null), (101, .irem, 1, 0, 0, 0, .null), (102, .lload 6, 2, 0, 0, 0, .null), (104, .invokevirtual 311, 3, 133, 3, 0, .ref 10), (107, .iload 5, 2, 0, 0, 0, .null), (109, .iconst 1, 1, 0, 0, 0, .null), (110, .if_icmp .ne 71, 3, 0, 0, 0, .null), (113, .aload_n 0, 1, 0, 0, 0, .null), (114, .getfield 10, 3, 0, 0, 0, .null), (117, .dup, 1, 0, 0, 0, .null), (118, .getfield 161, 3, 1, 5, 0, .null), (121, .lload 6, 2, 0, 0, 0, .null), (123, .aload_n 0, 1, 0, 0, 0, .null), (124, .getfield 88, 3, 0, 10, 0, .null), (127, .getfield 315, 3, 10, 3, 0, .null), (130, .ldc2_w 255, 3, 0, 0, 2, .long (-1)), (133, .lxor, 1, 0, 0, 0, .null), (134, .land, 1, 0, 0, 0, .null), (135, .lor, 1, 0, 0, 0, .null), (136, .putfield 161, 3, 1, 5, 0, .null), (139, .iconst 0, 1, 0, 0, 0, .null), (140, .istore 8, 2, 0, 0, 0, .null), (142, .iload 8, 2, 0, 0, 0, .null), (144, .aload_n 0, 1, 0, 0, 0, .null), (145, .getfield 88, 3, 0, 10, 0, .null), (148, .getfield 318, 3, 10, 5, 0, .null), (151, .if_icmp .ge 30, 3, 0, 0, 0, .null), (154, .aload_n 0, 1, 0, 0, 0, .null), (155, .getfield 100, 3, 0, 12, 0, .null), (158, .iconst 3, 1, 0, 0, 0, .null), (159, .aload_n 0, 1, 0, 0, 0, .null), (160, .getfield 88, 3, 0, 10, 0, .null), (163, .getfield 321, 3, 10, 4, 0, .null), (166, .iload 8, 2, 0, 0, 0, .null), (168, .iaload, 1, 0, 0, 0, .null), (169, .bipush 6, 2, 0, 0, 0, .null), (171, .invokevirtual 172, 3, 52, 3, 0, .ref 11), (174, .pop, 1, 0, 0, 0, .null), (175, .iinc 8 1, 3, 0, 0, 0, .null), (178, .goto (-36), 3, 0, 0, 0, .null), (181, .aload_n 0, 1, 0, 0, 0, .null), (182, .getfield 88, 3, 0, 10, 0, .null), (185, .getfield 324, 3, 10, 2, 0, .null), (188, .ireturn, 1, 0, 0, 0, .null)]
def qx_c132 : List (Nat × Instr × Nat × Nat × Nat × Nat × Value) := qx_c132_0 ++ (qx_c132_1)
/-- OneRoof$Telling.tell(IIJ)V -/
def qx_c133 : List (Nat × Instr × Nat × Nat × Nat × Nat × Value) := [(0, .aload_n 0, 1, 0, 0, 0, .null), (1, .lload_n 3, 1, 0, 0, 0, .null), (2, .putfield 19, 3, 10, 3, 0, .null), (5, .aload_n 0, 1, 0, 0, 0, .null), (6, .iconst 0, 1, 0, 0, 0, .null), (7, .putfield 15, 3, 10, 2, 0, .null), (10, .aload_n 0, 1, 0, 0, 0, .null), (11, .iconst 0, 1, 0, 0, 0, .null), (12, .putfield 26, 3, 10, 5, 0, .null), (15, .aload_n 0, 1, 0, 0, 0, .null), (16, .lconst 0, 1, 0, 0, 0, .null), (17, .putfield 29, 3, 10, 6, 0, .null), (20, .aload_n 0, 1, 0, 0, 0, .null), (21, .iload_n 1, 1, 0, 0, 0, .null), (22, .iload_n 2, 1, 0, 0, 0, .null), (23, .invokevirtual 36, 3, 134, 2, 0, .ref 10), (26, .iconst 1, 1, 0, 0, 0, .null), (27, .istore 5, 2, 0, 0, 0, .null), (29, .iload 5, 2, 0, 0, 0, .null), (31, .bipush 31, 2, 0, 0, 0, .null), (33, .if_icmp .ge 55, 3, 0, 0, 0, .null), (36, .aload_n 0, 1, 0, 0, 0, .null), (37, .invokevirtual 40, 3, 136, 0, 0, .ref 10), (40, .istore 6, 2, 0, 0, 0, .null), (42, .iload 6, 2, 0, 0, 0, .null), (44, .ifCond .ge 16, 3, 0, 0, 0, .null), (47, .aload_n 0, 1, 0, 0, 0, .null), (48, .getfield 32, 3, 10, 0, 0, .null), (51, .aload_n 0, 1, 0, 0, 0, .null), (52, .getfield 19, 3, 10, 3, 0, .null), (55, .invokevirtual 44, 3, 103, 1, 0, .ref 8), (58, .istore 6, 2, 0, 0, 0, .null), (60, .iload 6, 2, 0, 0, 0, .null), (62, .ifCond .ge 6, 3, 0, 0, 0, .null), (65, .goto 23, 3, 0, 0, 0, .null), (68, .aload_n 0, 1, 0, 0, 0, .null), (69, .iload 6, 2, 0, 0, 0, .null), (71, .bipush 100, 2, 0, 0, 0, .null), (73, .idiv, 1, 0, 0, 0, .null), (74, .iload 6, 2, 0, 0, 0, .null), (76, .bipush 100, 2, 0, 0, 0, .null), (78, .irem, 1, 0, 0, 0, .null), (79, .invokevirtual 36, 3, 134, 2, 0, .ref 10), (82, .iinc 5 1, 3, 0, 0, 0, .null), (85, .goto (-56), 3, 0, 0, 0, .null), (88, .aload_n 0, 1, 0, 0, 0, .null), (89, .getfield 32, 3, 10, 0, 0, .null), (92, .lconst 0, 1, 0, 0, 0, .null), (93, .putfield 50, 3, 8, 10, 0, .null), (96, .return_, 1, 0, 0, 0, .null)]
/-- OneRoof$Telling.land(II)V -/
def qx_c134_0 : List (Nat × Instr × Nat × Nat × Nat × Nat × Value) := [(0, .aload_n 0, 1, 0, 0, 0, .null), (1, .getfield 15, 3, 10, 2, 0, .null), (4, .aload_n 0, 1, 0, 0, 0, .null), (5, .getfield 11, 3, 10, 1, 0, .null), (8, .arraylength, 1, 0, 0, 0, .null), (9, .if_icmp .lt 4, 3, 0, 0, 0, .null), (12, .return_, 1, 0, 0, 0, .null), (13, .aload_n 0, 1, 0, 0, 0, .null), (14, .getfield 11, 3, 10, 1, 0, .null), (17, .aload_n 0, 1, 0, 0, 0, .null), (18, .dup, 1, 0, 0, 0, .null), (19, .getfield 15, 3, 10, 2, 0, .null), (22, .dup_x1, 1, 0, 0, 0, .null), (23, .iconst 1, 1, 0, 0, 0, .null), (24, .iadd, 1, 0, 0, 0, .null), (25, .putfield 15, 3, 10, 2, 0, .null), (28, .bipush 100, 2, 0, 0, 0, .null), (30, .iload_n 1, 1, 0, 0, 0, .null), (31, .imul, 1, 0, 0, 0, .null), (32, .iload_n 2, 1, 0, 0, 0, .null), (33, .iadd, 1, 0, 0, 0, .null), (34, .iastore, 1, 0, 0, 0, .null), (35, .aload_n 0, 1, 0, 0, 0, .null), (36, .dup, 1, 0, 0, 0, .null), (37, .getfield 29, 3, 10, 6, 0, .null), (40, .lconst 1, 1, 0, 0, 0, .null), (41, .iload_n 1, 1, 0, 0, 0, .null), (42, .lshl, 1, 0, 0, 0, .null), (43, .lor, 1, 0, 0, 0, .null), (44, .putfield 29, 3, 10, 6, 0, .null), (47, .aload_n 0, 1, 0, 0, 0, .null), (48, .dup, 1, 0, 0, 0, .null), (49, .getfield 19, 3, 10, 3, 0, .null), (52, .lconst 1, 1, 0, 0, 0, .null), (53, .iload_n 2, 1, 0, 0, 0, .null), (54, .lshl, 1, 0, 0, 0, .null), (55, .ldc2_w 52, 3, 0, 0, 2, .long (-1)), (58, .lxor, 1, 0, 0, 0, .null), (59, .land, 1, 0, 0, 0, .null), (60, .putfield 19, 3, 10, 3, 0, .null), (63, .aload_n 0, 1, 0, 0, 0, .null), (64, .getfield 32, 3, 10, 0, 0, .null), (67, .iload_n 1, 1, 0, 0, 0, .null), (68, .iload_n 2, 1, 0, 0, 0, .null), (69, .invokevirtual 54, 3, 94, 2, 0, .ref 8), (72, .aload_n 0, 1, 0, 0, 0, .null), (73, .getfield 32, 3, 10, 0, 0, .null), (76, .getfield 58, 3, 8, 3, 0, .null), (79, .iload_n 1, 1, 0, 0, 0, .null), (80, .invokevirtual 62, 3, 135, 1, 0, .ref 4)]
def qx_c134_1 : List (Nat × Instr × Nat × Nat × Nat × Nat × Value) := [(83, .land, 1, 0, 0, 0, .null), (84, .lstore_n 3, 1, 0, 0, 0, .null), (85, .iconst 0, 1, 0, 0, 0, .null), (86, .istore 5, 2, 0, 0, 0, .null), (88, .iload 5, 2, 0, 0, 0, .null), (90, .bipush 60, 2, 0, 0, 0, .null), (92, .if_icmp .ge 48, 3, 0, 0, 0, .null), (95, .aload_n 0, 1, 0, 0, 0, .null), (96, .getfield 26, 3, 10, 5, 0, .null), (99, .aload_n 0, 1, 0, 0, 0, .null), (100, .getfield 23, 3, 10, 4, 0, .null), (103, .arraylength, 1, 0, 0, 0, .null), (104, .if_icmp .ge 36, 3, 0, 0, 0, .null), (107, .lload_n 3, 1, 0, 0, 0, .null), (108, .iload 5, 2, 0, 0, 0, .null), (110, .invokestatic 68, 3, 50, 2, 3, .null), (113, .ifCond .eq 21, 3, 0, 0, 0, .null), (116, .aload_n 0, 1, 0, 0, 0, .null), (117, .getfield 23, 3, 10, 4, 0, .null), (120, .aload_n 0, 1, 0, 0, 0, .null), (121, .dup, 1, 0, 0, 0, .null), (122, .getfield 26, 3, 10, 5, 0, .null), (125, .dup_x1, 1, 0, 0, 0, .null), (126, .iconst 1, 1, 0, 0, 0, .null), (127, .iadd, 1, 0, 0, 0, .null), (128, .putfield 26, 3, 10, 5, 0, .null), (131, .iload 5, 2, 0, 0, 0, .null), (133, .iastore, 1, 0, 0, 0, .null), (134, .iinc 5 1, 3, 0, 0, 0, .null), (137, .goto (-49), 3, 0, 0, 0, .null), (140, .aload_n 0, 1, 0, 0, 0, .null), (141, .getfield 32, 3, 10, 0, 0, .null), (144, .dup, 1, 0, 0, 0, .null), (145, .getfield 50, 3, 8, 10, 0, .null), (148, .lload_n 3, 1, 0, 0, 0, .null), (149, .lor, 1, 0, 0, 0, .null), (150, .putfield 50, 3, 8, 10, 0, .null), (153, .return_, 1, 0, 0, 0, .null)]
def qx_c134 : List (Nat × Instr × Nat × Nat × Nat × Nat × Value) := qx_c134_0 ++ (qx_c134_1)
/-- OneRoof$Peaces.bindingOn(I)J -/
def qx_c135 : List (Nat × Instr × Nat × Nat × Nat × Nat × Value) := [(0, .lconst 0, 1, 0, 0, 0, .null), (1, .lstore_n 2, 1, 0, 0, 0, .null), (2, .iconst 0, 1, 0, 0, 0, .null), (3, .istore 4, 2, 0, 0, 0, .null), (5, .iload 4, 2, 0, 0, 0, .null), (7, .aload_n 0, 1, 0, 0, 0, .null), (8, .getfield 34, 3, 4, 7, 0, .null), (11, .if_icmp .ge 41, 3, 0, 0, 0, .null), (14, .aload_n 0, 1, 0, 0, 0, .null), (15, .getfield 15, 3, 4, 1, 0, .null), (18, .iload 4, 2, 0, 0, 0, .null), (20, .iaload, 1, 0, 0, 0, .null), (21, .iload_n 1, 1, 0, 0, 0, .null), (22, .if_icmp .eq 17, 3, 0, 0, 0, .null), (25, .aload_n 0, 1, 0, 0, 0, .null), (26, .getfield 30, 3, 4, 6, 0, .null), (29, .iload 4, 2, 0, 0, 0, .null), (31, .laload, 1, 0, 0, 0, .null), (32, .iload_n 1, 1, 0, 0, 0, .null), (33, .invokestatic 51, 3, 50, 2, 3, .null), (36, .ifCond .eq 10, 3, 0, 0, 0, .null), (39, .lload_n 2, 1, 0, 0, 0, .null), (40, .lconst 1, 1, 0, 0, 0, .null), (41, .iload 4, 2, 0, 0, 0, .null), (43, .lshl, 1, 0, 0, 0, .null), (44, .lor, 1, 0, 0, 0, .null), (45, .lstore_n 2, 1, 0, 0, 0, .null), (46, .iinc 4 1, 3, 0, 0, 0, .null), (49, .goto (-44), 3, 0, 0, 0, .null), (52, .lload_n 2, 1, 0, 0, 0, .null), (53, .lreturn, 1, 0, 0, 0, .null)]
/-- OneRoof$Telling.firstHelp()I -/
def qx_c136_0 : List (Nat × Instr × Nat × Nat × Nat × Nat × Value) := [(0, .iconst 0, 1, 0, 0, 0, .null), (1, .istore_n 1, 1, 0, 0, 0, .null), (2, .iload_n 1, 1, 0, 0, 0, .null), (3, .aload_n 0, 1, 0, 0, 0, .null), (4, .getfield 32, 3, 10, 0, 0, .null), (7, .getfield 72, 3, 8, 0, 0, .null), (10, .getfield 76, 3, 1, 6, 0, .null), (13, .if_icmp .ge 131, 3, 0, 0, 0, .null), (16, .iconst 0, 1, 0, 0, 0, .null), (17, .istore_n 2, 1, 0, 0, 0, .null), (18, .iload_n 2, 1, 0, 0, 0, .null), (19, .aload_n 0, 1, 0, 0, 0, .null), (20, .getfield 32, 3, 10, 0, 0, .null), (23, .getfield 72, 3, 8, 0, 0, .null), (26, .getfield 76, 3, 1, 6, 0, .null), (29, .if_icmp .ge 109, 3, 0, 0, 0, .null), (32, .iload_n 1, 1, 0, 0, 0, .null), (33, .iload_n 2, 1, 0, 0, 0, .null), (34, .if_icmp .eq 98, 3, 0, 0, 0, .null), (37, .aload_n 0, 1, 0, 0, 0, .null), (38, .getfield 19, 3, 10, 3, 0, .null), (41, .iload_n 1, 1, 0, 0, 0, .null), (42, .invokestatic 68, 3, 50, 2, 3, .null), (45, .ifCond .eq 87, 3, 0, 0, 0, .null), (48, .aload_n 0, 1, 0, 0, 0, .null), (49, .getfield 19, 3, 10, 3, 0, .null), (52, .aload_n 0, 1, 0, 0, 0, .null), (53, .getfield 29, 3, 10, 6, 0, .null), (56, .land, 1, 0, 0, 0, .null), (57, .iload_n 2, 1, 0, 0, 0, .null), (58, .invokestatic 68, 3, 50, 2, 3, .null), (61, .ifCond .ne 6, 3, 0, 0, 0, .null), (64, .goto 68, 3, 0, 0, 0, .null), (67, .iconst 0, 1, 0, 0, 0, .null), (68, .istore_n 3, 1, 0, 0, 0, .null), (69, .iload_n 3, 1, 0, 0, 0, .null), (70, .aload_n 0, 1, 0, 0, 0, .null), (71, .getfield 15, 3, 10, 2, 0, .null), (74, .if_icmp .ge 58, 3, 0, 0, 0, .null), (77, .aload_n 0, 1, 0, 0, 0, .null), (78, .getfield 11, 3, 10, 1, 0, .null), (81, .iload_n 3, 1, 0, 0, 0, .null), (82, .iaload, 1, 0, 0, 0, .null), (83, .bipush 100, 2, 0, 0, 0, .null), (85, .idiv, 1, 0, 0, 0, .null), (86, .iload_n 2, 1, 0, 0, 0, .null), (87, .if_icmp .eq 6, 3, 0, 0, 0, .null), (90, .goto 36, 3, 0, 0, 0, .null), (93, .aload_n 0, 1, 0, 0, 0, .null), (94, .getfield 32, 3, 10, 0, 0, .null)]
def qx_c136_1 : List (Nat × Instr × Nat × Nat × Nat × Nat × Value) := [(97, .iconst 1, 1, 0, 0, 0, .null), (98, .iload_n 1, 1, 0, 0, 0, .null), (99, .iload_n 2, 1, 0, 0, 0, .null), (100, .aload_n 0, 1, 0, 0, 0, .null), (101, .getfield 11, 3, 10, 1, 0, .null), (104, .iload_n 3, 1, 0, 0, 0, .null), (105, .iaload, 1, 0, 0, 0, .null), (106, .bipush 100, 2, 0, 0, 0, .null), (108, .irem, 1, 0, 0, 0, .null), (109, .aload_n 0, 1, 0, 0, 0, .null), (110, .getfield 19, 3, 10, 3, 0, .null), (113, .invokevirtual 81, 3, 90, 5, 0, .ref 8), (116, .ifCond .eq 10, 3, 0, 0, 0, .null), (119, .bipush 100, 2, 0, 0, 0, .null), (121, .iload_n 1, 1, 0, 0, 0, .null), (122, .imul, 1, 0, 0, 0, .null), (123, .iload_n 2, 1, 0, 0, 0, .null), (124, .iadd, 1, 0, 0, 0, .null), (125, .ireturn, 1, 0, 0, 0, .null), (126, .iinc 3 1, 3, 0, 0, 0, .null), (129, .goto (-60), 3, 0, 0, 0, .null), (132, .iinc 2 1, 3, 0, 0, 0, .null), (135, .goto (-117), 3, 0, 0, 0, .null), (138, .iinc 1 1, 3, 0, 0, 0, .null), (141, .goto (-139), 3, 0, 0, 0, .null), (144, .iconst (-1), 1, 0, 0, 0, .null), (145, .ireturn, 1, 0, 0, 0, .null)]
def qx_c136 : List (Nat × Instr × Nat × Nat × Nat × Nat × Value) := qx_c136_0 ++ (qx_c136_1)
/-- OneRoof.blow(I)I -/
def qx_c137 : List (Nat × Instr × Nat × Nat × Nat × Nat × Value) := [(0, .iload_n 1, 1, 0, 0, 0, .null), (1, .ifCond .lt 14, 3, 0, 0, 0, .null), (4, .iload_n 1, 1, 0, 0, 0, .null), (5, .aload_n 0, 1, 0, 0, 0, .null), (6, .getfield 88, 3, 0, 10, 0, .null), (9, .getfield 324, 3, 10, 2, 0, .null), (12, .if_icmp .lt 5, 3, 0, 0, 0, .null), (15, .iconst (-1), 1, 0, 0, 0, .null), (16, .ireturn, 1, 0, 0, 0, .null), (17, .aload_n 0, 1, 0, 0, 0, .null), (18, .getfield 88, 3, 0, 10, 0, .null), (21, .getfield 327, 3, 10, 1, 0, .null), (24, .iload_n 1, 1, 0, 0, 0, .null), (25, .iaload, 1, 0, 0, 0, .null), (26, .ireturn, 1, 0, 0, 0, .null)]
/-- OneRoof.alive()J -/
def qx_c138 : List (Nat × Instr × Nat × Nat × Nat × Nat × Value) := [(0, .aload_n 0, 1, 0, 0, 0, .null), (1, .getfield 88, 3, 0, 10, 0, .null), (4, .getfield 324, 3, 10, 2, 0, .null), (7, .ifCond .ne 9, 3, 0, 0, 0, .null), (10, .ldc2_w 255, 3, 0, 0, 2, .long (-1)), (13, .goto 10, 3, 0, 0, 0, .null), (16, .aload_n 0, 1, 0, 0, 0, .null), (17, .getfield 88, 3, 0, 10, 0, .null), (20, .getfield 315, 3, 10, 3, 0, .null), (23, .lreturn, 1, 0, 0, 0, .null)]
/-- OneRoof.worst(JI)I -/
def qx_c139_0 : List (Nat × Instr × Nat × Nat × Nat × Nat × Value) := [(0, .aload_n 0, 1, 0, 0, 0, .null), (1, .getfield 10, 3, 0, 0, 0, .null), (4, .lload_n 1, 1, 0, 0, 0, .null), (5, .invokevirtual 250, 3, 88, 1, 0, .ref 1), (8, .ifCond .eq 10, 3, 0, 0, 0, .null), (11, .iload_n 3, 1, 0, 0, 0, .null), (12, .invokestatic 187, 3, 62, 1, 2, .null), (15, .ifCond .ne 5, 3, 0, 0, 0, .null), (18, .iconst (-1), 1, 0, 0, 0, .null), (19, .ireturn, 1, 0, 0, 0, .null), (20, .lload_n 1, 1, 0, 0, 0, .null), (21, .aload_n 0, 1, 0, 0, 0, .null), (22, .getfield 10, 3, 0, 0, 0, .null), (25, .getfield 161, 3, 1, 5, 0, .null), (28, .ldc2_w 255, 3, 0, 0, 2, .long (-1)), (31, .lxor, 1, 0, 0, 0, .null), (32, .land, 1, 0, 0, 0, .null), (33, .lstore 4, 2, 0, 0, 0, .null), (35, .aload_n 0, 1, 0, 0, 0, .null), (36, .getfield 72, 3, 0, 8, 0, .null), (39, .iload_n 3, 1, 0, 0, 0, .null), (40, .invokevirtual 257, 3, 89, 1, 0, .ref 8), (43, .bipush (-2), 2, 0, 0, 0, .null), (45, .istore 6, 2, 0, 0, 0, .null), (47, .bipush 33, 2, 0, 0, 0, .null), (49, .istore 7, 2, 0, 0, 0, .null), (51, .iconst 0, 1, 0, 0, 0, .null), (52, .istore 8, 2, 0, 0, 0, .null), (54, .iload 8, 2, 0, 0, 0, .null), (56, .aload_n 0, 1, 0, 0, 0, .null), (57, .getfield 10, 3, 0, 0, 0, .null), (60, .getfield 122, 3, 1, 6, 0, .null), (63, .if_icmp .ge 122, 3, 0, 0, 0, .null), (66, .iconst 0, 1, 0, 0, 0, .null), (67, .istore 9, 2, 0, 0, 0, .null), (69, .iload 9, 2, 0, 0, 0, .null), (71, .aload_n 0, 1, 0, 0, 0, .null), (72, .getfield 10, 3, 0, 0, 0, .null), (75, .getfield 122, 3, 1, 6, 0, .null), (78, .if_icmp .ge 101, 3, 0, 0, 0, .null), (81, .iload 8, 2, 0, 0, 0, .null), (83, .iload 9, 2, 0, 0, 0, .null), (85, .if_icmp .eq 88, 3, 0, 0, 0, .null), (88, .lload 4, 2, 0, 0, 0, .null), (90, .iload 8, 2, 0, 0, 0, .null), (92, .invokestatic 165, 3, 50, 2, 2, .null), (95, .ifCond .eq 78, 3, 0, 0, 0, .null), (98, .lload 4, 2, 0, 0, 0, .null), (100, .iload 9, 2, 0, 0, 0, .null), (102, .invokestatic 165, 3, 50, 2, 2, .null)]
def qx_c139_1 : List (Nat × Instr × Nat × Nat × Nat × Nat × Value) := [(105, .ifCond .ne 6, 3, 0, 0, 0, .null), (108, .goto 65, 3, 0, 0, 0, .null), (111, .aload_n 0, 1, 0, 0, 0, .null), (112, .getfield 92, 3, 0, 11, 0, .null), (115, .iload 8, 2, 0, 0, 0, .null), (117, .iload 9, 2, 0, 0, 0, .null), (119, .lload 4, 2, 0, 0, 0, .null), (121, .invokevirtual 311, 3, 133, 3, 0, .ref 10), (124, .aload_n 0, 1, 0, 0, 0, .null), (125, .getfield 92, 3, 0, 11, 0, .null), (128, .getfield 315, 3, 10, 3, 0, .null), (131, .invokestatic 226, 3, 74, 1, 2, .null), (134, .iload 7, 2, 0, 0, 0, .null), (136, .if_icmp .lt 6, 3, 0, 0, 0, .null), (139, .goto 34, 3, 0, 0, 0, .null), (142, .aload_n 0, 1, 0, 0, 0, .null), (143, .getfield 92, 3, 0, 11, 0, .null), (146, .getfield 315, 3, 10, 3, 0, .null), (149, .invokestatic 226, 3, 74, 1, 2, .null), (152, .istore 7, 2, 0, 0, 0, .null), (154, .bipush 100, 2, 0, 0, 0, .null), (156, .iload 8, 2, 0, 0, 0, .null), (158, .imul, 1, 0, 0, 0, .null), (159, .iload 9, 2, 0, 0, 0, .null), (161, .iadd, 1, 0, 0, 0, .null), (162, .istore 6, 2, 0, 0, 0, .null), (164, .iload 7, 2, 0, 0, 0, .null), (166, .iconst 1, 1, 0, 0, 0, .null), (167, .if_icmp .gt 6, 3, 0, 0, 0, .null), (170, .iload 6, 2, 0, 0, 0, .null), (172, .ireturn, 1, 0, 0, 0, .null), (173, .iinc 9 1, 3, 0, 0, 0, .null), (176, .goto (-107), 3, 0, 0, 0, .null), (179, .iinc 8 1, 3, 0, 0, 0, .null), (182, .goto (-128), 3, 0, 0, 0, .null), (185, .iload 6, 2, 0, 0, 0, .null), (187, .ireturn, 1, 0, 0, 0, .null)]
def qx_c139 : List (Nat × Instr × Nat × Nat × Nat × Nat × Value) := qx_c139_0 ++ (qx_c139_1)
/-- OneRoof.wed(III)I -/
def qx_c140_0 : List (Nat × Instr × Nat × Nat × Nat × Nat × Value) := [(0, .aload_n 0, 1, 0, 0, 0, .null), (1, .getfield 10, 3, 0, 0, 0, .null), (4, .iload_n 1, 1, 0, 0, 0, .null), (5, .invokevirtual 184, 3, 61, 1, 0, .ref 1), (8, .ifCond .eq 17, 3, 0, 0, 0, .null), (11, .iload_n 2, 1, 0, 0, 0, .null), (12, .invokestatic 187, 3, 62, 1, 2, .null), (15, .ifCond .eq 10, 3, 0, 0, 0, .null), (18, .iload_n 3, 1, 0, 0, 0, .null), (19, .invokestatic 169, 3, 41, 1, 2, .null), (22, .ifCond .ne 5, 3, 0, 0, 0, .null), (25, .iconst (-1), 1, 0, 0, 0, .null), (26, .ireturn, 1, 0, 0, 0, .null), (27, .iload_n 1, 1, 0, 0, 0, .null), (28, .bipush 100, 2, 0, 0, 0, .null), (30, .idiv, 1, 0, 0, 0, .null), (31, .istore 4, 2, 0, 0, 0, .null), (33, .iload_n 1, 1, 0, 0, 0, .null), (34, .bipush 100, 2, 0, 0, 0, .null), (36, .irem, 1, 0, 0, 0, .null), (37, .istore 5, 2, 0, 0, 0, .null), (39, .aload_n 0, 1, 0, 0, 0, .null), (40, .getfield 19, 3, 0, 1, 0, .null), (43, .iload 4, 2, 0, 0, 0, .null), (45, .iload 5, 2, 0, 0, 0, .null), (47, .invokevirtual 175, 3, 57, 2, 0, .ref 2), (50, .iconst 1, 1, 0, 0, 0, .null), (51, .if_icmp .ne 5, 3, 0, 0, 0, .null), (54, .iconst (-1), 1, 0, 0, 0, .null), (55, .ireturn, 1, 0, 0, 0, .null), (56, .aload_n 0, 1, 0, 0, 0, .null), (57, .getfield 29, 3, 0, 3, 0, .null), (60, .iload_n 2, 1, 0, 0, 0, .null), (61, .aload_n 0, 1, 0, 0, 0, .null), (62, .getfield 19, 3, 0, 1, 0, .null), (65, .aload_n 0, 1, 0, 0, 0, .null), (66, .getfield 10, 3, 0, 0, 0, .null), (69, .getfield 122, 3, 1, 6, 0, .null), (72, .invokevirtual 330, 3, 141, 3, 0, .ref 3), (75, .istore 6, 2, 0, 0, 0, .null), (77, .iload_n 3, 1, 0, 0, 0, .null), (78, .iconst 1, 1, 0, 0, 0, .null), (79, .if_icmp .ne 6, 3, 0, 0, 0, .null), (82, .iload 6, 2, 0, 0, 0, .null), (84, .ireturn, 1, 0, 0, 0, .null), (85, .aload_n 0, 1, 0, 0, 0, .null), (86, .getfield 23, 3, 0, 2, 0, .null), (89, .aload_n 0, 1, 0, 0, 0, .null), (90, .getfield 19, 3, 0, 1, 0, .null), (93, .invokevirtual 334, 3, 142, 1, 0, .ref 2)]
def qx_c140_1 : List (Nat × Instr × Nat × Nat × Nat × Nat × Value) := [(96, .aload_n 0, 1, 0, 0, 0, .null), (97, .getfield 23, 3, 0, 2, 0, .null), (100, .iload 4, 2, 0, 0, 0, .null), (102, .iload 5, 2, 0, 0, 0, .null), (104, .aload_n 0, 1, 0, 0, 0, .null), (105, .getfield 10, 3, 0, 0, 0, .null), (108, .getfield 122, 3, 1, 6, 0, .null), (111, .invokevirtual 180, 3, 58, 3, 0, .ref 2), (114, .aload_n 0, 1, 0, 0, 0, .null), (115, .getfield 29, 3, 0, 3, 0, .null), (118, .iload_n 2, 1, 0, 0, 0, .null), (119, .aload_n 0, 1, 0, 0, 0, .null), (120, .getfield 23, 3, 0, 2, 0, .null), (123, .aload_n 0, 1, 0, 0, 0, .null), (124, .getfield 10, 3, 0, 0, 0, .null), (127, .getfield 122, 3, 1, 6, 0, .null), (130, .invokevirtual 330, 3, 141, 3, 0, .ref 3), (133, .iload 6, 2, 0, 0, 0, .null), (135, .isub, 1, 0, 0, 0, .null), (136, .ireturn, 1, 0, 0, 0, .null)]
def qx_c140 : List (Nat × Instr × Nat × Nat × Nat × Nat × Value) := qx_c140_0 ++ (qx_c140_1)
/-- OneRoof$Feuds.pairsAt(ILOneRoof$Kinship;I)I -/
def qx_c141 : List (Nat × Instr × Nat × Nat × Nat × Nat × Value) := [(0, .iconst 0, 1, 0, 0, 0, .null), (1, .istore 4, 2, 0, 0, 0, .null), (3, .iconst 0, 1, 0, 0, 0, .null), (4, .istore 5, 2, 0, 0, 0, .null), (6, .iload 5, 2, 0, 0, 0, .null), (8, .iload_n 3, 1, 0, 0, 0, .null), (9, .if_icmp .ge 46, 3, 0, 0, 0, .null), (12, .iload 5, 2, 0, 0, 0, .null), (14, .iconst 1, 1, 0, 0, 0, .null), (15, .iadd, 1, 0, 0, 0, .null), (16, .istore 6, 2, 0, 0, 0, .null), (18, .iload 6, 2, 0, 0, 0, .null), (20, .iload_n 3, 1, 0, 0, 0, .null), (21, .if_icmp .ge 28, 3, 0, 0, 0, .null), (24, .aload_n 0, 1, 0, 0, 0, .null), (25, .iload 5, 2, 0, 0, 0, .null), (27, .iload 6, 2, 0, 0, 0, .null), (29, .iload_n 1, 1, 0, 0, 0, .null), (30, .aload_n 2, 1, 0, 0, 0, .null), (31, .invokevirtual 57, 3, 66, 4, 0, .ref 3), (34, .sipush 576, 3, 0, 0, 0, .null), (37, .if_icmp .ge 6, 3, 0, 0, 0, .null), (40, .iinc 4 1, 3, 0, 0, 0, .null), (43, .iinc 6 1, 3, 0, 0, 0, .null), (46, .goto (-28), 3, 0, 0, 0, .null), (49, .iinc 5 1, 3, 0, 0, 0, .null), (52, .goto (-46), 3, 0, 0, 0, .null), (55, .iload 4, 2, 0, 0, 0, .null), (57, .ireturn, 1, 0, 0, 0, .null)]
/-- OneRoof$Kinship.become(LOneRoof$Kinship;)V -/
def qx_c142 : List (Nat × Instr × Nat × Nat × Nat × Nat × Value) := [(0, .aload_n 1, 1, 0, 0, 0, .null), (1, .getfield 9, 3, 2, 0, 0, .null), (4, .iconst 0, 1, 0, 0, 0, .null), (5, .aload_n 0, 1, 0, 0, 0, .null), (6, .getfield 9, 3, 2, 0, 0, .null), (9, .iconst 0, 1, 0, 0, 0, .null), (10, .aload_n 0, 1, 0, 0, 0, .null), (11, .getfield 9, 3, 2, 0, 0, .null), (14, .arraylength, 1, 0, 0, 0, .null), (15, .invokestatic 34, 3, 0, 5, 7, .null), (18, .aload_n 0, 1, 0, 0, 0, .null), (19, .aload_n 1, 1, 0, 0, 0, .null), (20, .getfield 15, 3, 2, 1, 0, .null), (23, .putfield 15, 3, 2, 1, 0, .null), (26, .return_, 1, 0, 0, 0, .null)]
/-- OneRoof.undo()I -/
def qx_c143 : List (Nat × Instr × Nat × Nat × Nat × Nat × Value) := [(0, .aload_n 0, 1, 0, 0, 0, .null), (1, .getfield 100, 3, 0, 12, 0, .null), (4, .invokevirtual 338, 3, 144, 0, 0, .ref 11), (7, .ireturn, 1, 0, 0, 0, .null)]
/-- OneRoof$History.back()I -/
def qx_c144 : List (Nat × Instr × Nat × Nat × Nat × Nat × Value) := [(0, .aload_n 0, 1, 0, 0, 0, .null), (1, .getfield 24, 3, 11, 7, 0, .null), (4, .ifCond .gt 6, 3, 0, 0, 0, .null), (7, .bipush (-5), 2, 0, 0, 0, .null), (9, .ireturn, 1, 0, 0, 0, .null), (10, .aload_n 0, 1, 0, 0, 0, .null), (11, .dup, 1, 0, 0, 0, .null), (12, .getfield 24, 3, 11, 7, 0, .null), (15, .iconst 1, 1, 0, 0, 0, .null), (16, .isub, 1, 0, 0, 0, .null), (17, .putfield 24, 3, 11, 7, 0, .null), (20, .aload_n 0, 1, 0, 0, 0, .null), (21, .aload_n 0, 1, 0, 0, 0, .null), (22, .getfield 11, 3, 11, 3, 0, .null), (25, .aload_n 0, 1, 0, 0, 0, .null), (26, .getfield 24, 3, 11, 7, 0, .null), (29, .iaload, 1, 0, 0, 0, .null), (30, .aload_n 0, 1, 0, 0, 0, .null), (31, .getfield 15, 3, 11, 4, 0, .null), (34, .aload_n 0, 1, 0, 0, 0, .null), (35, .getfield 24, 3, 11, 7, 0, .null), (38, .iaload, 1, 0, 0, 0, .null), (39, .aload_n 0, 1, 0, 0, 0, .null), (40, .getfield 18, 3, 11, 5, 0, .null), (43, .aload_n 0, 1, 0, 0, 0, .null), (44, .getfield 24, 3, 11, 7, 0, .null), (47, .iaload, 1, 0, 0, 0, .null), (48, .invokevirtual 50, 3, 55, 3, 0, .ref 11), (51, .aload_n 0, 1, 0, 0, 0, .null), (52, .getfield 24, 3, 11, 7, 0, .null), (55, .ireturn, 1, 0, 0, 0, .null)]
/-- OneRoof.redo()I -/
def qx_c145 : List (Nat × Instr × Nat × Nat × Nat × Nat × Value) := [(0, .aload_n 0, 1, 0, 0, 0, .null), (1, .getfield 100, 3, 0, 12, 0, .null), (4, .invokevirtual 341, 3, 146, 0, 0, .ref 11), (7, .ireturn, 1, 0, 0, 0, .null)]
/-- OneRoof$History.again()I -/
def qx_c146 : List (Nat × Instr × Nat × Nat × Nat × Nat × Value) := [(0, .aload_n 0, 1, 0, 0, 0, .null), (1, .getfield 24, 3, 11, 7, 0, .null), (4, .aload_n 0, 1, 0, 0, 0, .null), (5, .getfield 28, 3, 11, 8, 0, .null), (8, .if_icmp .ge 12, 3, 0, 0, 0, .null), (11, .aload_n 0, 1, 0, 0, 0, .null), (12, .getfield 24, 3, 11, 7, 0, .null), (15, .bipush 40, 2, 0, 0, 0, .null), (17, .if_icmp .lt 6, 3, 0, 0, 0, .null), (20, .bipush (-5), 2, 0, 0, 0, .null), (22, .ireturn, 1, 0, 0, 0, .null), (23, .aload_n 0, 1, 0, 0, 0, .null), (24, .aload_n 0, 1, 0, 0, 0, .null), (25, .getfield 11, 3, 11, 3, 0, .null), (28, .aload_n 0, 1, 0, 0, 0, .null), (29, .getfield 24, 3, 11, 7, 0, .null), (32, .iaload, 1, 0, 0, 0, .null), (33, .aload_n 0, 1, 0, 0, 0, .null), (34, .getfield 15, 3, 11, 4, 0, .null), (37, .aload_n 0, 1, 0, 0, 0, .null), (38, .getfield 24, 3, 11, 7, 0, .null), (41, .iaload, 1, 0, 0, 0, .null), (42, .aload_n 0, 1, 0, 0, 0, .null), (43, .getfield 21, 3, 11, 6, 0, .null), (46, .aload_n 0, 1, 0, 0, 0, .null), (47, .getfield 24, 3, 11, 7, 0, .null), (50, .iaload, 1, 0, 0, 0, .null), (51, .invokevirtual 50, 3, 55, 3, 0, .ref 11), (54, .aload_n 0, 1, 0, 0, 0, .null), (55, .dup, 1, 0, 0, 0, .null), (56, .getfield 24, 3, 11, 7, 0, .null), (59, .iconst 1, 1, 0, 0, 0, .null), (60, .iadd, 1, 0, 0, 0, .null), (61, .putfield 24, 3, 11, 7, 0, .null), (64, .aload_n 0, 1, 0, 0, 0, .null), (65, .getfield 28, 3, 11, 8, 0, .null), (68, .aload_n 0, 1, 0, 0, 0, .null), (69, .getfield 24, 3, 11, 7, 0, .null), (72, .isub, 1, 0, 0, 0, .null), (73, .ireturn, 1, 0, 0, 0, .null)]
/-- OneRoof.act(III)I -/
def qx_c147 : List (Nat × Instr × Nat × Nat × Nat × Nat × Value) := [(0, .aload_n 0, 1, 0, 0, 0, .null), (1, .getfield 43, 3, 0, 5, 0, .null), (4, .invokevirtual 344, 3, 148, 0, 0, .ref 5), (7, .aload_n 0, 1, 0, 0, 0, .null), (8, .getfield 36, 3, 0, 4, 0, .null), (11, .iload_n 1, 1, 0, 0, 0, .null), (12, .invokevirtual 206, 3, 73, 1, 0, .ref 4), (15, .ifCond .eq 12, 3, 0, 0, 0, .null), (18, .iload_n 2, 1, 0, 0, 0, .null), (19, .ifCond .lt 8, 3, 0, 0, 0, .null), (22, .iload_n 2, 1, 0, 0, 0, .null), (23, .iconst 4, 1, 0, 0, 0, .null), (24, .if_icmp .lt 5, 3, 0, 0, 0, .null), (27, .iconst 0, 1, 0, 0, 0, .null), (28, .ireturn, 1, 0, 0, 0, .null), (29, .aload_n 0, 1, 0, 0, 0, .null), (30, .getfield 43, 3, 0, 5, 0, .null), (33, .aload_n 0, 1, 0, 0, 0, .null), (34, .getfield 36, 3, 0, 4, 0, .null), (37, .getfield 207, 3, 4, 0, 0, .null), (40, .iload_n 1, 1, 0, 0, 0, .null), (41, .iaload, 1, 0, 0, 0, .null), (42, .iload_n 2, 1, 0, 0, 0, .null), (43, .iload_n 3, 1, 0, 0, 0, .null), (44, .iload_n 1, 1, 0, 0, 0, .null), (45, .invokevirtual 347, 3, 149, 4, 0, .ref 5), (48, .ireturn, 1, 0, 0, 0, .null)]
/-- OneRoof$Acts.forget()V -/
def qx_c148 : List (Nat × Instr × Nat × Nat × Nat × Nat × Value) := [(0, .aload_n 0, 1, 0, 0, 0, .null), (1, .iconst 0, 1, 0, 0, 0, .null), (2, .putfield 13, 3, 5, 1, 0, .null), (5, .return_, 1, 0, 0, 0, .null)]
/-- OneRoof$Acts.start(IIII)I -/
def qx_c149 : List (Nat × Instr × Nat × Nat × Nat × Nat × Value) := [(0, .aload_n 0, 1, 0, 0, 0, .null), (1, .iload_n 1, 1, 0, 0, 0, .null), (2, .iload_n 2, 1, 0, 0, 0, .null), (3, .iload_n 3, 1, 0, 0, 0, .null), (4, .iload 4, 2, 0, 0, 0, .null), (6, .iconst 0, 1, 0, 0, 0, .null), (7, .invokevirtual 20, 3, 150, 5, 0, .ref 5), (10, .ireturn, 1, 0, 0, 0, .null)]
/-- OneRoof$Acts.run(IIIII)I -/
def qx_c150 : List (Nat × Instr × Nat × Nat × Nat × Nat × Value) := [(0, .aload_n 0, 1, 0, 0, 0, .null), (1, .iload_n 1, 1, 0, 0, 0, .null), (2, .iload_n 1, 1, 0, 0, 0, .null), (3, .iload_n 2, 1, 0, 0, 0, .null), (4, .iload_n 3, 1, 0, 0, 0, .null), (5, .iload 4, 2, 0, 0, 0, .null), (7, .iload 5, 2, 0, 0, 0, .null), (9, .invokevirtual 24, 3, 151, 6, 0, .ref 5), (12, .ireturn, 1, 0, 0, 0, .null)]
/-- OneRoof$Acts.runFrom(IIIIII)I -/
def qx_c151 : List (Nat × Instr × Nat × Nat × Nat × Nat × Value) := [(0, .iload_n 1, 1, 0, 0, 0, .null), (1, .istore 7, 2, 0, 0, 0, .null), (3, .iconst 0, 1, 0, 0, 0, .null), (4, .istore 8, 2, 0, 0, 0, .null), (6, .iload 8, 2, 0, 0, 0, .null), (8, .getstatic 17, 3, 0, 0, 0, .ref 1), (11, .arraylength, 1, 0, 0, 0, .null), (12, .if_icmp .ge 77, 3, 0, 0, 0, .null), (15, .iload 7, 2, 0, 0, 0, .null), (17, .ifCond .lt 72, 3, 0, 0, 0, .null), (20, .iload 7, 2, 0, 0, 0, .null), (22, .getstatic 17, 3, 0, 0, 0, .ref 1), (25, .arraylength, 1, 0, 0, 0, .null), (26, .if_icmp .ge 63, 3, 0, 0, 0, .null), (29, .getstatic 28, 3, 0, 0, 0, .ref 2), (32, .iload 7, 2, 0, 0, 0, .null), (34, .iconst 4, 1, 0, 0, 0, .null), (35, .imul, 1, 0, 0, 0, .null), (36, .iload_n 3, 1, 0, 0, 0, .null), (37, .iadd, 1, 0, 0, 0, .null), (38, .iaload, 1, 0, 0, 0, .null), (39, .istore 9, 2, 0, 0, 0, .null), (41, .iload 9, 2, 0, 0, 0, .null), (43, .ifCond .eq 32, 3, 0, 0, 0, .null), (46, .iload 6, 2, 0, 0, 0, .null), (48, .bipush 40, 2, 0, 0, 0, .null), (50, .if_icmp .le 7, 3, 0, 0, 0, .null), (53, .iconst 0, 1, 0, 0, 0, .null), (54, .goto 20, 3, 0, 0, 0, .null), (57, .aload_n 0, 1, 0, 0, 0, .null), (58, .iload 9, 2, 0, 0, 0, .null), (60, .iload 7, 2, 0, 0, 0, .null), (62, .iload_n 2, 1, 0, 0, 0, .null), (63, .iload 4, 2, 0, 0, 0, .null), (65, .iload 5, 2, 0, 0, 0, .null), (67, .iload 6, 2, 0, 0, 0, .null), (69, .iconst 1, 1, 0, 0, 0, .null), (70, .iadd, 1, 0, 0, 0, .null), (71, .invokevirtual 31, 3, 152, 6, 0, .ref 5), (74, .ireturn, 1, 0, 0, 0, .null), (75, .getstatic 17, 3, 0, 0, 0, .ref 1), (78, .iload 7, 2, 0, 0, 0, .null), (80, .iaload, 1, 0, 0, 0, .null), (81, .istore 7, 2, 0, 0, 0, .null), (83, .iinc 8 1, 3, 0, 0, 0, .null), (86, .goto (-80), 3, 0, 0, 0, .null), (89, .iconst 0, 1, 0, 0, 0, .null), (90, .ireturn, 1, 0, 0, 0, .null)]
/-- OneRoof$Acts.begin(IIIIII)I -/
def qx_c152_0 : List (Nat × Instr × Nat × Nat × Nat × Nat × Value) := [(0, .aload_n 0, 1, 0, 0, 0, .null), (1, .getfield 13, 3, 5, 1, 0, .null), (4, .aload_n 0, 1, 0, 0, 0, .null), (5, .getfield 7, 3, 5, 0, 0, .null), (8, .arraylength, 1, 0, 0, 0, .null), (9, .if_icmp .ge 13, 3, 0, 0, 0, .null), (12, .aload_n 0, 1, 0, 0, 0, .null), (13, .getfield 7, 3, 5, 0, 0, .null), (16, .aload_n 0, 1, 0, 0, 0, .null), (17, .getfield 13, 3, 5, 1, 0, .null), (20, .iload_n 1, 1, 0, 0, 0, .null), (21, .iastore, 1, 0, 0, 0, .null), (22, .aload_n 0, 1, 0, 0, 0, .null), (23, .dup, 1, 0, 0, 0, .null), (24, .getfield 13, 3, 5, 1, 0, .null), (27, .iconst 1, 1, 0, 0, 0, .null), (28, .iadd, 1, 0, 0, 0, .null), (29, .putfield 13, 3, 5, 1, 0, .null), (32, .getstatic 17, 3, 0, 0, 0, .ref 1), (35, .iload_n 2, 1, 0, 0, 0, .null), (36, .iaload, 1, 0, 0, 0, .null), (37, .istore 7, 2, 0, 0, 0, .null), (39, .iload_n 1, 1, 0, 0, 0, .null), (40, .lookupswitch 315 #[(1, 108), (2, 114), (10, 139), (11, 154), (20, 160), (30, 177), (31, 194), (40, 211), (50, 227), (60, 244), (70, 271), (71, 298)], 108, 0, 0, 0, .null), (148, .iload 4, 2, 0, 0, 0, .null), (150, .iload 5, 2, 0, 0, 0, .null), (152, .iadd, 1, 0, 0, 0, .null), (153, .ireturn, 1, 0, 0, 0, .null), (154, .aload_n 0, 1, 0, 0, 0, .null), (155, .iload_n 3, 1, 0, 0, 0, .null), (156, .iconst 1, 1, 0, 0, 0, .null), (157, .iload 4, 2, 0, 0, 0, .null), (159, .iload 5, 2, 0, 0, 0, .null), (161, .iload 6, 2, 0, 0, 0, .null), (163, .invokevirtual 20, 3, 150, 5, 0, .ref 5), (166, .aload_n 0, 1, 0, 0, 0, .null), (167, .iload_n 3, 1, 0, 0, 0, .null), (168, .iconst 2, 1, 0, 0, 0, .null), (169, .iconst 1, 1, 0, 0, 0, .null), (170, .iload 5, 2, 0, 0, 0, .null), (172, .iload 6, 2, 0, 0, 0, .null), (174, .invokevirtual 20, 3, 150, 5, 0, .ref 5), (177, .isub, 1, 0, 0, 0, .null), (178, .ireturn, 1, 0, 0, 0, .null), (179, .aload_n 0, 1, 0, 0, 0, .null), (180, .iload_n 3, 1, 0, 0, 0, .null), (181, .iconst 0, 1, 0, 0, 0, .null), (182, .iload 4, 2, 0, 0, 0, .null), (184, .iload 5, 2, 0, 0, 0, .null), (186, .iload 6, 2, 0, 0, 0, .null)]
def qx_c152_1 : List (Nat × Instr × Nat × Nat × Nat × Nat × Value) := [(188, .invokevirtual 20, 3, 150, 5, 0, .ref 5), (191, .iconst 2, 1, 0, 0, 0, .null), (192, .imul, 1, 0, 0, 0, .null), (193, .ireturn, 1, 0, 0, 0, .null), (194, .iload 4, 2, 0, 0, 0, .null), (196, .iload 5, 2, 0, 0, 0, .null), (198, .ixor, 1, 0, 0, 0, .null), (199, .ireturn, 1, 0, 0, 0, .null), (200, .aload_n 0, 1, 0, 0, 0, .null), (201, .iload 7, 2, 0, 0, 0, .null), (203, .iload_n 3, 1, 0, 0, 0, .null), (204, .iconst 0, 1, 0, 0, 0, .null), (205, .iload 4, 2, 0, 0, 0, .null), (207, .iload 5, 2, 0, 0, 0, .null), (209, .iload 6, 2, 0, 0, 0, .null), (211, .invokevirtual 24, 3, 151, 6, 0, .ref 5), (214, .iconst 3, 1, 0, 0, 0, .null), (215, .iadd, 1, 0, 0, 0, .null), (216, .ireturn, 1, 0, 0, 0, .null), (217, .aload_n 0, 1, 0, 0, 0, .null), (218, .iload 7, 2, 0, 0, 0, .null), (220, .iload_n 3, 1, 0, 0, 0, .null), (221, .iconst 2, 1, 0, 0, 0, .null), (222, .iload 4, 2, 0, 0, 0, .null), (224, .iload 5, 2, 0, 0, 0, .null), (226, .iload 6, 2, 0, 0, 0, .null), (228, .invokevirtual 24, 3, 151, 6, 0, .ref 5), (231, .iconst 3, 1, 0, 0, 0, .null), (232, .imul, 1, 0, 0, 0, .null), (233, .ireturn, 1, 0, 0, 0, .null), (234, .aload_n 0, 1, 0, 0, 0, .null), (235, .iload 7, 2, 0, 0, 0, .null), (237, .iload_n 3, 1, 0, 0, 0, .null), (238, .iconst 0, 1, 0, 0, 0, .null), (239, .iload 4, 2, 0, 0, 0, .null), (241, .iconst 1, 1, 0, 0, 0, .null), (242, .iadd, 1, 0, 0, 0, .null), (243, .iload 5, 2, 0, 0, 0, .null), (245, .iload 6, 2, 0, 0, 0, .null), (247, .invokevirtual 24, 3, 151, 6, 0, .ref 5), (250, .ireturn, 1, 0, 0, 0, .null), (251, .aload_n 0, 1, 0, 0, 0, .null), (252, .iload 7, 2, 0, 0, 0, .null), (254, .iload_n 3, 1, 0, 0, 0, .null), (255, .iconst 1, 1, 0, 0, 0, .null), (256, .iload 4, 2, 0, 0, 0, .null), (258, .iload 5, 2, 0, 0, 0, .null), (260, .iload 6, 2, 0, 0, 0, .null), (262, .invokevirtual 24, 3, 151, 6, 0, .ref 5), (265, .ineg, 1, 0, 0, 0, .null)]
def qx_c152_2 : List (Nat × Instr × Nat × Nat × Nat × Nat × Value) := [(266, .ireturn, 1, 0, 0, 0, .null), (267, .aload_n 0, 1, 0, 0, 0, .null), (268, .iload 7, 2, 0, 0, 0, .null), (270, .iload_n 3, 1, 0, 0, 0, .null), (271, .iconst 3, 1, 0, 0, 0, .null), (272, .iload 4, 2, 0, 0, 0, .null), (274, .iload 5, 2, 0, 0, 0, .null), (276, .iload 6, 2, 0, 0, 0, .null), (278, .invokevirtual 24, 3, 151, 6, 0, .ref 5), (281, .iconst 5, 1, 0, 0, 0, .null), (282, .ixor, 1, 0, 0, 0, .null), (283, .ireturn, 1, 0, 0, 0, .null), (284, .aload_n 0, 1, 0, 0, 0, .null), (285, .iload 7, 2, 0, 0, 0, .null), (287, .iload_n 3, 1, 0, 0, 0, .null), (288, .iconst 0, 1, 0, 0, 0, .null), (289, .iload 4, 2, 0, 0, 0, .null), (291, .iload 5, 2, 0, 0, 0, .null), (293, .iload 6, 2, 0, 0, 0, .null), (295, .invokevirtual 24, 3, 151, 6, 0, .ref 5), (298, .aload_n 0, 1, 0, 0, 0, .null), (299, .iload_n 3, 1, 0, 0, 0, .null), (300, .iconst 2, 1, 0, 0, 0, .null), (301, .iconst 2, 1, 0, 0, 0, .null), (302, .iload 5, 2, 0, 0, 0, .null), (304, .iload 6, 2, 0, 0, 0, .null), (306, .invokevirtual 20, 3, 150, 5, 0, .ref 5), (309, .isub, 1, 0, 0, 0, .null), (310, .ireturn, 1, 0, 0, 0, .null), (311, .aload_n 0, 1, 0, 0, 0, .null), (312, .iload 7, 2, 0, 0, 0, .null), (314, .iload_n 3, 1, 0, 0, 0, .null), (315, .iconst 2, 1, 0, 0, 0, .null), (316, .iload 4, 2, 0, 0, 0, .null), (318, .iload 5, 2, 0, 0, 0, .null), (320, .iload 6, 2, 0, 0, 0, .null), (322, .invokevirtual 24, 3, 151, 6, 0, .ref 5), (325, .aload_n 0, 1, 0, 0, 0, .null), (326, .iload_n 3, 1, 0, 0, 0, .null), (327, .iconst 0, 1, 0, 0, 0, .null), (328, .iconst 1, 1, 0, 0, 0, .null), (329, .iload 5, 2, 0, 0, 0, .null), (331, .iload 6, 2, 0, 0, 0, .null), (333, .invokevirtual 20, 3, 150, 5, 0, .ref 5), (336, .iadd, 1, 0, 0, 0, .null), (337, .ireturn, 1, 0, 0, 0, .null), (338, .aload_n 0, 1, 0, 0, 0, .null), (339, .iload 7, 2, 0, 0, 0, .null), (341, .iload_n 3, 1, 0, 0, 0, .null), (342, .iconst 1, 1, 0, 0, 0, .null)]
def qx_c152_3 : List (Nat × Instr × Nat × Nat × Nat × Nat × Value) := [(343, .iload 4, 2, 0, 0, 0, .null), (345, .iload 5, 2, 0, 0, 0, .null), (347, .iload 6, 2, 0, 0, 0, .null), (349, .invokevirtual 24, 3, 151, 6, 0, .ref 5), (352, .iconst 2, 1, 0, 0, 0, .null), (353, .imul, 1, 0, 0, 0, .null), (354, .ireturn, 1, 0, 0, 0, .null), (355, .iconst 0, 1, 0, 0, 0, .null), (356, .ireturn, 1, 0, 0, 0, .null)]
def qx_c152 : List (Nat × Instr × Nat × Nat × Nat × Nat × Value) := qx_c152_0 ++ (qx_c152_1 ++ (qx_c152_2 ++ (qx_c152_3)))
/-- OneRoof.trace(I)I -/
def qx_c153 : List (Nat × Instr × Nat × Nat × Nat × Nat × Value) := [(0, .iload_n 1, 1, 0, 0, 0, .null), (1, .ifCond .lt 26, 3, 0, 0, 0, .null), (4, .iload_n 1, 1, 0, 0, 0, .null), (5, .aload_n 0, 1, 0, 0, 0, .null), (6, .getfield 43, 3, 0, 5, 0, .null), (9, .getfield 351, 3, 5, 1, 0, .null), (12, .if_icmp .ge 15, 3, 0, 0, 0, .null), (15, .iload_n 1, 1, 0, 0, 0, .null), (16, .aload_n 0, 1, 0, 0, 0, .null), (17, .getfield 43, 3, 0, 5, 0, .null), (20, .getfield 354, 3, 5, 0, 0, .null), (23, .arraylength, 1, 0, 0, 0, .null), (24, .if_icmp .lt 5, 3, 0, 0, 0, .null), (27, .iconst (-1), 1, 0, 0, 0, .null), (28, .ireturn, 1, 0, 0, 0, .null), (29, .aload_n 0, 1, 0, 0, 0, .null), (30, .getfield 43, 3, 0, 5, 0, .null), (33, .getfield 354, 3, 5, 0, 0, .null), (36, .iload_n 1, 1, 0, 0, 0, .null), (37, .iaload, 1, 0, 0, 0, .null), (38, .ireturn, 1, 0, 0, 0, .null)]
/-- OneRoof.keep(II)I -/
def qx_c154 : List (Nat × Instr × Nat × Nat × Nat × Nat × Value) := [(0, .aload_n 0, 1, 0, 0, 0, .null), (1, .getfield 50, 3, 0, 6, 0, .null), (4, .iload_n 1, 1, 0, 0, 0, .null), (5, .invokevirtual 129, 3, 44, 1, 0, .ref 6), (8, .ifCond .eq 19, 3, 0, 0, 0, .null), (11, .iload_n 2, 1, 0, 0, 0, .null), (12, .iconst (-1), 1, 0, 0, 0, .null), (13, .if_icmp .eq 16, 3, 0, 0, 0, .null), (16, .aload_n 0, 1, 0, 0, 0, .null), (17, .getfield 36, 3, 0, 4, 0, .null), (20, .iload_n 2, 1, 0, 0, 0, .null), (21, .invokevirtual 206, 3, 73, 1, 0, .ref 4), (24, .ifCond .ne 5, 3, 0, 0, 0, .null), (27, .iconst (-1), 1, 0, 0, 0, .null), (28, .ireturn, 1, 0, 0, 0, .null), (29, .aload_n 0, 1, 0, 0, 0, .null), (30, .getfield 50, 3, 0, 6, 0, .null), (33, .iload_n 1, 1, 0, 0, 0, .null), (34, .iload_n 2, 1, 0, 0, 0, .null), (35, .invokevirtual 357, 3, 155, 2, 0, .ref 6), (38, .iconst 1, 1, 0, 0, 0, .null), (39, .ireturn, 1, 0, 0, 0, .null)]
/-- OneRoof$Pegs.hang(II)V -/
def qx_c155 : List (Nat × Instr × Nat × Nat × Nat × Nat × Value) := [(0, .aload_n 0, 1, 0, 0, 0, .null), (1, .getfield 11, 3, 6, 0, 0, .null), (4, .iload_n 1, 1, 0, 0, 0, .null), (5, .iload_n 2, 1, 0, 0, 0, .null), (6, .ifCond .ge 8, 3, 0, 0, 0, .null), (9, .bipush 6, 2, 0, 0, 0, .null), (11, .goto 4, 3, 0, 0, 0, .null), (14, .iconst 5, 1, 0, 0, 0, .null), (15, .iastore, 1, 0, 0, 0, .null), (16, .aload_n 0, 1, 0, 0, 0, .null), (17, .getfield 18, 3, 6, 2, 0, .null), (20, .iload_n 1, 1, 0, 0, 0, .null), (21, .iload_n 2, 1, 0, 0, 0, .null), (22, .iastore, 1, 0, 0, 0, .null), (23, .aload_n 0, 1, 0, 0, 0, .null), (24, .getfield 15, 3, 6, 1, 0, .null), (27, .iload_n 1, 1, 0, 0, 0, .null), (28, .iconst 0, 1, 0, 0, 0, .null), (29, .iastore, 1, 0, 0, 0, .null), (30, .return_, 1, 0, 0, 0, .null)]
/-- OneRoof.row(III)I -/
def qx_c156 : List (Nat × Instr × Nat × Nat × Nat × Nat × Value) := [(0, .aload_n 0, 1, 0, 0, 0, .null), (1, .getfield 50, 3, 0, 6, 0, .null), (4, .iload_n 1, 1, 0, 0, 0, .null), (5, .invokevirtual 129, 3, 44, 1, 0, .ref 6), (8, .ifCond .eq 18, 3, 0, 0, 0, .null), (11, .iload_n 2, 1, 0, 0, 0, .null), (12, .ifCond .lt 14, 3, 0, 0, 0, .null), (15, .iload_n 2, 1, 0, 0, 0, .null), (16, .iconst 5, 1, 0, 0, 0, .null), (17, .if_icmp .ge 9, 3, 0, 0, 0, .null), (20, .iload_n 3, 1, 0, 0, 0, .null), (21, .bipush 60, 2, 0, 0, 0, .null), (23, .if_icmp .le 5, 3, 0, 0, 0, .null), (26, .iconst (-1), 1, 0, 0, 0, .null), (27, .ireturn, 1, 0, 0, 0, .null), (28, .iload_n 3, 1, 0, 0, 0, .null), (29, .ifCond .ge 6, 3, 0, 0, 0, .null), (32, .bipush (-14), 2, 0, 0, 0, .null), (34, .ireturn, 1, 0, 0, 0, .null), (35, .aload_n 0, 1, 0, 0, 0, .null), (36, .getfield 50, 3, 0, 6, 0, .null), (39, .iload_n 1, 1, 0, 0, 0, .null), (40, .iload_n 2, 1, 0, 0, 0, .null), (41, .iload_n 3, 1, 0, 0, 0, .null), (42, .invokevirtual 360, 3, 157, 3, 0, .ref 6), (45, .iconst 1, 1, 0, 0, 0, .null), (46, .ireturn, 1, 0, 0, 0, .null)]
/-- OneRoof$Pegs.hangRow(III)V -/
def qx_c157 : List (Nat × Instr × Nat × Nat × Nat × Nat × Value) := [(0, .aload_n 0, 1, 0, 0, 0, .null), (1, .getfield 11, 3, 6, 0, 0, .null), (4, .iload_n 1, 1, 0, 0, 0, .null), (5, .iload_n 2, 1, 0, 0, 0, .null), (6, .iastore, 1, 0, 0, 0, .null), (7, .aload_n 0, 1, 0, 0, 0, .null), (8, .getfield 15, 3, 6, 1, 0, .null), (11, .iload_n 1, 1, 0, 0, 0, .null), (12, .iload_n 3, 1, 0, 0, 0, .null), (13, .iastore, 1, 0, 0, 0, .null), (14, .iconst 0, 1, 0, 0, 0, .null), (15, .istore 4, 2, 0, 0, 0, .null), (17, .iload 4, 2, 0, 0, 0, .null), (19, .iload_n 3, 1, 0, 0, 0, .null), (20, .if_icmp .ge 22, 3, 0, 0, 0, .null), (23, .aload_n 0, 1, 0, 0, 0, .null), (24, .getfield 21, 3, 6, 3, 0, .null), (27, .iload_n 1, 1, 0, 0, 0, .null), (28, .bipush 60, 2, 0, 0, 0, .null), (30, .imul, 1, 0, 0, 0, .null), (31, .iload 4, 2, 0, 0, 0, .null), (33, .iadd, 1, 0, 0, 0, .null), (34, .lconst 0, 1, 0, 0, 0, .null), (35, .lastore, 1, 0, 0, 0, .null), (36, .iinc 4 1, 3, 0, 0, 0, .null), (39, .goto (-22), 3, 0, 0, 0, .null), (42, .return_, 1, 0, 0, 0, .null)]
/-- OneRoof.put(IIJ)I -/
def qx_c158 : List (Nat × Instr × Nat × Nat × Nat × Nat × Value) := [(0, .aload_n 0, 1, 0, 0, 0, .null), (1, .getfield 50, 3, 0, 6, 0, .null), (4, .iload_n 1, 1, 0, 0, 0, .null), (5, .invokevirtual 129, 3, 44, 1, 0, .ref 6), (8, .ifCond .ne 5, 3, 0, 0, 0, .null), (11, .iconst (-1), 1, 0, 0, 0, .null), (12, .ireturn, 1, 0, 0, 0, .null), (13, .aload_n 0, 1, 0, 0, 0, .null), (14, .getfield 50, 3, 0, 6, 0, .null), (17, .iload_n 1, 1, 0, 0, 0, .null), (18, .iload_n 2, 1, 0, 0, 0, .null), (19, .invokevirtual 363, 3, 159, 2, 0, .ref 6), (22, .istore 5, 2, 0, 0, 0, .null), (24, .iload 5, 2, 0, 0, 0, .null), (26, .ifCond .eq 6, 3, 0, 0, 0, .null), (29, .iload 5, 2, 0, 0, 0, .null), (31, .ireturn, 1, 0, 0, 0, .null), (32, .aload_n 0, 1, 0, 0, 0, .null), (33, .getfield 50, 3, 0, 6, 0, .null), (36, .iload_n 1, 1, 0, 0, 0, .null), (37, .iload_n 2, 1, 0, 0, 0, .null), (38, .lload_n 3, 1, 0, 0, 0, .null), (39, .invokevirtual 366, 3, 160, 3, 0, .ref 6), (42, .iconst 1, 1, 0, 0, 0, .null), (43, .ireturn, 1, 0, 0, 0, .null)]
/-- OneRoof$Pegs.refusalAt(II)I -/
def qx_c159 : List (Nat × Instr × Nat × Nat × Nat × Nat × Value) := [(0, .aload_n 0, 1, 0, 0, 0, .null), (1, .iload_n 1, 1, 0, 0, 0, .null), (2, .invokevirtual 29, 3, 45, 1, 0, .ref 6), (5, .ifCond .eq 6, 3, 0, 0, 0, .null), (8, .bipush (-11), 2, 0, 0, 0, .null), (10, .ireturn, 1, 0, 0, 0, .null), (11, .aload_n 0, 1, 0, 0, 0, .null), (12, .iload_n 1, 1, 0, 0, 0, .null), (13, .invokevirtual 25, 3, 47, 1, 0, .ref 6), (16, .ifCond .ne 6, 3, 0, 0, 0, .null), (19, .bipush (-12), 2, 0, 0, 0, .null), (21, .ireturn, 1, 0, 0, 0, .null), (22, .iload_n 2, 1, 0, 0, 0, .null), (23, .ifCond .lt 13, 3, 0, 0, 0, .null), (26, .iload_n 2, 1, 0, 0, 0, .null), (27, .aload_n 0, 1, 0, 0, 0, .null), (28, .getfield 15, 3, 6, 1, 0, .null), (31, .iload_n 1, 1, 0, 0, 0, .null), (32, .iaload, 1, 0, 0, 0, .null), (33, .if_icmp .lt 8, 3, 0, 0, 0, .null), (36, .bipush (-13), 2, 0, 0, 0, .null), (38, .goto 4, 3, 0, 0, 0, .null), (41, .iconst 0, 1, 0, 0, 0, .null), (42, .ireturn, 1, 0, 0, 0, .null)]
/-- OneRoof$Pegs.store(IIJ)V -/
def qx_c160 : List (Nat × Instr × Nat × Nat × Nat × Nat × Value) := [(0, .aload_n 0, 1, 0, 0, 0, .null), (1, .getfield 21, 3, 6, 3, 0, .null), (4, .iload_n 1, 1, 0, 0, 0, .null), (5, .bipush 60, 2, 0, 0, 0, .null), (7, .imul, 1, 0, 0, 0, .null), (8, .iload_n 2, 1, 0, 0, 0, .null), (9, .iadd, 1, 0, 0, 0, .null), (10, .aload_n 0, 1, 0, 0, 0, .null), (11, .getfield 11, 3, 6, 0, 0, .null), (14, .iload_n 1, 1, 0, 0, 0, .null), (15, .iaload, 1, 0, 0, 0, .null), (16, .lload_n 3, 1, 0, 0, 0, .null), (17, .invokestatic 32, 3, 161, 2, 2, .null), (20, .lastore, 1, 0, 0, 0, .null), (21, .return_, 1, 0, 0, 0, .null)]
/-- OneRoof$Pegs.narrowed(IJ)J -/
def qx_c161 : List (Nat × Instr × Nat × Nat × Nat × Nat × Value) := [(0, .iload_n 0, 1, 0, 0, 0, .null), (1, .tableswitch 47 0 3 #[31, 36, 41, 45], 31, 0, 0, 0, .null), (32, .lload_n 1, 1, 0, 0, 0, .null), (33, .l2i, 1, 0, 0, 0, .null), (34, .i2b, 1, 0, 0, 0, .null), (35, .i2l, 1, 0, 0, 0, .null), (36, .lreturn, 1, 0, 0, 0, .null), (37, .lload_n 1, 1, 0, 0, 0, .null), (38, .l2i, 1, 0, 0, 0, .null), (39, .i2s, 1, 0, 0, 0, .null), (40, .i2l, 1, 0, 0, 0, .null), (41, .lreturn, 1, 0, 0, 0, .null), (42, .lload_n 1, 1, 0, 0, 0, .null), (43, .l2i, 1, 0, 0, 0, .null), (44, .i2l, 1, 0, 0, 0, .null), (45, .lreturn, 1, 0, 0, 0, .null), (46, .lload_n 1, 1, 0, 0, 0, .null), (47, .lreturn, 1, 0, 0, 0, .null), (48, .lload_n 1, 1, 0, 0, 0, .null), (49, .lconst 0, 1, 0, 0, 0, .null), (50, .lcmp, 1, 0, 0, 0, .null), (51, .ifCond .eq 7, 3, 0, 0, 0, .null), (54, .lconst 1, 1, 0, 0, 0, .null), (55, .goto 4, 3, 0, 0, 0, .null), (58, .lconst 0, 1, 0, 0, 0, .null), (59, .lreturn, 1, 0, 0, 0, .null)]
/-- OneRoof.element(II)J -/
def qx_c162 : List (Nat × Instr × Nat × Nat × Nat × Nat × Value) := [(0, .aload_n 0, 1, 0, 0, 0, .null), (1, .getfield 50, 3, 0, 6, 0, .null), (4, .iload_n 1, 1, 0, 0, 0, .null), (5, .invokevirtual 129, 3, 44, 1, 0, .ref 6), (8, .ifCond .eq 15, 3, 0, 0, 0, .null), (11, .aload_n 0, 1, 0, 0, 0, .null), (12, .getfield 50, 3, 0, 6, 0, .null), (15, .iload_n 1, 1, 0, 0, 0, .null), (16, .iload_n 2, 1, 0, 0, 0, .null), (17, .invokevirtual 363, 3, 159, 2, 0, .ref 6), (20, .ifCond .eq 7, 3, 0, 0, 0, .null), (23, .ldc2_w 369, 3, 0, 0, 2, .long (-9223372036854775808)), (26, .lreturn, 1, 0, 0, 0, .null), (27, .aload_n 0, 1, 0, 0, 0, .null), (28, .getfield 50, 3, 0, 6, 0, .null), (31, .iload_n 1, 1, 0, 0, 0, .null), (32, .iload_n 2, 1, 0, 0, 0, .null), (33, .invokevirtual 147, 3, 48, 2, 0, .ref 6), (36, .lreturn, 1, 0, 0, 0, .null)]
/-- OneRoof.shift(IIIII)I -/
def qx_c163_0 : List (Nat × Instr × Nat × Nat × Nat × Nat × Value) := [(0, .aload_n 0, 1, 0, 0, 0, .null), (1, .getfield 50, 3, 0, 6, 0, .null), (4, .iload_n 1, 1, 0, 0, 0, .null), (5, .invokevirtual 129, 3, 44, 1, 0, .ref 6), (8, .ifCond .eq 14, 3, 0, 0, 0, .null), (11, .aload_n 0, 1, 0, 0, 0, .null), (12, .getfield 50, 3, 0, 6, 0, .null), (15, .iload_n 3, 1, 0, 0, 0, .null), (16, .invokevirtual 129, 3, 44, 1, 0, .ref 6), (19, .ifCond .ne 5, 3, 0, 0, 0, .null), (22, .iconst (-1), 1, 0, 0, 0, .null), (23, .ireturn, 1, 0, 0, 0, .null), (24, .aload_n 0, 1, 0, 0, 0, .null), (25, .getfield 50, 3, 0, 6, 0, .null), (28, .iload_n 1, 1, 0, 0, 0, .null), (29, .invokevirtual 133, 3, 45, 1, 0, .ref 6), (32, .ifCond .ne 14, 3, 0, 0, 0, .null), (35, .aload_n 0, 1, 0, 0, 0, .null), (36, .getfield 50, 3, 0, 6, 0, .null), (39, .iload_n 3, 1, 0, 0, 0, .null), (40, .invokevirtual 133, 3, 45, 1, 0, .ref 6), (43, .ifCond .eq 6, 3, 0, 0, 0, .null), (46, .bipush (-11), 2, 0, 0, 0, .null), (48, .ireturn, 1, 0, 0, 0, .null), (49, .aload_n 0, 1, 0, 0, 0, .null), (50, .getfield 50, 3, 0, 6, 0, .null), (53, .iload_n 1, 1, 0, 0, 0, .null), (54, .invokevirtual 371, 3, 47, 1, 0, .ref 6), (57, .ifCond .eq 23, 3, 0, 0, 0, .null), (60, .aload_n 0, 1, 0, 0, 0, .null), (61, .getfield 50, 3, 0, 6, 0, .null), (64, .iload_n 3, 1, 0, 0, 0, .null), (65, .aload_n 0, 1, 0, 0, 0, .null), (66, .getfield 50, 3, 0, 6, 0, .null), (69, .getfield 374, 3, 6, 0, 0, .null), (72, .iload_n 1, 1, 0, 0, 0, .null), (73, .iaload, 1, 0, 0, 0, .null), (74, .invokevirtual 136, 3, 46, 2, 0, .ref 6), (77, .ifCond .ne 6, 3, 0, 0, 0, .null), (80, .bipush (-12), 2, 0, 0, 0, .null), (82, .ireturn, 1, 0, 0, 0, .null), (83, .aload_n 0, 1, 0, 0, 0, .null), (84, .getfield 50, 3, 0, 6, 0, .null), (87, .iload_n 1, 1, 0, 0, 0, .null), (88, .iload_n 2, 1, 0, 0, 0, .null), (89, .iload 5, 2, 0, 0, 0, .null), (91, .invokevirtual 377, 3, 164, 3, 0, .ref 6), (94, .ifCond .eq 18, 3, 0, 0, 0, .null), (97, .aload_n 0, 1, 0, 0, 0, .null), (98, .getfield 50, 3, 0, 6, 0, .null)]
def qx_c163_1 : List (Nat × Instr × Nat × Nat × Nat × Nat × Value) := [(101, .iload_n 3, 1, 0, 0, 0, .null), (102, .iload 4, 2, 0, 0, 0, .null), (104, .iload 5, 2, 0, 0, 0, .null), (106, .invokevirtual 377, 3, 164, 3, 0, .ref 6), (109, .ifCond .ne 6, 3, 0, 0, 0, .null), (112, .bipush (-13), 2, 0, 0, 0, .null), (114, .ireturn, 1, 0, 0, 0, .null), (115, .aload_n 0, 1, 0, 0, 0, .null), (116, .getfield 50, 3, 0, 6, 0, .null), (119, .iload_n 1, 1, 0, 0, 0, .null), (120, .iload_n 2, 1, 0, 0, 0, .null), (121, .iload_n 3, 1, 0, 0, 0, .null), (122, .iload 4, 2, 0, 0, 0, .null), (124, .iload 5, 2, 0, 0, 0, .null), (126, .invokevirtual 380, 3, 165, 5, 0, .ref 6), (129, .iload 5, 2, 0, 0, 0, .null), (131, .ireturn, 1, 0, 0, 0, .null)]
def qx_c163 : List (Nat × Instr × Nat × Nat × Nat × Nat × Value) := qx_c163_0 ++ (qx_c163_1)
/-- OneRoof$Pegs.hasRun(III)Z -/
def qx_c164 : List (Nat × Instr × Nat × Nat × Nat × Nat × Value) := [(0, .iload_n 2, 1, 0, 0, 0, .null), (1, .ifCond .lt 33, 3, 0, 0, 0, .null), (4, .iload_n 3, 1, 0, 0, 0, .null), (5, .ifCond .lt 29, 3, 0, 0, 0, .null), (8, .iload_n 3, 1, 0, 0, 0, .null), (9, .aload_n 0, 1, 0, 0, 0, .null), (10, .getfield 15, 3, 6, 1, 0, .null), (13, .iload_n 1, 1, 0, 0, 0, .null), (14, .iaload, 1, 0, 0, 0, .null), (15, .if_icmp .gt 19, 3, 0, 0, 0, .null), (18, .iload_n 2, 1, 0, 0, 0, .null), (19, .aload_n 0, 1, 0, 0, 0, .null), (20, .getfield 15, 3, 6, 1, 0, .null), (23, .iload_n 1, 1, 0, 0, 0, .null), (24, .iaload, 1, 0, 0, 0, .null), (25, .iload_n 3, 1, 0, 0, 0, .null), (26, .isub, 1, 0, 0, 0, .null), (27, .if_icmp .gt 7, 3, 0, 0, 0, .null), (30, .iconst 1, 1, 0, 0, 0, .null), (31, .goto 4, 3, 0, 0, 0, .null), (34, .iconst 0, 1, 0, 0, 0, .null), (35, .ireturn, 1, 0, 0, 0, .null)]
/-- OneRoof$Pegs.copyRun(IIIII)V -/
def qx_c165 : List (Nat × Instr × Nat × Nat × Nat × Nat × Value) := [(0, .aload_n 0, 1, 0, 0, 0, .null), (1, .getfield 21, 3, 6, 3, 0, .null), (4, .iload_n 1, 1, 0, 0, 0, .null), (5, .bipush 60, 2, 0, 0, 0, .null), (7, .imul, 1, 0, 0, 0, .null), (8, .iload_n 2, 1, 0, 0, 0, .null), (9, .iadd, 1, 0, 0, 0, .null), (10, .aload_n 0, 1, 0, 0, 0, .null), (11, .getfield 21, 3, 6, 3, 0, .null), (14, .iload_n 3, 1, 0, 0, 0, .null), (15, .bipush 60, 2, 0, 0, 0, .null), (17, .imul, 1, 0, 0, 0, .null), (18, .iload 4, 2, 0, 0, 0, .null), (20, .iadd, 1, 0, 0, 0, .null), (21, .iload 5, 2, 0, 0, 0, .null), (23, .invokestatic 36, 3, 0, 5, 7, .null), (26, .return_, 1, 0, 0, 0, .null)]
/-- OneRoof.taken(II)I -/
def qx_c166 : List (Nat × Instr × Nat × Nat × Nat × Nat × Value) := [(0, .aload_n 0, 1, 0, 0, 0, .null), (1, .getfield 50, 3, 0, 6, 0, .null), (4, .iload_n 1, 1, 0, 0, 0, .null), (5, .invokevirtual 129, 3, 44, 1, 0, .ref 6), (8, .ifCond .eq 13, 3, 0, 0, 0, .null), (11, .iload_n 2, 1, 0, 0, 0, .null), (12, .ifCond .lt 9, 3, 0, 0, 0, .null), (15, .iload_n 2, 1, 0, 0, 0, .null), (16, .bipush 6, 2, 0, 0, 0, .null), (18, .if_icmp .le 5, 3, 0, 0, 0, .null), (21, .iconst (-1), 1, 0, 0, 0, .null), (22, .ireturn, 1, 0, 0, 0, .null), (23, .aload_n 0, 1, 0, 0, 0, .null), (24, .getfield 50, 3, 0, 6, 0, .null), (27, .iload_n 1, 1, 0, 0, 0, .null), (28, .invokevirtual 133, 3, 45, 1, 0, .ref 6), (31, .ifCond .eq 6, 3, 0, 0, 0, .null), (34, .bipush (-11), 2, 0, 0, 0, .null), (36, .ireturn, 1, 0, 0, 0, .null), (37, .aload_n 0, 1, 0, 0, 0, .null), (38, .getfield 50, 3, 0, 6, 0, .null), (41, .iload_n 1, 1, 0, 0, 0, .null), (42, .invokevirtual 384, 3, 167, 1, 0, .ref 6), (45, .istore_n 3, 1, 0, 0, 0, .null), (46, .aload_n 0, 1, 0, 0, 0, .null), (47, .getfield 36, 3, 0, 4, 0, .null), (50, .iload_n 3, 1, 0, 0, 0, .null), (51, .invokevirtual 206, 3, 73, 1, 0, .ref 4), (54, .ifCond .eq 19, 3, 0, 0, 0, .null), (57, .aload_n 0, 1, 0, 0, 0, .null), (58, .getfield 36, 3, 0, 4, 0, .null), (61, .getfield 207, 3, 4, 0, 0, .null), (64, .iload_n 3, 1, 0, 0, 0, .null), (65, .iaload, 1, 0, 0, 0, .null), (66, .iload_n 2, 1, 0, 0, 0, .null), (67, .invokestatic 388, 3, 168, 2, 2, .null), (70, .ifCond .ne 6, 3, 0, 0, 0, .null), (73, .bipush (-12), 2, 0, 0, 0, .null), (75, .ireturn, 1, 0, 0, 0, .null), (76, .aload_n 0, 1, 0, 0, 0, .null), (77, .getfield 36, 3, 0, 4, 0, .null), (80, .getfield 207, 3, 4, 0, 0, .null), (83, .iload_n 3, 1, 0, 0, 0, .null), (84, .iaload, 1, 0, 0, 0, .null), (85, .ireturn, 1, 0, 0, 0, .null)]
/-- OneRoof$Pegs.peaceOn(I)I -/
def qx_c167 : List (Nat × Instr × Nat × Nat × Nat × Nat × Value) := [(0, .aload_n 0, 1, 0, 0, 0, .null), (1, .getfield 11, 3, 6, 0, 0, .null), (4, .iload_n 1, 1, 0, 0, 0, .null), (5, .iaload, 1, 0, 0, 0, .null), (6, .iconst 5, 1, 0, 0, 0, .null), (7, .if_icmp .ne 12, 3, 0, 0, 0, .null), (10, .aload_n 0, 1, 0, 0, 0, .null), (11, .getfield 18, 3, 6, 2, 0, .null), (14, .iload_n 1, 1, 0, 0, 0, .null), (15, .iaload, 1, 0, 0, 0, .null), (16, .goto 4, 3, 0, 0, 0, .null), (19, .iconst (-1), 1, 0, 0, 0, .null), (20, .ireturn, 1, 0, 0, 0, .null)]
/-- OneRoof$Acts.isUnder(II)Z -/
def qx_c168 : List (Nat × Instr × Nat × Nat × Nat × Nat × Value) := [(0, .iload_n 0, 1, 0, 0, 0, .null), (1, .istore_n 2, 1, 0, 0, 0, .null), (2, .iconst 0, 1, 0, 0, 0, .null), (3, .istore_n 3, 1, 0, 0, 0, .null), (4, .iload_n 3, 1, 0, 0, 0, .null), (5, .getstatic 17, 3, 0, 0, 0, .ref 1), (8, .arraylength, 1, 0, 0, 0, .null), (9, .if_icmp .ge 34, 3, 0, 0, 0, .null), (12, .iload_n 2, 1, 0, 0, 0, .null), (13, .ifCond .lt 30, 3, 0, 0, 0, .null), (16, .iload_n 2, 1, 0, 0, 0, .null), (17, .getstatic 17, 3, 0, 0, 0, .ref 1), (20, .arraylength, 1, 0, 0, 0, .null), (21, .if_icmp .ge 22, 3, 0, 0, 0, .null), (24, .iload_n 2, 1, 0, 0, 0, .null), (25, .iload_n 1, 1, 0, 0, 0, .null), (26, .if_icmp .ne 5, 3, 0, 0, 0, .null), (29, .iconst 1, 1, 0, 0, 0, .null), (30, .ireturn, 1, 0, 0, 0, .null), (31, .getstatic 17, 3, 0, 0, 0, .ref 1), (34, .iload_n 2, 1, 0, 0, 0, .null), (35, .iaload, 1, 0, 0, 0, .null), (36, .istore_n 2, 1, 0, 0, 0, .null), (37, .iinc 3 1, 3, 0, 0, 0, .null), (40, .goto (-36), 3, 0, 0, 0, .null), (43, .iconst 0, 1, 0, 0, 0, .null), (44, .ireturn, 1, 0, 0, 0, .null)]
/-- OneRoof.count(I)I -/
def qx_c169 : List (Nat × Instr × Nat × Nat × Nat × Nat × Value) := [(0, .iload_n 1, 1, 0, 0, 0, .null), (1, .tableswitch 111 0 7 #[47, 55, 63, 71, 79, 84, 92, 103], 47, 0, 0, 0, .null), (48, .aload_n 0, 1, 0, 0, 0, .null), (49, .getfield 10, 3, 0, 0, 0, .null), (52, .getfield 122, 3, 1, 6, 0, .null), (55, .ireturn, 1, 0, 0, 0, .null), (56, .aload_n 0, 1, 0, 0, 0, .null), (57, .getfield 19, 3, 0, 1, 0, .null), (60, .getfield 179, 3, 2, 1, 0, .null), (63, .ireturn, 1, 0, 0, 0, .null), (64, .aload_n 0, 1, 0, 0, 0, .null), (65, .getfield 29, 3, 0, 3, 0, .null), (68, .getfield 190, 3, 3, 7, 0, .null), (71, .ireturn, 1, 0, 0, 0, .null), (72, .aload_n 0, 1, 0, 0, 0, .null), (73, .getfield 36, 3, 0, 4, 0, .null), (76, .getfield 202, 3, 4, 7, 0, .null), (79, .ireturn, 1, 0, 0, 0, .null), (80, .aload_n 0, 1, 0, 0, 0, .null), (81, .getfield 114, 3, 0, 15, 0, .null), (84, .ireturn, 1, 0, 0, 0, .null), (85, .aload_n 0, 1, 0, 0, 0, .null), (86, .getfield 100, 3, 0, 12, 0, .null), (89, .getfield 391, 3, 11, 7, 0, .null), (92, .ireturn, 1, 0, 0, 0, .null), (93, .aload_n 0, 1, 0, 0, 0, .null), (94, .getfield 10, 3, 0, 0, 0, .null), (97, .getfield 161, 3, 1, 5, 0, .null), (100, .invokestatic 226, 3, 74, 1, 2, .null), (103, .ireturn, 1, 0, 0, 0, .null), (104, .aload_n 0, 1, 0, 0, 0, .null), (105, .getfield 43, 3, 0, 5, 0, .null), (108, .getfield 351, 3, 5, 1, 0, .null), (111, .ireturn, 1, 0, 0, 0, .null), (112, .iconst (-1), 1, 0, 0, 0, .null), (113, .ireturn, 1, 0, 0, 0, .null)]
/-- OneRoofModel.<init>()V -/
def qx_c170_0 : List (Nat × Instr × Nat × Nat × Nat × Nat × Value) := [(0, .aload_n 0, 1, 0, 0, 0, .null), (1, .invokespecial 9, 3, 0, 0, 6, .null), (4, .aload_n 0, 1, 0, 0, 0, .null), (5, .sipush 252, 3, 0, 0, 0, .null), (8, .newarray .int, 2, 0, 0, 0, .null), (10, .putfield 15, 3, 12, 0, 0, .null), (13, .aload_n 0, 1, 0, 0, 0, .null), (14, .bipush 40, 2, 0, 0, 0, .null), (16, .newarray .int, 2, 0, 0, 0, .null), (18, .putfield 19, 3, 12, 1, 0, .null), (21, .aload_n 0, 1, 0, 0, 0, .null), (22, .bipush 40, 2, 0, 0, 0, .null), (24, .newarray .int, 2, 0, 0, 0, .null), (26, .putfield 22, 3, 12, 2, 0, .null), (29, .aload_n 0, 1, 0, 0, 0, .null), (30, .bipush 40, 2, 0, 0, 0, .null), (32, .newarray .int, 2, 0, 0, 0, .null), (34, .putfield 25, 3, 12, 3, 0, .null), (37, .aload_n 0, 1, 0, 0, 0, .null), (38, .bipush 32, 2, 0, 0, 0, .null), (40, .newarray .int, 2, 0, 0, 0, .null), (42, .putfield 28, 3, 12, 7, 0, .null), (45, .aload_n 0, 1, 0, 0, 0, .null), (46, .bipush 32, 2, 0, 0, 0, .null), (48, .newarray .int, 2, 0, 0, 0, .null), (50, .putfield 31, 3, 12, 8, 0, .null), (53, .aload_n 0, 1, 0, 0, 0, .null), (54, .bipush 32, 2, 0, 0, 0, .null), (56, .newarray .int, 2, 0, 0, 0, .null), (58, .putfield 34, 3, 12, 9, 0, .null), (61, .aload_n 0, 1, 0, 0, 0, .null), (62, .bipush 61, 2, 0, 0, 0, .null), (64, .newarray .int, 2, 0, 0, 0, .null), (66, .putfield 37, 3, 12, 12, 0, .null), (69, .aload_n 0, 1, 0, 0, 0, .null), (70, .bipush 61, 2, 0, 0, 0, .null), (72, .newarray .int, 2, 0, 0, 0, .null), (74, .putfield 40, 3, 12, 13, 0, .null), (77, .aload_n 0, 1, 0, 0, 0, .null), (78, .sipush 1024, 3, 0, 0, 0, .null), (81, .newarray .int, 2, 0, 0, 0, .null), (83, .putfield 43, 3, 12, 14, 0, .null), (86, .aload_n 0, 1, 0, 0, 0, .null), (87, .bipush 40, 2, 0, 0, 0, .null), (89, .newarray .int, 2, 0, 0, 0, .null), (91, .putfield 46, 3, 12, 17, 0, .null), (94, .aload_n 0, 1, 0, 0, 0, .null), (95, .bipush 40, 2, 0, 0, 0, .null), (97, .newarray .int, 2, 0, 0, 0, .null), (99, .putfield 49, 3, 12, 18, 0, .null)]
def qx_c170_1 : List (Nat × Instr × Nat × Nat × Nat × Nat × Value) := [(102, .aload_n 0, 1, 0, 0, 0, .null), (103, .bipush 40, 2, 0, 0, 0, .null), (105, .newarray .int, 2, 0, 0, 0, .null), (107, .putfield 52, 3, 12, 19, 0, .null), (110, .aload_n 0, 1, 0, 0, 0, .null), (111, .bipush 40, 2, 0, 0, 0, .null), (113, .newarray .int, 2, 0, 0, 0, .null), (115, .putfield 55, 3, 12, 20, 0, .null), (118, .aload_n 0, 1, 0, 0, 0, .null), (119, .bipush 40, 2, 0, 0, 0, .null), (121, .newarray .int, 2, 0, 0, 0, .null), (123, .putfield 58, 3, 12, 21, 0, .null), (126, .aload_n 0, 1, 0, 0, 0, .null), (127, .bipush 60, 2, 0, 0, 0, .null), (129, .newarray .int, 2, 0, 0, 0, .null), (131, .putfield 61, 3, 12, 25, 0, .null), (134, .aload_n 0, 1, 0, 0, 0, .null), (135, .bipush 60, 2, 0, 0, 0, .null), (137, .newarray .int, 2, 0, 0, 0, .null), (139, .putfield 64, 3, 12, 26, 0, .null), (142, .aload_n 0, 1, 0, 0, 0, .null), (143, .bipush 60, 2, 0, 0, 0, .null), (145, .newarray .int, 2, 0, 0, 0, .null), (147, .putfield 67, 3, 12, 27, 0, .null), (150, .aload_n 0, 1, 0, 0, 0, .null), (151, .bipush 60, 2, 0, 0, 0, .null), (153, .newarray .int, 2, 0, 0, 0, .null), (155, .putfield 70, 3, 12, 28, 0, .null), (158, .aload_n 0, 1, 0, 0, 0, .null), (159, .bipush 120, 2, 0, 0, 0, .null), (161, .newarray .int, 2, 0, 0, 0, .null), (163, .putfield 73, 3, 12, 31, 0, .null), (166, .aload_n 0, 1, 0, 0, 0, .null), (167, .sipush 240, 3, 0, 0, 0, .null), (170, .newarray .int, 2, 0, 0, 0, .null), (172, .putfield 76, 3, 12, 33, 0, .null), (175, .aload_n 0, 1, 0, 0, 0, .null), (176, .iconst 2, 1, 0, 0, 0, .null), (177, .newarray .int, 2, 0, 0, 0, .null), (179, .putfield 79, 3, 12, 34, 0, .null), (182, .aload_n 0, 1, 0, 0, 0, .null), (183, .bipush 9, 2, 0, 0, 0, .null), (185, .newarray .int, 2, 0, 0, 0, .null), (187, .putfield 82, 3, 12, 40, 0, .null), (190, .aload_n 0, 1, 0, 0, 0, .null), (191, .bipush 32, 2, 0, 0, 0, .null), (193, .newarray .int, 2, 0, 0, 0, .null), (195, .putfield 85, 3, 12, 42, 0, .null), (198, .aload_n 0, 1, 0, 0, 0, .null), (199, .bipush 12, 2, 0, 0, 0, .null)]
def qx_c170_2 : List (Nat × Instr × Nat × Nat × Nat × Nat × Value) := [(201, .newarray .int, 2, 0, 0, 0, .null), (203, .putfield 88, 3, 12, 44, 0, .null), (206, .aload_n 0, 1, 0, 0, 0, .null), (207, .sipush 4096, 3, 0, 0, 0, .null), (210, .newarray .int, 2, 0, 0, 0, .null), (212, .putfield 91, 3, 12, 45, 0, .null), (215, .aload_n 0, 1, 0, 0, 0, .null), (216, .bipush 10, 2, 0, 0, 0, .null), (218, .newarray .int, 2, 0, 0, 0, .null), (220, .putfield 94, 3, 12, 46, 0, .null), (223, .aload_n 0, 1, 0, 0, 0, .null), (224, .bipush 6, 2, 0, 0, 0, .null), (226, .newarray .int, 2, 0, 0, 0, .null), (228, .putfield 97, 3, 12, 47, 0, .null), (231, .aload_n 0, 1, 0, 0, 0, .null), (232, .bipush 31, 2, 0, 0, 0, .null), (234, .newarray .int, 2, 0, 0, 0, .null), (236, .putfield 100, 3, 12, 48, 0, .null), (239, .aload_n 0, 1, 0, 0, 0, .null), (240, .bipush 31, 2, 0, 0, 0, .null), (242, .newarray .int, 2, 0, 0, 0, .null), (244, .putfield 103, 3, 12, 49, 0, .null), (247, .aload_n 0, 1, 0, 0, 0, .null), (248, .ldc2_w 106, 3, 0, 0, 2, .long (-1)), (251, .putfield 108, 3, 12, 51, 0, .null), (254, .aload_n 0, 1, 0, 0, 0, .null), (255, .bipush 31, 2, 0, 0, 0, .null), (257, .newarray .int, 2, 0, 0, 0, .null), (259, .putfield 112, 3, 12, 52, 0, .null), (262, .aload_n 0, 1, 0, 0, 0, .null), (263, .bipush 31, 2, 0, 0, 0, .null), (265, .newarray .int, 2, 0, 0, 0, .null), (267, .putfield 115, 3, 12, 53, 0, .null), (270, .aload_n 0, 1, 0, 0, 0, .null), (271, .sipush 1024, 3, 0, 0, 0, .null), (274, .newarray .boolean, 2, 0, 0, 0, .null), (276, .putfield 118, 3, 12, 54, 0, .null), (279, .aload_n 0, 1, 0, 0, 0, .null), (280, .bipush 24, 2, 0, 0, 0, .null), (282, .newarray .int, 2, 0, 0, 0, .null), (284, .putfield 122, 3, 12, 55, 0, .null), (287, .aload_n 0, 1, 0, 0, 0, .null), (288, .bipush 6, 2, 0, 0, 0, .null), (290, .newarray .int, 2, 0, 0, 0, .null), (292, .putfield 125, 3, 12, 59, 0, .null), (295, .aload_n 0, 1, 0, 0, 0, .null), (296, .bipush 6, 2, 0, 0, 0, .null), (298, .newarray .int, 2, 0, 0, 0, .null), (300, .putfield 128, 3, 12, 60, 0, .null), (303, .aload_n 0, 1, 0, 0, 0, .null)]
def qx_c170_3 : List (Nat × Instr × Nat × Nat × Nat × Nat × Value) := [(304, .sipush 360, 3, 0, 0, 0, .null), (307, .newarray .long, 2, 0, 0, 0, .null), (309, .putfield 131, 3, 12, 61, 0, .null), (312, .aload_n 0, 1, 0, 0, 0, .null), (313, .bipush 60, 2, 0, 0, 0, .null), (315, .newarray .long, 2, 0, 0, 0, .null), (317, .putfield 135, 3, 12, 62, 0, .null), (320, .iconst 0, 1, 0, 0, 0, .null), (321, .istore_n 1, 1, 0, 0, 0, .null), (322, .iload_n 1, 1, 0, 0, 0, .null), (323, .bipush 6, 2, 0, 0, 0, .null), (325, .if_icmp .ge 16, 3, 0, 0, 0, .null), (328, .aload_n 0, 1, 0, 0, 0, .null), (329, .getfield 125, 3, 12, 59, 0, .null), (332, .iload_n 1, 1, 0, 0, 0, .null), (333, .iconst (-1), 1, 0, 0, 0, .null), (334, .iastore, 1, 0, 0, 0, .null), (335, .iinc 1 1, 3, 0, 0, 0, .null), (338, .goto (-16), 3, 0, 0, 0, .null), (341, .aload_n 0, 1, 0, 0, 0, .null), (342, .getfield 79, 3, 12, 34, 0, .null), (345, .iconst 0, 1, 0, 0, 0, .null), (346, .iconst (-1), 1, 0, 0, 0, .null), (347, .iastore, 1, 0, 0, 0, .null), (348, .aload_n 0, 1, 0, 0, 0, .null), (349, .getfield 79, 3, 12, 34, 0, .null), (352, .iconst 1, 1, 0, 0, 0, .null), (353, .iconst (-1), 1, 0, 0, 0, .null), (354, .iastore, 1, 0, 0, 0, .null), (355, .return_, 1, 0, 0, 0, .null)]
def qx_c170 : List (Nat × Instr × Nat × Nat × Nat × Nat × Value) := qx_c170_0 ++ (qx_c170_1 ++ (qx_c170_2 ++ (qx_c170_3)))
/-- OneRoofModel.undo()I -/
def qx_c171 : List (Nat × Instr × Nat × Nat × Nat × Nat × Value) := [(0, .aload_n 0, 1, 0, 0, 0, .null), (1, .getfield 138, 3, 12, 5, 0, .null), (4, .ifCond .ne 6, 3, 0, 0, 0, .null), (7, .bipush (-5), 2, 0, 0, 0, .null), (9, .ireturn, 1, 0, 0, 0, .null), (10, .aload_n 0, 1, 0, 0, 0, .null), (11, .dup, 1, 0, 0, 0, .null), (12, .getfield 138, 3, 12, 5, 0, .null), (15, .iconst 1, 1, 0, 0, 0, .null), (16, .isub, 1, 0, 0, 0, .null), (17, .putfield 138, 3, 12, 5, 0, .null), (20, .aload_n 0, 1, 0, 0, 0, .null), (21, .getfield 15, 3, 12, 0, 0, .null), (24, .aload_n 0, 1, 0, 0, 0, .null), (25, .getfield 19, 3, 12, 1, 0, .null), (28, .aload_n 0, 1, 0, 0, 0, .null), (29, .getfield 138, 3, 12, 5, 0, .null), (32, .iaload, 1, 0, 0, 0, .null), (33, .aload_n 0, 1, 0, 0, 0, .null), (34, .getfield 22, 3, 12, 2, 0, .null), (37, .aload_n 0, 1, 0, 0, 0, .null), (38, .getfield 138, 3, 12, 5, 0, .null), (41, .iaload, 1, 0, 0, 0, .null), (42, .iastore, 1, 0, 0, 0, .null), (43, .aload_n 0, 1, 0, 0, 0, .null), (44, .getfield 138, 3, 12, 5, 0, .null), (47, .ireturn, 1, 0, 0, 0, .null)]
/-- OneRoofModel.redo()I -/
def qx_c172 : List (Nat × Instr × Nat × Nat × Nat × Nat × Value) := [(0, .aload_n 0, 1, 0, 0, 0, .null), (1, .getfield 138, 3, 12, 5, 0, .null), (4, .aload_n 0, 1, 0, 0, 0, .null), (5, .getfield 142, 3, 12, 4, 0, .null), (8, .if_icmp .ne 6, 3, 0, 0, 0, .null), (11, .bipush (-5), 2, 0, 0, 0, .null), (13, .ireturn, 1, 0, 0, 0, .null), (14, .aload_n 0, 1, 0, 0, 0, .null), (15, .getfield 15, 3, 12, 0, 0, .null), (18, .aload_n 0, 1, 0, 0, 0, .null), (19, .getfield 19, 3, 12, 1, 0, .null), (22, .aload_n 0, 1, 0, 0, 0, .null), (23, .getfield 138, 3, 12, 5, 0, .null), (26, .iaload, 1, 0, 0, 0, .null), (27, .aload_n 0, 1, 0, 0, 0, .null), (28, .getfield 25, 3, 12, 3, 0, .null), (31, .aload_n 0, 1, 0, 0, 0, .null), (32, .getfield 138, 3, 12, 5, 0, .null), (35, .iaload, 1, 0, 0, 0, .null), (36, .iastore, 1, 0, 0, 0, .null), (37, .aload_n 0, 1, 0, 0, 0, .null), (38, .dup, 1, 0, 0, 0, .null), (39, .getfield 138, 3, 12, 5, 0, .null), (42, .iconst 1, 1, 0, 0, 0, .null), (43, .iadd, 1, 0, 0, 0, .null), (44, .putfield 138, 3, 12, 5, 0, .null), (47, .aload_n 0, 1, 0, 0, 0, .null), (48, .getfield 142, 3, 12, 4, 0, .null), (51, .aload_n 0, 1, 0, 0, 0, .null), (52, .getfield 138, 3, 12, 5, 0, .null), (55, .isub, 1, 0, 0, 0, .null), (56, .ireturn, 1, 0, 0, 0, .null)]
/-- OneRoofModel.person(III)I -/
def qx_c173 : List (Nat × Instr × Nat × Nat × Nat × Nat × Value) := [(0, .aload_n 0, 1, 0, 0, 0, .null), (1, .iload_n 1, 1, 0, 0, 0, .null), (2, .iload_n 2, 1, 0, 0, 0, .null), (3, .iload_n 3, 1, 0, 0, 0, .null), (4, .invokevirtual 150, 3, 174, 3, 0, .ref 12), (7, .ifCond .ne 5, 3, 0, 0, 0, .null), (10, .iconst (-1), 1, 0, 0, 0, .null), (11, .ireturn, 1, 0, 0, 0, .null), (12, .aload_n 0, 1, 0, 0, 0, .null), (13, .getfield 145, 3, 12, 6, 0, .null), (16, .bipush 32, 2, 0, 0, 0, .null), (18, .if_icmp .ne 6, 3, 0, 0, 0, .null), (21, .bipush (-3), 2, 0, 0, 0, .null), (23, .ireturn, 1, 0, 0, 0, .null), (24, .aload_n 0, 1, 0, 0, 0, .null), (25, .getfield 28, 3, 12, 7, 0, .null), (28, .aload_n 0, 1, 0, 0, 0, .null), (29, .getfield 145, 3, 12, 6, 0, .null), (32, .iload_n 1, 1, 0, 0, 0, .null), (33, .iastore, 1, 0, 0, 0, .null), (34, .aload_n 0, 1, 0, 0, 0, .null), (35, .getfield 31, 3, 12, 8, 0, .null), (38, .aload_n 0, 1, 0, 0, 0, .null), (39, .getfield 145, 3, 12, 6, 0, .null), (42, .iload_n 2, 1, 0, 0, 0, .null), (43, .iastore, 1, 0, 0, 0, .null), (44, .aload_n 0, 1, 0, 0, 0, .null), (45, .getfield 15, 3, 12, 0, 0, .null), (48, .iconst 0, 1, 0, 0, 0, .null), (49, .aload_n 0, 1, 0, 0, 0, .null), (50, .getfield 145, 3, 12, 6, 0, .null), (53, .iadd, 1, 0, 0, 0, .null), (54, .iload_n 3, 1, 0, 0, 0, .null), (55, .iastore, 1, 0, 0, 0, .null), (56, .aload_n 0, 1, 0, 0, 0, .null), (57, .iconst 0, 1, 0, 0, 0, .null), (58, .putfield 154, 3, 12, 15, 0, .null), (61, .aload_n 0, 1, 0, 0, 0, .null), (62, .dup, 1, 0, 0, 0, .null), (63, .getfield 145, 3, 12, 6, 0, .null), (66, .iconst 1, 1, 0, 0, 0, .null), (67, .iadd, 1, 0, 0, 0, .null), (68, .putfield 145, 3, 12, 6, 0, .null), (71, .aload_n 0, 1, 0, 0, 0, .null), (72, .getfield 145, 3, 12, 6, 0, .null), (75, .iconst 1, 1, 0, 0, 0, .null), (76, .isub, 1, 0, 0, 0, .null), (77, .ireturn, 1, 0, 0, 0, .null)]
/-- OneRoofModel.isOne(III)Z -/
def qx_c174 : List (Nat × Instr × Nat × Nat × Nat × Nat × Value) := [(0, .iload_n 1, 1, 0, 0, 0, .null), (1, .i2l, 1, 0, 0, 0, .null), (2, .ldc2_w 106, 3, 0, 0, 2, .long (-1)), (5, .aload_n 0, 1, 0, 0, 0, .null), (6, .getfield 145, 3, 12, 6, 0, .null), (9, .iconst 1, 1, 0, 0, 0, .null), (10, .isub, 1, 0, 0, 0, .null), (11, .i2l, 1, 0, 0, 0, .null), (12, .invokestatic 5, 3, 175, 3, 2, .null), (15, .ifCond .eq 29, 3, 0, 0, 0, .null), (18, .iload_n 2, 1, 0, 0, 0, .null), (19, .i2l, 1, 0, 0, 0, .null), (20, .lconst 1, 1, 0, 0, 0, .null), (21, .ldc2_w 148, 3, 0, 0, 2, .long 99), (24, .invokestatic 5, 3, 175, 3, 2, .null), (27, .ifCond .eq 17, 3, 0, 0, 0, .null), (30, .iload_n 3, 1, 0, 0, 0, .null), (31, .i2l, 1, 0, 0, 0, .null), (32, .lconst 0, 1, 0, 0, 0, .null), (33, .lconst 1, 1, 0, 0, 0, .null), (34, .invokestatic 5, 3, 175, 3, 2, .null), (37, .ifCond .eq 7, 3, 0, 0, 0, .null), (40, .iconst 1, 1, 0, 0, 0, .null), (41, .goto 4, 3, 0, 0, 0, .null), (44, .iconst 0, 1, 0, 0, 0, .null), (45, .ireturn, 1, 0, 0, 0, .null)]
/-- OneRoofModel.within(JJJ)Z -/
def qx_c175 : List (Nat × Instr × Nat × Nat × Nat × Nat × Value) := [(0, .lload_n 0, 1, 0, 0, 0, .null), (1, .lload_n 2, 1, 0, 0, 0, .null), (2, .lcmp, 1, 0, 0, 0, .null), (3, .ifCond .lt 14, 3, 0, 0, 0, .null), (6, .lload_n 0, 1, 0, 0, 0, .null), (7, .lload 4, 2, 0, 0, 0, .null), (9, .lcmp, 1, 0, 0, 0, .null), (10, .ifCond .gt 7, 3, 0, 0, 0, .null), (13, .iconst 1, 1, 0, 0, 0, .null), (14, .goto 4, 3, 0, 0, 0, .null), (17, .iconst 0, 1, 0, 0, 0, .null), (18, .ireturn, 1, 0, 0, 0, .null)]
/-- OneRoofModel.people(III)I -/
def qx_c176_0 : List (Nat × Instr × Nat × Nat × Nat × Nat × Value) := [(0, .iload_n 1, 1, 0, 0, 0, .null), (1, .invokestatic 158, 3, 177, 1, 2, .null), (4, .ifCond .eq 15, 3, 0, 0, 0, .null), (7, .iload_n 3, 1, 0, 0, 0, .null), (8, .i2l, 1, 0, 0, 0, .null), (9, .lconst 1, 1, 0, 0, 0, .null), (10, .ldc2_w 162, 3, 0, 0, 2, .long 20), (13, .invokestatic 5, 3, 175, 3, 2, .null), (16, .ifCond .ne 5, 3, 0, 0, 0, .null), (19, .iconst (-1), 1, 0, 0, 0, .null), (20, .ireturn, 1, 0, 0, 0, .null), (21, .aload_n 0, 1, 0, 0, 0, .null), (22, .getfield 125, 3, 12, 59, 0, .null), (25, .iload_n 1, 1, 0, 0, 0, .null), (26, .iaload, 1, 0, 0, 0, .null), (27, .ifCond .lt 17, 3, 0, 0, 0, .null), (30, .aload_n 0, 1, 0, 0, 0, .null), (31, .getfield 125, 3, 12, 59, 0, .null), (34, .iload_n 1, 1, 0, 0, 0, .null), (35, .iaload, 1, 0, 0, 0, .null), (36, .bipush 60, 2, 0, 0, 0, .null), (38, .if_icmp .eq 6, 3, 0, 0, 0, .null), (41, .bipush (-12), 2, 0, 0, 0, .null), (43, .ireturn, 1, 0, 0, 0, .null), (44, .iconst 0, 1, 0, 0, 0, .null), (45, .istore 4, 2, 0, 0, 0, .null), (47, .aload_n 0, 1, 0, 0, 0, .null), (48, .getfield 125, 3, 12, 59, 0, .null), (51, .iload_n 1, 1, 0, 0, 0, .null), (52, .iaload, 1, 0, 0, 0, .null), (53, .bipush 60, 2, 0, 0, 0, .null), (55, .if_icmp .ne 11, 3, 0, 0, 0, .null), (58, .iload_n 2, 1, 0, 0, 0, .null), (59, .ifCond .lt 7, 3, 0, 0, 0, .null), (62, .iconst 1, 1, 0, 0, 0, .null), (63, .goto 4, 3, 0, 0, 0, .null), (66, .iconst 0, 1, 0, 0, 0, .null), (67, .istore 5, 2, 0, 0, 0, .null), (69, .iload 5, 2, 0, 0, 0, .null), (71, .ifCond .eq 147, 3, 0, 0, 0, .null), (74, .iload 4, 2, 0, 0, 0, .null), (76, .iload_n 3, 1, 0, 0, 0, .null), (77, .if_icmp .ge 141, 3, 0, 0, 0, .null), (80, .iload_n 2, 1, 0, 0, 0, .null), (81, .aload_n 0, 1, 0, 0, 0, .null), (82, .getfield 128, 3, 12, 60, 0, .null), (85, .iload_n 1, 1, 0, 0, 0, .null), (86, .iaload, 1, 0, 0, 0, .null), (87, .iconst 3, 1, 0, 0, 0, .null), (88, .isub, 1, 0, 0, 0, .null)]
def qx_c176_1 : List (Nat × Instr × Nat × Nat × Nat × Nat × Value) := [(89, .iconst 3, 1, 0, 0, 0, .null), (90, .iload 4, 2, 0, 0, 0, .null), (92, .imul, 1, 0, 0, 0, .null), (93, .isub, 1, 0, 0, 0, .null), (94, .if_icmp .gt 16, 3, 0, 0, 0, .null), (97, .aload_n 0, 1, 0, 0, 0, .null), (98, .getfield 145, 3, 12, 6, 0, .null), (101, .bipush 32, 2, 0, 0, 0, .null), (103, .if_icmp .ge 7, 3, 0, 0, 0, .null), (106, .iconst 1, 1, 0, 0, 0, .null), (107, .goto 4, 3, 0, 0, 0, .null), (110, .iconst 0, 1, 0, 0, 0, .null), (111, .istore 5, 2, 0, 0, 0, .null), (113, .bipush 60, 2, 0, 0, 0, .null), (115, .iload_n 1, 1, 0, 0, 0, .null), (116, .imul, 1, 0, 0, 0, .null), (117, .iload_n 2, 1, 0, 0, 0, .null), (118, .iadd, 1, 0, 0, 0, .null), (119, .iconst 3, 1, 0, 0, 0, .null), (120, .iload 4, 2, 0, 0, 0, .null), (122, .imul, 1, 0, 0, 0, .null), (123, .iadd, 1, 0, 0, 0, .null), (124, .istore 6, 2, 0, 0, 0, .null), (126, .iload 5, 2, 0, 0, 0, .null), (128, .ifCond .eq 42, 3, 0, 0, 0, .null), (131, .aload_n 0, 1, 0, 0, 0, .null), (132, .aload_n 0, 1, 0, 0, 0, .null), (133, .getfield 131, 3, 12, 61, 0, .null), (136, .iload 6, 2, 0, 0, 0, .null), (138, .laload, 1, 0, 0, 0, .null), (139, .l2i, 1, 0, 0, 0, .null), (140, .aload_n 0, 1, 0, 0, 0, .null), (141, .getfield 131, 3, 12, 61, 0, .null), (144, .iload 6, 2, 0, 0, 0, .null), (146, .iconst 1, 1, 0, 0, 0, .null), (147, .iadd, 1, 0, 0, 0, .null), (148, .laload, 1, 0, 0, 0, .null), (149, .l2i, 1, 0, 0, 0, .null), (150, .aload_n 0, 1, 0, 0, 0, .null), (151, .getfield 131, 3, 12, 61, 0, .null), (154, .iload 6, 2, 0, 0, 0, .null), (156, .iconst 2, 1, 0, 0, 0, .null), (157, .iadd, 1, 0, 0, 0, .null), (158, .laload, 1, 0, 0, 0, .null), (159, .l2i, 1, 0, 0, 0, .null), (160, .invokevirtual 150, 3, 174, 3, 0, .ref 12), (163, .ifCond .eq 7, 3, 0, 0, 0, .null), (166, .iconst 1, 1, 0, 0, 0, .null), (167, .goto 4, 3, 0, 0, 0, .null), (170, .iconst 0, 1, 0, 0, 0, .null)]
def qx_c176_2 : List (Nat × Instr × Nat × Nat × Nat × Nat × Value) := [(171, .istore 5, 2, 0, 0, 0, .null), (173, .iload 5, 2, 0, 0, 0, .null), (175, .ifCond .eq 40, 3, 0, 0, 0, .null), (178, .aload_n 0, 1, 0, 0, 0, .null), (179, .aload_n 0, 1, 0, 0, 0, .null), (180, .getfield 131, 3, 12, 61, 0, .null), (183, .iload 6, 2, 0, 0, 0, .null), (185, .laload, 1, 0, 0, 0, .null), (186, .l2i, 1, 0, 0, 0, .null), (187, .aload_n 0, 1, 0, 0, 0, .null), (188, .getfield 131, 3, 12, 61, 0, .null), (191, .iload 6, 2, 0, 0, 0, .null), (193, .iconst 1, 1, 0, 0, 0, .null), (194, .iadd, 1, 0, 0, 0, .null), (195, .laload, 1, 0, 0, 0, .null), (196, .l2i, 1, 0, 0, 0, .null), (197, .aload_n 0, 1, 0, 0, 0, .null), (198, .getfield 131, 3, 12, 61, 0, .null), (201, .iload 6, 2, 0, 0, 0, .null), (203, .iconst 2, 1, 0, 0, 0, .null), (204, .iadd, 1, 0, 0, 0, .null), (205, .laload, 1, 0, 0, 0, .null), (206, .l2i, 1, 0, 0, 0, .null), (207, .invokevirtual 164, 3, 173, 3, 0, .ref 12), (210, .istore 7, 2, 0, 0, 0, .null), (212, .iinc 4 1, 3, 0, 0, 0, .null), (215, .goto (-146), 3, 0, 0, 0, .null), (218, .iload 4, 2, 0, 0, 0, .null), (220, .ireturn, 1, 0, 0, 0, .null)]
def qx_c176 : List (Nat × Instr × Nat × Nat × Nat × Nat × Value) := qx_c176_0 ++ (qx_c176_1 ++ (qx_c176_2))
/-- OneRoofModel.isShelf(I)Z -/
def qx_c177 : List (Nat × Instr × Nat × Nat × Nat × Nat × Value) := [(0, .iload_n 0, 1, 0, 0, 0, .null), (1, .i2l, 1, 0, 0, 0, .null), (2, .lconst 0, 1, 0, 0, 0, .null), (3, .ldc2_w 426, 3, 0, 0, 2, .long 5), (6, .invokestatic 5, 3, 175, 3, 2, .null), (9, .ireturn, 1, 0, 0, 0, .null)]
/-- OneRoofModel.of(II)I -/
def qx_c178 : List (Nat × Instr × Nat × Nat × Nat × Nat × Value) := [(0, .aload_n 0, 1, 0, 0, 0, .null), (1, .iload_n 1, 1, 0, 0, 0, .null), (2, .invokevirtual 171, 3, 179, 1, 0, .ref 12), (5, .ifCond .ne 5, 3, 0, 0, 0, .null), (8, .iconst (-1), 1, 0, 0, 0, .null), (9, .ireturn, 1, 0, 0, 0, .null), (10, .iload_n 2, 1, 0, 0, 0, .null), (11, .tableswitch 66 0 3 #[29, 36, 43, 52], 29, 0, 0, 0, .null), (40, .aload_n 0, 1, 0, 0, 0, .null), (41, .getfield 28, 3, 12, 7, 0, .null), (44, .iload_n 1, 1, 0, 0, 0, .null), (45, .iaload, 1, 0, 0, 0, .null), (46, .ireturn, 1, 0, 0, 0, .null), (47, .aload_n 0, 1, 0, 0, 0, .null), (48, .getfield 31, 3, 12, 8, 0, .null), (51, .iload_n 1, 1, 0, 0, 0, .null), (52, .iaload, 1, 0, 0, 0, .null), (53, .ireturn, 1, 0, 0, 0, .null), (54, .aload_n 0, 1, 0, 0, 0, .null), (55, .getfield 15, 3, 12, 0, 0, .null), (58, .iconst 0, 1, 0, 0, 0, .null), (59, .iload_n 1, 1, 0, 0, 0, .null), (60, .iadd, 1, 0, 0, 0, .null), (61, .iaload, 1, 0, 0, 0, .null), (62, .ireturn, 1, 0, 0, 0, .null), (63, .aload_n 0, 1, 0, 0, 0, .null), (64, .iload_n 1, 1, 0, 0, 0, .null), (65, .invokevirtual 174, 3, 180, 1, 0, .ref 12), (68, .ifCond .eq 7, 3, 0, 0, 0, .null), (71, .iconst 1, 1, 0, 0, 0, .null), (72, .goto 4, 3, 0, 0, 0, .null), (75, .iconst 0, 1, 0, 0, 0, .null), (76, .ireturn, 1, 0, 0, 0, .null), (77, .iconst (-1), 1, 0, 0, 0, .null), (78, .ireturn, 1, 0, 0, 0, .null)]
/-- OneRoofModel.isPerson(I)Z -/
def qx_c179 : List (Nat × Instr × Nat × Nat × Nat × Nat × Value) := [(0, .iload_n 1, 1, 0, 0, 0, .null), (1, .i2l, 1, 0, 0, 0, .null), (2, .lconst 0, 1, 0, 0, 0, .null), (3, .aload_n 0, 1, 0, 0, 0, .null), (4, .getfield 145, 3, 12, 6, 0, .null), (7, .iconst 1, 1, 0, 0, 0, .null), (8, .isub, 1, 0, 0, 0, .null), (9, .i2l, 1, 0, 0, 0, .null), (10, .invokestatic 5, 3, 175, 3, 2, .null), (13, .ireturn, 1, 0, 0, 0, .null)]
/-- OneRoofModel.isDead(I)Z -/
def qx_c180 : List (Nat × Instr × Nat × Nat × Nat × Nat × Value) := [(0, .aload_n 0, 1, 0, 0, 0, .null), (1, .getfield 168, 3, 12, 10, 0, .null), (4, .iload_n 1, 1, 0, 0, 0, .null), (5, .lshr, 1, 0, 0, 0, .null), (6, .lconst 1, 1, 0, 0, 0, .null), (7, .land, 1, 0, 0, 0, .null), (8, .lconst 1, 1, 0, 0, 0, .null), (9, .lcmp, 1, 0, 0, 0, .null), (10, .ifCond .ne 7, 3, 0, 0, 0, .null), (13, .iconst 1, 1, 0, 0, 0, .null), (14, .goto 4, 3, 0, 0, 0, .null), (17, .iconst 0, 1, 0, 0, 0, .null), (18, .ireturn, 1, 0, 0, 0, .null)]
/-- OneRoofModel.sword(II)I -/
def qx_c181 : List (Nat × Instr × Nat × Nat × Nat × Nat × Value) := [(0, .aload_n 0, 1, 0, 0, 0, .null), (1, .iload_n 1, 1, 0, 0, 0, .null), (2, .invokevirtual 171, 3, 179, 1, 0, .ref 12), (5, .ifCond .eq 24, 3, 0, 0, 0, .null), (8, .iload_n 2, 1, 0, 0, 0, .null), (9, .i2l, 1, 0, 0, 0, .null), (10, .lconst 0, 1, 0, 0, 0, .null), (11, .lconst 1, 1, 0, 0, 0, .null), (12, .invokestatic 5, 3, 175, 3, 2, .null), (15, .ifCond .eq 14, 3, 0, 0, 0, .null), (18, .aload_n 0, 1, 0, 0, 0, .null), (19, .iconst 0, 1, 0, 0, 0, .null), (20, .iload_n 1, 1, 0, 0, 0, .null), (21, .iadd, 1, 0, 0, 0, .null), (22, .iload_n 2, 1, 0, 0, 0, .null), (23, .invokevirtual 177, 3, 182, 2, 0, .ref 12), (26, .goto 4, 3, 0, 0, 0, .null), (29, .iconst (-1), 1, 0, 0, 0, .null), (30, .ireturn, 1, 0, 0, 0, .null)]
/-- OneRoofModel.becomes(II)I -/
def qx_c182_0 : List (Nat × Instr × Nat × Nat × Nat × Nat × Value) := [(0, .aload_n 0, 1, 0, 0, 0, .null), (1, .getfield 15, 3, 12, 0, 0, .null), (4, .iload_n 1, 1, 0, 0, 0, .null), (5, .iaload, 1, 0, 0, 0, .null), (6, .istore_n 3, 1, 0, 0, 0, .null), (7, .iload_n 3, 1, 0, 0, 0, .null), (8, .iload_n 2, 1, 0, 0, 0, .null), (9, .if_icmp .ne 5, 3, 0, 0, 0, .null), (12, .iload_n 3, 1, 0, 0, 0, .null), (13, .ireturn, 1, 0, 0, 0, .null), (14, .aload_n 0, 1, 0, 0, 0, .null), (15, .getfield 138, 3, 12, 5, 0, .null), (18, .bipush 40, 2, 0, 0, 0, .null), (20, .if_icmp .ne 77, 3, 0, 0, 0, .null), (23, .iconst 1, 1, 0, 0, 0, .null), (24, .istore 4, 2, 0, 0, 0, .null), (26, .iload 4, 2, 0, 0, 0, .null), (28, .bipush 40, 2, 0, 0, 0, .null), (30, .if_icmp .ge 57, 3, 0, 0, 0, .null), (33, .aload_n 0, 1, 0, 0, 0, .null), (34, .getfield 19, 3, 12, 1, 0, .null), (37, .iload 4, 2, 0, 0, 0, .null), (39, .iconst 1, 1, 0, 0, 0, .null), (40, .isub, 1, 0, 0, 0, .null), (41, .aload_n 0, 1, 0, 0, 0, .null), (42, .getfield 19, 3, 12, 1, 0, .null), (45, .iload 4, 2, 0, 0, 0, .null), (47, .iaload, 1, 0, 0, 0, .null), (48, .iastore, 1, 0, 0, 0, .null), (49, .aload_n 0, 1, 0, 0, 0, .null), (50, .getfield 22, 3, 12, 2, 0, .null), (53, .iload 4, 2, 0, 0, 0, .null), (55, .iconst 1, 1, 0, 0, 0, .null), (56, .isub, 1, 0, 0, 0, .null), (57, .aload_n 0, 1, 0, 0, 0, .null), (58, .getfield 22, 3, 12, 2, 0, .null), (61, .iload 4, 2, 0, 0, 0, .null), (63, .iaload, 1, 0, 0, 0, .null), (64, .iastore, 1, 0, 0, 0, .null), (65, .aload_n 0, 1, 0, 0, 0, .null), (66, .getfield 25, 3, 12, 3, 0, .null), (69, .iload 4, 2, 0, 0, 0, .null), (71, .iconst 1, 1, 0, 0, 0, .null), (72, .isub, 1, 0, 0, 0, .null), (73, .aload_n 0, 1, 0, 0, 0, .null), (74, .getfield 25, 3, 12, 3, 0, .null), (77, .iload 4, 2, 0, 0, 0, .null), (79, .iaload, 1, 0, 0, 0, .null), (80, .iastore, 1, 0, 0, 0, .null), (81, .iinc 4 1, 3, 0, 0, 0, .null)]
def qx_c182_1 : List (Nat × Instr × Nat × Nat × Nat × Nat × Value) := [(84, .goto (-58), 3, 0, 0, 0, .null), (87, .aload_n 0, 1, 0, 0, 0, .null), (88, .dup, 1, 0, 0, 0, .null), (89, .getfield 138, 3, 12, 5, 0, .null), (92, .iconst 1, 1, 0, 0, 0, .null), (93, .isub, 1, 0, 0, 0, .null), (94, .putfield 138, 3, 12, 5, 0, .null), (97, .aload_n 0, 1, 0, 0, 0, .null), (98, .getfield 19, 3, 12, 1, 0, .null), (101, .aload_n 0, 1, 0, 0, 0, .null), (102, .getfield 138, 3, 12, 5, 0, .null), (105, .iload_n 1, 1, 0, 0, 0, .null), (106, .iastore, 1, 0, 0, 0, .null), (107, .aload_n 0, 1, 0, 0, 0, .null), (108, .getfield 22, 3, 12, 2, 0, .null), (111, .aload_n 0, 1, 0, 0, 0, .null), (112, .getfield 138, 3, 12, 5, 0, .null), (115, .iload_n 3, 1, 0, 0, 0, .null), (116, .iastore, 1, 0, 0, 0, .null), (117, .aload_n 0, 1, 0, 0, 0, .null), (118, .getfield 25, 3, 12, 3, 0, .null), (121, .aload_n 0, 1, 0, 0, 0, .null), (122, .getfield 138, 3, 12, 5, 0, .null), (125, .iload_n 2, 1, 0, 0, 0, .null), (126, .iastore, 1, 0, 0, 0, .null), (127, .aload_n 0, 1, 0, 0, 0, .null), (128, .dup, 1, 0, 0, 0, .null), (129, .getfield 138, 3, 12, 5, 0, .null), (132, .iconst 1, 1, 0, 0, 0, .null), (133, .iadd, 1, 0, 0, 0, .null), (134, .putfield 138, 3, 12, 5, 0, .null), (137, .aload_n 0, 1, 0, 0, 0, .null), (138, .aload_n 0, 1, 0, 0, 0, .null), (139, .getfield 138, 3, 12, 5, 0, .null), (142, .putfield 142, 3, 12, 4, 0, .null), (145, .aload_n 0, 1, 0, 0, 0, .null), (146, .getfield 15, 3, 12, 0, 0, .null), (149, .iload_n 1, 1, 0, 0, 0, .null), (150, .iload_n 2, 1, 0, 0, 0, .null), (151, .iastore, 1, 0, 0, 0, .null), (152, .iload_n 3, 1, 0, 0, 0, .null), (153, .ireturn, 1, 0, 0, 0, .null)]
def qx_c182 : List (Nat × Instr × Nat × Nat × Nat × Nat × Value) := qx_c182_0 ++ (qx_c182_1)
/-- OneRoofModel.kin(II)I -/
def qx_c183 : List (Nat × Instr × Nat × Nat × Nat × Nat × Value) := [(0, .aload_n 0, 1, 0, 0, 0, .null), (1, .iload_n 1, 1, 0, 0, 0, .null), (2, .invokevirtual 171, 3, 179, 1, 0, .ref 12), (5, .ifCond .eq 25, 3, 0, 0, 0, .null), (8, .aload_n 0, 1, 0, 0, 0, .null), (9, .iload_n 2, 1, 0, 0, 0, .null), (10, .invokevirtual 171, 3, 179, 1, 0, .ref 12), (13, .ifCond .eq 17, 3, 0, 0, 0, .null), (16, .iload_n 1, 1, 0, 0, 0, .null), (17, .iload_n 2, 1, 0, 0, 0, .null), (18, .if_icmp .eq 12, 3, 0, 0, 0, .null), (21, .aload_n 0, 1, 0, 0, 0, .null), (22, .iload_n 1, 1, 0, 0, 0, .null), (23, .iload_n 2, 1, 0, 0, 0, .null), (24, .invokevirtual 184, 3, 184, 2, 0, .ref 12), (27, .ifCond .eq 5, 3, 0, 0, 0, .null), (30, .iconst (-1), 1, 0, 0, 0, .null), (31, .ireturn, 1, 0, 0, 0, .null), (32, .aload_n 0, 1, 0, 0, 0, .null), (33, .getfield 181, 3, 12, 11, 0, .null), (36, .bipush 60, 2, 0, 0, 0, .null), (38, .if_icmp .ne 6, 3, 0, 0, 0, .null), (41, .bipush (-3), 2, 0, 0, 0, .null), (43, .ireturn, 1, 0, 0, 0, .null), (44, .aload_n 0, 1, 0, 0, 0, .null), (45, .getfield 37, 3, 12, 12, 0, .null), (48, .aload_n 0, 1, 0, 0, 0, .null), (49, .getfield 181, 3, 12, 11, 0, .null), (52, .iload_n 1, 1, 0, 0, 0, .null), (53, .iastore, 1, 0, 0, 0, .null), (54, .aload_n 0, 1, 0, 0, 0, .null), (55, .getfield 40, 3, 12, 13, 0, .null), (58, .aload_n 0, 1, 0, 0, 0, .null), (59, .getfield 181, 3, 12, 11, 0, .null), (62, .iload_n 2, 1, 0, 0, 0, .null), (63, .iastore, 1, 0, 0, 0, .null), (64, .aload_n 0, 1, 0, 0, 0, .null), (65, .iconst 0, 1, 0, 0, 0, .null), (66, .putfield 154, 3, 12, 15, 0, .null), (69, .aload_n 0, 1, 0, 0, 0, .null), (70, .dup, 1, 0, 0, 0, .null), (71, .getfield 181, 3, 12, 11, 0, .null), (74, .iconst 1, 1, 0, 0, 0, .null), (75, .iadd, 1, 0, 0, 0, .null), (76, .putfield 181, 3, 12, 11, 0, .null), (79, .aload_n 0, 1, 0, 0, 0, .null), (80, .getfield 181, 3, 12, 11, 0, .null), (83, .ireturn, 1, 0, 0, 0, .null)]
/-- OneRoofModel.areKin(II)Z -/
def qx_c184 : List (Nat × Instr × Nat × Nat × Nat × Nat × Value) := [(0, .iconst 0, 1, 0, 0, 0, .null), (1, .istore_n 3, 1, 0, 0, 0, .null), (2, .iload_n 3, 1, 0, 0, 0, .null), (3, .aload_n 0, 1, 0, 0, 0, .null), (4, .getfield 181, 3, 12, 11, 0, .null), (7, .if_icmp .ge 51, 3, 0, 0, 0, .null), (10, .aload_n 0, 1, 0, 0, 0, .null), (11, .getfield 37, 3, 12, 12, 0, .null), (14, .iload_n 3, 1, 0, 0, 0, .null), (15, .iaload, 1, 0, 0, 0, .null), (16, .iload_n 1, 1, 0, 0, 0, .null), (17, .if_icmp .ne 13, 3, 0, 0, 0, .null), (20, .aload_n 0, 1, 0, 0, 0, .null), (21, .getfield 40, 3, 12, 13, 0, .null), (24, .iload_n 3, 1, 0, 0, 0, .null), (25, .iaload, 1, 0, 0, 0, .null), (26, .iload_n 2, 1, 0, 0, 0, .null), (27, .if_icmp .eq 23, 3, 0, 0, 0, .null), (30, .aload_n 0, 1, 0, 0, 0, .null), (31, .getfield 37, 3, 12, 12, 0, .null), (34, .iload_n 3, 1, 0, 0, 0, .null), (35, .iaload, 1, 0, 0, 0, .null), (36, .iload_n 2, 1, 0, 0, 0, .null), (37, .if_icmp .ne 15, 3, 0, 0, 0, .null), (40, .aload_n 0, 1, 0, 0, 0, .null), (41, .getfield 40, 3, 12, 13, 0, .null), (44, .iload_n 3, 1, 0, 0, 0, .null), (45, .iaload, 1, 0, 0, 0, .null), (46, .iload_n 1, 1, 0, 0, 0, .null), (47, .if_icmp .ne 5, 3, 0, 0, 0, .null), (50, .iconst 1, 1, 0, 0, 0, .null), (51, .ireturn, 1, 0, 0, 0, .null), (52, .iinc 3 1, 3, 0, 0, 0, .null), (55, .goto (-53), 3, 0, 0, 0, .null), (58, .iconst 0, 1, 0, 0, 0, .null), (59, .ireturn, 1, 0, 0, 0, .null)]
/-- OneRoofModel.steps(II)I -/
def qx_c185 : List (Nat × Instr × Nat × Nat × Nat × Nat × Value) := [(0, .aload_n 0, 1, 0, 0, 0, .null), (1, .iload_n 1, 1, 0, 0, 0, .null), (2, .invokevirtual 171, 3, 179, 1, 0, .ref 12), (5, .ifCond .eq 11, 3, 0, 0, 0, .null), (8, .aload_n 0, 1, 0, 0, 0, .null), (9, .iload_n 2, 1, 0, 0, 0, .null), (10, .invokevirtual 171, 3, 179, 1, 0, .ref 12), (13, .ifCond .ne 5, 3, 0, 0, 0, .null), (16, .iconst (-1), 1, 0, 0, 0, .null), (17, .ireturn, 1, 0, 0, 0, .null), (18, .aload_n 0, 1, 0, 0, 0, .null), (19, .iload_n 1, 1, 0, 0, 0, .null), (20, .iload_n 2, 1, 0, 0, 0, .null), (21, .invokevirtual 194, 3, 186, 2, 0, .ref 12), (24, .istore_n 3, 1, 0, 0, 0, .null), (25, .iload_n 3, 1, 0, 0, 0, .null), (26, .bipush 99, 2, 0, 0, 0, .null), (28, .if_icmp .ne 8, 3, 0, 0, 0, .null), (31, .bipush (-2), 2, 0, 0, 0, .null), (33, .goto 4, 3, 0, 0, 0, .null), (36, .iload_n 3, 1, 0, 0, 0, .null), (37, .ireturn, 1, 0, 0, 0, .null)]
/-- OneRoofModel.stepsTo(II)I -/
def qx_c186 : List (Nat × Instr × Nat × Nat × Nat × Nat × Value) := [(0, .aload_n 0, 1, 0, 0, 0, .null), (1, .getfield 154, 3, 12, 15, 0, .null), (4, .ifCond .ne 7, 3, 0, 0, 0, .null), (7, .aload_n 0, 1, 0, 0, 0, .null), (8, .invokevirtual 191, 3, 187, 0, 0, .ref 12), (11, .aload_n 0, 1, 0, 0, 0, .null), (12, .getfield 43, 3, 12, 14, 0, .null), (15, .bipush 32, 2, 0, 0, 0, .null), (17, .iload_n 1, 1, 0, 0, 0, .null), (18, .imul, 1, 0, 0, 0, .null), (19, .iload_n 2, 1, 0, 0, 0, .null), (20, .iadd, 1, 0, 0, 0, .null), (21, .iaload, 1, 0, 0, 0, .null), (22, .istore_n 3, 1, 0, 0, 0, .null), (23, .iload_n 3, 1, 0, 0, 0, .null), (24, .bipush 9, 2, 0, 0, 0, .null), (26, .if_icmp .le 8, 3, 0, 0, 0, .null), (29, .bipush 99, 2, 0, 0, 0, .null), (31, .goto 4, 3, 0, 0, 0, .null), (34, .iload_n 3, 1, 0, 0, 0, .null), (35, .ireturn, 1, 0, 0, 0, .null)]
/-- OneRoofModel.findSteps()V -/
def qx_c187_0 : List (Nat × Instr × Nat × Nat × Nat × Nat × Value) := [(0, .iconst 0, 1, 0, 0, 0, .null), (1, .istore_n 1, 1, 0, 0, 0, .null), (2, .iload_n 1, 1, 0, 0, 0, .null), (3, .aload_n 0, 1, 0, 0, 0, .null), (4, .getfield 145, 3, 12, 6, 0, .null), (7, .if_icmp .ge 47, 3, 0, 0, 0, .null), (10, .iconst 0, 1, 0, 0, 0, .null), (11, .istore_n 2, 1, 0, 0, 0, .null), (12, .iload_n 2, 1, 0, 0, 0, .null), (13, .aload_n 0, 1, 0, 0, 0, .null), (14, .getfield 145, 3, 12, 6, 0, .null), (17, .if_icmp .ge 31, 3, 0, 0, 0, .null), (20, .aload_n 0, 1, 0, 0, 0, .null), (21, .getfield 43, 3, 12, 14, 0, .null), (24, .bipush 32, 2, 0, 0, 0, .null), (26, .iload_n 1, 1, 0, 0, 0, .null), (27, .imul, 1, 0, 0, 0, .null), (28, .iload_n 2, 1, 0, 0, 0, .null), (29, .iadd, 1, 0, 0, 0, .null), (30, .iload_n 1, 1, 0, 0, 0, .null), (31, .iload_n 2, 1, 0, 0, 0, .null), (32, .if_icmp .ne 7, 3, 0, 0, 0, .null), (35, .iconst 0, 1, 0, 0, 0, .null), (36, .goto 5, 3, 0, 0, 0, .null), (39, .bipush 99, 2, 0, 0, 0, .null), (41, .iastore, 1, 0, 0, 0, .null), (42, .iinc 2 1, 3, 0, 0, 0, .null), (45, .goto (-33), 3, 0, 0, 0, .null), (48, .iinc 1 1, 3, 0, 0, 0, .null), (51, .goto (-49), 3, 0, 0, 0, .null), (54, .iconst 1, 1, 0, 0, 0, .null), (55, .istore_n 1, 1, 0, 0, 0, .null), (56, .iload_n 1, 1, 0, 0, 0, .null), (57, .ifCond .eq 82, 3, 0, 0, 0, .null), (60, .iconst 0, 1, 0, 0, 0, .null), (61, .istore_n 1, 1, 0, 0, 0, .null), (62, .iconst 0, 1, 0, 0, 0, .null), (63, .istore_n 2, 1, 0, 0, 0, .null), (64, .iload_n 2, 1, 0, 0, 0, .null), (65, .aload_n 0, 1, 0, 0, 0, .null), (66, .getfield 181, 3, 12, 11, 0, .null), (69, .if_icmp .ge 67, 3, 0, 0, 0, .null), (72, .aload_n 0, 1, 0, 0, 0, .null), (73, .aload_n 0, 1, 0, 0, 0, .null), (74, .getfield 37, 3, 12, 12, 0, .null), (77, .iload_n 2, 1, 0, 0, 0, .null), (78, .iaload, 1, 0, 0, 0, .null), (79, .aload_n 0, 1, 0, 0, 0, .null), (80, .getfield 40, 3, 12, 13, 0, .null), (83, .iload_n 2, 1, 0, 0, 0, .null)]
def qx_c187_1 : List (Nat × Instr × Nat × Nat × Nat × Nat × Value) := [(84, .iaload, 1, 0, 0, 0, .null), (85, .invokevirtual 188, 3, 188, 2, 0, .ref 12), (88, .ifCond .ne 7, 3, 0, 0, 0, .null), (91, .iload_n 1, 1, 0, 0, 0, .null), (92, .ifCond .eq 7, 3, 0, 0, 0, .null), (95, .iconst 1, 1, 0, 0, 0, .null), (96, .goto 4, 3, 0, 0, 0, .null), (99, .iconst 0, 1, 0, 0, 0, .null), (100, .istore_n 1, 1, 0, 0, 0, .null), (101, .aload_n 0, 1, 0, 0, 0, .null), (102, .aload_n 0, 1, 0, 0, 0, .null), (103, .getfield 40, 3, 12, 13, 0, .null), (106, .iload_n 2, 1, 0, 0, 0, .null), (107, .iaload, 1, 0, 0, 0, .null), (108, .aload_n 0, 1, 0, 0, 0, .null), (109, .getfield 37, 3, 12, 12, 0, .null), (112, .iload_n 2, 1, 0, 0, 0, .null), (113, .iaload, 1, 0, 0, 0, .null), (114, .invokevirtual 188, 3, 188, 2, 0, .ref 12), (117, .ifCond .ne 7, 3, 0, 0, 0, .null), (120, .iload_n 1, 1, 0, 0, 0, .null), (121, .ifCond .eq 7, 3, 0, 0, 0, .null), (124, .iconst 1, 1, 0, 0, 0, .null), (125, .goto 4, 3, 0, 0, 0, .null), (128, .iconst 0, 1, 0, 0, 0, .null), (129, .istore_n 1, 1, 0, 0, 0, .null), (130, .iinc 2 1, 3, 0, 0, 0, .null), (133, .goto (-69), 3, 0, 0, 0, .null), (136, .goto (-80), 3, 0, 0, 0, .null), (139, .aload_n 0, 1, 0, 0, 0, .null), (140, .iconst 1, 1, 0, 0, 0, .null), (141, .putfield 154, 3, 12, 15, 0, .null), (144, .return_, 1, 0, 0, 0, .null)]
def qx_c187 : List (Nat × Instr × Nat × Nat × Nat × Nat × Value) := qx_c187_0 ++ (qx_c187_1)
/-- OneRoofModel.nearer(II)Z -/
def qx_c188 : List (Nat × Instr × Nat × Nat × Nat × Nat × Value) := [(0, .iconst 0, 1, 0, 0, 0, .null), (1, .istore_n 3, 1, 0, 0, 0, .null), (2, .iconst 0, 1, 0, 0, 0, .null), (3, .istore 4, 2, 0, 0, 0, .null), (5, .iload 4, 2, 0, 0, 0, .null), (7, .aload_n 0, 1, 0, 0, 0, .null), (8, .getfield 145, 3, 12, 6, 0, .null), (11, .if_icmp .ge 58, 3, 0, 0, 0, .null), (14, .aload_n 0, 1, 0, 0, 0, .null), (15, .getfield 43, 3, 12, 14, 0, .null), (18, .bipush 32, 2, 0, 0, 0, .null), (20, .iload 4, 2, 0, 0, 0, .null), (22, .imul, 1, 0, 0, 0, .null), (23, .iload_n 1, 1, 0, 0, 0, .null), (24, .iadd, 1, 0, 0, 0, .null), (25, .iaload, 1, 0, 0, 0, .null), (26, .iconst 1, 1, 0, 0, 0, .null), (27, .iadd, 1, 0, 0, 0, .null), (28, .istore 5, 2, 0, 0, 0, .null), (30, .iload 5, 2, 0, 0, 0, .null), (32, .aload_n 0, 1, 0, 0, 0, .null), (33, .getfield 43, 3, 12, 14, 0, .null), (36, .bipush 32, 2, 0, 0, 0, .null), (38, .iload 4, 2, 0, 0, 0, .null), (40, .imul, 1, 0, 0, 0, .null), (41, .iload_n 2, 1, 0, 0, 0, .null), (42, .iadd, 1, 0, 0, 0, .null), (43, .iaload, 1, 0, 0, 0, .null), (44, .if_icmp .ge 19, 3, 0, 0, 0, .null), (47, .aload_n 0, 1, 0, 0, 0, .null), (48, .getfield 43, 3, 12, 14, 0, .null), (51, .bipush 32, 2, 0, 0, 0, .null), (53, .iload 4, 2, 0, 0, 0, .null), (55, .imul, 1, 0, 0, 0, .null), (56, .iload_n 2, 1, 0, 0, 0, .null), (57, .iadd, 1, 0, 0, 0, .null), (58, .iload 5, 2, 0, 0, 0, .null), (60, .iastore, 1, 0, 0, 0, .null), (61, .iconst 1, 1, 0, 0, 0, .null), (62, .istore_n 3, 1, 0, 0, 0, .null), (63, .iinc 4 1, 3, 0, 0, 0, .null), (66, .goto (-61), 3, 0, 0, 0, .null), (69, .iload_n 3, 1, 0, 0, 0, .null), (70, .ireturn, 1, 0, 0, 0, .null)]
/-- OneRoofModel.feud(III)I -/
def qx_c189_0 : List (Nat × Instr × Nat × Nat × Nat × Nat × Value) := [(0, .aload_n 0, 1, 0, 0, 0, .null), (1, .iload_n 1, 1, 0, 0, 0, .null), (2, .invokevirtual 197, 3, 190, 1, 0, .ref 12), (5, .ifCond .eq 22, 3, 0, 0, 0, .null), (8, .iload_n 2, 1, 0, 0, 0, .null), (9, .invokestatic 200, 3, 191, 1, 2, .null), (12, .ifCond .eq 15, 3, 0, 0, 0, .null), (15, .iload_n 3, 1, 0, 0, 0, .null), (16, .i2l, 1, 0, 0, 0, .null), (17, .lconst 0, 1, 0, 0, 0, .null), (18, .ldc2_w 203, 3, 0, 0, 2, .long 3999), (21, .invokestatic 5, 3, 175, 3, 2, .null), (24, .ifCond .ne 5, 3, 0, 0, 0, .null), (27, .iconst (-1), 1, 0, 0, 0, .null), (28, .ireturn, 1, 0, 0, 0, .null), (29, .aload_n 0, 1, 0, 0, 0, .null), (30, .getfield 205, 3, 12, 16, 0, .null), (33, .bipush 40, 2, 0, 0, 0, .null), (35, .if_icmp .ne 6, 3, 0, 0, 0, .null), (38, .bipush (-3), 2, 0, 0, 0, .null), (40, .ireturn, 1, 0, 0, 0, .null), (41, .aload_n 0, 1, 0, 0, 0, .null), (42, .getfield 46, 3, 12, 17, 0, .null), (45, .aload_n 0, 1, 0, 0, 0, .null), (46, .getfield 205, 3, 12, 16, 0, .null), (49, .iload_n 1, 1, 0, 0, 0, .null), (50, .bipush 100, 2, 0, 0, 0, .null), (52, .idiv, 1, 0, 0, 0, .null), (53, .iastore, 1, 0, 0, 0, .null), (54, .aload_n 0, 1, 0, 0, 0, .null), (55, .getfield 49, 3, 12, 18, 0, .null), (58, .aload_n 0, 1, 0, 0, 0, .null), (59, .getfield 205, 3, 12, 16, 0, .null), (62, .iload_n 1, 1, 0, 0, 0, .null), (63, .bipush 100, 2, 0, 0, 0, .null), (65, .irem, 1, 0, 0, 0, .null), (66, .iastore, 1, 0, 0, 0, .null), (67, .aload_n 0, 1, 0, 0, 0, .null), (68, .getfield 52, 3, 12, 19, 0, .null), (71, .aload_n 0, 1, 0, 0, 0, .null), (72, .getfield 205, 3, 12, 16, 0, .null), (75, .iload_n 2, 1, 0, 0, 0, .null), (76, .iastore, 1, 0, 0, 0, .null), (77, .aload_n 0, 1, 0, 0, 0, .null), (78, .getfield 55, 3, 12, 20, 0, .null), (81, .aload_n 0, 1, 0, 0, 0, .null), (82, .getfield 205, 3, 12, 16, 0, .null), (85, .iload_n 3, 1, 0, 0, 0, .null), (86, .sipush 1000, 3, 0, 0, 0, .null), (89, .idiv, 1, 0, 0, 0, .null)]
def qx_c189_1 : List (Nat × Instr × Nat × Nat × Nat × Nat × Value) := [(90, .iastore, 1, 0, 0, 0, .null), (91, .aload_n 0, 1, 0, 0, 0, .null), (92, .getfield 58, 3, 12, 21, 0, .null), (95, .aload_n 0, 1, 0, 0, 0, .null), (96, .getfield 205, 3, 12, 16, 0, .null), (99, .iload_n 3, 1, 0, 0, 0, .null), (100, .sipush 1000, 3, 0, 0, 0, .null), (103, .irem, 1, 0, 0, 0, .null), (104, .iastore, 1, 0, 0, 0, .null), (105, .aload_n 0, 1, 0, 0, 0, .null), (106, .getfield 15, 3, 12, 0, 0, .null), (109, .bipush 32, 2, 0, 0, 0, .null), (111, .aload_n 0, 1, 0, 0, 0, .null), (112, .getfield 205, 3, 12, 16, 0, .null), (115, .iadd, 1, 0, 0, 0, .null), (116, .sipush 2400, 3, 0, 0, 0, .null), (119, .iastore, 1, 0, 0, 0, .null), (120, .aload_n 0, 1, 0, 0, 0, .null), (121, .dup, 1, 0, 0, 0, .null), (122, .getfield 205, 3, 12, 16, 0, .null), (125, .iconst 1, 1, 0, 0, 0, .null), (126, .iadd, 1, 0, 0, 0, .null), (127, .putfield 205, 3, 12, 16, 0, .null), (130, .aload_n 0, 1, 0, 0, 0, .null), (131, .getfield 205, 3, 12, 16, 0, .null), (134, .iconst 1, 1, 0, 0, 0, .null), (135, .isub, 1, 0, 0, 0, .null), (136, .ireturn, 1, 0, 0, 0, .null)]
def qx_c189 : List (Nat × Instr × Nat × Nat × Nat × Nat × Value) := qx_c189_0 ++ (qx_c189_1)
/-- OneRoofModel.arePair(I)Z -/
def qx_c190 : List (Nat × Instr × Nat × Nat × Nat × Nat × Value) := [(0, .iload_n 1, 1, 0, 0, 0, .null), (1, .ifCond .lt 40, 3, 0, 0, 0, .null), (4, .aload_n 0, 1, 0, 0, 0, .null), (5, .iload_n 1, 1, 0, 0, 0, .null), (6, .bipush 100, 2, 0, 0, 0, .null), (8, .idiv, 1, 0, 0, 0, .null), (9, .invokevirtual 171, 3, 179, 1, 0, .ref 12), (12, .ifCond .eq 29, 3, 0, 0, 0, .null), (15, .aload_n 0, 1, 0, 0, 0, .null), (16, .iload_n 1, 1, 0, 0, 0, .null), (17, .bipush 100, 2, 0, 0, 0, .null), (19, .irem, 1, 0, 0, 0, .null), (20, .invokevirtual 171, 3, 179, 1, 0, .ref 12), (23, .ifCond .eq 18, 3, 0, 0, 0, .null), (26, .iload_n 1, 1, 0, 0, 0, .null), (27, .bipush 100, 2, 0, 0, 0, .null), (29, .idiv, 1, 0, 0, 0, .null), (30, .iload_n 1, 1, 0, 0, 0, .null), (31, .bipush 100, 2, 0, 0, 0, .null), (33, .irem, 1, 0, 0, 0, .null), (34, .if_icmp .eq 7, 3, 0, 0, 0, .null), (37, .iconst 1, 1, 0, 0, 0, .null), (38, .goto 4, 3, 0, 0, 0, .null), (41, .iconst 0, 1, 0, 0, 0, .null), (42, .ireturn, 1, 0, 0, 0, .null)]
/-- OneRoofModel.isHour(I)Z -/
def qx_c191 : List (Nat × Instr × Nat × Nat × Nat × Nat × Value) := [(0, .iload_n 0, 1, 0, 0, 0, .null), (1, .i2l, 1, 0, 0, 0, .null), (2, .lconst 0, 1, 0, 0, 0, .null), (3, .ldc2_w 3, 3, 0, 0, 2, .long 2399), (6, .invokestatic 5, 3, 175, 3, 2, .null), (9, .ireturn, 1, 0, 0, 0, .null)]
/-- OneRoofModel.pay(II)I -/
def qx_c192 : List (Nat × Instr × Nat × Nat × Nat × Nat × Value) := [(0, .iload_n 1, 1, 0, 0, 0, .null), (1, .i2l, 1, 0, 0, 0, .null), (2, .lconst 0, 1, 0, 0, 0, .null), (3, .aload_n 0, 1, 0, 0, 0, .null), (4, .getfield 205, 3, 12, 16, 0, .null), (7, .iconst 1, 1, 0, 0, 0, .null), (8, .isub, 1, 0, 0, 0, .null), (9, .i2l, 1, 0, 0, 0, .null), (10, .invokestatic 5, 3, 175, 3, 2, .null), (13, .ifCond .eq 27, 3, 0, 0, 0, .null), (16, .iload_n 2, 1, 0, 0, 0, .null), (17, .i2l, 1, 0, 0, 0, .null), (18, .lconst 0, 1, 0, 0, 0, .null), (19, .ldc2_w 208, 3, 0, 0, 2, .long 2400), (22, .invokestatic 5, 3, 175, 3, 2, .null), (25, .ifCond .eq 15, 3, 0, 0, 0, .null), (28, .aload_n 0, 1, 0, 0, 0, .null), (29, .bipush 32, 2, 0, 0, 0, .null), (31, .iload_n 1, 1, 0, 0, 0, .null), (32, .iadd, 1, 0, 0, 0, .null), (33, .iload_n 2, 1, 0, 0, 0, .null), (34, .invokevirtual 177, 3, 182, 2, 0, .ref 12), (37, .goto 4, 3, 0, 0, 0, .null), (40, .iconst (-1), 1, 0, 0, 0, .null), (41, .ireturn, 1, 0, 0, 0, .null)]
/-- OneRoofModel.near(IIII)I -/
def qx_c193 : List (Nat × Instr × Nat × Nat × Nat × Nat × Value) := [(0, .aload_n 0, 1, 0, 0, 0, .null), (1, .iload_n 1, 1, 0, 0, 0, .null), (2, .invokevirtual 171, 3, 179, 1, 0, .ref 12), (5, .ifCond .eq 29, 3, 0, 0, 0, .null), (8, .aload_n 0, 1, 0, 0, 0, .null), (9, .iload_n 2, 1, 0, 0, 0, .null), (10, .invokevirtual 171, 3, 179, 1, 0, .ref 12), (13, .ifCond .eq 21, 3, 0, 0, 0, .null), (16, .iload_n 3, 1, 0, 0, 0, .null), (17, .invokestatic 200, 3, 191, 1, 2, .null), (20, .ifCond .eq 14, 3, 0, 0, 0, .null), (23, .iload 4, 2, 0, 0, 0, .null), (25, .i2l, 1, 0, 0, 0, .null), (26, .lconst 0, 1, 0, 0, 0, .null), (27, .lconst 1, 1, 0, 0, 0, .null), (28, .invokestatic 5, 3, 175, 3, 2, .null), (31, .ifCond .ne 5, 3, 0, 0, 0, .null), (34, .iconst (-1), 1, 0, 0, 0, .null), (35, .ireturn, 1, 0, 0, 0, .null), (36, .aload_n 0, 1, 0, 0, 0, .null), (37, .iload_n 1, 1, 0, 0, 0, .null), (38, .iload_n 2, 1, 0, 0, 0, .null), (39, .iload_n 3, 1, 0, 0, 0, .null), (40, .invokevirtual 222, 3, 194, 3, 0, .ref 12), (43, .istore 5, 2, 0, 0, 0, .null), (45, .iload 5, 2, 0, 0, 0, .null), (47, .bipush 99, 2, 0, 0, 0, .null), (49, .if_icmp .ne 8, 3, 0, 0, 0, .null), (52, .bipush (-2), 2, 0, 0, 0, .null), (54, .goto 17, 3, 0, 0, 0, .null), (57, .iload 4, 2, 0, 0, 0, .null), (59, .ifCond .ne 8, 3, 0, 0, 0, .null), (62, .iload 5, 2, 0, 0, 0, .null), (64, .goto 7, 3, 0, 0, 0, .null), (67, .aload_n 0, 1, 0, 0, 0, .null), (68, .getfield 219, 3, 12, 23, 0, .null), (71, .ireturn, 1, 0, 0, 0, .null)]
/-- OneRoofModel.nearOf(III)I -/
def qx_c194 : List (Nat × Instr × Nat × Nat × Nat × Nat × Value) := [(0, .bipush 99, 2, 0, 0, 0, .null), (2, .istore 4, 2, 0, 0, 0, .null), (4, .iconst 0, 1, 0, 0, 0, .null), (5, .istore 5, 2, 0, 0, 0, .null), (7, .iload 5, 2, 0, 0, 0, .null), (9, .aload_n 0, 1, 0, 0, 0, .null), (10, .getfield 205, 3, 12, 16, 0, .null), (13, .if_icmp .ge 80, 3, 0, 0, 0, .null), (16, .iload_n 1, 1, 0, 0, 0, .null), (17, .iload_n 2, 1, 0, 0, 0, .null), (18, .if_icmp .eq 75, 3, 0, 0, 0, .null), (21, .aload_n 0, 1, 0, 0, 0, .null), (22, .iload 5, 2, 0, 0, 0, .null), (24, .iload_n 3, 1, 0, 0, 0, .null), (25, .invokevirtual 213, 3, 195, 2, 0, .ref 12), (28, .ifCond .ne 6, 3, 0, 0, 0, .null), (31, .goto 56, 3, 0, 0, 0, .null), (34, .aload_n 0, 1, 0, 0, 0, .null), (35, .iload 5, 2, 0, 0, 0, .null), (37, .iload_n 1, 1, 0, 0, 0, .null), (38, .iload_n 2, 1, 0, 0, 0, .null), (39, .invokevirtual 216, 3, 196, 3, 0, .ref 12), (42, .istore 6, 2, 0, 0, 0, .null), (44, .aload_n 0, 1, 0, 0, 0, .null), (45, .iload 5, 2, 0, 0, 0, .null), (47, .iload_n 2, 1, 0, 0, 0, .null), (48, .iload_n 1, 1, 0, 0, 0, .null), (49, .invokevirtual 216, 3, 196, 3, 0, .ref 12), (52, .istore 7, 2, 0, 0, 0, .null), (54, .iload 6, 2, 0, 0, 0, .null), (56, .iload 7, 2, 0, 0, 0, .null), (58, .if_icmp .ge 8, 3, 0, 0, 0, .null), (61, .iload 6, 2, 0, 0, 0, .null), (63, .goto 5, 3, 0, 0, 0, .null), (66, .iload 7, 2, 0, 0, 0, .null), (68, .istore 8, 2, 0, 0, 0, .null), (70, .iload 8, 2, 0, 0, 0, .null), (72, .iload 4, 2, 0, 0, 0, .null), (74, .if_icmp .ge 13, 3, 0, 0, 0, .null), (77, .iload 8, 2, 0, 0, 0, .null), (79, .istore 4, 2, 0, 0, 0, .null), (81, .aload_n 0, 1, 0, 0, 0, .null), (82, .iload 5, 2, 0, 0, 0, .null), (84, .putfield 219, 3, 12, 23, 0, .null), (87, .iinc 5 1, 3, 0, 0, 0, .null), (90, .goto (-83), 3, 0, 0, 0, .null), (93, .iload 4, 2, 0, 0, 0, .null), (95, .ireturn, 1, 0, 0, 0, .null)]
/-- OneRoofModel.isOpen(II)Z -/
def qx_c195 : List (Nat × Instr × Nat × Nat × Nat × Nat × Value) := [(0, .aload_n 0, 1, 0, 0, 0, .null), (1, .getfield 52, 3, 12, 19, 0, .null), (4, .iload_n 1, 1, 0, 0, 0, .null), (5, .iaload, 1, 0, 0, 0, .null), (6, .iload_n 2, 1, 0, 0, 0, .null), (7, .if_icmp .gt 48, 3, 0, 0, 0, .null), (10, .aload_n 0, 1, 0, 0, 0, .null), (11, .getfield 15, 3, 12, 0, 0, .null), (14, .bipush 32, 2, 0, 0, 0, .null), (16, .iload_n 1, 1, 0, 0, 0, .null), (17, .iadd, 1, 0, 0, 0, .null), (18, .iaload, 1, 0, 0, 0, .null), (19, .sipush 2400, 3, 0, 0, 0, .null), (22, .if_icmp .eq 16, 3, 0, 0, 0, .null), (25, .iload_n 2, 1, 0, 0, 0, .null), (26, .aload_n 0, 1, 0, 0, 0, .null), (27, .getfield 15, 3, 12, 0, 0, .null), (30, .bipush 32, 2, 0, 0, 0, .null), (32, .iload_n 1, 1, 0, 0, 0, .null), (33, .iadd, 1, 0, 0, 0, .null), (34, .iaload, 1, 0, 0, 0, .null), (35, .if_icmp .ge 20, 3, 0, 0, 0, .null), (38, .aload_n 0, 1, 0, 0, 0, .null), (39, .getfield 210, 3, 12, 22, 0, .null), (42, .iload_n 1, 1, 0, 0, 0, .null), (43, .lshr, 1, 0, 0, 0, .null), (44, .lconst 1, 1, 0, 0, 0, .null), (45, .land, 1, 0, 0, 0, .null), (46, .lconst 0, 1, 0, 0, 0, .null), (47, .lcmp, 1, 0, 0, 0, .null), (48, .ifCond .ne 7, 3, 0, 0, 0, .null), (51, .iconst 1, 1, 0, 0, 0, .null), (52, .goto 4, 3, 0, 0, 0, .null), (55, .iconst 0, 1, 0, 0, 0, .null), (56, .ireturn, 1, 0, 0, 0, .null)]
/-- OneRoofModel.byFeud(III)I -/
def qx_c196 : List (Nat × Instr × Nat × Nat × Nat × Nat × Value) := [(0, .aload_n 0, 1, 0, 0, 0, .null), (1, .iload_n 2, 1, 0, 0, 0, .null), (2, .aload_n 0, 1, 0, 0, 0, .null), (3, .getfield 46, 3, 12, 17, 0, .null), (6, .iload_n 1, 1, 0, 0, 0, .null), (7, .iaload, 1, 0, 0, 0, .null), (8, .invokevirtual 194, 3, 186, 2, 0, .ref 12), (11, .istore 4, 2, 0, 0, 0, .null), (13, .aload_n 0, 1, 0, 0, 0, .null), (14, .iload_n 3, 1, 0, 0, 0, .null), (15, .aload_n 0, 1, 0, 0, 0, .null), (16, .getfield 49, 3, 12, 18, 0, .null), (19, .iload_n 1, 1, 0, 0, 0, .null), (20, .iaload, 1, 0, 0, 0, .null), (21, .invokevirtual 194, 3, 186, 2, 0, .ref 12), (24, .istore 5, 2, 0, 0, 0, .null), (26, .iload 4, 2, 0, 0, 0, .null), (28, .aload_n 0, 1, 0, 0, 0, .null), (29, .getfield 55, 3, 12, 20, 0, .null), (32, .iload_n 1, 1, 0, 0, 0, .null), (33, .iaload, 1, 0, 0, 0, .null), (34, .if_icmp .gt 22, 3, 0, 0, 0, .null), (37, .iload 5, 2, 0, 0, 0, .null), (39, .aload_n 0, 1, 0, 0, 0, .null), (40, .getfield 55, 3, 12, 20, 0, .null), (43, .iload_n 1, 1, 0, 0, 0, .null), (44, .iaload, 1, 0, 0, 0, .null), (45, .if_icmp .gt 11, 3, 0, 0, 0, .null), (48, .iload 4, 2, 0, 0, 0, .null), (50, .iload 5, 2, 0, 0, 0, .null), (52, .iadd, 1, 0, 0, 0, .null), (53, .goto 5, 3, 0, 0, 0, .null), (56, .bipush 99, 2, 0, 0, 0, .null), (58, .ireturn, 1, 0, 0, 0, .null)]
/-- OneRoofModel.peace(IJII)I -/
def qx_c197_0 : List (Nat × Instr × Nat × Nat × Nat × Nat × Value) := [(0, .iload_n 1, 1, 0, 0, 0, .null), (1, .ifCond .lt 94, 3, 0, 0, 0, .null), (4, .aload_n 0, 1, 0, 0, 0, .null), (5, .iload_n 1, 1, 0, 0, 0, .null), (6, .bipush 10, 2, 0, 0, 0, .null), (8, .idiv, 1, 0, 0, 0, .null), (9, .invokevirtual 171, 3, 179, 1, 0, .ref 12), (12, .ifCond .eq 83, 3, 0, 0, 0, .null), (15, .iload_n 1, 1, 0, 0, 0, .null), (16, .bipush 10, 2, 0, 0, 0, .null), (18, .irem, 1, 0, 0, 0, .null), (19, .iconst 5, 1, 0, 0, 0, .null), (20, .if_icmp .gt 75, 3, 0, 0, 0, .null), (23, .lload_n 2, 1, 0, 0, 0, .null), (24, .lconst 0, 1, 0, 0, 0, .null), (25, .ldc2_w 228, 3, 0, 0, 2, .long 4294967295), (28, .invokestatic 5, 3, 175, 3, 2, .null), (31, .ifCond .eq 64, 3, 0, 0, 0, .null), (34, .iload 4, 2, 0, 0, 0, .null), (36, .ifCond .lt 59, 3, 0, 0, 0, .null), (39, .iload 4, 2, 0, 0, 0, .null), (41, .sipush 10000, 3, 0, 0, 0, .null), (44, .idiv, 1, 0, 0, 0, .null), (45, .invokestatic 200, 3, 191, 1, 2, .null), (48, .ifCond .eq 47, 3, 0, 0, 0, .null), (51, .iload 4, 2, 0, 0, 0, .null), (53, .sipush 10000, 3, 0, 0, 0, .null), (56, .irem, 1, 0, 0, 0, .null), (57, .invokestatic 200, 3, 191, 1, 2, .null), (60, .ifCond .eq 35, 3, 0, 0, 0, .null), (63, .iload 4, 2, 0, 0, 0, .null), (65, .sipush 10000, 3, 0, 0, 0, .null), (68, .idiv, 1, 0, 0, 0, .null), (69, .iload 4, 2, 0, 0, 0, .null), (71, .sipush 10000, 3, 0, 0, 0, .null), (74, .irem, 1, 0, 0, 0, .null), (75, .if_icmp .gt 20, 3, 0, 0, 0, .null), (78, .iload 5, 2, 0, 0, 0, .null), (80, .i2l, 1, 0, 0, 0, .null), (81, .lconst 0, 1, 0, 0, 0, .null), (82, .ldc2_w 230, 3, 0, 0, 2, .long 240), (85, .invokestatic 5, 3, 175, 3, 2, .null), (88, .ifCond .eq 7, 3, 0, 0, 0, .null), (91, .iconst 1, 1, 0, 0, 0, .null), (92, .goto 4, 3, 0, 0, 0, .null), (95, .iconst 0, 1, 0, 0, 0, .null), (96, .istore 6, 2, 0, 0, 0, .null), (98, .iload 6, 2, 0, 0, 0, .null), (100, .ifCond .ne 5, 3, 0, 0, 0, .null), (103, .iconst (-1), 1, 0, 0, 0, .null)]
def qx_c197_1 : List (Nat × Instr × Nat × Nat × Nat × Nat × Value) := [(104, .ireturn, 1, 0, 0, 0, .null), (105, .aload_n 0, 1, 0, 0, 0, .null), (106, .getfield 225, 3, 12, 24, 0, .null), (109, .bipush 60, 2, 0, 0, 0, .null), (111, .if_icmp .ne 6, 3, 0, 0, 0, .null), (114, .bipush (-3), 2, 0, 0, 0, .null), (116, .ireturn, 1, 0, 0, 0, .null), (117, .aload_n 0, 1, 0, 0, 0, .null), (118, .getfield 61, 3, 12, 25, 0, .null), (121, .aload_n 0, 1, 0, 0, 0, .null), (122, .getfield 225, 3, 12, 24, 0, .null), (125, .iload_n 1, 1, 0, 0, 0, .null), (126, .bipush 10, 2, 0, 0, 0, .null), (128, .idiv, 1, 0, 0, 0, .null), (129, .iastore, 1, 0, 0, 0, .null), (130, .aload_n 0, 1, 0, 0, 0, .null), (131, .getfield 15, 3, 12, 0, 0, .null), (134, .sipush 192, 3, 0, 0, 0, .null), (137, .aload_n 0, 1, 0, 0, 0, .null), (138, .getfield 225, 3, 12, 24, 0, .null), (141, .iadd, 1, 0, 0, 0, .null), (142, .iload_n 1, 1, 0, 0, 0, .null), (143, .bipush 10, 2, 0, 0, 0, .null), (145, .irem, 1, 0, 0, 0, .null), (146, .iastore, 1, 0, 0, 0, .null), (147, .aload_n 0, 1, 0, 0, 0, .null), (148, .getfield 15, 3, 12, 0, 0, .null), (151, .bipush 72, 2, 0, 0, 0, .null), (153, .iconst 2, 1, 0, 0, 0, .null), (154, .aload_n 0, 1, 0, 0, 0, .null), (155, .getfield 225, 3, 12, 24, 0, .null), (158, .imul, 1, 0, 0, 0, .null), (159, .iadd, 1, 0, 0, 0, .null), (160, .lload_n 2, 1, 0, 0, 0, .null), (161, .ldc2_w 232, 3, 0, 0, 2, .long 65535), (164, .land, 1, 0, 0, 0, .null), (165, .l2i, 1, 0, 0, 0, .null), (166, .iastore, 1, 0, 0, 0, .null), (167, .aload_n 0, 1, 0, 0, 0, .null), (168, .getfield 15, 3, 12, 0, 0, .null), (171, .bipush 72, 2, 0, 0, 0, .null), (173, .iconst 2, 1, 0, 0, 0, .null), (174, .aload_n 0, 1, 0, 0, 0, .null), (175, .getfield 225, 3, 12, 24, 0, .null), (178, .imul, 1, 0, 0, 0, .null), (179, .iadd, 1, 0, 0, 0, .null), (180, .iconst 1, 1, 0, 0, 0, .null), (181, .iadd, 1, 0, 0, 0, .null), (182, .lload_n 2, 1, 0, 0, 0, .null), (183, .bipush 16, 2, 0, 0, 0, .null)]
def qx_c197_2 : List (Nat × Instr × Nat × Nat × Nat × Nat × Value) := [(185, .lshr, 1, 0, 0, 0, .null), (186, .l2i, 1, 0, 0, 0, .null), (187, .iastore, 1, 0, 0, 0, .null), (188, .aload_n 0, 1, 0, 0, 0, .null), (189, .getfield 64, 3, 12, 26, 0, .null), (192, .aload_n 0, 1, 0, 0, 0, .null), (193, .getfield 225, 3, 12, 24, 0, .null), (196, .iload 4, 2, 0, 0, 0, .null), (198, .sipush 10000, 3, 0, 0, 0, .null), (201, .idiv, 1, 0, 0, 0, .null), (202, .iastore, 1, 0, 0, 0, .null), (203, .aload_n 0, 1, 0, 0, 0, .null), (204, .getfield 67, 3, 12, 27, 0, .null), (207, .aload_n 0, 1, 0, 0, 0, .null), (208, .getfield 225, 3, 12, 24, 0, .null), (211, .iload 4, 2, 0, 0, 0, .null), (213, .sipush 10000, 3, 0, 0, 0, .null), (216, .irem, 1, 0, 0, 0, .null), (217, .iastore, 1, 0, 0, 0, .null), (218, .aload_n 0, 1, 0, 0, 0, .null), (219, .getfield 70, 3, 12, 28, 0, .null), (222, .aload_n 0, 1, 0, 0, 0, .null), (223, .getfield 225, 3, 12, 24, 0, .null), (226, .iload 5, 2, 0, 0, 0, .null), (228, .iastore, 1, 0, 0, 0, .null), (229, .aload_n 0, 1, 0, 0, 0, .null), (230, .dup, 1, 0, 0, 0, .null), (231, .getfield 225, 3, 12, 24, 0, .null), (234, .iconst 1, 1, 0, 0, 0, .null), (235, .iadd, 1, 0, 0, 0, .null), (236, .putfield 225, 3, 12, 24, 0, .null), (239, .aload_n 0, 1, 0, 0, 0, .null), (240, .getfield 225, 3, 12, 24, 0, .null), (243, .iconst 1, 1, 0, 0, 0, .null), (244, .isub, 1, 0, 0, 0, .null), (245, .ireturn, 1, 0, 0, 0, .null)]
def qx_c197 : List (Nat × Instr × Nat × Nat × Nat × Nat × Value) := qx_c197_0 ++ (qx_c197_1 ++ (qx_c197_2))
/-- OneRoofModel.ofPeace(II)I -/
def qx_c198 : List (Nat × Instr × Nat × Nat × Nat × Nat × Value) := [(0, .aload_n 0, 1, 0, 0, 0, .null), (1, .iload_n 1, 1, 0, 0, 0, .null), (2, .invokevirtual 234, 3, 199, 1, 0, .ref 12), (5, .ifCond .ne 5, 3, 0, 0, 0, .null), (8, .iconst (-1), 1, 0, 0, 0, .null), (9, .ireturn, 1, 0, 0, 0, .null), (10, .iload_n 2, 1, 0, 0, 0, .null), (11, .tableswitch 109 0 5 #[37, 43, 50, 57, 64, 71], 37, 0, 0, 0, .null), (48, .aload_n 0, 1, 0, 0, 0, .null), (49, .iload_n 1, 1, 0, 0, 0, .null), (50, .invokevirtual 237, 3, 200, 1, 0, .ref 12), (53, .ireturn, 1, 0, 0, 0, .null), (54, .aload_n 0, 1, 0, 0, 0, .null), (55, .getfield 61, 3, 12, 25, 0, .null), (58, .iload_n 1, 1, 0, 0, 0, .null), (59, .iaload, 1, 0, 0, 0, .null), (60, .ireturn, 1, 0, 0, 0, .null), (61, .aload_n 0, 1, 0, 0, 0, .null), (62, .getfield 64, 3, 12, 26, 0, .null), (65, .iload_n 1, 1, 0, 0, 0, .null), (66, .iaload, 1, 0, 0, 0, .null), (67, .ireturn, 1, 0, 0, 0, .null), (68, .aload_n 0, 1, 0, 0, 0, .null), (69, .getfield 67, 3, 12, 27, 0, .null), (72, .iload_n 1, 1, 0, 0, 0, .null), (73, .iaload, 1, 0, 0, 0, .null), (74, .ireturn, 1, 0, 0, 0, .null), (75, .aload_n 0, 1, 0, 0, 0, .null), (76, .getfield 70, 3, 12, 28, 0, .null), (79, .iload_n 1, 1, 0, 0, 0, .null), (80, .iaload, 1, 0, 0, 0, .null), (81, .ireturn, 1, 0, 0, 0, .null), (82, .iconst 0, 1, 0, 0, 0, .null), (83, .istore_n 3, 1, 0, 0, 0, .null), (84, .iconst 0, 1, 0, 0, 0, .null), (85, .istore 4, 2, 0, 0, 0, .null), (87, .iload 4, 2, 0, 0, 0, .null), (89, .bipush 32, 2, 0, 0, 0, .null), (91, .if_icmp .ge 27, 3, 0, 0, 0, .null), (94, .iload_n 3, 1, 0, 0, 0, .null), (95, .aload_n 0, 1, 0, 0, 0, .null), (96, .iload_n 1, 1, 0, 0, 0, .null), (97, .iload 4, 2, 0, 0, 0, .null), (99, .invokevirtual 241, 3, 201, 2, 0, .ref 12), (102, .ifCond .eq 7, 3, 0, 0, 0, .null), (105, .iconst 1, 1, 0, 0, 0, .null), (106, .goto 4, 3, 0, 0, 0, .null), (109, .iconst 0, 1, 0, 0, 0, .null), (110, .iadd, 1, 0, 0, 0, .null), (111, .istore_n 3, 1, 0, 0, 0, .null), (112, .iinc 4 1, 3, 0, 0, 0, .null), (115, .goto (-28), 3, 0, 0, 0, .null), (118, .iload_n 3, 1, 0, 0, 0, .null), (119, .ireturn, 1, 0, 0, 0, .null), (120, .iconst (-1), 1, 0, 0, 0, .null), (121, .ireturn, 1, 0, 0, 0, .null)]
/-- OneRoofModel.isPeace(I)Z -/
def qx_c199 : List (Nat × Instr × Nat × Nat × Nat × Nat × Value) := [(0, .iload_n 1, 1, 0, 0, 0, .null), (1, .i2l, 1, 0, 0, 0, .null), (2, .lconst 0, 1, 0, 0, 0, .null), (3, .aload_n 0, 1, 0, 0, 0, .null), (4, .getfield 225, 3, 12, 24, 0, .null), (7, .iconst 1, 1, 0, 0, 0, .null), (8, .isub, 1, 0, 0, 0, .null), (9, .i2l, 1, 0, 0, 0, .null), (10, .invokestatic 5, 3, 175, 3, 2, .null), (13, .ireturn, 1, 0, 0, 0, .null)]
/-- OneRoofModel.kindOf(I)I -/
def qx_c200 : List (Nat × Instr × Nat × Nat × Nat × Nat × Value) := [(0, .aload_n 0, 1, 0, 0, 0, .null), (1, .getfield 15, 3, 12, 0, 0, .null), (4, .sipush 192, 3, 0, 0, 0, .null), (7, .iload_n 1, 1, 0, 0, 0, .null), (8, .iadd, 1, 0, 0, 0, .null), (9, .iaload, 1, 0, 0, 0, .null), (10, .ireturn, 1, 0, 0, 0, .null)]
/-- OneRoofModel.covers(II)Z -/
def qx_c201 : List (Nat × Instr × Nat × Nat × Nat × Nat × Value) := [(0, .aload_n 0, 1, 0, 0, 0, .null), (1, .getfield 15, 3, 12, 0, 0, .null), (4, .bipush 72, 2, 0, 0, 0, .null), (6, .iconst 2, 1, 0, 0, 0, .null), (7, .iload_n 1, 1, 0, 0, 0, .null), (8, .imul, 1, 0, 0, 0, .null), (9, .iadd, 1, 0, 0, 0, .null), (10, .iload_n 2, 1, 0, 0, 0, .null), (11, .bipush 16, 2, 0, 0, 0, .null), (13, .idiv, 1, 0, 0, 0, .null), (14, .iadd, 1, 0, 0, 0, .null), (15, .iaload, 1, 0, 0, 0, .null), (16, .iload_n 2, 1, 0, 0, 0, .null), (17, .bipush 16, 2, 0, 0, 0, .null), (19, .irem, 1, 0, 0, 0, .null), (20, .ishr, 1, 0, 0, 0, .null), (21, .iconst 1, 1, 0, 0, 0, .null), (22, .iand, 1, 0, 0, 0, .null), (23, .iconst 1, 1, 0, 0, 0, .null), (24, .if_icmp .ne 7, 3, 0, 0, 0, .null), (27, .iconst 1, 1, 0, 0, 0, .null), (28, .goto 4, 3, 0, 0, 0, .null), (31, .iconst 0, 1, 0, 0, 0, .null), (32, .ireturn, 1, 0, 0, 0, .null)]
/-- OneRoofModel.cover(III)I -/
def qx_c202_0 : List (Nat × Instr × Nat × Nat × Nat × Nat × Value) := [(0, .aload_n 0, 1, 0, 0, 0, .null), (1, .iload_n 1, 1, 0, 0, 0, .null), (2, .invokevirtual 234, 3, 199, 1, 0, .ref 12), (5, .ifCond .eq 21, 3, 0, 0, 0, .null), (8, .aload_n 0, 1, 0, 0, 0, .null), (9, .iload_n 2, 1, 0, 0, 0, .null), (10, .invokevirtual 171, 3, 179, 1, 0, .ref 12), (13, .ifCond .eq 13, 3, 0, 0, 0, .null), (16, .iload_n 3, 1, 0, 0, 0, .null), (17, .i2l, 1, 0, 0, 0, .null), (18, .lconst 0, 1, 0, 0, 0, .null), (19, .lconst 1, 1, 0, 0, 0, .null), (20, .invokestatic 5, 3, 175, 3, 2, .null), (23, .ifCond .ne 5, 3, 0, 0, 0, .null), (26, .iconst (-1), 1, 0, 0, 0, .null), (27, .ireturn, 1, 0, 0, 0, .null), (28, .aload_n 0, 1, 0, 0, 0, .null), (29, .iload_n 1, 1, 0, 0, 0, .null), (30, .iload_n 2, 1, 0, 0, 0, .null), (31, .invokevirtual 241, 3, 201, 2, 0, .ref 12), (34, .ifCond .eq 7, 3, 0, 0, 0, .null), (37, .iconst 1, 1, 0, 0, 0, .null), (38, .goto 4, 3, 0, 0, 0, .null), (41, .iconst 0, 1, 0, 0, 0, .null), (42, .istore 4, 2, 0, 0, 0, .null), (44, .bipush 72, 2, 0, 0, 0, .null), (46, .iconst 2, 1, 0, 0, 0, .null), (47, .iload_n 1, 1, 0, 0, 0, .null), (48, .imul, 1, 0, 0, 0, .null), (49, .iadd, 1, 0, 0, 0, .null), (50, .iload_n 2, 1, 0, 0, 0, .null), (51, .bipush 16, 2, 0, 0, 0, .null), (53, .idiv, 1, 0, 0, 0, .null), (54, .iadd, 1, 0, 0, 0, .null), (55, .istore 5, 2, 0, 0, 0, .null), (57, .iload_n 3, 1, 0, 0, 0, .null), (58, .iconst 1, 1, 0, 0, 0, .null), (59, .if_icmp .ne 20, 3, 0, 0, 0, .null), (62, .aload_n 0, 1, 0, 0, 0, .null), (63, .getfield 15, 3, 12, 0, 0, .null), (66, .iload 5, 2, 0, 0, 0, .null), (68, .iaload, 1, 0, 0, 0, .null), (69, .iconst 1, 1, 0, 0, 0, .null), (70, .iload_n 2, 1, 0, 0, 0, .null), (71, .bipush 16, 2, 0, 0, 0, .null), (73, .irem, 1, 0, 0, 0, .null), (74, .ishl, 1, 0, 0, 0, .null), (75, .ior, 1, 0, 0, 0, .null), (76, .goto 19, 3, 0, 0, 0, .null), (79, .aload_n 0, 1, 0, 0, 0, .null)]
def qx_c202_1 : List (Nat × Instr × Nat × Nat × Nat × Nat × Value) := [(80, .getfield 15, 3, 12, 0, 0, .null), (83, .iload 5, 2, 0, 0, 0, .null), (85, .iaload, 1, 0, 0, 0, .null), (86, .iconst 1, 1, 0, 0, 0, .null), (87, .iload_n 2, 1, 0, 0, 0, .null), (88, .bipush 16, 2, 0, 0, 0, .null), (90, .irem, 1, 0, 0, 0, .null), (91, .ishl, 1, 0, 0, 0, .null), (92, .iconst (-1), 1, 0, 0, 0, .null), (93, .ixor, 1, 0, 0, 0, .null), (94, .iand, 1, 0, 0, 0, .null), (95, .istore 6, 2, 0, 0, 0, .null), (97, .aload_n 0, 1, 0, 0, 0, .null), (98, .iload 5, 2, 0, 0, 0, .null), (100, .iload 6, 2, 0, 0, 0, .null), (102, .invokevirtual 177, 3, 182, 2, 0, .ref 12), (105, .istore 7, 2, 0, 0, 0, .null), (107, .iload 4, 2, 0, 0, 0, .null), (109, .ireturn, 1, 0, 0, 0, .null)]
def qx_c202 : List (Nat × Instr × Nat × Nat × Nat × Nat × Value) := qx_c202_0 ++ (qx_c202_1)
/-- OneRoofModel.holds(III)I -/
def qx_c203 : List (Nat × Instr × Nat × Nat × Nat × Nat × Value) := [(0, .aload_n 0, 1, 0, 0, 0, .null), (1, .iload_n 1, 1, 0, 0, 0, .null), (2, .invokevirtual 234, 3, 199, 1, 0, .ref 12), (5, .ifCond .eq 43, 3, 0, 0, 0, .null), (8, .aload_n 0, 1, 0, 0, 0, .null), (9, .iload_n 2, 1, 0, 0, 0, .null), (10, .invokevirtual 197, 3, 190, 1, 0, .ref 12), (13, .ifCond .eq 35, 3, 0, 0, 0, .null), (16, .iload_n 3, 1, 0, 0, 0, .null), (17, .invokestatic 200, 3, 191, 1, 2, .null), (20, .ifCond .eq 28, 3, 0, 0, 0, .null), (23, .aload_n 0, 1, 0, 0, 0, .null), (24, .iload_n 1, 1, 0, 0, 0, .null), (25, .iload_n 2, 1, 0, 0, 0, .null), (26, .bipush 100, 2, 0, 0, 0, .null), (28, .idiv, 1, 0, 0, 0, .null), (29, .iload_n 2, 1, 0, 0, 0, .null), (30, .bipush 100, 2, 0, 0, 0, .null), (32, .irem, 1, 0, 0, 0, .null), (33, .iload_n 3, 1, 0, 0, 0, .null), (34, .invokevirtual 253, 3, 204, 4, 0, .ref 12), (37, .ifCond .eq 7, 3, 0, 0, 0, .null), (40, .iconst 1, 1, 0, 0, 0, .null), (41, .goto 8, 3, 0, 0, 0, .null), (44, .iconst 0, 1, 0, 0, 0, .null), (45, .goto 4, 3, 0, 0, 0, .null), (48, .iconst (-1), 1, 0, 0, 0, .null), (49, .ireturn, 1, 0, 0, 0, .null)]
/-- OneRoofModel.holdsNow(IIII)Z -/
def qx_c204_0 : List (Nat × Instr × Nat × Nat × Nat × Nat × Value) := [(0, .aload_n 0, 1, 0, 0, 0, .null), (1, .iload_n 1, 1, 0, 0, 0, .null), (2, .invokevirtual 237, 3, 200, 1, 0, .ref 12), (5, .istore 5, 2, 0, 0, 0, .null), (7, .iload 5, 2, 0, 0, 0, .null), (9, .bipush 6, 2, 0, 0, 0, .null), (11, .if_icmp .eq 55, 3, 0, 0, 0, .null), (14, .aload_n 0, 1, 0, 0, 0, .null), (15, .getfield 247, 3, 12, 29, 0, .null), (18, .iload_n 1, 1, 0, 0, 0, .null), (19, .lshr, 1, 0, 0, 0, .null), (20, .lconst 1, 1, 0, 0, 0, .null), (21, .land, 1, 0, 0, 0, .null), (22, .lconst 1, 1, 0, 0, 0, .null), (23, .lcmp, 1, 0, 0, 0, .null), (24, .ifCond .eq 42, 3, 0, 0, 0, .null), (27, .iload 4, 2, 0, 0, 0, .null), (29, .aload_n 0, 1, 0, 0, 0, .null), (30, .getfield 64, 3, 12, 26, 0, .null), (33, .iload_n 1, 1, 0, 0, 0, .null), (34, .iaload, 1, 0, 0, 0, .null), (35, .if_icmp .lt 31, 3, 0, 0, 0, .null), (38, .iload 4, 2, 0, 0, 0, .null), (40, .aload_n 0, 1, 0, 0, 0, .null), (41, .getfield 67, 3, 12, 27, 0, .null), (44, .iload_n 1, 1, 0, 0, 0, .null), (45, .iaload, 1, 0, 0, 0, .null), (46, .iload 5, 2, 0, 0, 0, .null), (48, .iconst 2, 1, 0, 0, 0, .null), (49, .if_icmp .ne 12, 3, 0, 0, 0, .null), (52, .aload_n 0, 1, 0, 0, 0, .null), (53, .getfield 70, 3, 12, 28, 0, .null), (56, .iload_n 1, 1, 0, 0, 0, .null), (57, .iaload, 1, 0, 0, 0, .null), (58, .goto 4, 3, 0, 0, 0, .null), (61, .iconst 0, 1, 0, 0, 0, .null), (62, .iadd, 1, 0, 0, 0, .null), (63, .if_icmp .le 5, 3, 0, 0, 0, .null), (66, .iconst 0, 1, 0, 0, 0, .null), (67, .ireturn, 1, 0, 0, 0, .null), (68, .aload_n 0, 1, 0, 0, 0, .null), (69, .iload_n 1, 1, 0, 0, 0, .null), (70, .iload_n 2, 1, 0, 0, 0, .null), (71, .invokevirtual 241, 3, 201, 2, 0, .ref 12), (74, .istore 6, 2, 0, 0, 0, .null), (76, .aload_n 0, 1, 0, 0, 0, .null), (77, .iload_n 1, 1, 0, 0, 0, .null), (78, .iload_n 3, 1, 0, 0, 0, .null), (79, .invokevirtual 241, 3, 201, 2, 0, .ref 12), (82, .istore 7, 2, 0, 0, 0, .null)]
def qx_c204_1 : List (Nat × Instr × Nat × Nat × Nat × Nat × Value) := [(84, .iload 5, 2, 0, 0, 0, .null), (86, .tableswitch 114 1 5 #[34, 34, 80, 96, 112], 34, 0, 0, 0, .null), (120, .iload 6, 2, 0, 0, 0, .null), (122, .ifCond .eq 8, 3, 0, 0, 0, .null), (125, .iload 7, 2, 0, 0, 0, .null), (127, .ifCond .ne 33, 3, 0, 0, 0, .null), (130, .iload 6, 2, 0, 0, 0, .null), (132, .ifCond .eq 13, 3, 0, 0, 0, .null), (135, .iload_n 3, 1, 0, 0, 0, .null), (136, .aload_n 0, 1, 0, 0, 0, .null), (137, .getfield 61, 3, 12, 25, 0, .null), (140, .iload_n 1, 1, 0, 0, 0, .null), (141, .iaload, 1, 0, 0, 0, .null), (142, .if_icmp .eq 18, 3, 0, 0, 0, .null), (145, .iload 7, 2, 0, 0, 0, .null), (147, .ifCond .eq 17, 3, 0, 0, 0, .null), (150, .iload_n 2, 1, 0, 0, 0, .null), (151, .aload_n 0, 1, 0, 0, 0, .null), (152, .getfield 61, 3, 12, 25, 0, .null), (155, .iload_n 1, 1, 0, 0, 0, .null), (156, .iaload, 1, 0, 0, 0, .null), (157, .if_icmp .ne 7, 3, 0, 0, 0, .null), (160, .iconst 1, 1, 0, 0, 0, .null), (161, .goto 4, 3, 0, 0, 0, .null), (164, .iconst 0, 1, 0, 0, 0, .null), (165, .ireturn, 1, 0, 0, 0, .null), (166, .iload 6, 2, 0, 0, 0, .null), (168, .ifCond .ne 8, 3, 0, 0, 0, .null), (171, .iload 7, 2, 0, 0, 0, .null), (173, .ifCond .eq 7, 3, 0, 0, 0, .null), (176, .iconst 1, 1, 0, 0, 0, .null), (177, .goto 4, 3, 0, 0, 0, .null), (180, .iconst 0, 1, 0, 0, 0, .null), (181, .ireturn, 1, 0, 0, 0, .null), (182, .iload 6, 2, 0, 0, 0, .null), (184, .ifCond .eq 12, 3, 0, 0, 0, .null), (187, .iload 7, 2, 0, 0, 0, .null), (189, .ifCond .eq 7, 3, 0, 0, 0, .null), (192, .iconst 1, 1, 0, 0, 0, .null), (193, .goto 4, 3, 0, 0, 0, .null), (196, .iconst 0, 1, 0, 0, 0, .null), (197, .ireturn, 1, 0, 0, 0, .null), (198, .iconst 1, 1, 0, 0, 0, .null), (199, .ireturn, 1, 0, 0, 0, .null), (200, .aload_n 0, 1, 0, 0, 0, .null), (201, .iload_n 1, 1, 0, 0, 0, .null), (202, .iload_n 2, 1, 0, 0, 0, .null), (203, .invokevirtual 250, 3, 205, 2, 0, .ref 12), (206, .ifCond .eq 16, 3, 0, 0, 0, .null), (209, .aload_n 0, 1, 0, 0, 0, .null)]
def qx_c204_2 : List (Nat × Instr × Nat × Nat × Nat × Nat × Value) := [(210, .iload_n 1, 1, 0, 0, 0, .null), (211, .iload_n 3, 1, 0, 0, 0, .null), (212, .invokevirtual 250, 3, 205, 2, 0, .ref 12), (215, .ifCond .eq 7, 3, 0, 0, 0, .null), (218, .iconst 1, 1, 0, 0, 0, .null), (219, .goto 4, 3, 0, 0, 0, .null), (222, .iconst 0, 1, 0, 0, 0, .null), (223, .ireturn, 1, 0, 0, 0, .null)]
def qx_c204 : List (Nat × Instr × Nat × Nat × Nat × Nat × Value) := qx_c204_0 ++ (qx_c204_1 ++ (qx_c204_2))
/-- OneRoofModel.isUnderGiver(II)Z -/
def qx_c205 : List (Nat × Instr × Nat × Nat × Nat × Nat × Value) := [(0, .iload_n 2, 1, 0, 0, 0, .null), (1, .aload_n 0, 1, 0, 0, 0, .null), (2, .getfield 61, 3, 12, 25, 0, .null), (5, .iload_n 1, 1, 0, 0, 0, .null), (6, .iaload, 1, 0, 0, 0, .null), (7, .if_icmp .eq 17, 3, 0, 0, 0, .null), (10, .aload_n 0, 1, 0, 0, 0, .null), (11, .aload_n 0, 1, 0, 0, 0, .null), (12, .getfield 61, 3, 12, 25, 0, .null), (15, .iload_n 1, 1, 0, 0, 0, .null), (16, .iaload, 1, 0, 0, 0, .null), (17, .iload_n 2, 1, 0, 0, 0, .null), (18, .invokevirtual 244, 3, 206, 2, 0, .ref 12), (21, .ifCond .eq 7, 3, 0, 0, 0, .null), (24, .iconst 1, 1, 0, 0, 0, .null), (25, .goto 4, 3, 0, 0, 0, .null), (28, .iconst 0, 1, 0, 0, 0, .null), (29, .ireturn, 1, 0, 0, 0, .null)]
/-- OneRoofModel.isLordOf(II)Z -/
def qx_c206 : List (Nat × Instr × Nat × Nat × Nat × Nat × Value) := [(0, .aload_n 0, 1, 0, 0, 0, .null), (1, .getfield 28, 3, 12, 7, 0, .null), (4, .iload_n 2, 1, 0, 0, 0, .null), (5, .iaload, 1, 0, 0, 0, .null), (6, .istore_n 3, 1, 0, 0, 0, .null), (7, .iload_n 3, 1, 0, 0, 0, .null), (8, .ifCond .lt 20, 3, 0, 0, 0, .null), (11, .iload_n 3, 1, 0, 0, 0, .null), (12, .iload_n 1, 1, 0, 0, 0, .null), (13, .if_icmp .ne 5, 3, 0, 0, 0, .null), (16, .iconst 1, 1, 0, 0, 0, .null), (17, .ireturn, 1, 0, 0, 0, .null), (18, .aload_n 0, 1, 0, 0, 0, .null), (19, .getfield 28, 3, 12, 7, 0, .null), (22, .iload_n 3, 1, 0, 0, 0, .null), (23, .iaload, 1, 0, 0, 0, .null), (24, .istore_n 3, 1, 0, 0, 0, .null), (25, .goto (-18), 3, 0, 0, 0, .null), (28, .iconst 0, 1, 0, 0, 0, .null), (29, .ireturn, 1, 0, 0, 0, .null)]
/-- OneRoofModel.between(II)I -/
def qx_c207 : List (Nat × Instr × Nat × Nat × Nat × Nat × Value) := [(0, .aload_n 0, 1, 0, 0, 0, .null), (1, .iload_n 1, 1, 0, 0, 0, .null), (2, .invokevirtual 197, 3, 190, 1, 0, .ref 12), (5, .ifCond .eq 26, 3, 0, 0, 0, .null), (8, .iload_n 2, 1, 0, 0, 0, .null), (9, .invokestatic 200, 3, 191, 1, 2, .null), (12, .ifCond .eq 19, 3, 0, 0, 0, .null), (15, .aload_n 0, 1, 0, 0, 0, .null), (16, .iload_n 1, 1, 0, 0, 0, .null), (17, .bipush 100, 2, 0, 0, 0, .null), (19, .idiv, 1, 0, 0, 0, .null), (20, .iload_n 1, 1, 0, 0, 0, .null), (21, .bipush 100, 2, 0, 0, 0, .null), (23, .irem, 1, 0, 0, 0, .null), (24, .iload_n 2, 1, 0, 0, 0, .null), (25, .invokevirtual 260, 3, 208, 3, 0, .ref 12), (28, .goto 4, 3, 0, 0, 0, .null), (31, .iconst (-1), 1, 0, 0, 0, .null), (32, .ireturn, 1, 0, 0, 0, .null)]
/-- OneRoofModel.manyBetween(III)I -/
def qx_c208 : List (Nat × Instr × Nat × Nat × Nat × Nat × Value) := [(0, .iconst 0, 1, 0, 0, 0, .null), (1, .istore 4, 2, 0, 0, 0, .null), (3, .iconst 0, 1, 0, 0, 0, .null), (4, .istore 5, 2, 0, 0, 0, .null), (6, .iload 5, 2, 0, 0, 0, .null), (8, .aload_n 0, 1, 0, 0, 0, .null), (9, .getfield 225, 3, 12, 24, 0, .null), (12, .if_icmp .ge 30, 3, 0, 0, 0, .null), (15, .aload_n 0, 1, 0, 0, 0, .null), (16, .iload 5, 2, 0, 0, 0, .null), (18, .iload_n 1, 1, 0, 0, 0, .null), (19, .iload_n 2, 1, 0, 0, 0, .null), (20, .iload_n 3, 1, 0, 0, 0, .null), (21, .invokevirtual 253, 3, 204, 4, 0, .ref 12), (24, .ifCond .eq 12, 3, 0, 0, 0, .null), (27, .iinc 4 1, 3, 0, 0, 0, .null), (30, .aload_n 0, 1, 0, 0, 0, .null), (31, .iload 5, 2, 0, 0, 0, .null), (33, .putfield 257, 3, 12, 30, 0, .null), (36, .iinc 5 1, 3, 0, 0, 0, .null), (39, .goto (-33), 3, 0, 0, 0, .null), (42, .iload 4, 2, 0, 0, 0, .null), (44, .ireturn, 1, 0, 0, 0, .null)]
/-- OneRoofModel.proof(II)I -/
def qx_c209 : List (Nat × Instr × Nat × Nat × Nat × Nat × Value) := [(0, .aload_n 0, 1, 0, 0, 0, .null), (1, .iload_n 1, 1, 0, 0, 0, .null), (2, .invokevirtual 197, 3, 190, 1, 0, .ref 12), (5, .ifCond .eq 10, 3, 0, 0, 0, .null), (8, .iload_n 2, 1, 0, 0, 0, .null), (9, .invokestatic 200, 3, 191, 1, 2, .null), (12, .ifCond .ne 5, 3, 0, 0, 0, .null), (15, .iconst (-1), 1, 0, 0, 0, .null), (16, .ireturn, 1, 0, 0, 0, .null), (17, .aload_n 0, 1, 0, 0, 0, .null), (18, .iload_n 1, 1, 0, 0, 0, .null), (19, .bipush 100, 2, 0, 0, 0, .null), (21, .idiv, 1, 0, 0, 0, .null), (22, .iload_n 1, 1, 0, 0, 0, .null), (23, .bipush 100, 2, 0, 0, 0, .null), (25, .irem, 1, 0, 0, 0, .null), (26, .iload_n 2, 1, 0, 0, 0, .null), (27, .invokevirtual 260, 3, 208, 3, 0, .ref 12), (30, .iconst 1, 1, 0, 0, 0, .null), (31, .if_icmp .ne 10, 3, 0, 0, 0, .null), (34, .aload_n 0, 1, 0, 0, 0, .null), (35, .getfield 257, 3, 12, 30, 0, .null), (38, .goto 5, 3, 0, 0, 0, .null), (41, .bipush (-2), 2, 0, 0, 0, .null), (43, .ireturn, 1, 0, 0, 0, .null)]
/-- OneRoofModel.feed(II)I -/
def qx_c210 : List (Nat × Instr × Nat × Nat × Nat × Nat × Value) := [(0, .iload_n 1, 1, 0, 0, 0, .null), (1, .i2l, 1, 0, 0, 0, .null), (2, .lconst 1, 1, 0, 0, 0, .null), (3, .ldc2_w 263, 3, 0, 0, 2, .long 4), (6, .invokestatic 5, 3, 175, 3, 2, .null), (9, .ifCond .ne 5, 3, 0, 0, 0, .null), (12, .iconst (-1), 1, 0, 0, 0, .null), (13, .ireturn, 1, 0, 0, 0, .null), (14, .aload_n 0, 1, 0, 0, 0, .null), (15, .getfield 265, 3, 12, 32, 0, .null), (18, .iload_n 1, 1, 0, 0, 0, .null), (19, .iadd, 1, 0, 0, 0, .null), (20, .bipush 120, 2, 0, 0, 0, .null), (22, .if_icmp .le 6, 3, 0, 0, 0, .null), (25, .bipush (-3), 2, 0, 0, 0, .null), (27, .ireturn, 1, 0, 0, 0, .null), (28, .iconst 0, 1, 0, 0, 0, .null), (29, .istore_n 3, 1, 0, 0, 0, .null), (30, .iload_n 3, 1, 0, 0, 0, .null), (31, .iload_n 1, 1, 0, 0, 0, .null), (32, .if_icmp .ge 38, 3, 0, 0, 0, .null), (35, .aload_n 0, 1, 0, 0, 0, .null), (36, .getfield 73, 3, 12, 31, 0, .null), (39, .aload_n 0, 1, 0, 0, 0, .null), (40, .getfield 265, 3, 12, 32, 0, .null), (43, .iload_n 2, 1, 0, 0, 0, .null), (44, .bipush 8, 2, 0, 0, 0, .null), (46, .iload_n 3, 1, 0, 0, 0, .null), (47, .imul, 1, 0, 0, 0, .null), (48, .ishr, 1, 0, 0, 0, .null), (49, .sipush 255, 3, 0, 0, 0, .null), (52, .iand, 1, 0, 0, 0, .null), (53, .iastore, 1, 0, 0, 0, .null), (54, .aload_n 0, 1, 0, 0, 0, .null), (55, .dup, 1, 0, 0, 0, .null), (56, .getfield 265, 3, 12, 32, 0, .null), (59, .iconst 1, 1, 0, 0, 0, .null), (60, .iadd, 1, 0, 0, 0, .null), (61, .putfield 265, 3, 12, 32, 0, .null), (64, .iinc 3 1, 3, 0, 0, 0, .null), (67, .goto (-37), 3, 0, 0, 0, .null), (70, .aload_n 0, 1, 0, 0, 0, .null), (71, .getfield 265, 3, 12, 32, 0, .null), (74, .ireturn, 1, 0, 0, 0, .null)]
/-- OneRoofModel.custom(I)I -/
def qx_c211 : List (Nat × Instr × Nat × Nat × Nat × Nat × Value) := [(0, .iload_n 1, 1, 0, 0, 0, .null), (1, .i2l, 1, 0, 0, 0, .null), (2, .lconst 0, 1, 0, 0, 0, .null), (3, .lconst 1, 1, 0, 0, 0, .null), (4, .invokestatic 5, 3, 175, 3, 2, .null), (7, .ifCond .ne 5, 3, 0, 0, 0, .null), (10, .iconst (-1), 1, 0, 0, 0, .null), (11, .ireturn, 1, 0, 0, 0, .null), (12, .aload_n 0, 1, 0, 0, 0, .null), (13, .iconst (-1), 1, 0, 0, 0, .null), (14, .aload_n 0, 1, 0, 0, 0, .null), (15, .getfield 265, 3, 12, 32, 0, .null), (18, .invokevirtual 314, 3, 212, 2, 0, .ref 12), (21, .istore_n 2, 1, 0, 0, 0, .null), (22, .aload_n 0, 1, 0, 0, 0, .null), (23, .getfield 265, 3, 12, 32, 0, .null), (26, .istore_n 3, 1, 0, 0, 0, .null), (27, .aload_n 0, 1, 0, 0, 0, .null), (28, .iconst 0, 1, 0, 0, 0, .null), (29, .putfield 265, 3, 12, 32, 0, .null), (32, .aload_n 0, 1, 0, 0, 0, .null), (33, .getfield 277, 3, 12, 38, 0, .null), (36, .ifCond .lt 11, 3, 0, 0, 0, .null), (39, .bipush (-100), 2, 0, 0, 0, .null), (41, .aload_n 0, 1, 0, 0, 0, .null), (42, .getfield 277, 3, 12, 38, 0, .null), (45, .isub, 1, 0, 0, 0, .null), (46, .ireturn, 1, 0, 0, 0, .null), (47, .iconst 0, 1, 0, 0, 0, .null), (48, .istore 4, 2, 0, 0, 0, .null), (50, .iload 4, 2, 0, 0, 0, .null), (52, .iload_n 3, 1, 0, 0, 0, .null), (53, .if_icmp .ge 28, 3, 0, 0, 0, .null), (56, .aload_n 0, 1, 0, 0, 0, .null), (57, .getfield 76, 3, 12, 33, 0, .null), (60, .bipush 120, 2, 0, 0, 0, .null), (62, .iload_n 1, 1, 0, 0, 0, .null), (63, .imul, 1, 0, 0, 0, .null), (64, .iload 4, 2, 0, 0, 0, .null), (66, .iadd, 1, 0, 0, 0, .null), (67, .aload_n 0, 1, 0, 0, 0, .null), (68, .getfield 73, 3, 12, 31, 0, .null), (71, .iload 4, 2, 0, 0, 0, .null), (73, .iaload, 1, 0, 0, 0, .null), (74, .iastore, 1, 0, 0, 0, .null), (75, .iinc 4 1, 3, 0, 0, 0, .null), (78, .goto (-28), 3, 0, 0, 0, .null), (81, .aload_n 0, 1, 0, 0, 0, .null), (82, .getfield 79, 3, 12, 34, 0, .null), (85, .iload_n 1, 1, 0, 0, 0, .null), (86, .iload_n 3, 1, 0, 0, 0, .null), (87, .iastore, 1, 0, 0, 0, .null), (88, .iconst 1, 1, 0, 0, 0, .null), (89, .ireturn, 1, 0, 0, 0, .null)]
/-- OneRoofModel.workOut(II)I -/
def qx_c212_0 : List (Nat × Instr × Nat × Nat × Nat × Nat × Value) := [(0, .aload_n 0, 1, 0, 0, 0, .null), (1, .iload_n 1, 1, 0, 0, 0, .null), (2, .putfield 274, 3, 12, 35, 0, .null), (5, .aload_n 0, 1, 0, 0, 0, .null), (6, .iconst 0, 1, 0, 0, 0, .null), (7, .putfield 268, 3, 12, 36, 0, .null), (10, .aload_n 0, 1, 0, 0, 0, .null), (11, .iload_n 2, 1, 0, 0, 0, .null), (12, .putfield 271, 3, 12, 37, 0, .null), (15, .aload_n 0, 1, 0, 0, 0, .null), (16, .iconst (-1), 1, 0, 0, 0, .null), (17, .putfield 277, 3, 12, 38, 0, .null), (20, .aload_n 0, 1, 0, 0, 0, .null), (21, .iconst 0, 1, 0, 0, 0, .null), (22, .putfield 302, 3, 12, 39, 0, .null), (25, .iconst 0, 1, 0, 0, 0, .null), (26, .istore_n 3, 1, 0, 0, 0, .null), (27, .iconst 0, 1, 0, 0, 0, .null), (28, .istore 4, 2, 0, 0, 0, .null), (30, .iconst 1, 1, 0, 0, 0, .null), (31, .istore 5, 2, 0, 0, 0, .null), (33, .iload 5, 2, 0, 0, 0, .null), (35, .ifCond .eq 72, 3, 0, 0, 0, .null), (38, .aload_n 0, 1, 0, 0, 0, .null), (39, .invokevirtual 308, 3, 213, 0, 0, .ref 12), (42, .istore 6, 2, 0, 0, 0, .null), (44, .iconst 1, 1, 0, 0, 0, .null), (45, .istore 7, 2, 0, 0, 0, .null), (47, .aload_n 0, 1, 0, 0, 0, .null), (48, .bipush 63, 2, 0, 0, 0, .null), (50, .invokevirtual 287, 3, 221, 1, 0, .ref 12), (53, .ifCond .eq 21, 3, 0, 0, 0, .null), (56, .iload 6, 2, 0, 0, 0, .null), (58, .ifCond .eq 7, 3, 0, 0, 0, .null), (61, .iconst 1, 1, 0, 0, 0, .null), (62, .goto 4, 3, 0, 0, 0, .null), (65, .iconst 0, 1, 0, 0, 0, .null), (66, .istore 7, 2, 0, 0, 0, .null), (68, .aload_n 0, 1, 0, 0, 0, .null), (69, .invokevirtual 308, 3, 213, 0, 0, .ref 12), (72, .istore 6, 2, 0, 0, 0, .null), (74, .aload_n 0, 1, 0, 0, 0, .null), (75, .getfield 277, 3, 12, 38, 0, .null), (78, .ifCond .ge 18, 3, 0, 0, 0, .null), (81, .iload 7, 2, 0, 0, 0, .null), (83, .ifCond .eq 13, 3, 0, 0, 0, .null), (86, .iload_n 3, 1, 0, 0, 0, .null), (87, .ifCond .ne 9, 3, 0, 0, 0, .null), (90, .iconst 1, 1, 0, 0, 0, .null), (91, .istore_n 3, 1, 0, 0, 0, .null)]
def qx_c212_1 : List (Nat × Instr × Nat × Nat × Nat × Nat × Value) := [(92, .iload 6, 2, 0, 0, 0, .null), (94, .istore 4, 2, 0, 0, 0, .null), (96, .aload_n 0, 1, 0, 0, 0, .null), (97, .bipush 59, 2, 0, 0, 0, .null), (99, .invokevirtual 287, 3, 221, 1, 0, .ref 12), (102, .istore 5, 2, 0, 0, 0, .null), (104, .goto (-71), 3, 0, 0, 0, .null), (107, .aload_n 0, 1, 0, 0, 0, .null), (108, .getfield 277, 3, 12, 38, 0, .null), (111, .ifCond .ge 19, 3, 0, 0, 0, .null), (114, .aload_n 0, 1, 0, 0, 0, .null), (115, .getfield 268, 3, 12, 36, 0, .null), (118, .aload_n 0, 1, 0, 0, 0, .null), (119, .getfield 271, 3, 12, 37, 0, .null), (122, .if_icmp .ge 8, 3, 0, 0, 0, .null), (125, .aload_n 0, 1, 0, 0, 0, .null), (126, .invokevirtual 305, 3, 220, 0, 0, .ref 12), (129, .ireturn, 1, 0, 0, 0, .null), (130, .iload 4, 2, 0, 0, 0, .null), (132, .ireturn, 1, 0, 0, 0, .null)]
def qx_c212 : List (Nat × Instr × Nat × Nat × Nat × Nat × Value) := qx_c212_0 ++ (qx_c212_1)
/-- OneRoofModel.either()I -/
def qx_c213 : List (Nat × Instr × Nat × Nat × Nat × Nat × Value) := [(0, .aload_n 0, 1, 0, 0, 0, .null), (1, .invokevirtual 284, 3, 214, 0, 0, .ref 12), (4, .istore_n 1, 1, 0, 0, 0, .null), (5, .aload_n 0, 1, 0, 0, 0, .null), (6, .bipush 124, 2, 0, 0, 0, .null), (8, .invokevirtual 287, 3, 221, 1, 0, .ref 12), (11, .ifCond .eq 25, 3, 0, 0, 0, .null), (14, .aload_n 0, 1, 0, 0, 0, .null), (15, .invokevirtual 284, 3, 214, 0, 0, .ref 12), (18, .istore_n 2, 1, 0, 0, 0, .null), (19, .iload_n 1, 1, 0, 0, 0, .null), (20, .ifCond .ne 7, 3, 0, 0, 0, .null), (23, .iload_n 2, 1, 0, 0, 0, .null), (24, .ifCond .eq 7, 3, 0, 0, 0, .null), (27, .iconst 1, 1, 0, 0, 0, .null), (28, .goto 4, 3, 0, 0, 0, .null), (31, .iconst 0, 1, 0, 0, 0, .null), (32, .istore_n 1, 1, 0, 0, 0, .null), (33, .goto (-28), 3, 0, 0, 0, .null), (36, .iload_n 1, 1, 0, 0, 0, .null), (37, .ireturn, 1, 0, 0, 0, .null)]
/-- OneRoofModel.both()I -/
def qx_c214 : List (Nat × Instr × Nat × Nat × Nat × Nat × Value) := [(0, .aload_n 0, 1, 0, 0, 0, .null), (1, .invokevirtual 290, 3, 215, 0, 0, .ref 12), (4, .istore_n 1, 1, 0, 0, 0, .null), (5, .aload_n 0, 1, 0, 0, 0, .null), (6, .bipush 38, 2, 0, 0, 0, .null), (8, .invokevirtual 287, 3, 221, 1, 0, .ref 12), (11, .ifCond .eq 25, 3, 0, 0, 0, .null), (14, .aload_n 0, 1, 0, 0, 0, .null), (15, .invokevirtual 290, 3, 215, 0, 0, .ref 12), (18, .istore_n 2, 1, 0, 0, 0, .null), (19, .iload_n 1, 1, 0, 0, 0, .null), (20, .ifCond .eq 11, 3, 0, 0, 0, .null), (23, .iload_n 2, 1, 0, 0, 0, .null), (24, .ifCond .eq 7, 3, 0, 0, 0, .null), (27, .iconst 1, 1, 0, 0, 0, .null), (28, .goto 4, 3, 0, 0, 0, .null), (31, .iconst 0, 1, 0, 0, 0, .null), (32, .istore_n 1, 1, 0, 0, 0, .null), (33, .goto (-28), 3, 0, 0, 0, .null), (36, .iload_n 1, 1, 0, 0, 0, .null), (37, .ireturn, 1, 0, 0, 0, .null)]
/-- OneRoofModel.compared()I -/
def qx_c215 : List (Nat × Instr × Nat × Nat × Nat × Nat × Value) := [(0, .aload_n 0, 1, 0, 0, 0, .null), (1, .invokevirtual 293, 3, 216, 0, 0, .ref 12), (4, .istore_n 1, 1, 0, 0, 0, .null), (5, .aload_n 0, 1, 0, 0, 0, .null), (6, .invokevirtual 280, 3, 219, 0, 0, .ref 12), (9, .istore_n 2, 1, 0, 0, 0, .null), (10, .aload_n 0, 1, 0, 0, 0, .null), (11, .getfield 277, 3, 12, 38, 0, .null), (14, .ifCond .ge 21, 3, 0, 0, 0, .null), (17, .iload_n 2, 1, 0, 0, 0, .null), (18, .bipush 60, 2, 0, 0, 0, .null), (20, .if_icmp .eq 17, 3, 0, 0, 0, .null), (23, .iload_n 2, 1, 0, 0, 0, .null), (24, .bipush 61, 2, 0, 0, 0, .null), (26, .if_icmp .eq 11, 3, 0, 0, 0, .null), (29, .iload_n 2, 1, 0, 0, 0, .null), (30, .bipush 62, 2, 0, 0, 0, .null), (32, .if_icmp .eq 5, 3, 0, 0, 0, .null), (35, .iload_n 1, 1, 0, 0, 0, .null), (36, .ireturn, 1, 0, 0, 0, .null), (37, .aload_n 0, 1, 0, 0, 0, .null), (38, .dup, 1, 0, 0, 0, .null), (39, .getfield 268, 3, 12, 36, 0, .null), (42, .iconst 1, 1, 0, 0, 0, .null), (43, .iadd, 1, 0, 0, 0, .null), (44, .putfield 268, 3, 12, 36, 0, .null), (47, .aload_n 0, 1, 0, 0, 0, .null), (48, .invokevirtual 293, 3, 216, 0, 0, .ref 12), (51, .istore_n 3, 1, 0, 0, 0, .null), (52, .iload_n 2, 1, 0, 0, 0, .null), (53, .bipush 60, 2, 0, 0, 0, .null), (55, .if_icmp .ne 11, 3, 0, 0, 0, .null), (58, .iload_n 1, 1, 0, 0, 0, .null), (59, .iload_n 3, 1, 0, 0, 0, .null), (60, .if_icmp .ge 29, 3, 0, 0, 0, .null), (63, .goto 22, 3, 0, 0, 0, .null), (66, .iload_n 2, 1, 0, 0, 0, .null), (67, .bipush 61, 2, 0, 0, 0, .null), (69, .if_icmp .ne 11, 3, 0, 0, 0, .null), (72, .iload_n 1, 1, 0, 0, 0, .null), (73, .iload_n 3, 1, 0, 0, 0, .null), (74, .if_icmp .ne 15, 3, 0, 0, 0, .null), (77, .goto 8, 3, 0, 0, 0, .null), (80, .iload_n 1, 1, 0, 0, 0, .null), (81, .iload_n 3, 1, 0, 0, 0, .null), (82, .if_icmp .le 7, 3, 0, 0, 0, .null), (85, .iconst 1, 1, 0, 0, 0, .null), (86, .goto 4, 3, 0, 0, 0, .null), (89, .iconst 0, 1, 0, 0, 0, .null), (90, .ireturn, 1, 0, 0, 0, .null)]
/-- OneRoofModel.sums()I -/
def qx_c216 : List (Nat × Instr × Nat × Nat × Nat × Nat × Value) := [(0, .aload_n 0, 1, 0, 0, 0, .null), (1, .invokevirtual 296, 3, 217, 0, 0, .ref 12), (4, .istore_n 1, 1, 0, 0, 0, .null), (5, .aload_n 0, 1, 0, 0, 0, .null), (6, .getfield 277, 3, 12, 38, 0, .null), (9, .ifCond .ge 68, 3, 0, 0, 0, .null), (12, .aload_n 0, 1, 0, 0, 0, .null), (13, .invokevirtual 280, 3, 219, 0, 0, .ref 12), (16, .bipush 43, 2, 0, 0, 0, .null), (18, .if_icmp .eq 12, 3, 0, 0, 0, .null), (21, .aload_n 0, 1, 0, 0, 0, .null), (22, .invokevirtual 280, 3, 219, 0, 0, .ref 12), (25, .bipush 45, 2, 0, 0, 0, .null), (27, .if_icmp .ne 50, 3, 0, 0, 0, .null), (30, .aload_n 0, 1, 0, 0, 0, .null), (31, .invokevirtual 280, 3, 219, 0, 0, .ref 12), (34, .bipush 43, 2, 0, 0, 0, .null), (36, .if_icmp .ne 7, 3, 0, 0, 0, .null), (39, .iconst 1, 1, 0, 0, 0, .null), (40, .goto 4, 3, 0, 0, 0, .null), (43, .iconst 0, 1, 0, 0, 0, .null), (44, .istore_n 2, 1, 0, 0, 0, .null), (45, .aload_n 0, 1, 0, 0, 0, .null), (46, .dup, 1, 0, 0, 0, .null), (47, .getfield 268, 3, 12, 36, 0, .null), (50, .iconst 1, 1, 0, 0, 0, .null), (51, .iadd, 1, 0, 0, 0, .null), (52, .putfield 268, 3, 12, 36, 0, .null), (55, .aload_n 0, 1, 0, 0, 0, .null), (56, .invokevirtual 296, 3, 217, 0, 0, .ref 12), (59, .istore_n 3, 1, 0, 0, 0, .null), (60, .iload_n 2, 1, 0, 0, 0, .null), (61, .ifCond .eq 9, 3, 0, 0, 0, .null), (64, .iload_n 1, 1, 0, 0, 0, .null), (65, .iload_n 3, 1, 0, 0, 0, .null), (66, .iadd, 1, 0, 0, 0, .null), (67, .goto 6, 3, 0, 0, 0, .null), (70, .iload_n 1, 1, 0, 0, 0, .null), (71, .iload_n 3, 1, 0, 0, 0, .null), (72, .isub, 1, 0, 0, 0, .null), (73, .istore_n 1, 1, 0, 0, 0, .null), (74, .goto (-69), 3, 0, 0, 0, .null), (77, .iload_n 1, 1, 0, 0, 0, .null), (78, .ireturn, 1, 0, 0, 0, .null)]
/-- OneRoofModel.product()I -/
def qx_c217 : List (Nat × Instr × Nat × Nat × Nat × Nat × Value) := [(0, .aload_n 0, 1, 0, 0, 0, .null), (1, .invokevirtual 299, 3, 218, 0, 0, .ref 12), (4, .istore_n 1, 1, 0, 0, 0, .null), (5, .aload_n 0, 1, 0, 0, 0, .null), (6, .invokevirtual 280, 3, 219, 0, 0, .ref 12), (9, .istore_n 2, 1, 0, 0, 0, .null), (10, .aload_n 0, 1, 0, 0, 0, .null), (11, .getfield 277, 3, 12, 38, 0, .null), (14, .ifCond .ge 80, 3, 0, 0, 0, .null), (17, .iload_n 2, 1, 0, 0, 0, .null), (18, .bipush 42, 2, 0, 0, 0, .null), (20, .if_icmp .eq 15, 3, 0, 0, 0, .null), (23, .iload_n 2, 1, 0, 0, 0, .null), (24, .bipush 47, 2, 0, 0, 0, .null), (26, .if_icmp .eq 9, 3, 0, 0, 0, .null), (29, .iload_n 2, 1, 0, 0, 0, .null), (30, .bipush 37, 2, 0, 0, 0, .null), (32, .if_icmp .ne 62, 3, 0, 0, 0, .null), (35, .aload_n 0, 1, 0, 0, 0, .null), (36, .dup, 1, 0, 0, 0, .null), (37, .getfield 268, 3, 12, 36, 0, .null), (40, .iconst 1, 1, 0, 0, 0, .null), (41, .iadd, 1, 0, 0, 0, .null), (42, .putfield 268, 3, 12, 36, 0, .null), (45, .aload_n 0, 1, 0, 0, 0, .null), (46, .invokevirtual 299, 3, 218, 0, 0, .ref 12), (49, .istore_n 3, 1, 0, 0, 0, .null), (50, .iload_n 2, 1, 0, 0, 0, .null), (51, .bipush 42, 2, 0, 0, 0, .null), (53, .if_icmp .ne 9, 3, 0, 0, 0, .null), (56, .iload_n 1, 1, 0, 0, 0, .null), (57, .iload_n 3, 1, 0, 0, 0, .null), (58, .imul, 1, 0, 0, 0, .null), (59, .goto 26, 3, 0, 0, 0, .null), (62, .iload_n 3, 1, 0, 0, 0, .null), (63, .ifCond .ne 7, 3, 0, 0, 0, .null), (66, .iconst 0, 1, 0, 0, 0, .null), (67, .goto 18, 3, 0, 0, 0, .null), (70, .iload_n 2, 1, 0, 0, 0, .null), (71, .bipush 47, 2, 0, 0, 0, .null), (73, .if_icmp .ne 9, 3, 0, 0, 0, .null), (76, .iload_n 1, 1, 0, 0, 0, .null), (77, .iload_n 3, 1, 0, 0, 0, .null), (78, .idiv, 1, 0, 0, 0, .null), (79, .goto 6, 3, 0, 0, 0, .null), (82, .iload_n 1, 1, 0, 0, 0, .null), (83, .iload_n 3, 1, 0, 0, 0, .null), (84, .irem, 1, 0, 0, 0, .null), (85, .istore_n 1, 1, 0, 0, 0, .null), (86, .aload_n 0, 1, 0, 0, 0, .null), (87, .invokevirtual 280, 3, 219, 0, 0, .ref 12), (90, .istore_n 2, 1, 0, 0, 0, .null), (91, .goto (-81), 3, 0, 0, 0, .null), (94, .iload_n 1, 1, 0, 0, 0, .null), (95, .ireturn, 1, 0, 0, 0, .null)]
/-- OneRoofModel.one()I -/
def qx_c218_0 : List (Nat × Instr × Nat × Nat × Nat × Nat × Value) := [(0, .aload_n 0, 1, 0, 0, 0, .null), (1, .getfield 277, 3, 12, 38, 0, .null), (4, .ifCond .lt 5, 3, 0, 0, 0, .null), (7, .iconst 0, 1, 0, 0, 0, .null), (8, .ireturn, 1, 0, 0, 0, .null), (9, .aload_n 0, 1, 0, 0, 0, .null), (10, .invokevirtual 280, 3, 219, 0, 0, .ref 12), (13, .istore_n 1, 1, 0, 0, 0, .null), (14, .iload_n 1, 1, 0, 0, 0, .null), (15, .bipush 33, 2, 0, 0, 0, .null), (17, .if_icmp .eq 15, 3, 0, 0, 0, .null), (20, .iload_n 1, 1, 0, 0, 0, .null), (21, .bipush 45, 2, 0, 0, 0, .null), (23, .if_icmp .eq 9, 3, 0, 0, 0, .null), (26, .iload_n 1, 1, 0, 0, 0, .null), (27, .bipush 40, 2, 0, 0, 0, .null), (29, .if_icmp .ne 116, 3, 0, 0, 0, .null), (32, .aload_n 0, 1, 0, 0, 0, .null), (33, .getfield 302, 3, 12, 39, 0, .null), (36, .bipush 6, 2, 0, 0, 0, .null), (38, .if_icmp .ne 8, 3, 0, 0, 0, .null), (41, .aload_n 0, 1, 0, 0, 0, .null), (42, .invokevirtual 305, 3, 220, 0, 0, .ref 12), (45, .ireturn, 1, 0, 0, 0, .null), (46, .aload_n 0, 1, 0, 0, 0, .null), (47, .dup, 1, 0, 0, 0, .null), (48, .getfield 302, 3, 12, 39, 0, .null), (51, .iconst 1, 1, 0, 0, 0, .null), (52, .iadd, 1, 0, 0, 0, .null), (53, .putfield 302, 3, 12, 39, 0, .null), (56, .aload_n 0, 1, 0, 0, 0, .null), (57, .dup, 1, 0, 0, 0, .null), (58, .getfield 268, 3, 12, 36, 0, .null), (61, .iconst 1, 1, 0, 0, 0, .null), (62, .iadd, 1, 0, 0, 0, .null), (63, .putfield 268, 3, 12, 36, 0, .null), (66, .iload_n 1, 1, 0, 0, 0, .null), (67, .bipush 40, 2, 0, 0, 0, .null), (69, .if_icmp .ne 10, 3, 0, 0, 0, .null), (72, .aload_n 0, 1, 0, 0, 0, .null), (73, .invokevirtual 308, 3, 213, 0, 0, .ref 12), (76, .goto 7, 3, 0, 0, 0, .null), (79, .aload_n 0, 1, 0, 0, 0, .null), (80, .invokevirtual 299, 3, 218, 0, 0, .ref 12), (83, .istore_n 2, 1, 0, 0, 0, .null), (84, .iload_n 1, 1, 0, 0, 0, .null), (85, .bipush 40, 2, 0, 0, 0, .null), (87, .if_icmp .ne 17, 3, 0, 0, 0, .null), (90, .aload_n 0, 1, 0, 0, 0, .null), (91, .bipush 41, 2, 0, 0, 0, .null)]
def qx_c218_1 : List (Nat × Instr × Nat × Nat × Nat × Nat × Value) := [(93, .invokevirtual 287, 3, 221, 1, 0, .ref 12), (96, .ifCond .ne 8, 3, 0, 0, 0, .null), (99, .aload_n 0, 1, 0, 0, 0, .null), (100, .invokevirtual 305, 3, 220, 0, 0, .ref 12), (103, .ireturn, 1, 0, 0, 0, .null), (104, .aload_n 0, 1, 0, 0, 0, .null), (105, .dup, 1, 0, 0, 0, .null), (106, .getfield 302, 3, 12, 39, 0, .null), (109, .iconst 1, 1, 0, 0, 0, .null), (110, .isub, 1, 0, 0, 0, .null), (111, .putfield 302, 3, 12, 39, 0, .null), (114, .iload_n 1, 1, 0, 0, 0, .null), (115, .bipush 40, 2, 0, 0, 0, .null), (117, .if_icmp .ne 7, 3, 0, 0, 0, .null), (120, .iload_n 2, 1, 0, 0, 0, .null), (121, .goto 23, 3, 0, 0, 0, .null), (124, .iload_n 1, 1, 0, 0, 0, .null), (125, .bipush 45, 2, 0, 0, 0, .null), (127, .if_icmp .ne 8, 3, 0, 0, 0, .null), (130, .iload_n 2, 1, 0, 0, 0, .null), (131, .ineg, 1, 0, 0, 0, .null), (132, .goto 12, 3, 0, 0, 0, .null), (135, .iload_n 2, 1, 0, 0, 0, .null), (136, .ifCond .ne 7, 3, 0, 0, 0, .null), (139, .iconst 1, 1, 0, 0, 0, .null), (140, .goto 4, 3, 0, 0, 0, .null), (143, .iconst 0, 1, 0, 0, 0, .null), (144, .ireturn, 1, 0, 0, 0, .null), (145, .iload_n 1, 1, 0, 0, 0, .null), (146, .invokestatic 311, 3, 222, 1, 2, .null), (149, .istore_n 2, 1, 0, 0, 0, .null), (150, .iload_n 2, 1, 0, 0, 0, .null), (151, .ifCond .lt 20, 3, 0, 0, 0, .null), (154, .aload_n 0, 1, 0, 0, 0, .null), (155, .dup, 1, 0, 0, 0, .null), (156, .getfield 268, 3, 12, 36, 0, .null), (159, .iconst 1, 1, 0, 0, 0, .null), (160, .iadd, 1, 0, 0, 0, .null), (161, .putfield 268, 3, 12, 36, 0, .null), (164, .aload_n 0, 1, 0, 0, 0, .null), (165, .getfield 82, 3, 12, 40, 0, .null), (168, .iload_n 2, 1, 0, 0, 0, .null), (169, .iaload, 1, 0, 0, 0, .null), (170, .ireturn, 1, 0, 0, 0, .null), (171, .iconst 0, 1, 0, 0, 0, .null), (172, .istore_n 3, 1, 0, 0, 0, .null), (173, .iconst 0, 1, 0, 0, 0, .null), (174, .istore 4, 2, 0, 0, 0, .null), (176, .iload 4, 2, 0, 0, 0, .null), (178, .iconst 4, 1, 0, 0, 0, .null)]
def qx_c218_2 : List (Nat × Instr × Nat × Nat × Nat × Nat × Value) := [(179, .if_icmp .ge 50, 3, 0, 0, 0, .null), (182, .aload_n 0, 1, 0, 0, 0, .null), (183, .invokevirtual 280, 3, 219, 0, 0, .ref 12), (186, .bipush 48, 2, 0, 0, 0, .null), (188, .if_icmp .lt 41, 3, 0, 0, 0, .null), (191, .aload_n 0, 1, 0, 0, 0, .null), (192, .invokevirtual 280, 3, 219, 0, 0, .ref 12), (195, .bipush 57, 2, 0, 0, 0, .null), (197, .if_icmp .gt 32, 3, 0, 0, 0, .null), (200, .bipush 10, 2, 0, 0, 0, .null), (202, .iload_n 3, 1, 0, 0, 0, .null), (203, .imul, 1, 0, 0, 0, .null), (204, .aload_n 0, 1, 0, 0, 0, .null), (205, .invokevirtual 280, 3, 219, 0, 0, .ref 12), (208, .iadd, 1, 0, 0, 0, .null), (209, .bipush 48, 2, 0, 0, 0, .null), (211, .isub, 1, 0, 0, 0, .null), (212, .istore_n 3, 1, 0, 0, 0, .null), (213, .iinc 4 1, 3, 0, 0, 0, .null), (216, .aload_n 0, 1, 0, 0, 0, .null), (217, .dup, 1, 0, 0, 0, .null), (218, .getfield 268, 3, 12, 36, 0, .null), (221, .iconst 1, 1, 0, 0, 0, .null), (222, .iadd, 1, 0, 0, 0, .null), (223, .putfield 268, 3, 12, 36, 0, .null), (226, .goto (-50), 3, 0, 0, 0, .null), (229, .iload 4, 2, 0, 0, 0, .null), (231, .ifCond .ne 10, 3, 0, 0, 0, .null), (234, .aload_n 0, 1, 0, 0, 0, .null), (235, .invokevirtual 305, 3, 220, 0, 0, .ref 12), (238, .goto 4, 3, 0, 0, 0, .null), (241, .iload_n 3, 1, 0, 0, 0, .null), (242, .ireturn, 1, 0, 0, 0, .null)]
def qx_c218 : List (Nat × Instr × Nat × Nat × Nat × Nat × Value) := qx_c218_0 ++ (qx_c218_1 ++ (qx_c218_2))
/-- OneRoofModel.byteAt()I -/
def qx_c219 : List (Nat × Instr × Nat × Nat × Nat × Nat × Value) := [(0, .aload_n 0, 1, 0, 0, 0, .null), (1, .getfield 268, 3, 12, 36, 0, .null), (4, .aload_n 0, 1, 0, 0, 0, .null), (5, .getfield 271, 3, 12, 37, 0, .null), (8, .if_icmp .ge 39, 3, 0, 0, 0, .null), (11, .aload_n 0, 1, 0, 0, 0, .null), (12, .getfield 274, 3, 12, 35, 0, .null), (15, .ifCond .ge 15, 3, 0, 0, 0, .null), (18, .aload_n 0, 1, 0, 0, 0, .null), (19, .getfield 73, 3, 12, 31, 0, .null), (22, .aload_n 0, 1, 0, 0, 0, .null), (23, .getfield 268, 3, 12, 36, 0, .null), (26, .iaload, 1, 0, 0, 0, .null), (27, .goto 21, 3, 0, 0, 0, .null), (30, .aload_n 0, 1, 0, 0, 0, .null), (31, .getfield 76, 3, 12, 33, 0, .null), (34, .aload_n 0, 1, 0, 0, 0, .null), (35, .getfield 274, 3, 12, 35, 0, .null), (38, .aload_n 0, 1, 0, 0, 0, .null), (39, .getfield 268, 3, 12, 36, 0, .null), (42, .iadd, 1, 0, 0, 0, .null), (43, .iaload, 1, 0, 0, 0, .null), (44, .goto 4, 3, 0, 0, 0, .null), (47, .iconst 0, 1, 0, 0, 0, .null), (48, .ireturn, 1, 0, 0, 0, .null)]
/-- OneRoofModel.wrong()I -/
def qx_c220 : List (Nat × Instr × Nat × Nat × Nat × Nat × Value) := [(0, .aload_n 0, 1, 0, 0, 0, .null), (1, .aload_n 0, 1, 0, 0, 0, .null), (2, .getfield 277, 3, 12, 38, 0, .null), (5, .ifCond .ge 10, 3, 0, 0, 0, .null), (8, .aload_n 0, 1, 0, 0, 0, .null), (9, .getfield 268, 3, 12, 36, 0, .null), (12, .goto 7, 3, 0, 0, 0, .null), (15, .aload_n 0, 1, 0, 0, 0, .null), (16, .getfield 277, 3, 12, 38, 0, .null), (19, .putfield 277, 3, 12, 38, 0, .null), (22, .iconst 0, 1, 0, 0, 0, .null), (23, .ireturn, 1, 0, 0, 0, .null)]
/-- OneRoofModel.takes(I)Z -/
def qx_c221 : List (Nat × Instr × Nat × Nat × Nat × Nat × Value) := [(0, .aload_n 0, 1, 0, 0, 0, .null), (1, .getfield 277, 3, 12, 38, 0, .null), (4, .ifCond .ge 11, 3, 0, 0, 0, .null), (7, .aload_n 0, 1, 0, 0, 0, .null), (8, .invokevirtual 280, 3, 219, 0, 0, .ref 12), (11, .iload_n 1, 1, 0, 0, 0, .null), (12, .if_icmp .eq 5, 3, 0, 0, 0, .null), (15, .iconst 0, 1, 0, 0, 0, .null), (16, .ireturn, 1, 0, 0, 0, .null), (17, .aload_n 0, 1, 0, 0, 0, .null), (18, .dup, 1, 0, 0, 0, .null), (19, .getfield 268, 3, 12, 36, 0, .null), (22, .iconst 1, 1, 0, 0, 0, .null), (23, .iadd, 1, 0, 0, 0, .null), (24, .putfield 268, 3, 12, 36, 0, .null), (27, .iconst 1, 1, 0, 0, 0, .null), (28, .ireturn, 1, 0, 0, 0, .null)]
/-- OneRoofModel.nameOf(I)I -/
def qx_c222 : List (Nat × Instr × Nat × Nat × Nat × Nat × Value) := [(0, .iload_n 0, 1, 0, 0, 0, .null), (1, .tableswitch 120 99 119 #[103, 117, 120, 99, 120, 120, 120, 120, 111, 109, 120, 101, 114, 120, 120, 120, 120, 120, 120, 107, 105], 99, 0, 0, 0, .null), (100, .iconst 0, 1, 0, 0, 0, .null), (101, .ireturn, 1, 0, 0, 0, .null), (102, .iconst 1, 1, 0, 0, 0, .null), (103, .ireturn, 1, 0, 0, 0, .null), (104, .iconst 2, 1, 0, 0, 0, .null), (105, .ireturn, 1, 0, 0, 0, .null), (106, .iconst 3, 1, 0, 0, 0, .null), (107, .ireturn, 1, 0, 0, 0, .null), (108, .iconst 4, 1, 0, 0, 0, .null), (109, .ireturn, 1, 0, 0, 0, .null), (110, .iconst 5, 1, 0, 0, 0, .null), (111, .ireturn, 1, 0, 0, 0, .null), (112, .bipush 6, 2, 0, 0, 0, .null), (114, .ireturn, 1, 0, 0, 0, .null), (115, .bipush 7, 2, 0, 0, 0, .null), (117, .ireturn, 1, 0, 0, 0, .null), (118, .bipush 8, 2, 0, 0, 0, .null), (120, .ireturn, 1, 0, 0, 0, .null), (121, .iconst (-1), 1, 0, 0, 0, .null), (122, .ireturn, 1, 0, 0, 0, .null)]
/-- OneRoofModel.must(IJI)I -/
def qx_c223 : List (Nat × Instr × Nat × Nat × Nat × Nat × Value) := [(0, .aload_n 0, 1, 0, 0, 0, .null), (1, .iload_n 1, 1, 0, 0, 0, .null), (2, .invokevirtual 197, 3, 190, 1, 0, .ref 12), (5, .ifCond .eq 19, 3, 0, 0, 0, .null), (8, .aload_n 0, 1, 0, 0, 0, .null), (9, .lload_n 2, 1, 0, 0, 0, .null), (10, .invokevirtual 324, 3, 224, 1, 0, .ref 12), (13, .ifCond .eq 11, 3, 0, 0, 0, .null), (16, .iload 4, 2, 0, 0, 0, .null), (18, .invokestatic 200, 3, 191, 1, 2, .null), (21, .ifCond .ne 7, 3, 0, 0, 0, .null), (24, .ldc_w 328, 3, 0, 0, 0, .int (-2000000000)), (27, .ireturn, 1, 0, 0, 0, .null), (28, .lload_n 2, 1, 0, 0, 0, .null), (29, .aload_n 0, 1, 0, 0, 0, .null), (30, .getfield 168, 3, 12, 10, 0, .null), (33, .ldc2_w 106, 3, 0, 0, 2, .long (-1)), (36, .lxor, 1, 0, 0, 0, .null), (37, .land, 1, 0, 0, 0, .null), (38, .lstore 5, 2, 0, 0, 0, .null), (40, .lload 5, 2, 0, 0, 0, .null), (42, .iload_n 1, 1, 0, 0, 0, .null), (43, .bipush 100, 2, 0, 0, 0, .null), (45, .idiv, 1, 0, 0, 0, .null), (46, .invokestatic 329, 3, 225, 2, 2, .null), (49, .ifCond .eq 34, 3, 0, 0, 0, .null), (52, .lload 5, 2, 0, 0, 0, .null), (54, .iload_n 1, 1, 0, 0, 0, .null), (55, .bipush 100, 2, 0, 0, 0, .null), (57, .irem, 1, 0, 0, 0, .null), (58, .invokestatic 329, 3, 225, 2, 2, .null), (61, .ifCond .eq 22, 3, 0, 0, 0, .null), (64, .aload_n 0, 1, 0, 0, 0, .null), (65, .iload_n 1, 1, 0, 0, 0, .null), (66, .bipush 100, 2, 0, 0, 0, .null), (68, .idiv, 1, 0, 0, 0, .null), (69, .iload_n 1, 1, 0, 0, 0, .null), (70, .bipush 100, 2, 0, 0, 0, .null), (72, .irem, 1, 0, 0, 0, .null), (73, .lload 5, 2, 0, 0, 0, .null), (75, .iload 4, 2, 0, 0, 0, .null), (77, .invokevirtual 333, 3, 226, 4, 0, .ref 12), (80, .goto 6, 3, 0, 0, 0, .null), (83, .ldc_w 328, 3, 0, 0, 0, .int (-2000000000)), (86, .ireturn, 1, 0, 0, 0, .null)]
/-- OneRoofModel.isSet(J)Z -/
def qx_c224 : List (Nat × Instr × Nat × Nat × Nat × Nat × Value) := [(0, .lload_n 1, 1, 0, 0, 0, .null), (1, .lconst 0, 1, 0, 0, 0, .null), (2, .lcmp, 1, 0, 0, 0, .null), (3, .ifCond .lt 18, 3, 0, 0, 0, .null), (6, .lload_n 1, 1, 0, 0, 0, .null), (7, .aload_n 0, 1, 0, 0, 0, .null), (8, .getfield 145, 3, 12, 6, 0, .null), (11, .lshr, 1, 0, 0, 0, .null), (12, .lconst 0, 1, 0, 0, 0, .null), (13, .lcmp, 1, 0, 0, 0, .null), (14, .ifCond .ne 7, 3, 0, 0, 0, .null), (17, .iconst 1, 1, 0, 0, 0, .null), (18, .goto 4, 3, 0, 0, 0, .null), (21, .iconst 0, 1, 0, 0, 0, .null), (22, .ireturn, 1, 0, 0, 0, .null)]
/-- OneRoofModel.has(JI)Z -/
def qx_c225 : List (Nat × Instr × Nat × Nat × Nat × Nat × Value) := [(0, .lload_n 0, 1, 0, 0, 0, .null), (1, .iload_n 2, 1, 0, 0, 0, .null), (2, .lshr, 1, 0, 0, 0, .null), (3, .lconst 1, 1, 0, 0, 0, .null), (4, .land, 1, 0, 0, 0, .null), (5, .lconst 1, 1, 0, 0, 0, .null), (6, .lcmp, 1, 0, 0, 0, .null), (7, .ifCond .ne 7, 3, 0, 0, 0, .null), (10, .iconst 1, 1, 0, 0, 0, .null), (11, .goto 4, 3, 0, 0, 0, .null), (14, .iconst 0, 1, 0, 0, 0, .null), (15, .ireturn, 1, 0, 0, 0, .null)]
/-- OneRoofModel.mustNow(IIJI)I -/
def qx_c226 : List (Nat × Instr × Nat × Nat × Nat × Nat × Value) := [(0, .aload_n 0, 1, 0, 0, 0, .null), (1, .iconst 0, 1, 0, 0, 0, .null), (2, .iload_n 1, 1, 0, 0, 0, .null), (3, .iload_n 2, 1, 0, 0, 0, .null), (4, .iconst (-1), 1, 0, 0, 0, .null), (5, .lload_n 3, 1, 0, 0, 0, .null), (6, .iload 5, 2, 0, 0, 0, .null), (8, .invokevirtual 320, 3, 227, 6, 0, .ref 12), (11, .ireturn, 1, 0, 0, 0, .null)]
/-- OneRoofModel.gives(IIIIJI)I -/
def qx_c227_0 : List (Nat × Instr × Nat × Nat × Nat × Nat × Value) := [(0, .aload_n 0, 1, 0, 0, 0, .null), (1, .iload_n 2, 1, 0, 0, 0, .null), (2, .iload_n 3, 1, 0, 0, 0, .null), (3, .iload 7, 2, 0, 0, 0, .null), (5, .invokevirtual 222, 3, 194, 3, 0, .ref 12), (8, .istore 8, 2, 0, 0, 0, .null), (10, .aload_n 0, 1, 0, 0, 0, .null), (11, .getfield 82, 3, 12, 40, 0, .null), (14, .iconst 0, 1, 0, 0, 0, .null), (15, .iload 8, 2, 0, 0, 0, .null), (17, .bipush 99, 2, 0, 0, 0, .null), (19, .if_icmp .ne 7, 3, 0, 0, 0, .null), (22, .iconst 0, 1, 0, 0, 0, .null), (23, .goto 4, 3, 0, 0, 0, .null), (26, .iconst 1, 1, 0, 0, 0, .null), (27, .iastore, 1, 0, 0, 0, .null), (28, .aload_n 0, 1, 0, 0, 0, .null), (29, .getfield 82, 3, 12, 40, 0, .null), (32, .iconst 1, 1, 0, 0, 0, .null), (33, .iload 8, 2, 0, 0, 0, .null), (35, .bipush 99, 2, 0, 0, 0, .null), (37, .if_icmp .ne 8, 3, 0, 0, 0, .null), (40, .bipush 9, 2, 0, 0, 0, .null), (42, .goto 5, 3, 0, 0, 0, .null), (45, .iload 8, 2, 0, 0, 0, .null), (47, .iastore, 1, 0, 0, 0, .null), (48, .aload_n 0, 1, 0, 0, 0, .null), (49, .getfield 82, 3, 12, 40, 0, .null), (52, .iconst 2, 1, 0, 0, 0, .null), (53, .aload_n 0, 1, 0, 0, 0, .null), (54, .iload_n 2, 1, 0, 0, 0, .null), (55, .iload_n 3, 1, 0, 0, 0, .null), (56, .iload 7, 2, 0, 0, 0, .null), (58, .invokevirtual 260, 3, 208, 3, 0, .ref 12), (61, .iastore, 1, 0, 0, 0, .null), (62, .aload_n 0, 1, 0, 0, 0, .null), (63, .getfield 82, 3, 12, 40, 0, .null), (66, .iconst 3, 1, 0, 0, 0, .null), (67, .aload_n 0, 1, 0, 0, 0, .null), (68, .getfield 15, 3, 12, 0, 0, .null), (71, .iconst 0, 1, 0, 0, 0, .null), (72, .iload_n 2, 1, 0, 0, 0, .null), (73, .iadd, 1, 0, 0, 0, .null), (74, .iaload, 1, 0, 0, 0, .null), (75, .iastore, 1, 0, 0, 0, .null), (76, .aload_n 0, 1, 0, 0, 0, .null), (77, .getfield 82, 3, 12, 40, 0, .null), (80, .iconst 4, 1, 0, 0, 0, .null), (81, .aload_n 0, 1, 0, 0, 0, .null), (82, .getfield 15, 3, 12, 0, 0, .null)]
def qx_c227_1 : List (Nat × Instr × Nat × Nat × Nat × Nat × Value) := [(85, .iconst 0, 1, 0, 0, 0, .null), (86, .iload_n 3, 1, 0, 0, 0, .null), (87, .iadd, 1, 0, 0, 0, .null), (88, .iaload, 1, 0, 0, 0, .null), (89, .iastore, 1, 0, 0, 0, .null), (90, .aload_n 0, 1, 0, 0, 0, .null), (91, .getfield 82, 3, 12, 40, 0, .null), (94, .iconst 5, 1, 0, 0, 0, .null), (95, .aload_n 0, 1, 0, 0, 0, .null), (96, .iload_n 3, 1, 0, 0, 0, .null), (97, .iload_n 2, 1, 0, 0, 0, .null), (98, .invokevirtual 244, 3, 206, 2, 0, .ref 12), (101, .ifCond .eq 7, 3, 0, 0, 0, .null), (104, .iconst 1, 1, 0, 0, 0, .null), (105, .goto 4, 3, 0, 0, 0, .null), (108, .iconst 0, 1, 0, 0, 0, .null), (109, .iastore, 1, 0, 0, 0, .null), (110, .aload_n 0, 1, 0, 0, 0, .null), (111, .getfield 82, 3, 12, 40, 0, .null), (114, .bipush 6, 2, 0, 0, 0, .null), (116, .aload_n 0, 1, 0, 0, 0, .null), (117, .iload_n 2, 1, 0, 0, 0, .null), (118, .iload_n 3, 1, 0, 0, 0, .null), (119, .invokevirtual 194, 3, 186, 2, 0, .ref 12), (122, .bipush 99, 2, 0, 0, 0, .null), (124, .if_icmp .ne 8, 3, 0, 0, 0, .null), (127, .bipush 9, 2, 0, 0, 0, .null), (129, .goto 9, 3, 0, 0, 0, .null), (132, .aload_n 0, 1, 0, 0, 0, .null), (133, .iload_n 2, 1, 0, 0, 0, .null), (134, .iload_n 3, 1, 0, 0, 0, .null), (135, .invokevirtual 194, 3, 186, 2, 0, .ref 12), (138, .iastore, 1, 0, 0, 0, .null), (139, .aload_n 0, 1, 0, 0, 0, .null), (140, .getfield 82, 3, 12, 40, 0, .null), (143, .bipush 7, 2, 0, 0, 0, .null), (145, .iconst 0, 1, 0, 0, 0, .null), (146, .iastore, 1, 0, 0, 0, .null), (147, .iconst 0, 1, 0, 0, 0, .null), (148, .istore 9, 2, 0, 0, 0, .null), (150, .iload 9, 2, 0, 0, 0, .null), (152, .aload_n 0, 1, 0, 0, 0, .null), (153, .getfield 145, 3, 12, 6, 0, .null), (156, .if_icmp .ge 95, 3, 0, 0, 0, .null), (159, .lload 5, 2, 0, 0, 0, .null), (161, .iload 9, 2, 0, 0, 0, .null), (163, .lshr, 1, 0, 0, 0, .null), (164, .lconst 1, 1, 0, 0, 0, .null), (165, .land, 1, 0, 0, 0, .null), (166, .lconst 1, 1, 0, 0, 0, .null)]
def qx_c227_2 : List (Nat × Instr × Nat × Nat × Nat × Nat × Value) := [(167, .lcmp, 1, 0, 0, 0, .null), (168, .ifCond .ne 54, 3, 0, 0, 0, .null), (171, .aload_n 0, 1, 0, 0, 0, .null), (172, .getfield 317, 3, 12, 41, 0, .null), (175, .ifCond .ne 12, 3, 0, 0, 0, .null), (178, .aload_n 0, 1, 0, 0, 0, .null), (179, .iload 9, 2, 0, 0, 0, .null), (181, .invokevirtual 174, 3, 180, 1, 0, .ref 12), (184, .ifCond .ne 38, 3, 0, 0, 0, .null), (187, .iload 9, 2, 0, 0, 0, .null), (189, .iload_n 2, 1, 0, 0, 0, .null), (190, .if_icmp .eq 28, 3, 0, 0, 0, .null), (193, .aload_n 0, 1, 0, 0, 0, .null), (194, .getfield 28, 3, 12, 7, 0, .null), (197, .iload_n 2, 1, 0, 0, 0, .null), (198, .iaload, 1, 0, 0, 0, .null), (199, .ifCond .lt 23, 3, 0, 0, 0, .null), (202, .aload_n 0, 1, 0, 0, 0, .null), (203, .getfield 28, 3, 12, 7, 0, .null), (206, .iload 9, 2, 0, 0, 0, .null), (208, .iaload, 1, 0, 0, 0, .null), (209, .aload_n 0, 1, 0, 0, 0, .null), (210, .getfield 28, 3, 12, 7, 0, .null), (213, .iload_n 2, 1, 0, 0, 0, .null), (214, .iaload, 1, 0, 0, 0, .null), (215, .if_icmp .ne 7, 3, 0, 0, 0, .null), (218, .iconst 1, 1, 0, 0, 0, .null), (219, .goto 4, 3, 0, 0, 0, .null), (222, .iconst 0, 1, 0, 0, 0, .null), (223, .istore 10, 2, 0, 0, 0, .null), (225, .aload_n 0, 1, 0, 0, 0, .null), (226, .getfield 82, 3, 12, 40, 0, .null), (229, .bipush 7, 2, 0, 0, 0, .null), (231, .dup2, 1, 0, 0, 0, .null), (232, .iaload, 1, 0, 0, 0, .null), (233, .iload 10, 2, 0, 0, 0, .null), (235, .ifCond .eq 7, 3, 0, 0, 0, .null), (238, .iconst 1, 1, 0, 0, 0, .null), (239, .goto 4, 3, 0, 0, 0, .null), (242, .iconst 0, 1, 0, 0, 0, .null), (243, .iadd, 1, 0, 0, 0, .null), (244, .iastore, 1, 0, 0, 0, .null), (245, .iinc 9 1, 3, 0, 0, 0, .null), (248, .goto (-98), 3, 0, 0, 0, .null), (251, .aload_n 0, 1, 0, 0, 0, .null), (252, .getfield 82, 3, 12, 40, 0, .null), (255, .bipush 8, 2, 0, 0, 0, .null), (257, .iload 4, 2, 0, 0, 0, .null), (259, .ifCond .ge 7, 3, 0, 0, 0, .null), (262, .iconst 0, 1, 0, 0, 0, .null)]
def qx_c227_3 : List (Nat × Instr × Nat × Nat × Nat × Nat × Value) := [(263, .goto 27, 3, 0, 0, 0, .null), (266, .aload_n 0, 1, 0, 0, 0, .null), (267, .iload_n 2, 1, 0, 0, 0, .null), (268, .iload 4, 2, 0, 0, 0, .null), (270, .invokevirtual 194, 3, 186, 2, 0, .ref 12), (273, .bipush 99, 2, 0, 0, 0, .null), (275, .if_icmp .ne 8, 3, 0, 0, 0, .null), (278, .bipush 9, 2, 0, 0, 0, .null), (280, .goto 10, 3, 0, 0, 0, .null), (283, .aload_n 0, 1, 0, 0, 0, .null), (284, .iload_n 2, 1, 0, 0, 0, .null), (285, .iload 4, 2, 0, 0, 0, .null), (287, .invokevirtual 194, 3, 186, 2, 0, .ref 12), (290, .iastore, 1, 0, 0, 0, .null), (291, .aload_n 0, 1, 0, 0, 0, .null), (292, .getfield 79, 3, 12, 34, 0, .null), (295, .iload_n 1, 1, 0, 0, 0, .null), (296, .iaload, 1, 0, 0, 0, .null), (297, .ifCond .lt 18, 3, 0, 0, 0, .null), (300, .aload_n 0, 1, 0, 0, 0, .null), (301, .bipush 120, 2, 0, 0, 0, .null), (303, .iload_n 1, 1, 0, 0, 0, .null), (304, .imul, 1, 0, 0, 0, .null), (305, .aload_n 0, 1, 0, 0, 0, .null), (306, .getfield 79, 3, 12, 34, 0, .null), (309, .iload_n 1, 1, 0, 0, 0, .null), (310, .iaload, 1, 0, 0, 0, .null), (311, .invokevirtual 314, 3, 212, 2, 0, .ref 12), (314, .ireturn, 1, 0, 0, 0, .null), (315, .iload_n 1, 1, 0, 0, 0, .null), (316, .ifCond .ne 30, 3, 0, 0, 0, .null), (319, .aload_n 0, 1, 0, 0, 0, .null), (320, .getfield 82, 3, 12, 40, 0, .null), (323, .iconst 0, 1, 0, 0, 0, .null), (324, .iaload, 1, 0, 0, 0, .null), (325, .iconst 1, 1, 0, 0, 0, .null), (326, .if_icmp .ne 16, 3, 0, 0, 0, .null), (329, .aload_n 0, 1, 0, 0, 0, .null), (330, .getfield 82, 3, 12, 40, 0, .null), (333, .iconst 2, 1, 0, 0, 0, .null), (334, .iaload, 1, 0, 0, 0, .null), (335, .ifCond .ne 7, 3, 0, 0, 0, .null), (338, .iconst 1, 1, 0, 0, 0, .null), (339, .goto 33, 3, 0, 0, 0, .null), (342, .iconst 0, 1, 0, 0, 0, .null), (343, .goto 29, 3, 0, 0, 0, .null), (346, .aload_n 0, 1, 0, 0, 0, .null), (347, .getfield 82, 3, 12, 40, 0, .null), (350, .bipush 8, 2, 0, 0, 0, .null), (352, .iaload, 1, 0, 0, 0, .null)]
def qx_c227_4 : List (Nat × Instr × Nat × Nat × Nat × Nat × Value) := [(353, .iconst 2, 1, 0, 0, 0, .null), (354, .if_icmp .ge 17, 3, 0, 0, 0, .null), (357, .aload_n 0, 1, 0, 0, 0, .null), (358, .getfield 82, 3, 12, 40, 0, .null), (361, .iconst 3, 1, 0, 0, 0, .null), (362, .iaload, 1, 0, 0, 0, .null), (363, .iconst 1, 1, 0, 0, 0, .null), (364, .if_icmp .ne 7, 3, 0, 0, 0, .null), (367, .iconst 1, 1, 0, 0, 0, .null), (368, .goto 4, 3, 0, 0, 0, .null), (371, .iconst 0, 1, 0, 0, 0, .null), (372, .istore 9, 2, 0, 0, 0, .null), (374, .iload 9, 2, 0, 0, 0, .null), (376, .ifCond .eq 7, 3, 0, 0, 0, .null), (379, .iconst 1, 1, 0, 0, 0, .null), (380, .goto 4, 3, 0, 0, 0, .null), (383, .iconst 0, 1, 0, 0, 0, .null), (384, .ireturn, 1, 0, 0, 0, .null)]
def qx_c227 : List (Nat × Instr × Nat × Nat × Nat × Nat × Value) := qx_c227_0 ++ (qx_c227_1 ++ (qx_c227_2 ++ (qx_c227_3 ++ (qx_c227_4))))
/-- OneRoofModel.together(JII)I -/
def qx_c228_0 : List (Nat × Instr × Nat × Nat × Nat × Nat × Value) := [(0, .aload_n 0, 1, 0, 0, 0, .null), (1, .lload_n 1, 1, 0, 0, 0, .null), (2, .invokevirtual 324, 3, 224, 1, 0, .ref 12), (5, .ifCond .eq 23, 3, 0, 0, 0, .null), (8, .iload_n 3, 1, 0, 0, 0, .null), (9, .invokestatic 337, 3, 229, 1, 2, .null), (12, .ifCond .eq 16, 3, 0, 0, 0, .null), (15, .iload 4, 2, 0, 0, 0, .null), (17, .i2l, 1, 0, 0, 0, .null), (18, .lconst 0, 1, 0, 0, 0, .null), (19, .ldc2_w 340, 3, 0, 0, 2, .long 2), (22, .invokestatic 5, 3, 175, 3, 2, .null), (25, .ifCond .ne 5, 3, 0, 0, 0, .null), (28, .iconst (-1), 1, 0, 0, 0, .null), (29, .ireturn, 1, 0, 0, 0, .null), (30, .lload_n 1, 1, 0, 0, 0, .null), (31, .aload_n 0, 1, 0, 0, 0, .null), (32, .getfield 168, 3, 12, 10, 0, .null), (35, .ldc2_w 106, 3, 0, 0, 2, .long (-1)), (38, .lxor, 1, 0, 0, 0, .null), (39, .land, 1, 0, 0, 0, .null), (40, .lstore 5, 2, 0, 0, 0, .null), (42, .iload_n 3, 1, 0, 0, 0, .null), (43, .sipush 10000, 3, 0, 0, 0, .null), (46, .idiv, 1, 0, 0, 0, .null), (47, .istore 7, 2, 0, 0, 0, .null), (49, .iload 7, 2, 0, 0, 0, .null), (51, .iload_n 3, 1, 0, 0, 0, .null), (52, .sipush 10000, 3, 0, 0, 0, .null), (55, .irem, 1, 0, 0, 0, .null), (56, .if_icmp .gt 111, 3, 0, 0, 0, .null), (59, .iconst 0, 1, 0, 0, 0, .null), (60, .istore 8, 2, 0, 0, 0, .null), (62, .iload 8, 2, 0, 0, 0, .null), (64, .aload_n 0, 1, 0, 0, 0, .null), (65, .getfield 145, 3, 12, 6, 0, .null), (68, .if_icmp .ge 93, 3, 0, 0, 0, .null), (71, .iconst 0, 1, 0, 0, 0, .null), (72, .istore 9, 2, 0, 0, 0, .null), (74, .iload 9, 2, 0, 0, 0, .null), (76, .aload_n 0, 1, 0, 0, 0, .null), (77, .getfield 145, 3, 12, 6, 0, .null), (80, .if_icmp .ge 75, 3, 0, 0, 0, .null), (83, .lload 5, 2, 0, 0, 0, .null), (85, .iload 8, 2, 0, 0, 0, .null), (87, .invokestatic 329, 3, 225, 2, 2, .null), (90, .ifCond .eq 65, 3, 0, 0, 0, .null), (93, .iload 8, 2, 0, 0, 0, .null), (95, .iload 9, 2, 0, 0, 0, .null), (97, .if_icmp .eq 52, 3, 0, 0, 0, .null)]
def qx_c228_1 : List (Nat × Instr × Nat × Nat × Nat × Nat × Value) := [(100, .lload 5, 2, 0, 0, 0, .null), (102, .iload 9, 2, 0, 0, 0, .null), (104, .invokestatic 329, 3, 225, 2, 2, .null), (107, .ifCond .eq 42, 3, 0, 0, 0, .null), (110, .aload_n 0, 1, 0, 0, 0, .null), (111, .iload 8, 2, 0, 0, 0, .null), (113, .iload 9, 2, 0, 0, 0, .null), (115, .lload 5, 2, 0, 0, 0, .null), (117, .iload 7, 2, 0, 0, 0, .null), (119, .invokevirtual 333, 3, 226, 4, 0, .ref 12), (122, .ifCond .eq 27, 3, 0, 0, 0, .null), (125, .iload 4, 2, 0, 0, 0, .null), (127, .ifCond .ne 8, 3, 0, 0, 0, .null), (130, .iload 7, 2, 0, 0, 0, .null), (132, .goto 16, 3, 0, 0, 0, .null), (135, .iload 4, 2, 0, 0, 0, .null), (137, .iconst 1, 1, 0, 0, 0, .null), (138, .if_icmp .ne 8, 3, 0, 0, 0, .null), (141, .iload 8, 2, 0, 0, 0, .null), (143, .goto 5, 3, 0, 0, 0, .null), (146, .iload 9, 2, 0, 0, 0, .null), (148, .ireturn, 1, 0, 0, 0, .null), (149, .iinc 9 1, 3, 0, 0, 0, .null), (152, .goto (-78), 3, 0, 0, 0, .null), (155, .iinc 8 1, 3, 0, 0, 0, .null), (158, .goto (-96), 3, 0, 0, 0, .null), (161, .iinc 7 1, 3, 0, 0, 0, .null), (164, .goto (-115), 3, 0, 0, 0, .null), (167, .bipush (-2), 2, 0, 0, 0, .null), (169, .ireturn, 1, 0, 0, 0, .null)]
def qx_c228 : List (Nat × Instr × Nat × Nat × Nat × Nat × Value) := qx_c228_0 ++ (qx_c228_1)
/-- OneRoofModel.isSpan(I)Z -/
def qx_c229 : List (Nat × Instr × Nat × Nat × Nat × Nat × Value) := [(0, .iload_n 0, 1, 0, 0, 0, .null), (1, .ifCond .lt 58, 3, 0, 0, 0, .null), (4, .iload_n 0, 1, 0, 0, 0, .null), (5, .sipush 10000, 3, 0, 0, 0, .null), (8, .idiv, 1, 0, 0, 0, .null), (9, .invokestatic 200, 3, 191, 1, 2, .null), (12, .ifCond .eq 47, 3, 0, 0, 0, .null), (15, .iload_n 0, 1, 0, 0, 0, .null), (16, .sipush 10000, 3, 0, 0, 0, .null), (19, .irem, 1, 0, 0, 0, .null), (20, .invokestatic 200, 3, 191, 1, 2, .null), (23, .ifCond .eq 36, 3, 0, 0, 0, .null), (26, .iload_n 0, 1, 0, 0, 0, .null), (27, .sipush 10000, 3, 0, 0, 0, .null), (30, .idiv, 1, 0, 0, 0, .null), (31, .iload_n 0, 1, 0, 0, 0, .null), (32, .sipush 10000, 3, 0, 0, 0, .null), (35, .irem, 1, 0, 0, 0, .null), (36, .if_icmp .gt 23, 3, 0, 0, 0, .null), (39, .iload_n 0, 1, 0, 0, 0, .null), (40, .sipush 10000, 3, 0, 0, 0, .null), (43, .irem, 1, 0, 0, 0, .null), (44, .iload_n 0, 1, 0, 0, 0, .null), (45, .sipush 10000, 3, 0, 0, 0, .null), (48, .idiv, 1, 0, 0, 0, .null), (49, .isub, 1, 0, 0, 0, .null), (50, .bipush 48, 2, 0, 0, 0, .null), (52, .if_icmp .ge 7, 3, 0, 0, 0, .null), (55, .iconst 1, 1, 0, 0, 0, .null), (56, .goto 4, 3, 0, 0, 0, .null), (59, .iconst 0, 1, 0, 0, 0, .null), (60, .ireturn, 1, 0, 0, 0, .null)]
/-- OneRoofModel.bars(II)I -/
def qx_c230 : List (Nat × Instr × Nat × Nat × Nat × Nat × Value) := [(0, .aload_n 0, 1, 0, 0, 0, .null), (1, .iload_n 1, 1, 0, 0, 0, .null), (2, .invokevirtual 197, 3, 190, 1, 0, .ref 12), (5, .ifCond .eq 10, 3, 0, 0, 0, .null), (8, .iload_n 2, 1, 0, 0, 0, .null), (9, .invokestatic 337, 3, 229, 1, 2, .null), (12, .ifCond .ne 5, 3, 0, 0, 0, .null), (15, .iconst (-1), 1, 0, 0, 0, .null), (16, .ireturn, 1, 0, 0, 0, .null), (17, .aload_n 0, 1, 0, 0, 0, .null), (18, .iload_n 1, 1, 0, 0, 0, .null), (19, .bipush 100, 2, 0, 0, 0, .null), (21, .idiv, 1, 0, 0, 0, .null), (22, .iload_n 1, 1, 0, 0, 0, .null), (23, .bipush 100, 2, 0, 0, 0, .null), (25, .irem, 1, 0, 0, 0, .null), (26, .iload_n 2, 1, 0, 0, 0, .null), (27, .invokevirtual 342, 3, 231, 3, 0, .ref 12), (30, .ifCond .eq 7, 3, 0, 0, 0, .null), (33, .iconst 1, 1, 0, 0, 0, .null), (34, .goto 4, 3, 0, 0, 0, .null), (37, .iconst 0, 1, 0, 0, 0, .null), (38, .ireturn, 1, 0, 0, 0, .null)]
/-- OneRoofModel.doBar(III)Z -/
def qx_c231 : List (Nat × Instr × Nat × Nat × Nat × Nat × Value) := [(0, .lconst 1, 1, 0, 0, 0, .null), (1, .iload_n 1, 1, 0, 0, 0, .null), (2, .lshl, 1, 0, 0, 0, .null), (3, .lconst 1, 1, 0, 0, 0, .null), (4, .iload_n 2, 1, 0, 0, 0, .null), (5, .lshl, 1, 0, 0, 0, .null), (6, .lor, 1, 0, 0, 0, .null), (7, .lstore 4, 2, 0, 0, 0, .null), (9, .iconst 0, 1, 0, 0, 0, .null), (10, .istore 6, 2, 0, 0, 0, .null), (12, .aload_n 0, 1, 0, 0, 0, .null), (13, .iconst 1, 1, 0, 0, 0, .null), (14, .putfield 317, 3, 12, 41, 0, .null), (17, .iload_n 3, 1, 0, 0, 0, .null), (18, .sipush 10000, 3, 0, 0, 0, .null), (21, .idiv, 1, 0, 0, 0, .null), (22, .istore 7, 2, 0, 0, 0, .null), (24, .iload 7, 2, 0, 0, 0, .null), (26, .iload_n 3, 1, 0, 0, 0, .null), (27, .sipush 10000, 3, 0, 0, 0, .null), (30, .irem, 1, 0, 0, 0, .null), (31, .if_icmp .gt 47, 3, 0, 0, 0, .null), (34, .iload 6, 2, 0, 0, 0, .null), (36, .ifCond .ne 42, 3, 0, 0, 0, .null), (39, .aload_n 0, 1, 0, 0, 0, .null), (40, .iload_n 1, 1, 0, 0, 0, .null), (41, .iload_n 2, 1, 0, 0, 0, .null), (42, .lload 4, 2, 0, 0, 0, .null), (44, .iload 7, 2, 0, 0, 0, .null), (46, .invokevirtual 333, 3, 226, 4, 0, .ref 12), (49, .ifCond .ne 16, 3, 0, 0, 0, .null), (52, .aload_n 0, 1, 0, 0, 0, .null), (53, .iload_n 2, 1, 0, 0, 0, .null), (54, .iload_n 1, 1, 0, 0, 0, .null), (55, .lload 4, 2, 0, 0, 0, .null), (57, .iload 7, 2, 0, 0, 0, .null), (59, .invokevirtual 333, 3, 226, 4, 0, .ref 12), (62, .ifCond .eq 7, 3, 0, 0, 0, .null), (65, .iconst 1, 1, 0, 0, 0, .null), (66, .goto 4, 3, 0, 0, 0, .null), (69, .iconst 0, 1, 0, 0, 0, .null), (70, .istore 6, 2, 0, 0, 0, .null), (72, .iinc 7 1, 3, 0, 0, 0, .null), (75, .goto (-51), 3, 0, 0, 0, .null), (78, .aload_n 0, 1, 0, 0, 0, .null), (79, .iconst 0, 1, 0, 0, 0, .null), (80, .putfield 317, 3, 12, 41, 0, .null), (83, .iload 6, 2, 0, 0, 0, .null), (85, .ireturn, 1, 0, 0, 0, .null)]
/-- OneRoofModel.most(JJI)J -/
def qx_c232_0 : List (Nat × Instr × Nat × Nat × Nat × Nat × Value) := [(0, .iload 5, 2, 0, 0, 0, .null), (2, .invokestatic 337, 3, 229, 1, 2, .null), (5, .ifCond .eq 33, 3, 0, 0, 0, .null), (8, .aload_n 0, 1, 0, 0, 0, .null), (9, .lload_n 3, 1, 0, 0, 0, .null), (10, .invokevirtual 324, 3, 224, 1, 0, .ref 12), (13, .ifCond .eq 25, 3, 0, 0, 0, .null), (16, .lload_n 3, 1, 0, 0, 0, .null), (17, .lload_n 1, 1, 0, 0, 0, .null), (18, .ldc2_w 106, 3, 0, 0, 2, .long (-1)), (21, .lxor, 1, 0, 0, 0, .null), (22, .land, 1, 0, 0, 0, .null), (23, .lconst 0, 1, 0, 0, 0, .null), (24, .lcmp, 1, 0, 0, 0, .null), (25, .ifCond .ne 13, 3, 0, 0, 0, .null), (28, .aload_n 0, 1, 0, 0, 0, .null), (29, .lload_n 1, 1, 0, 0, 0, .null), (30, .bipush 12, 2, 0, 0, 0, .null), (32, .invokevirtual 348, 3, 233, 2, 0, .ref 12), (35, .ifCond .ne 7, 3, 0, 0, 0, .null), (38, .ldc2_w 106, 3, 0, 0, 2, .long (-1)), (41, .lreturn, 1, 0, 0, 0, .null), (42, .aload_n 0, 1, 0, 0, 0, .null), (43, .iload 5, 2, 0, 0, 0, .null), (45, .invokevirtual 351, 3, 234, 1, 0, .ref 12), (48, .iconst 0, 1, 0, 0, 0, .null), (49, .istore 6, 2, 0, 0, 0, .null), (51, .iconst 0, 1, 0, 0, 0, .null), (52, .istore 7, 2, 0, 0, 0, .null), (54, .iload 7, 2, 0, 0, 0, .null), (56, .aload_n 0, 1, 0, 0, 0, .null), (57, .getfield 345, 3, 12, 43, 0, .null), (60, .if_icmp .ge 36, 3, 0, 0, 0, .null), (63, .iload 6, 2, 0, 0, 0, .null), (65, .lload_n 3, 1, 0, 0, 0, .null), (66, .aload_n 0, 1, 0, 0, 0, .null), (67, .getfield 85, 3, 12, 42, 0, .null), (70, .iload 7, 2, 0, 0, 0, .null), (72, .iaload, 1, 0, 0, 0, .null), (73, .invokestatic 329, 3, 225, 2, 2, .null), (76, .ifCond .eq 10, 3, 0, 0, 0, .null), (79, .iconst 1, 1, 0, 0, 0, .null), (80, .iload 7, 2, 0, 0, 0, .null), (82, .ishl, 1, 0, 0, 0, .null), (83, .goto 4, 3, 0, 0, 0, .null), (86, .iconst 0, 1, 0, 0, 0, .null), (87, .ior, 1, 0, 0, 0, .null), (88, .istore 6, 2, 0, 0, 0, .null), (90, .iinc 7 1, 3, 0, 0, 0, .null), (93, .goto (-39), 3, 0, 0, 0, .null)]
def qx_c232_1 : List (Nat × Instr × Nat × Nat × Nat × Nat × Value) := [(96, .iconst (-1), 1, 0, 0, 0, .null), (97, .istore 7, 2, 0, 0, 0, .null), (99, .iconst 0, 1, 0, 0, 0, .null), (100, .istore 8, 2, 0, 0, 0, .null), (102, .iload 8, 2, 0, 0, 0, .null), (104, .iconst 1, 1, 0, 0, 0, .null), (105, .aload_n 0, 1, 0, 0, 0, .null), (106, .getfield 345, 3, 12, 43, 0, .null), (109, .ishl, 1, 0, 0, 0, .null), (110, .if_icmp .ge 105, 3, 0, 0, 0, .null), (113, .aload_n 0, 1, 0, 0, 0, .null), (114, .getfield 91, 3, 12, 45, 0, .null), (117, .iload 8, 2, 0, 0, 0, .null), (119, .iaload, 1, 0, 0, 0, .null), (120, .ifCond .lt 89, 3, 0, 0, 0, .null), (123, .iload 6, 2, 0, 0, 0, .null), (125, .iload 8, 2, 0, 0, 0, .null), (127, .iconst (-1), 1, 0, 0, 0, .null), (128, .ixor, 1, 0, 0, 0, .null), (129, .iand, 1, 0, 0, 0, .null), (130, .ifCond .eq 6, 3, 0, 0, 0, .null), (133, .goto 76, 3, 0, 0, 0, .null), (136, .iload 7, 2, 0, 0, 0, .null), (138, .ifCond .lt 50, 3, 0, 0, 0, .null), (141, .aload_n 0, 1, 0, 0, 0, .null), (142, .getfield 91, 3, 12, 45, 0, .null), (145, .iload 8, 2, 0, 0, 0, .null), (147, .iaload, 1, 0, 0, 0, .null), (148, .aload_n 0, 1, 0, 0, 0, .null), (149, .getfield 91, 3, 12, 45, 0, .null), (152, .iload 7, 2, 0, 0, 0, .null), (154, .iaload, 1, 0, 0, 0, .null), (155, .if_icmp .gt 33, 3, 0, 0, 0, .null), (158, .aload_n 0, 1, 0, 0, 0, .null), (159, .getfield 91, 3, 12, 45, 0, .null), (162, .iload 8, 2, 0, 0, 0, .null), (164, .iaload, 1, 0, 0, 0, .null), (165, .aload_n 0, 1, 0, 0, 0, .null), (166, .getfield 91, 3, 12, 45, 0, .null), (169, .iload 7, 2, 0, 0, 0, .null), (171, .iaload, 1, 0, 0, 0, .null), (172, .if_icmp .ne 20, 3, 0, 0, 0, .null), (175, .iload 8, 2, 0, 0, 0, .null), (177, .invokestatic 355, 3, 235, 1, 2, .null), (180, .iload 7, 2, 0, 0, 0, .null), (182, .invokestatic 355, 3, 235, 1, 2, .null), (185, .if_icmp .le 7, 3, 0, 0, 0, .null), (188, .iconst 1, 1, 0, 0, 0, .null), (189, .goto 4, 3, 0, 0, 0, .null), (192, .iconst 0, 1, 0, 0, 0, .null)]
def qx_c232_2 : List (Nat × Instr × Nat × Nat × Nat × Nat × Value) := [(193, .istore 9, 2, 0, 0, 0, .null), (195, .iload 9, 2, 0, 0, 0, .null), (197, .ifCond .eq 8, 3, 0, 0, 0, .null), (200, .iload 8, 2, 0, 0, 0, .null), (202, .goto 5, 3, 0, 0, 0, .null), (205, .iload 7, 2, 0, 0, 0, .null), (207, .istore 7, 2, 0, 0, 0, .null), (209, .iinc 8 1, 3, 0, 0, 0, .null), (212, .goto (-110), 3, 0, 0, 0, .null), (215, .iload 7, 2, 0, 0, 0, .null), (217, .ifCond .ge 9, 3, 0, 0, 0, .null), (220, .ldc2_w 358, 3, 0, 0, 2, .long (-2)), (223, .goto 9, 3, 0, 0, 0, .null), (226, .aload_n 0, 1, 0, 0, 0, .null), (227, .iload 7, 2, 0, 0, 0, .null), (229, .invokevirtual 360, 3, 236, 1, 0, .ref 12), (232, .lreturn, 1, 0, 0, 0, .null)]
def qx_c232 : List (Nat × Instr × Nat × Nat × Nat × Nat × Value) := qx_c232_0 ++ (qx_c232_1 ++ (qx_c232_2))
/-- OneRoofModel.lists(JI)Z -/
def qx_c233 : List (Nat × Instr × Nat × Nat × Nat × Nat × Value) := [(0, .aload_n 0, 1, 0, 0, 0, .null), (1, .iconst 0, 1, 0, 0, 0, .null), (2, .putfield 345, 3, 12, 43, 0, .null), (5, .iconst 0, 1, 0, 0, 0, .null), (6, .istore 4, 2, 0, 0, 0, .null), (8, .iload 4, 2, 0, 0, 0, .null), (10, .aload_n 0, 1, 0, 0, 0, .null), (11, .getfield 145, 3, 12, 6, 0, .null), (14, .if_icmp .ge 56, 3, 0, 0, 0, .null), (17, .aload_n 0, 1, 0, 0, 0, .null), (18, .lload_n 1, 1, 0, 0, 0, .null), (19, .invokevirtual 324, 3, 224, 1, 0, .ref 12), (22, .ifCond .eq 48, 3, 0, 0, 0, .null), (25, .lload_n 1, 1, 0, 0, 0, .null), (26, .aload_n 0, 1, 0, 0, 0, .null), (27, .getfield 168, 3, 12, 10, 0, .null), (30, .ldc2_w 106, 3, 0, 0, 2, .long (-1)), (33, .lxor, 1, 0, 0, 0, .null), (34, .land, 1, 0, 0, 0, .null), (35, .iload 4, 2, 0, 0, 0, .null), (37, .invokestatic 329, 3, 225, 2, 2, .null), (40, .ifCond .eq 24, 3, 0, 0, 0, .null), (43, .aload_n 0, 1, 0, 0, 0, .null), (44, .getfield 85, 3, 12, 42, 0, .null), (47, .aload_n 0, 1, 0, 0, 0, .null), (48, .getfield 345, 3, 12, 43, 0, .null), (51, .iload 4, 2, 0, 0, 0, .null), (53, .iastore, 1, 0, 0, 0, .null), (54, .aload_n 0, 1, 0, 0, 0, .null), (55, .dup, 1, 0, 0, 0, .null), (56, .getfield 345, 3, 12, 43, 0, .null), (59, .iconst 1, 1, 0, 0, 0, .null), (60, .iadd, 1, 0, 0, 0, .null), (61, .putfield 345, 3, 12, 43, 0, .null), (64, .iinc 4 1, 3, 0, 0, 0, .null), (67, .goto (-59), 3, 0, 0, 0, .null), (70, .aload_n 0, 1, 0, 0, 0, .null), (71, .lload_n 1, 1, 0, 0, 0, .null), (72, .invokevirtual 324, 3, 224, 1, 0, .ref 12), (75, .ifCond .eq 21, 3, 0, 0, 0, .null), (78, .aload_n 0, 1, 0, 0, 0, .null), (79, .getfield 345, 3, 12, 43, 0, .null), (82, .i2l, 1, 0, 0, 0, .null), (83, .lconst 1, 1, 0, 0, 0, .null), (84, .iload_n 3, 1, 0, 0, 0, .null), (85, .i2l, 1, 0, 0, 0, .null), (86, .invokestatic 5, 3, 175, 3, 2, .null), (89, .ifCond .eq 7, 3, 0, 0, 0, .null), (92, .iconst 1, 1, 0, 0, 0, .null), (93, .goto 4, 3, 0, 0, 0, .null), (96, .iconst 0, 1, 0, 0, 0, .null), (97, .ireturn, 1, 0, 0, 0, .null)]
/-- OneRoofModel.findSets(I)V -/
def qx_c234_0 : List (Nat × Instr × Nat × Nat × Nat × Nat × Value) := [(0, .iconst 0, 1, 0, 0, 0, .null), (1, .istore_n 2, 1, 0, 0, 0, .null), (2, .iload_n 2, 1, 0, 0, 0, .null), (3, .aload_n 0, 1, 0, 0, 0, .null), (4, .getfield 345, 3, 12, 43, 0, .null), (7, .if_icmp .ge 16, 3, 0, 0, 0, .null), (10, .aload_n 0, 1, 0, 0, 0, .null), (11, .getfield 88, 3, 12, 44, 0, .null), (14, .iload_n 2, 1, 0, 0, 0, .null), (15, .iconst 0, 1, 0, 0, 0, .null), (16, .iastore, 1, 0, 0, 0, .null), (17, .iinc 2 1, 3, 0, 0, 0, .null), (20, .goto (-18), 3, 0, 0, 0, .null), (23, .iconst 0, 1, 0, 0, 0, .null), (24, .istore_n 2, 1, 0, 0, 0, .null), (25, .iload_n 2, 1, 0, 0, 0, .null), (26, .aload_n 0, 1, 0, 0, 0, .null), (27, .getfield 345, 3, 12, 43, 0, .null), (30, .if_icmp .ge 66, 3, 0, 0, 0, .null), (33, .iconst 0, 1, 0, 0, 0, .null), (34, .istore_n 3, 1, 0, 0, 0, .null), (35, .iload_n 3, 1, 0, 0, 0, .null), (36, .iload_n 2, 1, 0, 0, 0, .null), (37, .if_icmp .ge 53, 3, 0, 0, 0, .null), (40, .aload_n 0, 1, 0, 0, 0, .null), (41, .aload_n 0, 1, 0, 0, 0, .null), (42, .getfield 85, 3, 12, 42, 0, .null), (45, .iload_n 3, 1, 0, 0, 0, .null), (46, .iaload, 1, 0, 0, 0, .null), (47, .aload_n 0, 1, 0, 0, 0, .null), (48, .getfield 85, 3, 12, 42, 0, .null), (51, .iload_n 2, 1, 0, 0, 0, .null), (52, .iaload, 1, 0, 0, 0, .null), (53, .iload_n 1, 1, 0, 0, 0, .null), (54, .invokevirtual 342, 3, 231, 3, 0, .ref 12), (57, .ifCond .eq 27, 3, 0, 0, 0, .null), (60, .aload_n 0, 1, 0, 0, 0, .null), (61, .getfield 88, 3, 12, 44, 0, .null), (64, .iload_n 2, 1, 0, 0, 0, .null), (65, .dup2, 1, 0, 0, 0, .null), (66, .iaload, 1, 0, 0, 0, .null), (67, .iconst 1, 1, 0, 0, 0, .null), (68, .iload_n 3, 1, 0, 0, 0, .null), (69, .ishl, 1, 0, 0, 0, .null), (70, .ior, 1, 0, 0, 0, .null), (71, .iastore, 1, 0, 0, 0, .null), (72, .aload_n 0, 1, 0, 0, 0, .null), (73, .getfield 88, 3, 12, 44, 0, .null), (76, .iload_n 3, 1, 0, 0, 0, .null), (77, .dup2, 1, 0, 0, 0, .null)]
def qx_c234_1 : List (Nat × Instr × Nat × Nat × Nat × Nat × Value) := [(78, .iaload, 1, 0, 0, 0, .null), (79, .iconst 1, 1, 0, 0, 0, .null), (80, .iload_n 2, 1, 0, 0, 0, .null), (81, .ishl, 1, 0, 0, 0, .null), (82, .ior, 1, 0, 0, 0, .null), (83, .iastore, 1, 0, 0, 0, .null), (84, .iinc 3 1, 3, 0, 0, 0, .null), (87, .goto (-52), 3, 0, 0, 0, .null), (90, .iinc 2 1, 3, 0, 0, 0, .null), (93, .goto (-68), 3, 0, 0, 0, .null), (96, .iconst 0, 1, 0, 0, 0, .null), (97, .istore_n 2, 1, 0, 0, 0, .null), (98, .iload_n 2, 1, 0, 0, 0, .null), (99, .iconst 1, 1, 0, 0, 0, .null), (100, .aload_n 0, 1, 0, 0, 0, .null), (101, .getfield 345, 3, 12, 43, 0, .null), (104, .ishl, 1, 0, 0, 0, .null), (105, .if_icmp .ge 81, 3, 0, 0, 0, .null), (108, .iconst 0, 1, 0, 0, 0, .null), (109, .istore_n 3, 1, 0, 0, 0, .null), (110, .iconst 0, 1, 0, 0, 0, .null), (111, .istore 4, 2, 0, 0, 0, .null), (113, .iload 4, 2, 0, 0, 0, .null), (115, .aload_n 0, 1, 0, 0, 0, .null), (116, .getfield 345, 3, 12, 43, 0, .null), (119, .if_icmp .ge 54, 3, 0, 0, 0, .null), (122, .iload_n 3, 1, 0, 0, 0, .null), (123, .ifCond .lt 50, 3, 0, 0, 0, .null), (126, .iload_n 2, 1, 0, 0, 0, .null), (127, .iload 4, 2, 0, 0, 0, .null), (129, .ishr, 1, 0, 0, 0, .null), (130, .iconst 1, 1, 0, 0, 0, .null), (131, .iand, 1, 0, 0, 0, .null), (132, .iconst 1, 1, 0, 0, 0, .null), (133, .if_icmp .ne 34, 3, 0, 0, 0, .null), (136, .aload_n 0, 1, 0, 0, 0, .null), (137, .getfield 88, 3, 12, 44, 0, .null), (140, .iload 4, 2, 0, 0, 0, .null), (142, .iaload, 1, 0, 0, 0, .null), (143, .iload_n 2, 1, 0, 0, 0, .null), (144, .iand, 1, 0, 0, 0, .null), (145, .ifCond .eq 7, 3, 0, 0, 0, .null), (148, .iconst (-1), 1, 0, 0, 0, .null), (149, .goto 17, 3, 0, 0, 0, .null), (152, .iload_n 3, 1, 0, 0, 0, .null), (153, .aload_n 0, 1, 0, 0, 0, .null), (154, .getfield 31, 3, 12, 8, 0, .null), (157, .aload_n 0, 1, 0, 0, 0, .null), (158, .getfield 85, 3, 12, 42, 0, .null), (161, .iload 4, 2, 0, 0, 0, .null)]
def qx_c234_2 : List (Nat × Instr × Nat × Nat × Nat × Nat × Value) := [(163, .iaload, 1, 0, 0, 0, .null), (164, .iaload, 1, 0, 0, 0, .null), (165, .iadd, 1, 0, 0, 0, .null), (166, .istore_n 3, 1, 0, 0, 0, .null), (167, .iinc 4 1, 3, 0, 0, 0, .null), (170, .goto (-57), 3, 0, 0, 0, .null), (173, .aload_n 0, 1, 0, 0, 0, .null), (174, .getfield 91, 3, 12, 45, 0, .null), (177, .iload_n 2, 1, 0, 0, 0, .null), (178, .iload_n 3, 1, 0, 0, 0, .null), (179, .iastore, 1, 0, 0, 0, .null), (180, .iinc 2 1, 3, 0, 0, 0, .null), (183, .goto (-85), 3, 0, 0, 0, .null), (186, .return_, 1, 0, 0, 0, .null)]
def qx_c234 : List (Nat × Instr × Nat × Nat × Nat × Nat × Value) := qx_c234_0 ++ (qx_c234_1 ++ (qx_c234_2))
/-- OneRoofModel.bitsOf(I)I -/
def qx_c235 : List (Nat × Instr × Nat × Nat × Nat × Nat × Value) := [(0, .iconst 0, 1, 0, 0, 0, .null), (1, .istore_n 1, 1, 0, 0, 0, .null), (2, .iload_n 0, 1, 0, 0, 0, .null), (3, .istore_n 2, 1, 0, 0, 0, .null), (4, .iload_n 2, 1, 0, 0, 0, .null), (5, .ifCond .eq 15, 3, 0, 0, 0, .null), (8, .iinc 1 1, 3, 0, 0, 0, .null), (11, .iload_n 2, 1, 0, 0, 0, .null), (12, .iload_n 2, 1, 0, 0, 0, .null), (13, .iconst 1, 1, 0, 0, 0, .null), (14, .isub, 1, 0, 0, 0, .null), (15, .iand, 1, 0, 0, 0, .null), (16, .istore_n 2, 1, 0, 0, 0, .null), (17, .goto (-13), 3, 0, 0, 0, .null), (20, .iload_n 1, 1, 0, 0, 0, .null), (21, .ireturn, 1, 0, 0, 0, .null)]
/-- OneRoofModel.peopleOf(I)J -/
def qx_c236 : List (Nat × Instr × Nat × Nat × Nat × Nat × Value) := [(0, .lconst 0, 1, 0, 0, 0, .null), (1, .lstore_n 2, 1, 0, 0, 0, .null), (2, .iconst 0, 1, 0, 0, 0, .null), (3, .istore 4, 2, 0, 0, 0, .null), (5, .iload 4, 2, 0, 0, 0, .null), (7, .aload_n 0, 1, 0, 0, 0, .null), (8, .getfield 345, 3, 12, 43, 0, .null), (11, .if_icmp .ge 35, 3, 0, 0, 0, .null), (14, .lload_n 2, 1, 0, 0, 0, .null), (15, .iload_n 1, 1, 0, 0, 0, .null), (16, .iload 4, 2, 0, 0, 0, .null), (18, .ishr, 1, 0, 0, 0, .null), (19, .iconst 1, 1, 0, 0, 0, .null), (20, .iand, 1, 0, 0, 0, .null), (21, .iconst 1, 1, 0, 0, 0, .null), (22, .if_icmp .ne 15, 3, 0, 0, 0, .null), (25, .lconst 1, 1, 0, 0, 0, .null), (26, .aload_n 0, 1, 0, 0, 0, .null), (27, .getfield 85, 3, 12, 42, 0, .null), (30, .iload 4, 2, 0, 0, 0, .null), (32, .iaload, 1, 0, 0, 0, .null), (33, .lshl, 1, 0, 0, 0, .null), (34, .goto 4, 3, 0, 0, 0, .null), (37, .lconst 0, 1, 0, 0, 0, .null), (38, .lor, 1, 0, 0, 0, .null), (39, .lstore_n 2, 1, 0, 0, 0, .null), (40, .iinc 4 1, 3, 0, 0, 0, .null), (43, .goto (-38), 3, 0, 0, 0, .null), (46, .lload_n 2, 1, 0, 0, 0, .null), (47, .lreturn, 1, 0, 0, 0, .null)]
/-- OneRoofModel.rooms(JII)J -/
def qx_c237_0 : List (Nat × Instr × Nat × Nat × Nat × Nat × Value) := [(0, .iload_n 3, 1, 0, 0, 0, .null), (1, .invokestatic 337, 3, 229, 1, 2, .null), (4, .ifCond .eq 24, 3, 0, 0, 0, .null), (7, .iload 4, 2, 0, 0, 0, .null), (9, .i2l, 1, 0, 0, 0, .null), (10, .lconst 0, 1, 0, 0, 0, .null), (11, .lconst 1, 1, 0, 0, 0, .null), (12, .invokestatic 5, 3, 175, 3, 2, .null), (15, .ifCond .eq 13, 3, 0, 0, 0, .null), (18, .aload_n 0, 1, 0, 0, 0, .null), (19, .lload_n 1, 1, 0, 0, 0, .null), (20, .bipush 12, 2, 0, 0, 0, .null), (22, .invokevirtual 348, 3, 233, 2, 0, .ref 12), (25, .ifCond .ne 7, 3, 0, 0, 0, .null), (28, .ldc2_w 106, 3, 0, 0, 2, .long (-1)), (31, .lreturn, 1, 0, 0, 0, .null), (32, .aload_n 0, 1, 0, 0, 0, .null), (33, .iload_n 3, 1, 0, 0, 0, .null), (34, .invokevirtual 351, 3, 234, 1, 0, .ref 12), (37, .iconst 1, 1, 0, 0, 0, .null), (38, .aload_n 0, 1, 0, 0, 0, .null), (39, .getfield 345, 3, 12, 43, 0, .null), (42, .ishl, 1, 0, 0, 0, .null), (43, .iconst 1, 1, 0, 0, 0, .null), (44, .isub, 1, 0, 0, 0, .null), (45, .istore 5, 2, 0, 0, 0, .null), (47, .iconst 0, 1, 0, 0, 0, .null), (48, .istore 6, 2, 0, 0, 0, .null), (50, .iconst 0, 1, 0, 0, 0, .null), (51, .istore 7, 2, 0, 0, 0, .null), (53, .iconst 0, 1, 0, 0, 0, .null), (54, .istore 8, 2, 0, 0, 0, .null), (56, .iload 8, 2, 0, 0, 0, .null), (58, .iload 5, 2, 0, 0, 0, .null), (60, .if_icmp .gt 127, 3, 0, 0, 0, .null), (63, .iload 5, 2, 0, 0, 0, .null), (65, .iload 8, 2, 0, 0, 0, .null), (67, .iconst (-1), 1, 0, 0, 0, .null), (68, .ixor, 1, 0, 0, 0, .null), (69, .iand, 1, 0, 0, 0, .null), (70, .istore 9, 2, 0, 0, 0, .null), (72, .iload 9, 2, 0, 0, 0, .null), (74, .istore 10, 2, 0, 0, 0, .null), (76, .aload_n 0, 1, 0, 0, 0, .null), (77, .getfield 91, 3, 12, 45, 0, .null), (80, .iload 8, 2, 0, 0, 0, .null), (82, .iaload, 1, 0, 0, 0, .null), (83, .ifCond .lt 98, 3, 0, 0, 0, .null), (86, .iload 10, 2, 0, 0, 0, .null), (88, .ifCond .lt 93, 3, 0, 0, 0, .null)]
def qx_c237_1 : List (Nat × Instr × Nat × Nat × Nat × Nat × Value) := [(91, .aload_n 0, 1, 0, 0, 0, .null), (92, .getfield 91, 3, 12, 45, 0, .null), (95, .iload 10, 2, 0, 0, 0, .null), (97, .iaload, 1, 0, 0, 0, .null), (98, .ifCond .ge 6, 3, 0, 0, 0, .null), (101, .goto 59, 3, 0, 0, 0, .null), (104, .aload_n 0, 1, 0, 0, 0, .null), (105, .getfield 91, 3, 12, 45, 0, .null), (108, .iload 8, 2, 0, 0, 0, .null), (110, .iaload, 1, 0, 0, 0, .null), (111, .aload_n 0, 1, 0, 0, 0, .null), (112, .getfield 91, 3, 12, 45, 0, .null), (115, .iload 10, 2, 0, 0, 0, .null), (117, .iaload, 1, 0, 0, 0, .null), (118, .iadd, 1, 0, 0, 0, .null), (119, .istore 11, 2, 0, 0, 0, .null), (121, .iload 11, 2, 0, 0, 0, .null), (123, .iload 7, 2, 0, 0, 0, .null), (125, .if_icmp .gt 27, 3, 0, 0, 0, .null), (128, .iload 11, 2, 0, 0, 0, .null), (130, .iload 7, 2, 0, 0, 0, .null), (132, .if_icmp .ne 28, 3, 0, 0, 0, .null), (135, .aload_n 0, 1, 0, 0, 0, .null), (136, .getfield 91, 3, 12, 45, 0, .null), (139, .iload 8, 2, 0, 0, 0, .null), (141, .iaload, 1, 0, 0, 0, .null), (142, .aload_n 0, 1, 0, 0, 0, .null), (143, .getfield 91, 3, 12, 45, 0, .null), (146, .iload 6, 2, 0, 0, 0, .null), (148, .iaload, 1, 0, 0, 0, .null), (149, .if_icmp .le 11, 3, 0, 0, 0, .null), (152, .iload 8, 2, 0, 0, 0, .null), (154, .istore 6, 2, 0, 0, 0, .null), (156, .iload 11, 2, 0, 0, 0, .null), (158, .istore 7, 2, 0, 0, 0, .null), (160, .iload 10, 2, 0, 0, 0, .null), (162, .ifCond .ne 7, 3, 0, 0, 0, .null), (165, .iconst (-1), 1, 0, 0, 0, .null), (166, .goto 10, 3, 0, 0, 0, .null), (169, .iload 10, 2, 0, 0, 0, .null), (171, .iconst 1, 1, 0, 0, 0, .null), (172, .isub, 1, 0, 0, 0, .null), (173, .iload 9, 2, 0, 0, 0, .null), (175, .iand, 1, 0, 0, 0, .null), (176, .istore 10, 2, 0, 0, 0, .null), (178, .goto (-102), 3, 0, 0, 0, .null), (181, .iinc 8 1, 3, 0, 0, 0, .null), (184, .goto (-128), 3, 0, 0, 0, .null), (187, .iload 4, 2, 0, 0, 0, .null), (189, .ifCond .ne 9, 3, 0, 0, 0, .null)]
def qx_c237_2 : List (Nat × Instr × Nat × Nat × Nat × Nat × Value) := [(192, .iload 7, 2, 0, 0, 0, .null), (194, .i2l, 1, 0, 0, 0, .null), (195, .goto 9, 3, 0, 0, 0, .null), (198, .aload_n 0, 1, 0, 0, 0, .null), (199, .iload 6, 2, 0, 0, 0, .null), (201, .invokevirtual 360, 3, 236, 1, 0, .ref 12), (204, .lreturn, 1, 0, 0, 0, .null)]
def qx_c237 : List (Nat × Instr × Nat × Nat × Nat × Nat × Value) := qx_c237_0 ++ (qx_c237_1 ++ (qx_c237_2))
/-- OneRoofModel.buy(JII)J -/
def qx_c238_0 : List (Nat × Instr × Nat × Nat × Nat × Nat × Value) := [(0, .iload_n 3, 1, 0, 0, 0, .null), (1, .invokestatic 337, 3, 229, 1, 2, .null), (4, .ifCond .eq 24, 3, 0, 0, 0, .null), (7, .iload 4, 2, 0, 0, 0, .null), (9, .i2l, 1, 0, 0, 0, .null), (10, .lconst 0, 1, 0, 0, 0, .null), (11, .lconst 1, 1, 0, 0, 0, .null), (12, .invokestatic 5, 3, 175, 3, 2, .null), (15, .ifCond .eq 13, 3, 0, 0, 0, .null), (18, .aload_n 0, 1, 0, 0, 0, .null), (19, .lload_n 1, 1, 0, 0, 0, .null), (20, .bipush 12, 2, 0, 0, 0, .null), (22, .invokevirtual 348, 3, 233, 2, 0, .ref 12), (25, .ifCond .ne 7, 3, 0, 0, 0, .null), (28, .ldc2_w 106, 3, 0, 0, 2, .long (-1)), (31, .lreturn, 1, 0, 0, 0, .null), (32, .iconst 0, 1, 0, 0, 0, .null), (33, .istore 5, 2, 0, 0, 0, .null), (35, .iconst 0, 1, 0, 0, 0, .null), (36, .istore 6, 2, 0, 0, 0, .null), (38, .iload 6, 2, 0, 0, 0, .null), (40, .aload_n 0, 1, 0, 0, 0, .null), (41, .getfield 205, 3, 12, 16, 0, .null), (44, .if_icmp .ge 62, 3, 0, 0, 0, .null), (47, .iload 5, 2, 0, 0, 0, .null), (49, .bipush 10, 2, 0, 0, 0, .null), (51, .if_icmp .ge 55, 3, 0, 0, 0, .null), (54, .aload_n 0, 1, 0, 0, 0, .null), (55, .getfield 15, 3, 12, 0, 0, .null), (58, .bipush 32, 2, 0, 0, 0, .null), (60, .iload 6, 2, 0, 0, 0, .null), (62, .iadd, 1, 0, 0, 0, .null), (63, .iaload, 1, 0, 0, 0, .null), (64, .sipush 2400, 3, 0, 0, 0, .null), (67, .if_icmp .eq 21, 3, 0, 0, 0, .null), (70, .aload_n 0, 1, 0, 0, 0, .null), (71, .getfield 15, 3, 12, 0, 0, .null), (74, .bipush 32, 2, 0, 0, 0, .null), (76, .iload 6, 2, 0, 0, 0, .null), (78, .iadd, 1, 0, 0, 0, .null), (79, .iaload, 1, 0, 0, 0, .null), (80, .iload_n 3, 1, 0, 0, 0, .null), (81, .sipush 10000, 3, 0, 0, 0, .null), (84, .idiv, 1, 0, 0, 0, .null), (85, .if_icmp .le 15, 3, 0, 0, 0, .null), (88, .aload_n 0, 1, 0, 0, 0, .null), (89, .getfield 94, 3, 12, 46, 0, .null), (92, .iload 5, 2, 0, 0, 0, .null), (94, .iload 6, 2, 0, 0, 0, .null), (96, .iastore, 1, 0, 0, 0, .null)]
def qx_c238_1 : List (Nat × Instr × Nat × Nat × Nat × Nat × Value) := [(97, .iinc 5 1, 3, 0, 0, 0, .null), (100, .iinc 6 1, 3, 0, 0, 0, .null), (103, .goto (-65), 3, 0, 0, 0, .null), (106, .iconst (-1), 1, 0, 0, 0, .null), (107, .istore 6, 2, 0, 0, 0, .null), (109, .iconst 0, 1, 0, 0, 0, .null), (110, .istore 7, 2, 0, 0, 0, .null), (112, .lconst 0, 1, 0, 0, 0, .null), (113, .lstore 8, 2, 0, 0, 0, .null), (115, .iconst 0, 1, 0, 0, 0, .null), (116, .istore 10, 2, 0, 0, 0, .null), (118, .iload 10, 2, 0, 0, 0, .null), (120, .iconst 1, 1, 0, 0, 0, .null), (121, .iload 5, 2, 0, 0, 0, .null), (123, .ishl, 1, 0, 0, 0, .null), (124, .if_icmp .ge 145, 3, 0, 0, 0, .null), (127, .iconst 0, 1, 0, 0, 0, .null), (128, .istore 11, 2, 0, 0, 0, .null), (130, .aload_n 0, 1, 0, 0, 0, .null), (131, .lconst 0, 1, 0, 0, 0, .null), (132, .putfield 210, 3, 12, 22, 0, .null), (135, .iconst 0, 1, 0, 0, 0, .null), (136, .istore 12, 2, 0, 0, 0, .null), (138, .iload 12, 2, 0, 0, 0, .null), (140, .iload 5, 2, 0, 0, 0, .null), (142, .if_icmp .ge 55, 3, 0, 0, 0, .null), (145, .iload 10, 2, 0, 0, 0, .null), (147, .iload 12, 2, 0, 0, 0, .null), (149, .ishr, 1, 0, 0, 0, .null), (150, .iconst 1, 1, 0, 0, 0, .null), (151, .iand, 1, 0, 0, 0, .null), (152, .iconst 1, 1, 0, 0, 0, .null), (153, .if_icmp .ne 38, 3, 0, 0, 0, .null), (156, .iload 11, 2, 0, 0, 0, .null), (158, .aload_n 0, 1, 0, 0, 0, .null), (159, .getfield 58, 3, 12, 21, 0, .null), (162, .aload_n 0, 1, 0, 0, 0, .null), (163, .getfield 94, 3, 12, 46, 0, .null), (166, .iload 12, 2, 0, 0, 0, .null), (168, .iaload, 1, 0, 0, 0, .null), (169, .iaload, 1, 0, 0, 0, .null), (170, .iadd, 1, 0, 0, 0, .null), (171, .istore 11, 2, 0, 0, 0, .null), (173, .aload_n 0, 1, 0, 0, 0, .null), (174, .dup, 1, 0, 0, 0, .null), (175, .getfield 210, 3, 12, 22, 0, .null), (178, .lconst 1, 1, 0, 0, 0, .null), (179, .aload_n 0, 1, 0, 0, 0, .null), (180, .getfield 94, 3, 12, 46, 0, .null), (183, .iload 12, 2, 0, 0, 0, .null)]
def qx_c238_2 : List (Nat × Instr × Nat × Nat × Nat × Nat × Value) := [(185, .iaload, 1, 0, 0, 0, .null), (186, .lshl, 1, 0, 0, 0, .null), (187, .lor, 1, 0, 0, 0, .null), (188, .putfield 210, 3, 12, 22, 0, .null), (191, .iinc 12 1, 3, 0, 0, 0, .null), (194, .goto (-56), 3, 0, 0, 0, .null), (197, .iload 6, 2, 0, 0, 0, .null), (199, .ifCond .lt 30, 3, 0, 0, 0, .null), (202, .iload 11, 2, 0, 0, 0, .null), (204, .iload 7, 2, 0, 0, 0, .null), (206, .if_icmp .lt 23, 3, 0, 0, 0, .null), (209, .iload 11, 2, 0, 0, 0, .null), (211, .iload 7, 2, 0, 0, 0, .null), (213, .if_icmp .ne 20, 3, 0, 0, 0, .null), (216, .iload 10, 2, 0, 0, 0, .null), (218, .invokestatic 355, 3, 235, 1, 2, .null), (221, .iload 6, 2, 0, 0, 0, .null), (223, .invokestatic 355, 3, 235, 1, 2, .null), (226, .if_icmp .ge 7, 3, 0, 0, 0, .null), (229, .iconst 1, 1, 0, 0, 0, .null), (230, .goto 4, 3, 0, 0, 0, .null), (233, .iconst 0, 1, 0, 0, 0, .null), (234, .istore 12, 2, 0, 0, 0, .null), (236, .iload 12, 2, 0, 0, 0, .null), (238, .ifCond .eq 25, 3, 0, 0, 0, .null), (241, .aload_n 0, 1, 0, 0, 0, .null), (242, .iload_n 3, 1, 0, 0, 0, .null), (243, .invokevirtual 364, 3, 239, 1, 0, .ref 12), (246, .ifCond .ne 17, 3, 0, 0, 0, .null), (249, .iload 10, 2, 0, 0, 0, .null), (251, .istore 6, 2, 0, 0, 0, .null), (253, .iload 11, 2, 0, 0, 0, .null), (255, .istore 7, 2, 0, 0, 0, .null), (257, .aload_n 0, 1, 0, 0, 0, .null), (258, .getfield 210, 3, 12, 22, 0, .null), (261, .lstore 8, 2, 0, 0, 0, .null), (263, .iinc 10 1, 3, 0, 0, 0, .null), (266, .goto (-148), 3, 0, 0, 0, .null), (269, .aload_n 0, 1, 0, 0, 0, .null), (270, .lconst 0, 1, 0, 0, 0, .null), (271, .putfield 210, 3, 12, 22, 0, .null), (274, .iload 6, 2, 0, 0, 0, .null), (276, .ifCond .ge 9, 3, 0, 0, 0, .null), (279, .ldc2_w 358, 3, 0, 0, 2, .long (-2)), (282, .goto 16, 3, 0, 0, 0, .null), (285, .iload 4, 2, 0, 0, 0, .null), (287, .ifCond .ne 9, 3, 0, 0, 0, .null), (290, .iload 7, 2, 0, 0, 0, .null), (292, .i2l, 1, 0, 0, 0, .null), (293, .goto 5, 3, 0, 0, 0, .null)]
def qx_c238_3 : List (Nat × Instr × Nat × Nat × Nat × Nat × Value) := [(296, .lload 8, 2, 0, 0, 0, .null), (298, .lreturn, 1, 0, 0, 0, .null)]
def qx_c238 : List (Nat × Instr × Nat × Nat × Nat × Nat × Value) := qx_c238_0 ++ (qx_c238_1 ++ (qx_c238_2 ++ (qx_c238_3)))
/-- OneRoofModel.barAny(I)Z -/
def qx_c239 : List (Nat × Instr × Nat × Nat × Nat × Nat × Value) := [(0, .iconst 0, 1, 0, 0, 0, .null), (1, .istore_n 2, 1, 0, 0, 0, .null), (2, .iload_n 2, 1, 0, 0, 0, .null), (3, .aload_n 0, 1, 0, 0, 0, .null), (4, .getfield 345, 3, 12, 43, 0, .null), (7, .if_icmp .ge 44, 3, 0, 0, 0, .null), (10, .iconst 0, 1, 0, 0, 0, .null), (11, .istore_n 3, 1, 0, 0, 0, .null), (12, .iload_n 3, 1, 0, 0, 0, .null), (13, .iload_n 2, 1, 0, 0, 0, .null), (14, .if_icmp .ge 31, 3, 0, 0, 0, .null), (17, .aload_n 0, 1, 0, 0, 0, .null), (18, .aload_n 0, 1, 0, 0, 0, .null), (19, .getfield 85, 3, 12, 42, 0, .null), (22, .iload_n 3, 1, 0, 0, 0, .null), (23, .iaload, 1, 0, 0, 0, .null), (24, .aload_n 0, 1, 0, 0, 0, .null), (25, .getfield 85, 3, 12, 42, 0, .null), (28, .iload_n 2, 1, 0, 0, 0, .null), (29, .iaload, 1, 0, 0, 0, .null), (30, .iload_n 1, 1, 0, 0, 0, .null), (31, .invokevirtual 342, 3, 231, 3, 0, .ref 12), (34, .ifCond .eq 5, 3, 0, 0, 0, .null), (37, .iconst 1, 1, 0, 0, 0, .null), (38, .ireturn, 1, 0, 0, 0, .null), (39, .iinc 3 1, 3, 0, 0, 0, .null), (42, .goto (-30), 3, 0, 0, 0, .null), (45, .iinc 2 1, 3, 0, 0, 0, .null), (48, .goto (-46), 3, 0, 0, 0, .null), (51, .iconst 0, 1, 0, 0, 0, .null), (52, .ireturn, 1, 0, 0, 0, .null)]
/-- OneRoofModel.road(II)I -/
def qx_c240 : List (Nat × Instr × Nat × Nat × Nat × Nat × Value) := [(0, .aload_n 0, 1, 0, 0, 0, .null), (1, .iload_n 1, 1, 0, 0, 0, .null), (2, .invokevirtual 171, 3, 179, 1, 0, .ref 12), (5, .ifCond .eq 15, 3, 0, 0, 0, .null), (8, .iload_n 2, 1, 0, 0, 0, .null), (9, .i2l, 1, 0, 0, 0, .null), (10, .lconst 0, 1, 0, 0, 0, .null), (11, .ldc2_w 367, 3, 0, 0, 2, .long 3), (14, .invokestatic 5, 3, 175, 3, 2, .null), (17, .ifCond .ne 5, 3, 0, 0, 0, .null), (20, .iconst (-1), 1, 0, 0, 0, .null), (21, .ireturn, 1, 0, 0, 0, .null), (22, .aload_n 0, 1, 0, 0, 0, .null), (23, .getfield 34, 3, 12, 9, 0, .null), (26, .iload_n 1, 1, 0, 0, 0, .null), (27, .iaload, 1, 0, 0, 0, .null), (28, .istore_n 3, 1, 0, 0, 0, .null), (29, .aload_n 0, 1, 0, 0, 0, .null), (30, .getfield 34, 3, 12, 9, 0, .null), (33, .iload_n 1, 1, 0, 0, 0, .null), (34, .iload_n 2, 1, 0, 0, 0, .null), (35, .iastore, 1, 0, 0, 0, .null), (36, .iload_n 3, 1, 0, 0, 0, .null), (37, .ireturn, 1, 0, 0, 0, .null)]
/-- OneRoofModel.leave(JII)I -/
def qx_c241 : List (Nat × Instr × Nat × Nat × Nat × Nat × Value) := [(0, .iload_n 3, 1, 0, 0, 0, .null), (1, .invokestatic 200, 3, 191, 1, 2, .null), (4, .ifCond .eq 28, 3, 0, 0, 0, .null), (7, .iload 4, 2, 0, 0, 0, .null), (9, .i2l, 1, 0, 0, 0, .null), (10, .ldc2_w 375, 3, 0, 0, 2, .long 100), (13, .ldc2_w 377, 3, 0, 0, 2, .long 2499), (16, .invokestatic 5, 3, 175, 3, 2, .null), (19, .ifCond .eq 13, 3, 0, 0, 0, .null), (22, .aload_n 0, 1, 0, 0, 0, .null), (23, .lload_n 1, 1, 0, 0, 0, .null), (24, .bipush 6, 2, 0, 0, 0, .null), (26, .invokevirtual 348, 3, 233, 2, 0, .ref 12), (29, .ifCond .ne 5, 3, 0, 0, 0, .null), (32, .iconst (-1), 1, 0, 0, 0, .null), (33, .ireturn, 1, 0, 0, 0, .null), (34, .aload_n 0, 1, 0, 0, 0, .null), (35, .iconst 0, 1, 0, 0, 0, .null), (36, .iconst 0, 1, 0, 0, 0, .null), (37, .iload_n 3, 1, 0, 0, 0, .null), (38, .iload 4, 2, 0, 0, 0, .null), (40, .invokevirtual 372, 3, 242, 4, 0, .ref 12), (43, .ifCond .ne 6, 3, 0, 0, 0, .null), (46, .bipush (-2), 2, 0, 0, 0, .null), (48, .ireturn, 1, 0, 0, 0, .null), (49, .iconst 0, 1, 0, 0, 0, .null), (50, .istore 5, 2, 0, 0, 0, .null), (52, .iconst 0, 1, 0, 0, 0, .null), (53, .istore 6, 2, 0, 0, 0, .null), (55, .iload 6, 2, 0, 0, 0, .null), (57, .aload_n 0, 1, 0, 0, 0, .null), (58, .getfield 345, 3, 12, 43, 0, .null), (61, .if_icmp .ge 26, 3, 0, 0, 0, .null), (64, .bipush 10, 2, 0, 0, 0, .null), (66, .iload 5, 2, 0, 0, 0, .null), (68, .imul, 1, 0, 0, 0, .null), (69, .aload_n 0, 1, 0, 0, 0, .null), (70, .getfield 97, 3, 12, 47, 0, .null), (73, .iload 6, 2, 0, 0, 0, .null), (75, .iaload, 1, 0, 0, 0, .null), (76, .iadd, 1, 0, 0, 0, .null), (77, .iconst 1, 1, 0, 0, 0, .null), (78, .iadd, 1, 0, 0, 0, .null), (79, .istore 5, 2, 0, 0, 0, .null), (81, .iinc 6 1, 3, 0, 0, 0, .null), (84, .goto (-29), 3, 0, 0, 0, .null), (87, .iload 5, 2, 0, 0, 0, .null), (89, .ireturn, 1, 0, 0, 0, .null)]
/-- OneRoofModel.orders(IIII)Z -/
def qx_c242 : List (Nat × Instr × Nat × Nat × Nat × Nat × Value) := [(0, .iload_n 1, 1, 0, 0, 0, .null), (1, .aload_n 0, 1, 0, 0, 0, .null), (2, .getfield 345, 3, 12, 43, 0, .null), (5, .if_icmp .ne 5, 3, 0, 0, 0, .null), (8, .iconst 1, 1, 0, 0, 0, .null), (9, .ireturn, 1, 0, 0, 0, .null), (10, .iconst 0, 1, 0, 0, 0, .null), (11, .istore 5, 2, 0, 0, 0, .null), (13, .iload 5, 2, 0, 0, 0, .null), (15, .aload_n 0, 1, 0, 0, 0, .null), (16, .getfield 345, 3, 12, 43, 0, .null), (19, .if_icmp .ge 62, 3, 0, 0, 0, .null), (22, .iload_n 2, 1, 0, 0, 0, .null), (23, .iload 5, 2, 0, 0, 0, .null), (25, .ishr, 1, 0, 0, 0, .null), (26, .iconst 1, 1, 0, 0, 0, .null), (27, .iand, 1, 0, 0, 0, .null), (28, .iconst 1, 1, 0, 0, 0, .null), (29, .if_icmp .ne 6, 3, 0, 0, 0, .null), (32, .goto 43, 3, 0, 0, 0, .null), (35, .aload_n 0, 1, 0, 0, 0, .null), (36, .getfield 97, 3, 12, 47, 0, .null), (39, .iload_n 1, 1, 0, 0, 0, .null), (40, .iload 5, 2, 0, 0, 0, .null), (42, .iastore, 1, 0, 0, 0, .null), (43, .aload_n 0, 1, 0, 0, 0, .null), (44, .iload_n 1, 1, 0, 0, 0, .null), (45, .iload_n 3, 1, 0, 0, 0, .null), (46, .iload 4, 2, 0, 0, 0, .null), (48, .invokevirtual 369, 3, 243, 3, 0, .ref 12), (51, .ifCond .ne 24, 3, 0, 0, 0, .null), (54, .aload_n 0, 1, 0, 0, 0, .null), (55, .iload_n 1, 1, 0, 0, 0, .null), (56, .iconst 1, 1, 0, 0, 0, .null), (57, .iadd, 1, 0, 0, 0, .null), (58, .iload_n 2, 1, 0, 0, 0, .null), (59, .iconst 1, 1, 0, 0, 0, .null), (60, .iload 5, 2, 0, 0, 0, .null), (62, .ishl, 1, 0, 0, 0, .null), (63, .ior, 1, 0, 0, 0, .null), (64, .iload_n 3, 1, 0, 0, 0, .null), (65, .iload 4, 2, 0, 0, 0, .null), (67, .invokevirtual 372, 3, 242, 4, 0, .ref 12), (70, .ifCond .eq 5, 3, 0, 0, 0, .null), (73, .iconst 1, 1, 0, 0, 0, .null), (74, .ireturn, 1, 0, 0, 0, .null), (75, .iinc 5 1, 3, 0, 0, 0, .null), (78, .goto (-65), 3, 0, 0, 0, .null), (81, .iconst 0, 1, 0, 0, 0, .null), (82, .ireturn, 1, 0, 0, 0, .null)]
/-- OneRoofModel.meets(III)Z -/
def qx_c243_0 : List (Nat × Instr × Nat × Nat × Nat × Nat × Value) := [(0, .aload_n 0, 1, 0, 0, 0, .null), (1, .getfield 85, 3, 12, 42, 0, .null), (4, .aload_n 0, 1, 0, 0, 0, .null), (5, .getfield 97, 3, 12, 47, 0, .null), (8, .iload_n 1, 1, 0, 0, 0, .null), (9, .iaload, 1, 0, 0, 0, .null), (10, .iaload, 1, 0, 0, 0, .null), (11, .istore 4, 2, 0, 0, 0, .null), (13, .iload_n 2, 1, 0, 0, 0, .null), (14, .iload_n 1, 1, 0, 0, 0, .null), (15, .iload_n 3, 1, 0, 0, 0, .null), (16, .bipush 100, 2, 0, 0, 0, .null), (18, .idiv, 1, 0, 0, 0, .null), (19, .imul, 1, 0, 0, 0, .null), (20, .iadd, 1, 0, 0, 0, .null), (21, .istore 5, 2, 0, 0, 0, .null), (23, .iconst 0, 1, 0, 0, 0, .null), (24, .istore 6, 2, 0, 0, 0, .null), (26, .iload 6, 2, 0, 0, 0, .null), (28, .iload_n 1, 1, 0, 0, 0, .null), (29, .if_icmp .ge 98, 3, 0, 0, 0, .null), (32, .aload_n 0, 1, 0, 0, 0, .null), (33, .getfield 85, 3, 12, 42, 0, .null), (36, .aload_n 0, 1, 0, 0, 0, .null), (37, .getfield 97, 3, 12, 47, 0, .null), (40, .iload 6, 2, 0, 0, 0, .null), (42, .iaload, 1, 0, 0, 0, .null), (43, .iaload, 1, 0, 0, 0, .null), (44, .istore 7, 2, 0, 0, 0, .null), (46, .aload_n 0, 1, 0, 0, 0, .null), (47, .getfield 34, 3, 12, 9, 0, .null), (50, .iload 4, 2, 0, 0, 0, .null), (52, .iaload, 1, 0, 0, 0, .null), (53, .aload_n 0, 1, 0, 0, 0, .null), (54, .getfield 34, 3, 12, 9, 0, .null), (57, .iload 7, 2, 0, 0, 0, .null), (59, .iaload, 1, 0, 0, 0, .null), (60, .if_icmp .ne 51, 3, 0, 0, 0, .null), (63, .iload_n 1, 1, 0, 0, 0, .null), (64, .iload 6, 2, 0, 0, 0, .null), (66, .isub, 1, 0, 0, 0, .null), (67, .iload_n 3, 1, 0, 0, 0, .null), (68, .bipush 100, 2, 0, 0, 0, .null), (70, .idiv, 1, 0, 0, 0, .null), (71, .imul, 1, 0, 0, 0, .null), (72, .iload_n 3, 1, 0, 0, 0, .null), (73, .bipush 100, 2, 0, 0, 0, .null), (75, .irem, 1, 0, 0, 0, .null), (76, .if_icmp .gt 35, 3, 0, 0, 0, .null), (79, .aload_n 0, 1, 0, 0, 0, .null)]
def qx_c243_1 : List (Nat × Instr × Nat × Nat × Nat × Nat × Value) := [(80, .iload 4, 2, 0, 0, 0, .null), (82, .iload 7, 2, 0, 0, 0, .null), (84, .iload 5, 2, 0, 0, 0, .null), (86, .invokevirtual 222, 3, 194, 3, 0, .ref 12), (89, .bipush 99, 2, 0, 0, 0, .null), (91, .if_icmp .eq 20, 3, 0, 0, 0, .null), (94, .aload_n 0, 1, 0, 0, 0, .null), (95, .iload 4, 2, 0, 0, 0, .null), (97, .iload 7, 2, 0, 0, 0, .null), (99, .iload 5, 2, 0, 0, 0, .null), (101, .invokevirtual 260, 3, 208, 3, 0, .ref 12), (104, .ifCond .ne 7, 3, 0, 0, 0, .null), (107, .iconst 1, 1, 0, 0, 0, .null), (108, .goto 4, 3, 0, 0, 0, .null), (111, .iconst 0, 1, 0, 0, 0, .null), (112, .istore 8, 2, 0, 0, 0, .null), (114, .iload 8, 2, 0, 0, 0, .null), (116, .ifCond .eq 5, 3, 0, 0, 0, .null), (119, .iconst 1, 1, 0, 0, 0, .null), (120, .ireturn, 1, 0, 0, 0, .null), (121, .iinc 6 1, 3, 0, 0, 0, .null), (124, .goto (-98), 3, 0, 0, 0, .null), (127, .iconst 0, 1, 0, 0, 0, .null), (128, .ireturn, 1, 0, 0, 0, .null)]
def qx_c243 : List (Nat × Instr × Nat × Nat × Nat × Nat × Value) := qx_c243_0 ++ (qx_c243_1)
/-- OneRoofModel.strike(IJII)I -/
def qx_c244_0 : List (Nat × Instr × Nat × Nat × Nat × Nat × Value) := [(0, .aload_n 0, 1, 0, 0, 0, .null), (1, .iload_n 1, 1, 0, 0, 0, .null), (2, .invokevirtual 197, 3, 190, 1, 0, .ref 12), (5, .ifCond .eq 30, 3, 0, 0, 0, .null), (8, .aload_n 0, 1, 0, 0, 0, .null), (9, .lload_n 2, 1, 0, 0, 0, .null), (10, .invokevirtual 324, 3, 224, 1, 0, .ref 12), (13, .ifCond .eq 22, 3, 0, 0, 0, .null), (16, .iload 4, 2, 0, 0, 0, .null), (18, .invokestatic 200, 3, 191, 1, 2, .null), (21, .ifCond .eq 14, 3, 0, 0, 0, .null), (24, .iload 5, 2, 0, 0, 0, .null), (26, .i2l, 1, 0, 0, 0, .null), (27, .lconst 0, 1, 0, 0, 0, .null), (28, .lconst 1, 1, 0, 0, 0, .null), (29, .invokestatic 5, 3, 175, 3, 2, .null), (32, .ifCond .ne 5, 3, 0, 0, 0, .null), (35, .iconst (-1), 1, 0, 0, 0, .null), (36, .ireturn, 1, 0, 0, 0, .null), (37, .lload_n 2, 1, 0, 0, 0, .null), (38, .aload_n 0, 1, 0, 0, 0, .null), (39, .getfield 168, 3, 12, 10, 0, .null), (42, .ldc2_w 106, 3, 0, 0, 2, .long (-1)), (45, .lxor, 1, 0, 0, 0, .null), (46, .land, 1, 0, 0, 0, .null), (47, .lstore 6, 2, 0, 0, 0, .null), (49, .lload 6, 2, 0, 0, 0, .null), (51, .iload_n 1, 1, 0, 0, 0, .null), (52, .bipush 100, 2, 0, 0, 0, .null), (54, .idiv, 1, 0, 0, 0, .null), (55, .invokestatic 329, 3, 225, 2, 2, .null), (58, .ifCond .eq 15, 3, 0, 0, 0, .null), (61, .lload 6, 2, 0, 0, 0, .null), (63, .iload_n 1, 1, 0, 0, 0, .null), (64, .bipush 100, 2, 0, 0, 0, .null), (66, .irem, 1, 0, 0, 0, .null), (67, .invokestatic 329, 3, 225, 2, 2, .null), (70, .ifCond .ne 5, 3, 0, 0, 0, .null), (73, .iconst (-1), 1, 0, 0, 0, .null), (74, .ireturn, 1, 0, 0, 0, .null), (75, .aload_n 0, 1, 0, 0, 0, .null), (76, .getfield 168, 3, 12, 10, 0, .null), (79, .lstore 8, 2, 0, 0, 0, .null), (81, .aload_n 0, 1, 0, 0, 0, .null), (82, .iload_n 1, 1, 0, 0, 0, .null), (83, .lload 6, 2, 0, 0, 0, .null), (85, .iload 4, 2, 0, 0, 0, .null), (87, .iload 5, 2, 0, 0, 0, .null), (89, .iconst 1, 1, 0, 0, 0, .null), (90, .if_icmp .ne 7, 3, 0, 0, 0, .null)]
def qx_c244_1 : List (Nat × Instr × Nat × Nat × Nat × Nat × Value) := [(93, .iconst 1, 1, 0, 0, 0, .null), (94, .goto 4, 3, 0, 0, 0, .null), (97, .iconst 0, 1, 0, 0, 0, .null), (98, .invokevirtual 394, 3, 245, 4, 0, .ref 12), (101, .iload 5, 2, 0, 0, 0, .null), (103, .ifCond .ne 14, 3, 0, 0, 0, .null), (106, .aload_n 0, 1, 0, 0, 0, .null), (107, .lload 8, 2, 0, 0, 0, .null), (109, .putfield 168, 3, 12, 10, 0, .null), (112, .aload_n 0, 1, 0, 0, 0, .null), (113, .lconst 0, 1, 0, 0, 0, .null), (114, .putfield 247, 3, 12, 29, 0, .null), (117, .aload_n 0, 1, 0, 0, 0, .null), (118, .getfield 379, 3, 12, 50, 0, .null), (121, .ireturn, 1, 0, 0, 0, .null)]
def qx_c244 : List (Nat × Instr × Nat × Nat × Nat × Nat × Value) := qx_c244_0 ++ (qx_c244_1)
/-- OneRoofModel.goesOn(IJIZ)V -/
def qx_c245 : List (Nat × Instr × Nat × Nat × Nat × Nat × Value) := [(0, .aload_n 0, 1, 0, 0, 0, .null), (1, .iconst 0, 1, 0, 0, 0, .null), (2, .putfield 379, 3, 12, 50, 0, .null), (5, .iload_n 1, 1, 0, 0, 0, .null), (6, .istore 6, 2, 0, 0, 0, .null), (8, .iload 6, 2, 0, 0, 0, .null), (10, .ifCond .lt 46, 3, 0, 0, 0, .null), (13, .aload_n 0, 1, 0, 0, 0, .null), (14, .iload 6, 2, 0, 0, 0, .null), (16, .bipush 100, 2, 0, 0, 0, .null), (18, .idiv, 1, 0, 0, 0, .null), (19, .iload 6, 2, 0, 0, 0, .null), (21, .bipush 100, 2, 0, 0, 0, .null), (23, .irem, 1, 0, 0, 0, .null), (24, .iload 4, 2, 0, 0, 0, .null), (26, .iload 5, 2, 0, 0, 0, .null), (28, .invokevirtual 386, 3, 246, 4, 0, .ref 12), (31, .aload_n 0, 1, 0, 0, 0, .null), (32, .getfield 379, 3, 12, 50, 0, .null), (35, .bipush 31, 2, 0, 0, 0, .null), (37, .if_icmp .ne 7, 3, 0, 0, 0, .null), (40, .iconst (-1), 1, 0, 0, 0, .null), (41, .goto 10, 3, 0, 0, 0, .null), (44, .aload_n 0, 1, 0, 0, 0, .null), (45, .lload_n 2, 1, 0, 0, 0, .null), (46, .iload 4, 2, 0, 0, 0, .null), (48, .invokevirtual 390, 3, 247, 2, 0, .ref 12), (51, .istore 6, 2, 0, 0, 0, .null), (53, .goto (-45), 3, 0, 0, 0, .null), (56, .aload_n 0, 1, 0, 0, 0, .null), (57, .lload_n 2, 1, 0, 0, 0, .null), (58, .aload_n 0, 1, 0, 0, 0, .null), (59, .getfield 168, 3, 12, 10, 0, .null), (62, .ldc2_w 106, 3, 0, 0, 2, .long (-1)), (65, .lxor, 1, 0, 0, 0, .null), (66, .land, 1, 0, 0, 0, .null), (67, .putfield 108, 3, 12, 51, 0, .null), (70, .return_, 1, 0, 0, 0, .null)]
/-- OneRoofModel.blowFalls(IIIZ)V -/
def qx_c246_0 : List (Nat × Instr × Nat × Nat × Nat × Nat × Value) := [(0, .iconst 0, 1, 0, 0, 0, .null), (1, .istore 5, 2, 0, 0, 0, .null), (3, .iload 5, 2, 0, 0, 0, .null), (5, .aload_n 0, 1, 0, 0, 0, .null), (6, .getfield 225, 3, 12, 24, 0, .null), (9, .if_icmp .ge 77, 3, 0, 0, 0, .null), (12, .aload_n 0, 1, 0, 0, 0, .null), (13, .iload 5, 2, 0, 0, 0, .null), (15, .iload_n 1, 1, 0, 0, 0, .null), (16, .iload_n 2, 1, 0, 0, 0, .null), (17, .iload_n 3, 1, 0, 0, 0, .null), (18, .invokevirtual 253, 3, 204, 4, 0, .ref 12), (21, .ifCond .eq 59, 3, 0, 0, 0, .null), (24, .aload_n 0, 1, 0, 0, 0, .null), (25, .getfield 61, 3, 12, 25, 0, .null), (28, .iload 5, 2, 0, 0, 0, .null), (30, .iaload, 1, 0, 0, 0, .null), (31, .iload_n 1, 1, 0, 0, 0, .null), (32, .if_icmp .eq 13, 3, 0, 0, 0, .null), (35, .aload_n 0, 1, 0, 0, 0, .null), (36, .iload 5, 2, 0, 0, 0, .null), (38, .iload_n 1, 1, 0, 0, 0, .null), (39, .invokevirtual 241, 3, 201, 2, 0, .ref 12), (42, .ifCond .eq 38, 3, 0, 0, 0, .null), (45, .iload 4, 2, 0, 0, 0, .null), (47, .ifCond .eq 20, 3, 0, 0, 0, .null), (50, .aload_n 0, 1, 0, 0, 0, .null), (51, .sipush 192, 3, 0, 0, 0, .null), (54, .iload 5, 2, 0, 0, 0, .null), (56, .iadd, 1, 0, 0, 0, .null), (57, .bipush 6, 2, 0, 0, 0, .null), (59, .invokevirtual 177, 3, 182, 2, 0, .ref 12), (62, .istore 6, 2, 0, 0, 0, .null), (64, .goto 16, 3, 0, 0, 0, .null), (67, .aload_n 0, 1, 0, 0, 0, .null), (68, .dup, 1, 0, 0, 0, .null), (69, .getfield 247, 3, 12, 29, 0, .null), (72, .lconst 1, 1, 0, 0, 0, .null), (73, .iload 5, 2, 0, 0, 0, .null), (75, .lshl, 1, 0, 0, 0, .null), (76, .lor, 1, 0, 0, 0, .null), (77, .putfield 247, 3, 12, 29, 0, .null), (80, .iinc 5 1, 3, 0, 0, 0, .null), (83, .goto (-80), 3, 0, 0, 0, .null), (86, .aload_n 0, 1, 0, 0, 0, .null), (87, .dup, 1, 0, 0, 0, .null), (88, .getfield 168, 3, 12, 10, 0, .null), (91, .lconst 1, 1, 0, 0, 0, .null), (92, .iload_n 2, 1, 0, 0, 0, .null), (93, .lshl, 1, 0, 0, 0, .null)]
def qx_c246_1 : List (Nat × Instr × Nat × Nat × Nat × Nat × Value) := [(94, .lor, 1, 0, 0, 0, .null), (95, .putfield 168, 3, 12, 10, 0, .null), (98, .aload_n 0, 1, 0, 0, 0, .null), (99, .getfield 100, 3, 12, 48, 0, .null), (102, .aload_n 0, 1, 0, 0, 0, .null), (103, .getfield 379, 3, 12, 50, 0, .null), (106, .iload_n 1, 1, 0, 0, 0, .null), (107, .iastore, 1, 0, 0, 0, .null), (108, .aload_n 0, 1, 0, 0, 0, .null), (109, .getfield 103, 3, 12, 49, 0, .null), (112, .aload_n 0, 1, 0, 0, 0, .null), (113, .getfield 379, 3, 12, 50, 0, .null), (116, .iload_n 2, 1, 0, 0, 0, .null), (117, .iastore, 1, 0, 0, 0, .null), (118, .aload_n 0, 1, 0, 0, 0, .null), (119, .dup, 1, 0, 0, 0, .null), (120, .getfield 379, 3, 12, 50, 0, .null), (123, .iconst 1, 1, 0, 0, 0, .null), (124, .iadd, 1, 0, 0, 0, .null), (125, .putfield 379, 3, 12, 50, 0, .null), (128, .return_, 1, 0, 0, 0, .null)]
def qx_c246 : List (Nat × Instr × Nat × Nat × Nat × Nat × Value) := qx_c246_0 ++ (qx_c246_1)
/-- OneRoofModel.nextBlow(JI)I -/
def qx_c247_0 : List (Nat × Instr × Nat × Nat × Nat × Nat × Value) := [(0, .iconst 0, 1, 0, 0, 0, .null), (1, .istore 4, 2, 0, 0, 0, .null), (3, .iload 4, 2, 0, 0, 0, .null), (5, .aload_n 0, 1, 0, 0, 0, .null), (6, .getfield 145, 3, 12, 6, 0, .null), (9, .if_icmp .ge 92, 3, 0, 0, 0, .null), (12, .iconst 0, 1, 0, 0, 0, .null), (13, .istore 5, 2, 0, 0, 0, .null), (15, .iload 5, 2, 0, 0, 0, .null), (17, .aload_n 0, 1, 0, 0, 0, .null), (18, .getfield 145, 3, 12, 6, 0, .null), (21, .if_icmp .ge 74, 3, 0, 0, 0, .null), (24, .lload_n 1, 1, 0, 0, 0, .null), (25, .aload_n 0, 1, 0, 0, 0, .null), (26, .getfield 168, 3, 12, 10, 0, .null), (29, .ldc2_w 106, 3, 0, 0, 2, .long (-1)), (32, .lxor, 1, 0, 0, 0, .null), (33, .land, 1, 0, 0, 0, .null), (34, .iload 4, 2, 0, 0, 0, .null), (36, .invokestatic 329, 3, 225, 2, 2, .null), (39, .ifCond .eq 56, 3, 0, 0, 0, .null), (42, .iload 5, 2, 0, 0, 0, .null), (44, .iload 4, 2, 0, 0, 0, .null), (46, .if_icmp .eq 43, 3, 0, 0, 0, .null), (49, .lload_n 1, 1, 0, 0, 0, .null), (50, .aload_n 0, 1, 0, 0, 0, .null), (51, .getfield 168, 3, 12, 10, 0, .null), (54, .ldc2_w 106, 3, 0, 0, 2, .long (-1)), (57, .lxor, 1, 0, 0, 0, .null), (58, .land, 1, 0, 0, 0, .null), (59, .iload 5, 2, 0, 0, 0, .null), (61, .invokestatic 329, 3, 225, 2, 2, .null), (64, .ifCond .eq 25, 3, 0, 0, 0, .null), (67, .aload_n 0, 1, 0, 0, 0, .null), (68, .iload 4, 2, 0, 0, 0, .null), (70, .iload 5, 2, 0, 0, 0, .null), (72, .lload_n 1, 1, 0, 0, 0, .null), (73, .iload_n 3, 1, 0, 0, 0, .null), (74, .invokevirtual 382, 3, 248, 4, 0, .ref 12), (77, .ifCond .eq 12, 3, 0, 0, 0, .null), (80, .bipush 100, 2, 0, 0, 0, .null), (82, .iload 4, 2, 0, 0, 0, .null), (84, .imul, 1, 0, 0, 0, .null), (85, .iload 5, 2, 0, 0, 0, .null), (87, .iadd, 1, 0, 0, 0, .null), (88, .ireturn, 1, 0, 0, 0, .null), (89, .iinc 5 1, 3, 0, 0, 0, .null), (92, .goto (-77), 3, 0, 0, 0, .null), (95, .iinc 4 1, 3, 0, 0, 0, .null), (98, .goto (-95), 3, 0, 0, 0, .null)]
def qx_c247_1 : List (Nat × Instr × Nat × Nat × Nat × Nat × Value) := [(101, .iconst 0, 1, 0, 0, 0, .null), (102, .istore 4, 2, 0, 0, 0, .null), (104, .iload 4, 2, 0, 0, 0, .null), (106, .aload_n 0, 1, 0, 0, 0, .null), (107, .getfield 145, 3, 12, 6, 0, .null), (110, .if_icmp .ge 92, 3, 0, 0, 0, .null), (113, .iconst 0, 1, 0, 0, 0, .null), (114, .istore 5, 2, 0, 0, 0, .null), (116, .iload 5, 2, 0, 0, 0, .null), (118, .aload_n 0, 1, 0, 0, 0, .null), (119, .getfield 145, 3, 12, 6, 0, .null), (122, .if_icmp .ge 74, 3, 0, 0, 0, .null), (125, .lload_n 1, 1, 0, 0, 0, .null), (126, .aload_n 0, 1, 0, 0, 0, .null), (127, .getfield 168, 3, 12, 10, 0, .null), (130, .ldc2_w 106, 3, 0, 0, 2, .long (-1)), (133, .lxor, 1, 0, 0, 0, .null), (134, .land, 1, 0, 0, 0, .null), (135, .iload 4, 2, 0, 0, 0, .null), (137, .invokestatic 329, 3, 225, 2, 2, .null), (140, .ifCond .eq 56, 3, 0, 0, 0, .null), (143, .iload 5, 2, 0, 0, 0, .null), (145, .iload 4, 2, 0, 0, 0, .null), (147, .if_icmp .eq 43, 3, 0, 0, 0, .null), (150, .lload_n 1, 1, 0, 0, 0, .null), (151, .aload_n 0, 1, 0, 0, 0, .null), (152, .getfield 168, 3, 12, 10, 0, .null), (155, .ldc2_w 106, 3, 0, 0, 2, .long (-1)), (158, .lxor, 1, 0, 0, 0, .null), (159, .land, 1, 0, 0, 0, .null), (160, .iload 5, 2, 0, 0, 0, .null), (162, .invokestatic 329, 3, 225, 2, 2, .null), (165, .ifCond .eq 25, 3, 0, 0, 0, .null), (168, .aload_n 0, 1, 0, 0, 0, .null), (169, .iload 4, 2, 0, 0, 0, .null), (171, .iload 5, 2, 0, 0, 0, .null), (173, .lload_n 1, 1, 0, 0, 0, .null), (174, .iload_n 3, 1, 0, 0, 0, .null), (175, .invokevirtual 333, 3, 226, 4, 0, .ref 12), (178, .ifCond .eq 12, 3, 0, 0, 0, .null), (181, .bipush 100, 2, 0, 0, 0, .null), (183, .iload 4, 2, 0, 0, 0, .null), (185, .imul, 1, 0, 0, 0, .null), (186, .iload 5, 2, 0, 0, 0, .null), (188, .iadd, 1, 0, 0, 0, .null), (189, .ireturn, 1, 0, 0, 0, .null), (190, .iinc 5 1, 3, 0, 0, 0, .null), (193, .goto (-77), 3, 0, 0, 0, .null), (196, .iinc 4 1, 3, 0, 0, 0, .null), (199, .goto (-95), 3, 0, 0, 0, .null)]
def qx_c247_2 : List (Nat × Instr × Nat × Nat × Nat × Nat × Value) := [(202, .iconst (-1), 1, 0, 0, 0, .null), (203, .ireturn, 1, 0, 0, 0, .null)]
def qx_c247 : List (Nat × Instr × Nat × Nat × Nat × Nat × Value) := qx_c247_0 ++ (qx_c247_1 ++ (qx_c247_2))
/-- OneRoofModel.mustHelp(IIJI)Z -/
def qx_c248 : List (Nat × Instr × Nat × Nat × Nat × Nat × Value) := [(0, .iconst 0, 1, 0, 0, 0, .null), (1, .istore 6, 2, 0, 0, 0, .null), (3, .iload 6, 2, 0, 0, 0, .null), (5, .aload_n 0, 1, 0, 0, 0, .null), (6, .getfield 379, 3, 12, 50, 0, .null), (9, .if_icmp .ge 42, 3, 0, 0, 0, .null), (12, .aload_n 0, 1, 0, 0, 0, .null), (13, .getfield 100, 3, 12, 48, 0, .null), (16, .iload 6, 2, 0, 0, 0, .null), (18, .iaload, 1, 0, 0, 0, .null), (19, .iload_n 2, 1, 0, 0, 0, .null), (20, .if_icmp .ne 25, 3, 0, 0, 0, .null), (23, .aload_n 0, 1, 0, 0, 0, .null), (24, .iconst 1, 1, 0, 0, 0, .null), (25, .iload_n 1, 1, 0, 0, 0, .null), (26, .iload_n 2, 1, 0, 0, 0, .null), (27, .aload_n 0, 1, 0, 0, 0, .null), (28, .getfield 103, 3, 12, 49, 0, .null), (31, .iload 6, 2, 0, 0, 0, .null), (33, .iaload, 1, 0, 0, 0, .null), (34, .lload_n 3, 1, 0, 0, 0, .null), (35, .iload 5, 2, 0, 0, 0, .null), (37, .invokevirtual 320, 3, 227, 6, 0, .ref 12), (40, .ifCond .eq 5, 3, 0, 0, 0, .null), (43, .iconst 1, 1, 0, 0, 0, .null), (44, .ireturn, 1, 0, 0, 0, .null), (45, .iinc 6 1, 3, 0, 0, 0, .null), (48, .goto (-45), 3, 0, 0, 0, .null), (51, .iconst 0, 1, 0, 0, 0, .null), (52, .ireturn, 1, 0, 0, 0, .null)]
/-- OneRoofModel.blow(I)I -/
def qx_c249 : List (Nat × Instr × Nat × Nat × Nat × Nat × Value) := [(0, .iload_n 1, 1, 0, 0, 0, .null), (1, .ifCond .lt 30, 3, 0, 0, 0, .null), (4, .iload_n 1, 1, 0, 0, 0, .null), (5, .aload_n 0, 1, 0, 0, 0, .null), (6, .getfield 379, 3, 12, 50, 0, .null), (9, .if_icmp .ge 22, 3, 0, 0, 0, .null), (12, .bipush 100, 2, 0, 0, 0, .null), (14, .aload_n 0, 1, 0, 0, 0, .null), (15, .getfield 100, 3, 12, 48, 0, .null), (18, .iload_n 1, 1, 0, 0, 0, .null), (19, .iaload, 1, 0, 0, 0, .null), (20, .imul, 1, 0, 0, 0, .null), (21, .aload_n 0, 1, 0, 0, 0, .null), (22, .getfield 103, 3, 12, 49, 0, .null), (25, .iload_n 1, 1, 0, 0, 0, .null), (26, .iaload, 1, 0, 0, 0, .null), (27, .iadd, 1, 0, 0, 0, .null), (28, .goto 4, 3, 0, 0, 0, .null), (31, .iconst (-1), 1, 0, 0, 0, .null), (32, .ireturn, 1, 0, 0, 0, .null)]
/-- OneRoofModel.alive()J -/
def qx_c250 : List (Nat × Instr × Nat × Nat × Nat × Nat × Value) := [(0, .aload_n 0, 1, 0, 0, 0, .null), (1, .getfield 108, 3, 12, 51, 0, .null), (4, .lreturn, 1, 0, 0, 0, .null)]
/-- OneRoofModel.worst(JI)I -/
def qx_c251_0 : List (Nat × Instr × Nat × Nat × Nat × Nat × Value) := [(0, .aload_n 0, 1, 0, 0, 0, .null), (1, .lload_n 1, 1, 0, 0, 0, .null), (2, .invokevirtual 324, 3, 224, 1, 0, .ref 12), (5, .ifCond .eq 10, 3, 0, 0, 0, .null), (8, .iload_n 3, 1, 0, 0, 0, .null), (9, .invokestatic 200, 3, 191, 1, 2, .null), (12, .ifCond .ne 5, 3, 0, 0, 0, .null), (15, .iconst (-1), 1, 0, 0, 0, .null), (16, .ireturn, 1, 0, 0, 0, .null), (17, .lload_n 1, 1, 0, 0, 0, .null), (18, .aload_n 0, 1, 0, 0, 0, .null), (19, .getfield 168, 3, 12, 10, 0, .null), (22, .ldc2_w 106, 3, 0, 0, 2, .long (-1)), (25, .lxor, 1, 0, 0, 0, .null), (26, .land, 1, 0, 0, 0, .null), (27, .lstore 4, 2, 0, 0, 0, .null), (29, .aload_n 0, 1, 0, 0, 0, .null), (30, .getfield 168, 3, 12, 10, 0, .null), (33, .lstore 6, 2, 0, 0, 0, .null), (35, .aload_n 0, 1, 0, 0, 0, .null), (36, .getfield 108, 3, 12, 51, 0, .null), (39, .lstore 8, 2, 0, 0, 0, .null), (41, .aload_n 0, 1, 0, 0, 0, .null), (42, .getfield 379, 3, 12, 50, 0, .null), (45, .istore 10, 2, 0, 0, 0, .null), (47, .iconst 0, 1, 0, 0, 0, .null), (48, .istore 11, 2, 0, 0, 0, .null), (50, .iload 11, 2, 0, 0, 0, .null), (52, .bipush 31, 2, 0, 0, 0, .null), (54, .if_icmp .ge 37, 3, 0, 0, 0, .null), (57, .aload_n 0, 1, 0, 0, 0, .null), (58, .getfield 112, 3, 12, 52, 0, .null), (61, .iload 11, 2, 0, 0, 0, .null), (63, .aload_n 0, 1, 0, 0, 0, .null), (64, .getfield 100, 3, 12, 48, 0, .null), (67, .iload 11, 2, 0, 0, 0, .null), (69, .iaload, 1, 0, 0, 0, .null), (70, .iastore, 1, 0, 0, 0, .null), (71, .aload_n 0, 1, 0, 0, 0, .null), (72, .getfield 115, 3, 12, 53, 0, .null), (75, .iload 11, 2, 0, 0, 0, .null), (77, .aload_n 0, 1, 0, 0, 0, .null), (78, .getfield 103, 3, 12, 49, 0, .null), (81, .iload 11, 2, 0, 0, 0, .null), (83, .iaload, 1, 0, 0, 0, .null), (84, .iastore, 1, 0, 0, 0, .null), (85, .iinc 11 1, 3, 0, 0, 0, .null), (88, .goto (-38), 3, 0, 0, 0, .null), (91, .bipush (-2), 2, 0, 0, 0, .null), (93, .istore 11, 2, 0, 0, 0, .null)]
def qx_c251_1 : List (Nat × Instr × Nat × Nat × Nat × Nat × Value) := [(95, .bipush 99, 2, 0, 0, 0, .null), (97, .istore 12, 2, 0, 0, 0, .null), (99, .iconst 0, 1, 0, 0, 0, .null), (100, .istore 13, 2, 0, 0, 0, .null), (102, .iload 13, 2, 0, 0, 0, .null), (104, .aload_n 0, 1, 0, 0, 0, .null), (105, .getfield 145, 3, 12, 6, 0, .null), (108, .if_icmp .ge 115, 3, 0, 0, 0, .null), (111, .iconst 0, 1, 0, 0, 0, .null), (112, .istore 14, 2, 0, 0, 0, .null), (114, .iload 14, 2, 0, 0, 0, .null), (116, .aload_n 0, 1, 0, 0, 0, .null), (117, .getfield 145, 3, 12, 6, 0, .null), (120, .if_icmp .ge 97, 3, 0, 0, 0, .null), (123, .iload 13, 2, 0, 0, 0, .null), (125, .iload 14, 2, 0, 0, 0, .null), (127, .if_icmp .eq 84, 3, 0, 0, 0, .null), (130, .lload 4, 2, 0, 0, 0, .null), (132, .iload 13, 2, 0, 0, 0, .null), (134, .invokestatic 329, 3, 225, 2, 2, .null), (137, .ifCond .eq 74, 3, 0, 0, 0, .null), (140, .lload 4, 2, 0, 0, 0, .null), (142, .iload 14, 2, 0, 0, 0, .null), (144, .invokestatic 329, 3, 225, 2, 2, .null), (147, .ifCond .ne 6, 3, 0, 0, 0, .null), (150, .goto 61, 3, 0, 0, 0, .null), (153, .aload_n 0, 1, 0, 0, 0, .null), (154, .bipush 100, 2, 0, 0, 0, .null), (156, .iload 13, 2, 0, 0, 0, .null), (158, .imul, 1, 0, 0, 0, .null), (159, .iload 14, 2, 0, 0, 0, .null), (161, .iadd, 1, 0, 0, 0, .null), (162, .lload 4, 2, 0, 0, 0, .null), (164, .iload_n 3, 1, 0, 0, 0, .null), (165, .iconst 0, 1, 0, 0, 0, .null), (166, .invokevirtual 394, 3, 245, 4, 0, .ref 12), (169, .aload_n 0, 1, 0, 0, 0, .null), (170, .lload 6, 2, 0, 0, 0, .null), (172, .putfield 168, 3, 12, 10, 0, .null), (175, .aload_n 0, 1, 0, 0, 0, .null), (176, .lconst 0, 1, 0, 0, 0, .null), (177, .putfield 247, 3, 12, 29, 0, .null), (180, .aload_n 0, 1, 0, 0, 0, .null), (181, .getfield 108, 3, 12, 51, 0, .null), (184, .invokestatic 398, 3, 252, 1, 2, .null), (187, .iload 12, 2, 0, 0, 0, .null), (189, .if_icmp .ge 22, 3, 0, 0, 0, .null), (192, .bipush 100, 2, 0, 0, 0, .null), (194, .iload 13, 2, 0, 0, 0, .null), (196, .imul, 1, 0, 0, 0, .null)]
def qx_c251_2 : List (Nat × Instr × Nat × Nat × Nat × Nat × Value) := [(197, .iload 14, 2, 0, 0, 0, .null), (199, .iadd, 1, 0, 0, 0, .null), (200, .istore 11, 2, 0, 0, 0, .null), (202, .aload_n 0, 1, 0, 0, 0, .null), (203, .getfield 108, 3, 12, 51, 0, .null), (206, .invokestatic 398, 3, 252, 1, 2, .null), (209, .istore 12, 2, 0, 0, 0, .null), (211, .iinc 14 1, 3, 0, 0, 0, .null), (214, .goto (-100), 3, 0, 0, 0, .null), (217, .iinc 13 1, 3, 0, 0, 0, .null), (220, .goto (-118), 3, 0, 0, 0, .null), (223, .aload_n 0, 1, 0, 0, 0, .null), (224, .lload 8, 2, 0, 0, 0, .null), (226, .putfield 108, 3, 12, 51, 0, .null), (229, .aload_n 0, 1, 0, 0, 0, .null), (230, .iload 10, 2, 0, 0, 0, .null), (232, .putfield 379, 3, 12, 50, 0, .null), (235, .iconst 0, 1, 0, 0, 0, .null), (236, .istore 13, 2, 0, 0, 0, .null), (238, .iload 13, 2, 0, 0, 0, .null), (240, .bipush 31, 2, 0, 0, 0, .null), (242, .if_icmp .ge 37, 3, 0, 0, 0, .null), (245, .aload_n 0, 1, 0, 0, 0, .null), (246, .getfield 100, 3, 12, 48, 0, .null), (249, .iload 13, 2, 0, 0, 0, .null), (251, .aload_n 0, 1, 0, 0, 0, .null), (252, .getfield 112, 3, 12, 52, 0, .null), (255, .iload 13, 2, 0, 0, 0, .null), (257, .iaload, 1, 0, 0, 0, .null), (258, .iastore, 1, 0, 0, 0, .null), (259, .aload_n 0, 1, 0, 0, 0, .null), (260, .getfield 103, 3, 12, 49, 0, .null), (263, .iload 13, 2, 0, 0, 0, .null), (265, .aload_n 0, 1, 0, 0, 0, .null), (266, .getfield 115, 3, 12, 53, 0, .null), (269, .iload 13, 2, 0, 0, 0, .null), (271, .iaload, 1, 0, 0, 0, .null), (272, .iastore, 1, 0, 0, 0, .null), (273, .iinc 13 1, 3, 0, 0, 0, .null), (276, .goto (-38), 3, 0, 0, 0, .null), (279, .iload 11, 2, 0, 0, 0, .null), (281, .ireturn, 1, 0, 0, 0, .null)]
def qx_c251 : List (Nat × Instr × Nat × Nat × Nat × Nat × Value) := qx_c251_0 ++ (qx_c251_1 ++ (qx_c251_2))
/-- OneRoofModel.bitsIn(J)I -/
def qx_c252 : List (Nat × Instr × Nat × Nat × Nat × Nat × Value) := [(0, .iconst 0, 1, 0, 0, 0, .null), (1, .istore_n 2, 1, 0, 0, 0, .null), (2, .lload_n 0, 1, 0, 0, 0, .null), (3, .lstore_n 3, 1, 0, 0, 0, .null), (4, .lload_n 3, 1, 0, 0, 0, .null), (5, .lconst 0, 1, 0, 0, 0, .null), (6, .lcmp, 1, 0, 0, 0, .null), (7, .ifCond .eq 15, 3, 0, 0, 0, .null), (10, .iinc 2 1, 3, 0, 0, 0, .null), (13, .lload_n 3, 1, 0, 0, 0, .null), (14, .lload_n 3, 1, 0, 0, 0, .null), (15, .lconst 1, 1, 0, 0, 0, .null), (16, .lsub, 1, 0, 0, 0, .null), (17, .land, 1, 0, 0, 0, .null), (18, .lstore_n 3, 1, 0, 0, 0, .null), (19, .goto (-15), 3, 0, 0, 0, .null), (22, .iload_n 2, 1, 0, 0, 0, .null), (23, .ireturn, 1, 0, 0, 0, .null)]
/-- OneRoofModel.wed(III)I -/
def qx_c253_0 : List (Nat × Instr × Nat × Nat × Nat × Nat × Value) := [(0, .aload_n 0, 1, 0, 0, 0, .null), (1, .iload_n 1, 1, 0, 0, 0, .null), (2, .invokevirtual 197, 3, 190, 1, 0, .ref 12), (5, .ifCond .eq 35, 3, 0, 0, 0, .null), (8, .aload_n 0, 1, 0, 0, 0, .null), (9, .iload_n 1, 1, 0, 0, 0, .null), (10, .bipush 100, 2, 0, 0, 0, .null), (12, .idiv, 1, 0, 0, 0, .null), (13, .iload_n 1, 1, 0, 0, 0, .null), (14, .bipush 100, 2, 0, 0, 0, .null), (16, .irem, 1, 0, 0, 0, .null), (17, .invokevirtual 184, 3, 184, 2, 0, .ref 12), (20, .ifCond .ne 20, 3, 0, 0, 0, .null), (23, .iload_n 2, 1, 0, 0, 0, .null), (24, .invokestatic 200, 3, 191, 1, 2, .null), (27, .ifCond .eq 13, 3, 0, 0, 0, .null), (30, .iload_n 3, 1, 0, 0, 0, .null), (31, .i2l, 1, 0, 0, 0, .null), (32, .lconst 0, 1, 0, 0, 0, .null), (33, .lconst 1, 1, 0, 0, 0, .null), (34, .invokestatic 5, 3, 175, 3, 2, .null), (37, .ifCond .ne 5, 3, 0, 0, 0, .null), (40, .iconst (-1), 1, 0, 0, 0, .null), (41, .ireturn, 1, 0, 0, 0, .null), (42, .iconst 0, 1, 0, 0, 0, .null), (43, .istore 4, 2, 0, 0, 0, .null), (45, .iconst 0, 1, 0, 0, 0, .null), (46, .istore 5, 2, 0, 0, 0, .null), (48, .iload 5, 2, 0, 0, 0, .null), (50, .aload_n 0, 1, 0, 0, 0, .null), (51, .getfield 145, 3, 12, 6, 0, .null), (54, .if_icmp .ge 94, 3, 0, 0, 0, .null), (57, .iconst 0, 1, 0, 0, 0, .null), (58, .istore 6, 2, 0, 0, 0, .null), (60, .iload 6, 2, 0, 0, 0, .null), (62, .iload 5, 2, 0, 0, 0, .null), (64, .if_icmp .ge 78, 3, 0, 0, 0, .null), (67, .aload_n 0, 1, 0, 0, 0, .null), (68, .iload 5, 2, 0, 0, 0, .null), (70, .invokevirtual 174, 3, 180, 1, 0, .ref 12), (73, .ifCond .ne 30, 3, 0, 0, 0, .null), (76, .aload_n 0, 1, 0, 0, 0, .null), (77, .iload 6, 2, 0, 0, 0, .null), (79, .invokevirtual 174, 3, 180, 1, 0, .ref 12), (82, .ifCond .ne 21, 3, 0, 0, 0, .null), (85, .aload_n 0, 1, 0, 0, 0, .null), (86, .iload 5, 2, 0, 0, 0, .null), (88, .iload 6, 2, 0, 0, 0, .null), (90, .iload_n 2, 1, 0, 0, 0, .null), (91, .invokevirtual 222, 3, 194, 3, 0, .ref 12)]
def qx_c253_1 : List (Nat × Instr × Nat × Nat × Nat × Nat × Value) := [(94, .bipush 99, 2, 0, 0, 0, .null), (96, .if_icmp .eq 7, 3, 0, 0, 0, .null), (99, .iconst 1, 1, 0, 0, 0, .null), (100, .goto 4, 3, 0, 0, 0, .null), (103, .iconst 0, 1, 0, 0, 0, .null), (104, .istore 7, 2, 0, 0, 0, .null), (106, .aload_n 0, 1, 0, 0, 0, .null), (107, .getfield 118, 3, 12, 54, 0, .null), (110, .bipush 32, 2, 0, 0, 0, .null), (112, .iload 5, 2, 0, 0, 0, .null), (114, .imul, 1, 0, 0, 0, .null), (115, .iload 6, 2, 0, 0, 0, .null), (117, .iadd, 1, 0, 0, 0, .null), (118, .iload 7, 2, 0, 0, 0, .null), (120, .bastore, 1, 0, 0, 0, .null), (121, .iload 4, 2, 0, 0, 0, .null), (123, .iload 7, 2, 0, 0, 0, .null), (125, .ifCond .eq 7, 3, 0, 0, 0, .null), (128, .iconst 1, 1, 0, 0, 0, .null), (129, .goto 4, 3, 0, 0, 0, .null), (132, .iconst 0, 1, 0, 0, 0, .null), (133, .iadd, 1, 0, 0, 0, .null), (134, .istore 4, 2, 0, 0, 0, .null), (136, .iinc 6 1, 3, 0, 0, 0, .null), (139, .goto (-79), 3, 0, 0, 0, .null), (142, .iinc 5 1, 3, 0, 0, 0, .null), (145, .goto (-97), 3, 0, 0, 0, .null), (148, .iload_n 3, 1, 0, 0, 0, .null), (149, .iconst 1, 1, 0, 0, 0, .null), (150, .if_icmp .ne 6, 3, 0, 0, 0, .null), (153, .iload 4, 2, 0, 0, 0, .null), (155, .ireturn, 1, 0, 0, 0, .null), (156, .aload_n 0, 1, 0, 0, 0, .null), (157, .getfield 37, 3, 12, 12, 0, .null), (160, .aload_n 0, 1, 0, 0, 0, .null), (161, .getfield 181, 3, 12, 11, 0, .null), (164, .iload_n 1, 1, 0, 0, 0, .null), (165, .bipush 100, 2, 0, 0, 0, .null), (167, .idiv, 1, 0, 0, 0, .null), (168, .iastore, 1, 0, 0, 0, .null), (169, .aload_n 0, 1, 0, 0, 0, .null), (170, .getfield 40, 3, 12, 13, 0, .null), (173, .aload_n 0, 1, 0, 0, 0, .null), (174, .getfield 181, 3, 12, 11, 0, .null), (177, .iload_n 1, 1, 0, 0, 0, .null), (178, .bipush 100, 2, 0, 0, 0, .null), (180, .irem, 1, 0, 0, 0, .null), (181, .iastore, 1, 0, 0, 0, .null), (182, .aload_n 0, 1, 0, 0, 0, .null), (183, .dup, 1, 0, 0, 0, .null)]
def qx_c253_2 : List (Nat × Instr × Nat × Nat × Nat × Nat × Value) := [(184, .getfield 181, 3, 12, 11, 0, .null), (187, .iconst 1, 1, 0, 0, 0, .null), (188, .iadd, 1, 0, 0, 0, .null), (189, .putfield 181, 3, 12, 11, 0, .null), (192, .aload_n 0, 1, 0, 0, 0, .null), (193, .iconst 0, 1, 0, 0, 0, .null), (194, .putfield 154, 3, 12, 15, 0, .null), (197, .iconst 0, 1, 0, 0, 0, .null), (198, .istore 5, 2, 0, 0, 0, .null), (200, .iconst 0, 1, 0, 0, 0, .null), (201, .istore 6, 2, 0, 0, 0, .null), (203, .iload 6, 2, 0, 0, 0, .null), (205, .aload_n 0, 1, 0, 0, 0, .null), (206, .getfield 145, 3, 12, 6, 0, .null), (209, .if_icmp .ge 83, 3, 0, 0, 0, .null), (212, .iconst 0, 1, 0, 0, 0, .null), (213, .istore 7, 2, 0, 0, 0, .null), (215, .iload 7, 2, 0, 0, 0, .null), (217, .iload 6, 2, 0, 0, 0, .null), (219, .if_icmp .ge 67, 3, 0, 0, 0, .null), (222, .iload 5, 2, 0, 0, 0, .null), (224, .aload_n 0, 1, 0, 0, 0, .null), (225, .getfield 118, 3, 12, 54, 0, .null), (228, .bipush 32, 2, 0, 0, 0, .null), (230, .iload 6, 2, 0, 0, 0, .null), (232, .imul, 1, 0, 0, 0, .null), (233, .iload 7, 2, 0, 0, 0, .null), (235, .iadd, 1, 0, 0, 0, .null), (236, .baload, 1, 0, 0, 0, .null), (237, .ifCond .ne 39, 3, 0, 0, 0, .null), (240, .aload_n 0, 1, 0, 0, 0, .null), (241, .iload 6, 2, 0, 0, 0, .null), (243, .invokevirtual 174, 3, 180, 1, 0, .ref 12), (246, .ifCond .ne 30, 3, 0, 0, 0, .null), (249, .aload_n 0, 1, 0, 0, 0, .null), (250, .iload 7, 2, 0, 0, 0, .null), (252, .invokevirtual 174, 3, 180, 1, 0, .ref 12), (255, .ifCond .ne 21, 3, 0, 0, 0, .null), (258, .aload_n 0, 1, 0, 0, 0, .null), (259, .iload 6, 2, 0, 0, 0, .null), (261, .iload 7, 2, 0, 0, 0, .null), (263, .iload_n 2, 1, 0, 0, 0, .null), (264, .invokevirtual 222, 3, 194, 3, 0, .ref 12), (267, .bipush 99, 2, 0, 0, 0, .null), (269, .if_icmp .eq 7, 3, 0, 0, 0, .null), (272, .iconst 1, 1, 0, 0, 0, .null), (273, .goto 4, 3, 0, 0, 0, .null), (276, .iconst 0, 1, 0, 0, 0, .null), (277, .iadd, 1, 0, 0, 0, .null), (278, .istore 5, 2, 0, 0, 0, .null)]
def qx_c253_3 : List (Nat × Instr × Nat × Nat × Nat × Nat × Value) := [(280, .iinc 7 1, 3, 0, 0, 0, .null), (283, .goto (-68), 3, 0, 0, 0, .null), (286, .iinc 6 1, 3, 0, 0, 0, .null), (289, .goto (-86), 3, 0, 0, 0, .null), (292, .aload_n 0, 1, 0, 0, 0, .null), (293, .dup, 1, 0, 0, 0, .null), (294, .getfield 181, 3, 12, 11, 0, .null), (297, .iconst 1, 1, 0, 0, 0, .null), (298, .isub, 1, 0, 0, 0, .null), (299, .putfield 181, 3, 12, 11, 0, .null), (302, .aload_n 0, 1, 0, 0, 0, .null), (303, .iconst 0, 1, 0, 0, 0, .null), (304, .putfield 154, 3, 12, 15, 0, .null), (307, .iload 5, 2, 0, 0, 0, .null), (309, .ireturn, 1, 0, 0, 0, .null)]
def qx_c253 : List (Nat × Instr × Nat × Nat × Nat × Nat × Value) := qx_c253_0 ++ (qx_c253_1 ++ (qx_c253_2 ++ (qx_c253_3)))
/-- OneRoofModel.act(III)I -/
def qx_c254 : List (Nat × Instr × Nat × Nat × Nat × Nat × Value) := [(0, .aload_n 0, 1, 0, 0, 0, .null), (1, .iconst 0, 1, 0, 0, 0, .null), (2, .putfield 402, 3, 12, 56, 0, .null), (5, .aload_n 0, 1, 0, 0, 0, .null), (6, .iload_n 1, 1, 0, 0, 0, .null), (7, .invokevirtual 234, 3, 199, 1, 0, .ref 12), (10, .ifCond .ne 5, 3, 0, 0, 0, .null), (13, .iconst 0, 1, 0, 0, 0, .null), (14, .ireturn, 1, 0, 0, 0, .null), (15, .aload_n 0, 1, 0, 0, 0, .null), (16, .aload_n 0, 1, 0, 0, 0, .null), (17, .iload_n 1, 1, 0, 0, 0, .null), (18, .invokevirtual 237, 3, 200, 1, 0, .ref 12), (21, .putfield 411, 3, 12, 57, 0, .null), (24, .aload_n 0, 1, 0, 0, 0, .null), (25, .iload_n 1, 1, 0, 0, 0, .null), (26, .putfield 417, 3, 12, 58, 0, .null), (29, .iload_n 2, 1, 0, 0, 0, .null), (30, .tableswitch 70 0 3 #[30, 40, 50, 60], 30, 0, 0, 0, .null), (60, .aload_n 0, 1, 0, 0, 0, .null), (61, .aload_n 0, 1, 0, 0, 0, .null), (62, .getfield 411, 3, 12, 57, 0, .null), (65, .iload_n 3, 1, 0, 0, 0, .null), (66, .invokevirtual 408, 3, 255, 2, 0, .ref 12), (69, .ireturn, 1, 0, 0, 0, .null), (70, .aload_n 0, 1, 0, 0, 0, .null), (71, .aload_n 0, 1, 0, 0, 0, .null), (72, .getfield 411, 3, 12, 57, 0, .null), (75, .iload_n 3, 1, 0, 0, 0, .null), (76, .invokevirtual 420, 3, 258, 2, 0, .ref 12), (79, .ireturn, 1, 0, 0, 0, .null), (80, .aload_n 0, 1, 0, 0, 0, .null), (81, .aload_n 0, 1, 0, 0, 0, .null), (82, .getfield 411, 3, 12, 57, 0, .null), (85, .iload_n 3, 1, 0, 0, 0, .null), (86, .invokevirtual 414, 3, 257, 2, 0, .ref 12), (89, .ireturn, 1, 0, 0, 0, .null), (90, .aload_n 0, 1, 0, 0, 0, .null), (91, .aload_n 0, 1, 0, 0, 0, .null), (92, .getfield 411, 3, 12, 57, 0, .null), (95, .iload_n 3, 1, 0, 0, 0, .null), (96, .invokevirtual 423, 3, 259, 2, 0, .ref 12), (99, .ireturn, 1, 0, 0, 0, .null), (100, .iconst 0, 1, 0, 0, 0, .null), (101, .ireturn, 1, 0, 0, 0, .null)]
/-- OneRoofModel.holdsAs(II)I -/
def qx_c255 : List (Nat × Instr × Nat × Nat × Nat × Nat × Value) := [(0, .iload_n 1, 1, 0, 0, 0, .null), (1, .iconst 2, 1, 0, 0, 0, .null), (2, .if_icmp .ne 18, 3, 0, 0, 0, .null), (5, .aload_n 0, 1, 0, 0, 0, .null), (6, .bipush 31, 2, 0, 0, 0, .null), (8, .invokevirtual 405, 3, 256, 1, 0, .ref 12), (11, .aload_n 0, 1, 0, 0, 0, .null), (12, .iconst 1, 1, 0, 0, 0, .null), (13, .iload_n 2, 1, 0, 0, 0, .null), (14, .iconst 1, 1, 0, 0, 0, .null), (15, .iadd, 1, 0, 0, 0, .null), (16, .invokevirtual 408, 3, 255, 2, 0, .ref 12), (19, .ireturn, 1, 0, 0, 0, .null), (20, .iload_n 1, 1, 0, 0, 0, .null), (21, .iconst 1, 1, 0, 0, 0, .null), (22, .if_icmp .ne 18, 3, 0, 0, 0, .null), (25, .aload_n 0, 1, 0, 0, 0, .null), (26, .bipush 20, 2, 0, 0, 0, .null), (28, .invokevirtual 405, 3, 256, 1, 0, .ref 12), (31, .aload_n 0, 1, 0, 0, 0, .null), (32, .iconst 0, 1, 0, 0, 0, .null), (33, .iload_n 2, 1, 0, 0, 0, .null), (34, .invokevirtual 408, 3, 255, 2, 0, .ref 12), (37, .iconst 3, 1, 0, 0, 0, .null), (38, .iadd, 1, 0, 0, 0, .null), (39, .ireturn, 1, 0, 0, 0, .null), (40, .iload_n 1, 1, 0, 0, 0, .null), (41, .iconst 5, 1, 0, 0, 0, .null), (42, .if_icmp .ne 28, 3, 0, 0, 0, .null), (45, .aload_n 0, 1, 0, 0, 0, .null), (46, .bipush 60, 2, 0, 0, 0, .null), (48, .invokevirtual 405, 3, 256, 1, 0, .ref 12), (51, .aload_n 0, 1, 0, 0, 0, .null), (52, .iconst 4, 1, 0, 0, 0, .null), (53, .iload_n 2, 1, 0, 0, 0, .null), (54, .invokevirtual 408, 3, 255, 2, 0, .ref 12), (57, .istore_n 3, 1, 0, 0, 0, .null), (58, .iload_n 3, 1, 0, 0, 0, .null), (59, .aload_n 0, 1, 0, 0, 0, .null), (60, .aload_n 0, 1, 0, 0, 0, .null), (61, .getfield 411, 3, 12, 57, 0, .null), (64, .iconst 2, 1, 0, 0, 0, .null), (65, .invokevirtual 414, 3, 257, 2, 0, .ref 12), (68, .isub, 1, 0, 0, 0, .null), (69, .ireturn, 1, 0, 0, 0, .null), (70, .aload_n 0, 1, 0, 0, 0, .null), (71, .iconst 1, 1, 0, 0, 0, .null), (72, .invokevirtual 405, 3, 256, 1, 0, .ref 12), (75, .iload_n 2, 1, 0, 0, 0, .null), (76, .aload_n 0, 1, 0, 0, 0, .null), (77, .getfield 417, 3, 12, 58, 0, .null), (80, .iadd, 1, 0, 0, 0, .null), (81, .ireturn, 1, 0, 0, 0, .null)]
/-- OneRoofModel.begins(I)V -/
def qx_c256 : List (Nat × Instr × Nat × Nat × Nat × Nat × Value) := [(0, .aload_n 0, 1, 0, 0, 0, .null), (1, .getfield 402, 3, 12, 56, 0, .null), (4, .bipush 24, 2, 0, 0, 0, .null), (6, .if_icmp .ge 13, 3, 0, 0, 0, .null), (9, .aload_n 0, 1, 0, 0, 0, .null), (10, .getfield 122, 3, 12, 55, 0, .null), (13, .aload_n 0, 1, 0, 0, 0, .null), (14, .getfield 402, 3, 12, 56, 0, .null), (17, .iload_n 1, 1, 0, 0, 0, .null), (18, .iastore, 1, 0, 0, 0, .null), (19, .aload_n 0, 1, 0, 0, 0, .null), (20, .dup, 1, 0, 0, 0, .null), (21, .getfield 402, 3, 12, 56, 0, .null), (24, .iconst 1, 1, 0, 0, 0, .null), (25, .iadd, 1, 0, 0, 0, .null), (26, .putfield 402, 3, 12, 56, 0, .null), (29, .return_, 1, 0, 0, 0, .null)]
/-- OneRoofModel.endsAs(II)I -/
def qx_c257 : List (Nat × Instr × Nat × Nat × Nat × Nat × Value) := [(0, .iload_n 1, 1, 0, 0, 0, .null), (1, .iconst 2, 1, 0, 0, 0, .null), (2, .if_icmp .ne 18, 3, 0, 0, 0, .null), (5, .aload_n 0, 1, 0, 0, 0, .null), (6, .bipush 30, 2, 0, 0, 0, .null), (8, .invokevirtual 405, 3, 256, 1, 0, .ref 12), (11, .aload_n 0, 1, 0, 0, 0, .null), (12, .iconst 1, 1, 0, 0, 0, .null), (13, .iload_n 2, 1, 0, 0, 0, .null), (14, .invokevirtual 414, 3, 257, 2, 0, .ref 12), (17, .iconst 3, 1, 0, 0, 0, .null), (18, .imul, 1, 0, 0, 0, .null), (19, .ireturn, 1, 0, 0, 0, .null), (20, .iload_n 1, 1, 0, 0, 0, .null), (21, .bipush 6, 2, 0, 0, 0, .null), (23, .if_icmp .ne 28, 3, 0, 0, 0, .null), (26, .aload_n 0, 1, 0, 0, 0, .null), (27, .bipush 70, 2, 0, 0, 0, .null), (29, .invokevirtual 405, 3, 256, 1, 0, .ref 12), (32, .aload_n 0, 1, 0, 0, 0, .null), (33, .iconst 0, 1, 0, 0, 0, .null), (34, .iload_n 2, 1, 0, 0, 0, .null), (35, .invokevirtual 414, 3, 257, 2, 0, .ref 12), (38, .istore_n 3, 1, 0, 0, 0, .null), (39, .iload_n 3, 1, 0, 0, 0, .null), (40, .aload_n 0, 1, 0, 0, 0, .null), (41, .aload_n 0, 1, 0, 0, 0, .null), (42, .getfield 411, 3, 12, 57, 0, .null), (45, .iconst 1, 1, 0, 0, 0, .null), (46, .invokevirtual 408, 3, 255, 2, 0, .ref 12), (49, .iadd, 1, 0, 0, 0, .null), (50, .ireturn, 1, 0, 0, 0, .null), (51, .aload_n 0, 1, 0, 0, 0, .null), (52, .bipush 11, 2, 0, 0, 0, .null), (54, .invokevirtual 405, 3, 256, 1, 0, .ref 12), (57, .iload_n 2, 1, 0, 0, 0, .null), (58, .aload_n 0, 1, 0, 0, 0, .null), (59, .getfield 417, 3, 12, 58, 0, .null), (62, .ixor, 1, 0, 0, 0, .null), (63, .ireturn, 1, 0, 0, 0, .null)]
/-- OneRoofModel.coversAs(II)I -/
def qx_c258 : List (Nat × Instr × Nat × Nat × Nat × Nat × Value) := [(0, .iload_n 1, 1, 0, 0, 0, .null), (1, .iconst 3, 1, 0, 0, 0, .null), (2, .if_icmp .ne 17, 3, 0, 0, 0, .null), (5, .aload_n 0, 1, 0, 0, 0, .null), (6, .bipush 40, 2, 0, 0, 0, .null), (8, .invokevirtual 405, 3, 256, 1, 0, .ref 12), (11, .aload_n 0, 1, 0, 0, 0, .null), (12, .iconst 0, 1, 0, 0, 0, .null), (13, .iload_n 2, 1, 0, 0, 0, .null), (14, .invokevirtual 420, 3, 258, 2, 0, .ref 12), (17, .ineg, 1, 0, 0, 0, .null), (18, .ireturn, 1, 0, 0, 0, .null), (19, .iload_n 1, 1, 0, 0, 0, .null), (20, .bipush 6, 2, 0, 0, 0, .null), (22, .if_icmp .ne 18, 3, 0, 0, 0, .null), (25, .aload_n 0, 1, 0, 0, 0, .null), (26, .bipush 71, 2, 0, 0, 0, .null), (28, .invokevirtual 405, 3, 256, 1, 0, .ref 12), (31, .aload_n 0, 1, 0, 0, 0, .null), (32, .iconst 0, 1, 0, 0, 0, .null), (33, .iload_n 2, 1, 0, 0, 0, .null), (34, .invokevirtual 420, 3, 258, 2, 0, .ref 12), (37, .iconst 2, 1, 0, 0, 0, .null), (38, .imul, 1, 0, 0, 0, .null), (39, .ireturn, 1, 0, 0, 0, .null), (40, .aload_n 0, 1, 0, 0, 0, .null), (41, .bipush 10, 2, 0, 0, 0, .null), (43, .invokevirtual 405, 3, 256, 1, 0, .ref 12), (46, .aload_n 0, 1, 0, 0, 0, .null), (47, .aload_n 0, 1, 0, 0, 0, .null), (48, .getfield 411, 3, 12, 57, 0, .null), (51, .iload_n 2, 1, 0, 0, 0, .null), (52, .invokevirtual 408, 3, 255, 2, 0, .ref 12), (55, .iconst 2, 1, 0, 0, 0, .null), (56, .imul, 1, 0, 0, 0, .null), (57, .ireturn, 1, 0, 0, 0, .null)]
/-- OneRoofModel.tellsAs(II)I -/
def qx_c259 : List (Nat × Instr × Nat × Nat × Nat × Nat × Value) := [(0, .iload_n 1, 1, 0, 0, 0, .null), (1, .iconst 4, 1, 0, 0, 0, .null), (2, .if_icmp .eq 8, 3, 0, 0, 0, .null), (5, .iload_n 1, 1, 0, 0, 0, .null), (6, .iconst 5, 1, 0, 0, 0, .null), (7, .if_icmp .ne 18, 3, 0, 0, 0, .null), (10, .aload_n 0, 1, 0, 0, 0, .null), (11, .bipush 50, 2, 0, 0, 0, .null), (13, .invokevirtual 405, 3, 256, 1, 0, .ref 12), (16, .aload_n 0, 1, 0, 0, 0, .null), (17, .iconst 0, 1, 0, 0, 0, .null), (18, .iload_n 2, 1, 0, 0, 0, .null), (19, .invokevirtual 423, 3, 259, 2, 0, .ref 12), (22, .iconst 5, 1, 0, 0, 0, .null), (23, .ixor, 1, 0, 0, 0, .null), (24, .ireturn, 1, 0, 0, 0, .null), (25, .aload_n 0, 1, 0, 0, 0, .null), (26, .iconst 2, 1, 0, 0, 0, .null), (27, .invokevirtual 405, 3, 256, 1, 0, .ref 12), (30, .aload_n 0, 1, 0, 0, 0, .null), (31, .aload_n 0, 1, 0, 0, 0, .null), (32, .getfield 411, 3, 12, 57, 0, .null), (35, .iload_n 2, 1, 0, 0, 0, .null), (36, .invokevirtual 420, 3, 258, 2, 0, .ref 12), (39, .istore_n 3, 1, 0, 0, 0, .null), (40, .iload_n 3, 1, 0, 0, 0, .null), (41, .aload_n 0, 1, 0, 0, 0, .null), (42, .aload_n 0, 1, 0, 0, 0, .null), (43, .getfield 411, 3, 12, 57, 0, .null), (46, .iconst 1, 1, 0, 0, 0, .null), (47, .invokevirtual 414, 3, 257, 2, 0, .ref 12), (50, .isub, 1, 0, 0, 0, .null), (51, .ireturn, 1, 0, 0, 0, .null)]
/-- OneRoofModel.trace(I)I -/
def qx_c260 : List (Nat × Instr × Nat × Nat × Nat × Nat × Value) := [(0, .iload_n 1, 1, 0, 0, 0, .null), (1, .ifCond .lt 26, 3, 0, 0, 0, .null), (4, .iload_n 1, 1, 0, 0, 0, .null), (5, .aload_n 0, 1, 0, 0, 0, .null), (6, .getfield 402, 3, 12, 56, 0, .null), (9, .if_icmp .ge 18, 3, 0, 0, 0, .null), (12, .iload_n 1, 1, 0, 0, 0, .null), (13, .bipush 24, 2, 0, 0, 0, .null), (15, .if_icmp .ge 12, 3, 0, 0, 0, .null), (18, .aload_n 0, 1, 0, 0, 0, .null), (19, .getfield 122, 3, 12, 55, 0, .null), (22, .iload_n 1, 1, 0, 0, 0, .null), (23, .iaload, 1, 0, 0, 0, .null), (24, .goto 4, 3, 0, 0, 0, .null), (27, .iconst (-1), 1, 0, 0, 0, .null), (28, .ireturn, 1, 0, 0, 0, .null)]
/-- OneRoofModel.keep(II)I -/
def qx_c261 : List (Nat × Instr × Nat × Nat × Nat × Nat × Value) := [(0, .iload_n 1, 1, 0, 0, 0, .null), (1, .invokestatic 158, 3, 177, 1, 2, .null), (4, .ifCond .eq 16, 3, 0, 0, 0, .null), (7, .iload_n 2, 1, 0, 0, 0, .null), (8, .iconst (-1), 1, 0, 0, 0, .null), (9, .if_icmp .eq 13, 3, 0, 0, 0, .null), (12, .aload_n 0, 1, 0, 0, 0, .null), (13, .iload_n 2, 1, 0, 0, 0, .null), (14, .invokevirtual 234, 3, 199, 1, 0, .ref 12), (17, .ifCond .ne 5, 3, 0, 0, 0, .null), (20, .iconst (-1), 1, 0, 0, 0, .null), (21, .ireturn, 1, 0, 0, 0, .null), (22, .aload_n 0, 1, 0, 0, 0, .null), (23, .getfield 125, 3, 12, 59, 0, .null), (26, .iload_n 1, 1, 0, 0, 0, .null), (27, .iload_n 2, 1, 0, 0, 0, .null), (28, .iastore, 1, 0, 0, 0, .null), (29, .aload_n 0, 1, 0, 0, 0, .null), (30, .getfield 128, 3, 12, 60, 0, .null), (33, .iload_n 1, 1, 0, 0, 0, .null), (34, .iconst 0, 1, 0, 0, 0, .null), (35, .iastore, 1, 0, 0, 0, .null), (36, .iconst 1, 1, 0, 0, 0, .null), (37, .ireturn, 1, 0, 0, 0, .null)]
/-- OneRoofModel.row(III)I -/
def qx_c262 : List (Nat × Instr × Nat × Nat × Nat × Nat × Value) := [(0, .iload_n 1, 1, 0, 0, 0, .null), (1, .invokestatic 158, 3, 177, 1, 2, .null), (4, .ifCond .eq 21, 3, 0, 0, 0, .null), (7, .iload_n 2, 1, 0, 0, 0, .null), (8, .i2l, 1, 0, 0, 0, .null), (9, .lconst 0, 1, 0, 0, 0, .null), (10, .ldc2_w 263, 3, 0, 0, 2, .long 4), (13, .invokestatic 5, 3, 175, 3, 2, .null), (16, .ifCond .eq 9, 3, 0, 0, 0, .null), (19, .iload_n 3, 1, 0, 0, 0, .null), (20, .bipush 60, 2, 0, 0, 0, .null), (22, .if_icmp .le 5, 3, 0, 0, 0, .null), (25, .iconst (-1), 1, 0, 0, 0, .null), (26, .ireturn, 1, 0, 0, 0, .null), (27, .iload_n 3, 1, 0, 0, 0, .null), (28, .ifCond .ge 6, 3, 0, 0, 0, .null), (31, .bipush (-14), 2, 0, 0, 0, .null), (33, .ireturn, 1, 0, 0, 0, .null), (34, .aload_n 0, 1, 0, 0, 0, .null), (35, .getfield 125, 3, 12, 59, 0, .null), (38, .iload_n 1, 1, 0, 0, 0, .null), (39, .bipush 60, 2, 0, 0, 0, .null), (41, .iload_n 2, 1, 0, 0, 0, .null), (42, .iadd, 1, 0, 0, 0, .null), (43, .iastore, 1, 0, 0, 0, .null), (44, .aload_n 0, 1, 0, 0, 0, .null), (45, .getfield 128, 3, 12, 60, 0, .null), (48, .iload_n 1, 1, 0, 0, 0, .null), (49, .iload_n 3, 1, 0, 0, 0, .null), (50, .iastore, 1, 0, 0, 0, .null), (51, .bipush 60, 2, 0, 0, 0, .null), (53, .iload_n 1, 1, 0, 0, 0, .null), (54, .imul, 1, 0, 0, 0, .null), (55, .istore 4, 2, 0, 0, 0, .null), (57, .iload 4, 2, 0, 0, 0, .null), (59, .bipush 60, 2, 0, 0, 0, .null), (61, .iload_n 1, 1, 0, 0, 0, .null), (62, .imul, 1, 0, 0, 0, .null), (63, .bipush 60, 2, 0, 0, 0, .null), (65, .iadd, 1, 0, 0, 0, .null), (66, .if_icmp .ge 17, 3, 0, 0, 0, .null), (69, .aload_n 0, 1, 0, 0, 0, .null), (70, .getfield 131, 3, 12, 61, 0, .null), (73, .iload 4, 2, 0, 0, 0, .null), (75, .lconst 0, 1, 0, 0, 0, .null), (76, .lastore, 1, 0, 0, 0, .null), (77, .iinc 4 1, 3, 0, 0, 0, .null), (80, .goto (-23), 3, 0, 0, 0, .null), (83, .iconst 1, 1, 0, 0, 0, .null), (84, .ireturn, 1, 0, 0, 0, .null)]
/-- OneRoofModel.put(IIJ)I -/
def qx_c263 : List (Nat × Instr × Nat × Nat × Nat × Nat × Value) := [(0, .aload_n 0, 1, 0, 0, 0, .null), (1, .iload_n 1, 1, 0, 0, 0, .null), (2, .iload_n 2, 1, 0, 0, 0, .null), (3, .invokevirtual 428, 3, 264, 2, 0, .ref 12), (6, .istore 5, 2, 0, 0, 0, .null), (8, .iload 5, 2, 0, 0, 0, .null), (10, .ifCond .ne 27, 3, 0, 0, 0, .null), (13, .aload_n 0, 1, 0, 0, 0, .null), (14, .getfield 131, 3, 12, 61, 0, .null), (17, .bipush 60, 2, 0, 0, 0, .null), (19, .iload_n 1, 1, 0, 0, 0, .null), (20, .imul, 1, 0, 0, 0, .null), (21, .iload_n 2, 1, 0, 0, 0, .null), (22, .iadd, 1, 0, 0, 0, .null), (23, .aload_n 0, 1, 0, 0, 0, .null), (24, .getfield 125, 3, 12, 59, 0, .null), (27, .iload_n 1, 1, 0, 0, 0, .null), (28, .iaload, 1, 0, 0, 0, .null), (29, .bipush 60, 2, 0, 0, 0, .null), (31, .isub, 1, 0, 0, 0, .null), (32, .lload_n 3, 1, 0, 0, 0, .null), (33, .invokestatic 431, 3, 265, 2, 2, .null), (36, .lastore, 1, 0, 0, 0, .null), (37, .iload 5, 2, 0, 0, 0, .null), (39, .ifCond .ne 7, 3, 0, 0, 0, .null), (42, .iconst 1, 1, 0, 0, 0, .null), (43, .goto 5, 3, 0, 0, 0, .null), (46, .iload 5, 2, 0, 0, 0, .null), (48, .ireturn, 1, 0, 0, 0, .null)]
/-- OneRoofModel.refusal(II)I -/
def qx_c264 : List (Nat × Instr × Nat × Nat × Nat × Nat × Value) := [(0, .iload_n 1, 1, 0, 0, 0, .null), (1, .invokestatic 158, 3, 177, 1, 2, .null), (4, .ifCond .ne 5, 3, 0, 0, 0, .null), (7, .iconst (-1), 1, 0, 0, 0, .null), (8, .ireturn, 1, 0, 0, 0, .null), (9, .aload_n 0, 1, 0, 0, 0, .null), (10, .getfield 125, 3, 12, 59, 0, .null), (13, .iload_n 1, 1, 0, 0, 0, .null), (14, .iaload, 1, 0, 0, 0, .null), (15, .ifCond .ge 6, 3, 0, 0, 0, .null), (18, .bipush (-11), 2, 0, 0, 0, .null), (20, .ireturn, 1, 0, 0, 0, .null), (21, .aload_n 0, 1, 0, 0, 0, .null), (22, .getfield 125, 3, 12, 59, 0, .null), (25, .iload_n 1, 1, 0, 0, 0, .null), (26, .iaload, 1, 0, 0, 0, .null), (27, .bipush 60, 2, 0, 0, 0, .null), (29, .if_icmp .ge 6, 3, 0, 0, 0, .null), (32, .bipush (-12), 2, 0, 0, 0, .null), (34, .ireturn, 1, 0, 0, 0, .null), (35, .iload_n 2, 1, 0, 0, 0, .null), (36, .ifCond .lt 17, 3, 0, 0, 0, .null), (39, .iload_n 2, 1, 0, 0, 0, .null), (40, .aload_n 0, 1, 0, 0, 0, .null), (41, .getfield 128, 3, 12, 60, 0, .null), (44, .iload_n 1, 1, 0, 0, 0, .null), (45, .iaload, 1, 0, 0, 0, .null), (46, .if_icmp .ge 7, 3, 0, 0, 0, .null), (49, .iconst 0, 1, 0, 0, 0, .null), (50, .goto 5, 3, 0, 0, 0, .null), (53, .bipush (-13), 2, 0, 0, 0, .null), (55, .ireturn, 1, 0, 0, 0, .null)]
/-- OneRoofModel.asSort(IJ)J -/
def qx_c265 : List (Nat × Instr × Nat × Nat × Nat × Nat × Value) := [(0, .iload_n 0, 1, 0, 0, 0, .null), (1, .ifCond .ne 10, 3, 0, 0, 0, .null), (4, .lload_n 1, 1, 0, 0, 0, .null), (5, .l2i, 1, 0, 0, 0, .null), (6, .i2b, 1, 0, 0, 0, .null), (7, .i2l, 1, 0, 0, 0, .null), (8, .goto 46, 3, 0, 0, 0, .null), (11, .iload_n 0, 1, 0, 0, 0, .null), (12, .iconst 1, 1, 0, 0, 0, .null), (13, .if_icmp .ne 10, 3, 0, 0, 0, .null), (16, .lload_n 1, 1, 0, 0, 0, .null), (17, .l2i, 1, 0, 0, 0, .null), (18, .i2s, 1, 0, 0, 0, .null), (19, .i2l, 1, 0, 0, 0, .null), (20, .goto 34, 3, 0, 0, 0, .null), (23, .iload_n 0, 1, 0, 0, 0, .null), (24, .iconst 2, 1, 0, 0, 0, .null), (25, .if_icmp .ne 9, 3, 0, 0, 0, .null), (28, .lload_n 1, 1, 0, 0, 0, .null), (29, .l2i, 1, 0, 0, 0, .null), (30, .i2l, 1, 0, 0, 0, .null), (31, .goto 23, 3, 0, 0, 0, .null), (34, .iload_n 0, 1, 0, 0, 0, .null), (35, .iconst 4, 1, 0, 0, 0, .null), (36, .if_icmp .ne 17, 3, 0, 0, 0, .null), (39, .lload_n 1, 1, 0, 0, 0, .null), (40, .lconst 0, 1, 0, 0, 0, .null), (41, .lcmp, 1, 0, 0, 0, .null), (42, .ifCond .eq 7, 3, 0, 0, 0, .null), (45, .lconst 1, 1, 0, 0, 0, .null), (46, .goto 8, 3, 0, 0, 0, .null), (49, .lconst 0, 1, 0, 0, 0, .null), (50, .goto 4, 3, 0, 0, 0, .null), (53, .lload_n 1, 1, 0, 0, 0, .null), (54, .lreturn, 1, 0, 0, 0, .null)]
/-- OneRoofModel.element(II)J -/
def qx_c266 : List (Nat × Instr × Nat × Nat × Nat × Nat × Value) := [(0, .aload_n 0, 1, 0, 0, 0, .null), (1, .iload_n 1, 1, 0, 0, 0, .null), (2, .iload_n 2, 1, 0, 0, 0, .null), (3, .invokevirtual 428, 3, 264, 2, 0, .ref 12), (6, .ifCond .eq 9, 3, 0, 0, 0, .null), (9, .ldc2_w 437, 3, 0, 0, 2, .long (-9223372036854775808)), (12, .goto 14, 3, 0, 0, 0, .null), (15, .aload_n 0, 1, 0, 0, 0, .null), (16, .getfield 131, 3, 12, 61, 0, .null), (19, .bipush 60, 2, 0, 0, 0, .null), (21, .iload_n 1, 1, 0, 0, 0, .null), (22, .imul, 1, 0, 0, 0, .null), (23, .iload_n 2, 1, 0, 0, 0, .null), (24, .iadd, 1, 0, 0, 0, .null), (25, .laload, 1, 0, 0, 0, .null), (26, .lreturn, 1, 0, 0, 0, .null)]
/-- OneRoofModel.shift(IIIII)I -/
def qx_c267_0 : List (Nat × Instr × Nat × Nat × Nat × Nat × Value) := [(0, .iload_n 1, 1, 0, 0, 0, .null), (1, .invokestatic 158, 3, 177, 1, 2, .null), (4, .ifCond .eq 10, 3, 0, 0, 0, .null), (7, .iload_n 3, 1, 0, 0, 0, .null), (8, .invokestatic 158, 3, 177, 1, 2, .null), (11, .ifCond .ne 5, 3, 0, 0, 0, .null), (14, .iconst (-1), 1, 0, 0, 0, .null), (15, .ireturn, 1, 0, 0, 0, .null), (16, .aload_n 0, 1, 0, 0, 0, .null), (17, .getfield 125, 3, 12, 59, 0, .null), (20, .iload_n 1, 1, 0, 0, 0, .null), (21, .iaload, 1, 0, 0, 0, .null), (22, .ifCond .lt 12, 3, 0, 0, 0, .null), (25, .aload_n 0, 1, 0, 0, 0, .null), (26, .getfield 125, 3, 12, 59, 0, .null), (29, .iload_n 3, 1, 0, 0, 0, .null), (30, .iaload, 1, 0, 0, 0, .null), (31, .ifCond .ge 6, 3, 0, 0, 0, .null), (34, .bipush (-11), 2, 0, 0, 0, .null), (36, .ireturn, 1, 0, 0, 0, .null), (37, .aload_n 0, 1, 0, 0, 0, .null), (38, .getfield 125, 3, 12, 59, 0, .null), (41, .iload_n 1, 1, 0, 0, 0, .null), (42, .iaload, 1, 0, 0, 0, .null), (43, .bipush 60, 2, 0, 0, 0, .null), (45, .if_icmp .lt 18, 3, 0, 0, 0, .null), (48, .aload_n 0, 1, 0, 0, 0, .null), (49, .getfield 125, 3, 12, 59, 0, .null), (52, .iload_n 1, 1, 0, 0, 0, .null), (53, .iaload, 1, 0, 0, 0, .null), (54, .aload_n 0, 1, 0, 0, 0, .null), (55, .getfield 125, 3, 12, 59, 0, .null), (58, .iload_n 3, 1, 0, 0, 0, .null), (59, .iaload, 1, 0, 0, 0, .null), (60, .if_icmp .eq 6, 3, 0, 0, 0, .null), (63, .bipush (-12), 2, 0, 0, 0, .null), (65, .ireturn, 1, 0, 0, 0, .null), (66, .iload 5, 2, 0, 0, 0, .null), (68, .ifCond .lt 39, 3, 0, 0, 0, .null), (71, .iload_n 2, 1, 0, 0, 0, .null), (72, .ifCond .lt 35, 3, 0, 0, 0, .null), (75, .iload 4, 2, 0, 0, 0, .null), (77, .ifCond .lt 30, 3, 0, 0, 0, .null), (80, .iload_n 2, 1, 0, 0, 0, .null), (81, .aload_n 0, 1, 0, 0, 0, .null), (82, .getfield 128, 3, 12, 60, 0, .null), (85, .iload_n 1, 1, 0, 0, 0, .null), (86, .iaload, 1, 0, 0, 0, .null), (87, .iload 5, 2, 0, 0, 0, .null), (89, .isub, 1, 0, 0, 0, .null)]
def qx_c267_1 : List (Nat × Instr × Nat × Nat × Nat × Nat × Value) := [(90, .if_icmp .gt 17, 3, 0, 0, 0, .null), (93, .iload 4, 2, 0, 0, 0, .null), (95, .aload_n 0, 1, 0, 0, 0, .null), (96, .getfield 128, 3, 12, 60, 0, .null), (99, .iload_n 3, 1, 0, 0, 0, .null), (100, .iaload, 1, 0, 0, 0, .null), (101, .iload 5, 2, 0, 0, 0, .null), (103, .isub, 1, 0, 0, 0, .null), (104, .if_icmp .le 6, 3, 0, 0, 0, .null), (107, .bipush (-13), 2, 0, 0, 0, .null), (109, .ireturn, 1, 0, 0, 0, .null), (110, .iconst 0, 1, 0, 0, 0, .null), (111, .istore 6, 2, 0, 0, 0, .null), (113, .iload 6, 2, 0, 0, 0, .null), (115, .iload 5, 2, 0, 0, 0, .null), (117, .if_icmp .ge 30, 3, 0, 0, 0, .null), (120, .aload_n 0, 1, 0, 0, 0, .null), (121, .getfield 135, 3, 12, 62, 0, .null), (124, .iload 6, 2, 0, 0, 0, .null), (126, .aload_n 0, 1, 0, 0, 0, .null), (127, .getfield 131, 3, 12, 61, 0, .null), (130, .bipush 60, 2, 0, 0, 0, .null), (132, .iload_n 1, 1, 0, 0, 0, .null), (133, .imul, 1, 0, 0, 0, .null), (134, .iload_n 2, 1, 0, 0, 0, .null), (135, .iadd, 1, 0, 0, 0, .null), (136, .iload 6, 2, 0, 0, 0, .null), (138, .iadd, 1, 0, 0, 0, .null), (139, .laload, 1, 0, 0, 0, .null), (140, .lastore, 1, 0, 0, 0, .null), (141, .iinc 6 1, 3, 0, 0, 0, .null), (144, .goto (-31), 3, 0, 0, 0, .null), (147, .iconst 0, 1, 0, 0, 0, .null), (148, .istore 6, 2, 0, 0, 0, .null), (150, .iload 6, 2, 0, 0, 0, .null), (152, .iload 5, 2, 0, 0, 0, .null), (154, .if_icmp .ge 31, 3, 0, 0, 0, .null), (157, .aload_n 0, 1, 0, 0, 0, .null), (158, .getfield 131, 3, 12, 61, 0, .null), (161, .bipush 60, 2, 0, 0, 0, .null), (163, .iload_n 3, 1, 0, 0, 0, .null), (164, .imul, 1, 0, 0, 0, .null), (165, .iload 4, 2, 0, 0, 0, .null), (167, .iadd, 1, 0, 0, 0, .null), (168, .iload 6, 2, 0, 0, 0, .null), (170, .iadd, 1, 0, 0, 0, .null), (171, .aload_n 0, 1, 0, 0, 0, .null), (172, .getfield 135, 3, 12, 62, 0, .null), (175, .iload 6, 2, 0, 0, 0, .null), (177, .laload, 1, 0, 0, 0, .null)]
def qx_c267_2 : List (Nat × Instr × Nat × Nat × Nat × Nat × Value) := [(178, .lastore, 1, 0, 0, 0, .null), (179, .iinc 6 1, 3, 0, 0, 0, .null), (182, .goto (-32), 3, 0, 0, 0, .null), (185, .iload 5, 2, 0, 0, 0, .null), (187, .ireturn, 1, 0, 0, 0, .null)]
def qx_c267 : List (Nat × Instr × Nat × Nat × Nat × Nat × Value) := qx_c267_0 ++ (qx_c267_1 ++ (qx_c267_2))
/-- OneRoofModel.taken(II)I -/
def qx_c268 : List (Nat × Instr × Nat × Nat × Nat × Nat × Value) := [(0, .iload_n 1, 1, 0, 0, 0, .null), (1, .invokestatic 158, 3, 177, 1, 2, .null), (4, .ifCond .eq 15, 3, 0, 0, 0, .null), (7, .iload_n 2, 1, 0, 0, 0, .null), (8, .i2l, 1, 0, 0, 0, .null), (9, .lconst 0, 1, 0, 0, 0, .null), (10, .ldc2_w 439, 3, 0, 0, 2, .long 6), (13, .invokestatic 5, 3, 175, 3, 2, .null), (16, .ifCond .ne 5, 3, 0, 0, 0, .null), (19, .iconst (-1), 1, 0, 0, 0, .null), (20, .ireturn, 1, 0, 0, 0, .null), (21, .aload_n 0, 1, 0, 0, 0, .null), (22, .getfield 125, 3, 12, 59, 0, .null), (25, .iload_n 1, 1, 0, 0, 0, .null), (26, .iaload, 1, 0, 0, 0, .null), (27, .ifCond .ge 6, 3, 0, 0, 0, .null), (30, .bipush (-11), 2, 0, 0, 0, .null), (32, .ireturn, 1, 0, 0, 0, .null), (33, .aload_n 0, 1, 0, 0, 0, .null), (34, .getfield 125, 3, 12, 59, 0, .null), (37, .iload_n 1, 1, 0, 0, 0, .null), (38, .iaload, 1, 0, 0, 0, .null), (39, .bipush 60, 2, 0, 0, 0, .null), (41, .if_icmp .lt 6, 3, 0, 0, 0, .null), (44, .bipush (-12), 2, 0, 0, 0, .null), (46, .ireturn, 1, 0, 0, 0, .null), (47, .aload_n 0, 1, 0, 0, 0, .null), (48, .aload_n 0, 1, 0, 0, 0, .null), (49, .getfield 125, 3, 12, 59, 0, .null), (52, .iload_n 1, 1, 0, 0, 0, .null), (53, .iaload, 1, 0, 0, 0, .null), (54, .invokevirtual 237, 3, 200, 1, 0, .ref 12), (57, .istore_n 3, 1, 0, 0, 0, .null), (58, .iload_n 3, 1, 0, 0, 0, .null), (59, .iload_n 2, 1, 0, 0, 0, .null), (60, .if_icmp .eq 15, 3, 0, 0, 0, .null), (63, .iload_n 3, 1, 0, 0, 0, .null), (64, .ifCond .le 11, 3, 0, 0, 0, .null), (67, .iload_n 3, 1, 0, 0, 0, .null), (68, .invokestatic 441, 3, 269, 1, 2, .null), (71, .istore_n 3, 1, 0, 0, 0, .null), (72, .goto (-14), 3, 0, 0, 0, .null), (75, .iload_n 3, 1, 0, 0, 0, .null), (76, .iload_n 2, 1, 0, 0, 0, .null), (77, .if_icmp .ne 16, 3, 0, 0, 0, .null), (80, .aload_n 0, 1, 0, 0, 0, .null), (81, .aload_n 0, 1, 0, 0, 0, .null), (82, .getfield 125, 3, 12, 59, 0, .null), (85, .iload_n 1, 1, 0, 0, 0, .null), (86, .iaload, 1, 0, 0, 0, .null), (87, .invokevirtual 237, 3, 200, 1, 0, .ref 12), (90, .goto 5, 3, 0, 0, 0, .null), (93, .bipush (-12), 2, 0, 0, 0, .null), (95, .ireturn, 1, 0, 0, 0, .null)]
/-- OneRoofModel.above(I)I -/
def qx_c269 : List (Nat × Instr × Nat × Nat × Nat × Nat × Value) := [(0, .iload_n 0, 1, 0, 0, 0, .null), (1, .iconst 2, 1, 0, 0, 0, .null), (2, .if_icmp .ne 7, 3, 0, 0, 0, .null), (5, .iconst 1, 1, 0, 0, 0, .null), (6, .goto 13, 3, 0, 0, 0, .null), (9, .iload_n 0, 1, 0, 0, 0, .null), (10, .iconst 5, 1, 0, 0, 0, .null), (11, .if_icmp .ne 7, 3, 0, 0, 0, .null), (14, .iconst 4, 1, 0, 0, 0, .null), (15, .goto 4, 3, 0, 0, 0, .null), (18, .iconst 0, 1, 0, 0, 0, .null), (19, .ireturn, 1, 0, 0, 0, .null)]
/-- OneRoofModel.count(I)I -/
def qx_c270 : List (Nat × Instr × Nat × Nat × Nat × Nat × Value) := [(0, .iload_n 1, 1, 0, 0, 0, .null), (1, .tableswitch 90 0 7 #[47, 52, 57, 62, 67, 72, 77, 85], 47, 0, 0, 0, .null), (48, .aload_n 0, 1, 0, 0, 0, .null), (49, .getfield 145, 3, 12, 6, 0, .null), (52, .ireturn, 1, 0, 0, 0, .null), (53, .aload_n 0, 1, 0, 0, 0, .null), (54, .getfield 181, 3, 12, 11, 0, .null), (57, .ireturn, 1, 0, 0, 0, .null), (58, .aload_n 0, 1, 0, 0, 0, .null), (59, .getfield 205, 3, 12, 16, 0, .null), (62, .ireturn, 1, 0, 0, 0, .null), (63, .aload_n 0, 1, 0, 0, 0, .null), (64, .getfield 225, 3, 12, 24, 0, .null), (67, .ireturn, 1, 0, 0, 0, .null), (68, .aload_n 0, 1, 0, 0, 0, .null), (69, .getfield 265, 3, 12, 32, 0, .null), (72, .ireturn, 1, 0, 0, 0, .null), (73, .aload_n 0, 1, 0, 0, 0, .null), (74, .getfield 138, 3, 12, 5, 0, .null), (77, .ireturn, 1, 0, 0, 0, .null), (78, .aload_n 0, 1, 0, 0, 0, .null), (79, .getfield 168, 3, 12, 10, 0, .null), (82, .invokestatic 398, 3, 252, 1, 2, .null), (85, .ireturn, 1, 0, 0, 0, .null), (86, .aload_n 0, 1, 0, 0, 0, .null), (87, .getfield 402, 3, 12, 56, 0, .null), (90, .ireturn, 1, 0, 0, 0, .null), (91, .iconst (-1), 1, 0, 0, 0, .null), (92, .ireturn, 1, 0, 0, 0, .null)]
def qx_mt0 : List (Nat × MethodName × ByteArray × Nat × Option FieldType × Nat × Nat × List (Nat × Instr × Nat × Nat × Nat × Nat × Value)) := [
  (0, ⟨"OneRoofLaw", "law", "([I)Z"⟩, code, 4, (some .boolean), 600000, 7302250, qx_c0),
  (1, ⟨"OneRoof", "<init>", "()V"⟩, prog_1_method_1_code, 1, none, 69, 11076, qx_c1),
  (2, ⟨"OneRoof$Folk", "<init>", "()V"⟩, prog_5_method_1_code, 1, none, 5, 160, qx_c2),
  (3, ⟨"OneRoof$Kinship", "<init>", "()V"⟩, prog_8_method_1_code, 2, none, 1, 1024, qx_c3),
  (4, ⟨"java/util/Arrays", "fill", "([II)V"⟩, prog_24_method_103_code, 4, none, 0, 0, qx_c4),
  (5, ⟨"OneRoof$Feuds", "<init>", "()V"⟩, prog_4_method_1_code, 1, none, 6, 240, qx_c5),
  (6, ⟨"OneRoof$Peaces", "<init>", "()V"⟩, prog_10_method_1_code, 1, none, 7, 420, qx_c6),
  (7, ⟨"OneRoof$Acts", "<init>", "()V"⟩, prog_2_method_1_code, 1, none, 1, 24, qx_c7),
  (8, ⟨"OneRoof$Pegs", "<init>", "()V"⟩, prog_11_method_1_code, 1, none, 4, 378, qx_c8),
  (9, ⟨"OneRoof$Custom", "<init>", "(Ljava/lang/String;)V"⟩, prog_3_method_1_code, 3, none, 3, 362, qx_c9),
  (10, ⟨"java/lang/String", "length", "()I"⟩, prog_20_method_54_code, 1, (some .int), 0, 0, qx_c10),
  (10, ⟨"java/lang/String", "coder", "()B"⟩, prog_20_method_152_code, 1, (some .byte), 0, 0, qx_c11),
  (11, ⟨"java/lang/Math", "min", "(II)I"⟩, prog_18_method_69_code, 2, (some .int), 0, 0, qx_c12),
  (10, ⟨"java/lang/String", "charAt", "(I)C"⟩, prog_20_method_56_code, 2, (some .char), 0, 0, qx_c13),
  (10, ⟨"java/lang/String", "isLatin1", "()Z"⟩, prog_20_method_154_code, 1, (some .boolean), 0, 0, qx_c14),
  (12, ⟨"java/lang/StringLatin1", "charAt", "([BI)C"⟩, prog_21_method_2_code, 2, (some .char), 0, 0, qx_c15),
  (10, ⟨"java/lang/String", "checkIndex", "(II)V"⟩, prog_20_method_155_code, 2, none, 0, 0, qx_c16),
  (13, ⟨"jdk/internal/util/Preconditions", "checkIndex", "(IILjava/util/function/BiFunction;)I"⟩, prog_25_method_11_code, 3, (some .int), 0, 0, qx_c17),
  (9, ⟨"OneRoof$Custom", "readLines", "()I"⟩, prog_3_method_4_code, 2, (some .int), 0, 0, qx_c18),
  (9, ⟨"OneRoof$Custom", "readLine", "()V"⟩, prog_3_method_5_code, 2, none, 0, 0, qx_c19),
  (9, ⟨"OneRoof$Custom", "readPart", "(II)V"⟩, prog_3_method_6_code, 5, none, 0, 0, qx_c20),
  (9, ⟨"OneRoof$Custom", "readOperand", "(I)V"⟩, prog_3_method_7_code, 4, none, 0, 0, qx_c21),
  (9, ⟨"OneRoof$Custom", "next", "()I"⟩, prog_3_method_10_code, 1, (some .int), 0, 0, qx_c22),
  (9, ⟨"OneRoof$Custom", "isDigit", "(I)Z"⟩, prog_3_method_12_code, 1, (some .boolean), 0, 0, qx_c23),
  (9, ⟨"OneRoof$Custom", "readNumber", "()V"⟩, prog_3_method_8_code, 3, none, 0, 0, qx_c24),
  (9, ⟨"OneRoof$Custom", "emit", "(II)I"⟩, prog_3_method_11_code, 3, (some .int), 0, 0, qx_c25),
  (10, ⟨"java/lang/String", "indexOf", "(I)I"⟩, prog_20_method_79_code, 2, (some .int), 0, 0, qx_c26),
  (10, ⟨"java/lang/String", "indexOf", "(II)I"⟩, prog_20_method_80_code, 3, (some .int), 0, 0, qx_c27),
  (12, ⟨"java/lang/StringLatin1", "indexOf", "([BIII)I"⟩, prog_21_method_22_code, 4, (some .int), 0, 0, qx_c28),
  (12, ⟨"java/lang/StringLatin1", "canEncode", "(I)Z"⟩, prog_21_method_4_code, 1, (some .boolean), 0, 0, qx_c29),
  (11, ⟨"java/lang/Math", "max", "(II)I"⟩, prog_18_method_65_code, 2, (some .int), 0, 0, qx_c30),
  (12, ⟨"java/lang/StringLatin1", "indexOfChar", "([BIII)I"⟩, prog_21_method_23_code, 6, (some .int), 0, 0, qx_c31),
  (9, ⟨"OneRoof$Custom", "pass", "(I)V"⟩, prog_3_method_9_code, 2, none, 0, 0, qx_c32),
  (9, ⟨"OneRoof$Custom", "levelOf", "(I)I"⟩, prog_3_method_13_code, 1, (some .int), 0, 0, qx_c33),
  (14, ⟨"OneRoof$Moment", "<init>", "(LOneRoof$Folk;LOneRoof$Kinship;LOneRoof$Feuds;LOneRoof$Peaces;[LOneRoof$Custom;)V"⟩, prog_9_method_1_code, 6, none, 5, 1993, qx_c34),
  (15, ⟨"OneRoof$Guests", "<init>", "(LOneRoof$Moment;)V"⟩, prog_6_method_1_code, 2, none, 5, 4162, qx_c35),
  (16, ⟨"OneRoof$Telling", "<init>", "(LOneRoof$Moment;)V"⟩, prog_12_method_1_code, 2, none, 2, 91, qx_c36),
  (17, ⟨"OneRoof$History", "<init>", "(LOneRoof$Folk;LOneRoof$Feuds;LOneRoof$Peaces;)V"⟩, prog_7_method_1_code, 4, none, 4, 160, qx_c37),
  (1, ⟨"OneRoof", "person", "(III)I"⟩, prog_1_method_2_code, 4, (some .int), 0, 0, qx_c38),
  (2, ⟨"OneRoof$Folk", "fits", "(III)Z"⟩, prog_5_method_5_code, 4, (some .boolean), 0, 0, qx_c39)]
def qx_mt1 : List (Nat × MethodName × ByteArray × Nat × Option FieldType × Nat × Nat × List (Nat × Instr × Nat × Nat × Nat × Nat × Value)) := [
  (2, ⟨"OneRoof$Folk", "has", "(I)Z"⟩, prog_5_method_2_code, 2, (some .boolean), 0, 0, qx_c40),
  (1, ⟨"OneRoof", "isBit", "(I)Z"⟩, prog_1_method_44_code, 1, (some .boolean), 0, 0, qx_c41),
  (2, ⟨"OneRoof$Folk", "come", "(III)I"⟩, prog_5_method_6_code, 4, (some .int), 0, 0, qx_c42),
  (1, ⟨"OneRoof", "people", "(III)I"⟩, prog_1_method_3_code, 10, (some .int), 0, 0, qx_c43),
  (8, ⟨"OneRoof$Pegs", "has", "(I)Z"⟩, prog_11_method_2_code, 2, (some .boolean), 0, 0, qx_c44),
  (8, ⟨"OneRoof$Pegs", "isEmpty", "(I)Z"⟩, prog_11_method_3_code, 2, (some .boolean), 0, 0, qx_c45),
  (8, ⟨"OneRoof$Pegs", "isRowOf", "(II)Z"⟩, prog_11_method_5_code, 3, (some .boolean), 0, 0, qx_c46),
  (8, ⟨"OneRoof$Pegs", "isRow", "(I)Z"⟩, prog_11_method_4_code, 2, (some .boolean), 0, 0, qx_c47),
  (8, ⟨"OneRoof$Pegs", "at", "(II)J"⟩, prog_11_method_10_code, 3, (some .long), 0, 0, qx_c48),
  (1, ⟨"OneRoof", "of", "(II)I"⟩, prog_1_method_4_code, 3, (some .int), 0, 0, qx_c49),
  (1, ⟨"OneRoof", "isIn", "(JI)Z"⟩, prog_1_method_48_code, 3, (some .boolean), 0, 0, qx_c50),
  (1, ⟨"OneRoof", "sword", "(II)I"⟩, prog_1_method_5_code, 3, (some .int), 0, 0, qx_c51),
  (17, ⟨"OneRoof$History", "change", "(III)I"⟩, prog_7_method_2_code, 5, (some .int), 0, 0, qx_c52),
  (17, ⟨"OneRoof$History", "told", "(II)I"⟩, prog_7_method_6_code, 3, (some .int), 0, 0, qx_c53),
  (17, ⟨"OneRoof$History", "forgetFirst", "()V"⟩, prog_7_method_3_code, 1, none, 0, 0, qx_c54),
  (17, ⟨"OneRoof$History", "set", "(III)V"⟩, prog_7_method_7_code, 6, none, 0, 0, qx_c55),
  (1, ⟨"OneRoof", "kin", "(II)I"⟩, prog_1_method_6_code, 3, (some .int), 0, 0, qx_c56),
  (3, ⟨"OneRoof$Kinship", "apart", "(II)I"⟩, prog_8_method_2_code, 3, (some .int), 0, 0, qx_c57),
  (3, ⟨"OneRoof$Kinship", "join", "(III)V"⟩, prog_8_method_3_code, 7, none, 0, 0, qx_c58),
  (1, ⟨"OneRoof", "steps", "(II)I"⟩, prog_1_method_7_code, 4, (some .int), 0, 0, qx_c59),
  (1, ⟨"OneRoof", "feud", "(III)I"⟩, prog_1_method_8_code, 4, (some .int), 0, 0, qx_c60),
  (2, ⟨"OneRoof$Folk", "isPair", "(I)Z"⟩, prog_5_method_3_code, 2, (some .boolean), 0, 0, qx_c61),
  (1, ⟨"OneRoof", "isHour", "(I)Z"⟩, prog_1_method_43_code, 1, (some .boolean), 0, 0, qx_c62),
  (5, ⟨"OneRoof$Feuds", "begin", "(IIIII)I"⟩, prog_4_method_2_code, 6, (some .int), 0, 0, qx_c63),
  (1, ⟨"OneRoof", "pay", "(II)I"⟩, prog_1_method_9_code, 3, (some .int), 0, 0, qx_c64),
  (1, ⟨"OneRoof", "near", "(IIII)I"⟩, prog_1_method_10_code, 6, (some .int), 0, 0, qx_c65),
  (5, ⟨"OneRoof$Feuds", "nearest", "(IIILOneRoof$Kinship;)I"⟩, prog_4_method_6_code, 7, (some .int), 0, 0, qx_c66),
  (5, ⟨"OneRoof$Feuds", "isAlight", "(II)Z"⟩, prog_4_method_3_code, 3, (some .boolean), 0, 0, qx_c67),
  (5, ⟨"OneRoof$Feuds", "closeness", "(IIILOneRoof$Kinship;)I"⟩, prog_4_method_5_code, 10, (some .int), 0, 0, qx_c68),
  (1, ⟨"OneRoof", "peace", "(IJII)I"⟩, prog_1_method_11_code, 6, (some .int), 0, 0, qx_c69),
  (1, ⟨"OneRoof", "isSpan", "(I)Z"⟩, prog_1_method_45_code, 1, (some .boolean), 0, 0, qx_c70),
  (6, ⟨"OneRoof$Peaces", "begin", "(IIJII)I"⟩, prog_10_method_3_code, 7, (some .int), 0, 0, qx_c71),
  (1, ⟨"OneRoof", "ofPeace", "(II)I"⟩, prog_1_method_12_code, 3, (some .int), 0, 0, qx_c72),
  (6, ⟨"OneRoof$Peaces", "has", "(I)Z"⟩, prog_10_method_2_code, 2, (some .boolean), 0, 0, qx_c73),
  (18, ⟨"java/lang/Long", "bitCount", "(J)I"⟩, prog_17_method_50_code, 2, (some .int), 0, 0, qx_c74),
  (1, ⟨"OneRoof", "cover", "(III)I"⟩, prog_1_method_13_code, 4, (some .int), 0, 0, qx_c75),
  (1, ⟨"OneRoof", "holds", "(III)I"⟩, prog_1_method_14_code, 4, (some .int), 0, 0, qx_c76),
  (6, ⟨"OneRoof$Peaces", "standsAt", "(II)Z"⟩, prog_10_method_4_code, 3, (some .boolean), 0, 0, qx_c77),
  (6, ⟨"OneRoof$Peaces", "reaches", "(IIILOneRoof$Folk;)Z"⟩, prog_10_method_6_code, 11, (some .boolean), 0, 0, qx_c78),
  (1, ⟨"OneRoof", "between", "(II)I"⟩, prog_1_method_15_code, 3, (some .int), 0, 0, qx_c79)]
def qx_mt2 : List (Nat × MethodName × ByteArray × Nat × Option FieldType × Nat × Nat × List (Nat × Instr × Nat × Nat × Nat × Nat × Value)) := [
  (6, ⟨"OneRoof$Peaces", "holding", "(IIILOneRoof$Folk;)J"⟩, prog_10_method_7_code, 8, (some .long), 0, 0, qx_c80),
  (1, ⟨"OneRoof", "proof", "(II)I"⟩, prog_1_method_16_code, 5, (some .int), 0, 0, qx_c81),
  (18, ⟨"java/lang/Long", "numberOfTrailingZeros", "(J)I"⟩, prog_17_method_49_code, 3, (some .int), 0, 0, qx_c82),
  (19, ⟨"java/lang/Integer", "numberOfTrailingZeros", "(I)I"⟩, prog_16_method_48_code, 2, (some .int), 0, 0, qx_c83),
  (1, ⟨"OneRoof", "feed", "(II)I"⟩, prog_1_method_17_code, 4, (some .int), 0, 0, qx_c84),
  (1, ⟨"OneRoof", "custom", "(I)I"⟩, prog_1_method_18_code, 4, (some .int), 0, 0, qx_c85),
  (9, ⟨"OneRoof$Custom", "read", "([II)I"⟩, prog_3_method_3_code, 3, (some .int), 0, 0, qx_c86),
  (1, ⟨"OneRoof", "must", "(IJI)I"⟩, prog_1_method_19_code, 7, (some .int), 0, 0, qx_c87),
  (2, ⟨"OneRoof$Folk", "isSet", "(J)Z"⟩, prog_5_method_4_code, 3, (some .boolean), 0, 0, qx_c88),
  (14, ⟨"OneRoof$Moment", "open", "(I)V"⟩, prog_9_method_2_code, 2, none, 0, 0, qx_c89),
  (14, ⟨"OneRoof$Moment", "weigh", "(IIIIJ)I"⟩, prog_9_method_7_code, 9, (some .int), 0, 0, qx_c90),
  (9, ⟨"OneRoof$Custom", "asks", "(I)Z"⟩, prog_3_method_2_code, 2, (some .boolean), 0, 0, qx_c91),
  (14, ⟨"OneRoof$Moment", "nearKey", "(II)I"⟩, prog_9_method_5_code, 4, (some .int), 0, 0, qx_c92),
  (14, ⟨"OneRoof$Moment", "cell", "(II)I"⟩, prog_9_method_4_code, 4, (some .int), 0, 0, qx_c93),
  (14, ⟨"OneRoof$Moment", "held", "(II)J"⟩, prog_9_method_6_code, 4, (some .long), 0, 0, qx_c94),
  (2, ⟨"OneRoof$Folk", "sharingLord", "(IJ)I"⟩, prog_5_method_7_code, 6, (some .int), 0, 0, qx_c95),
  (9, ⟨"OneRoof$Custom", "worth", "([I)I"⟩, prog_3_method_14_code, 7, (some .int), 0, 0, qx_c96),
  (9, ⟨"OneRoof$Custom", "joined", "(III)I"⟩, prog_3_method_15_code, 3, (some .int), 0, 0, qx_c97),
  (1, ⟨"OneRoof", "together", "(JII)I"⟩, prog_1_method_20_code, 11, (some .int), 0, 0, qx_c98),
  (1, ⟨"OneRoof", "isWindow", "(I)Z"⟩, prog_1_method_46_code, 1, (some .boolean), 0, 0, qx_c99),
  (14, ⟨"OneRoof$Moment", "turnsAt", "(I)Z"⟩, prog_9_method_3_code, 2, (some .boolean), 0, 0, qx_c100),
  (5, ⟨"OneRoof$Feuds", "turnsAt", "(I)Z"⟩, prog_4_method_4_code, 3, (some .boolean), 0, 0, qx_c101),
  (6, ⟨"OneRoof$Peaces", "turnsAt", "(I)Z"⟩, prog_10_method_5_code, 3, (some .boolean), 0, 0, qx_c102),
  (14, ⟨"OneRoof$Moment", "firstStrike", "(J)I"⟩, prog_9_method_8_code, 5, (some .int), 0, 0, qx_c103),
  (1, ⟨"OneRoof", "bars", "(II)I"⟩, prog_1_method_21_code, 3, (some .int), 0, 0, qx_c104),
  (14, ⟨"OneRoof$Moment", "barred", "(IIII)Z"⟩, prog_9_method_10_code, 6, (some .boolean), 0, 0, qx_c105),
  (14, ⟨"OneRoof$Moment", "mustAlone", "(II)Z"⟩, prog_9_method_9_code, 3, (some .boolean), 0, 0, qx_c106),
  (1, ⟨"OneRoof", "most", "(JJI)J"⟩, prog_1_method_22_code, 8, (some .long), 0, 0, qx_c107),
  (1, ⟨"OneRoof", "isGathering", "(JI)Z"⟩, prog_1_method_47_code, 3, (some .boolean), 0, 0, qx_c108),
  (15, ⟨"OneRoof$Guests", "gather", "(J)V"⟩, prog_6_method_2_code, 4, none, 0, 0, qx_c109),
  (15, ⟨"OneRoof$Guests", "learnBars", "(II)V"⟩, prog_6_method_3_code, 5, none, 0, 0, qx_c110),
  (15, ⟨"OneRoof$Guests", "heaviest", "(J)J"⟩, prog_6_method_7_code, 8, (some .long), 0, 0, qx_c111),
  (15, ⟨"OneRoof$Guests", "calmWeight", "(I)I"⟩, prog_6_method_5_code, 4, (some .int), 0, 0, qx_c112),
  (15, ⟨"OneRoof$Guests", "weightAt", "(I)I"⟩, prog_6_method_4_code, 2, (some .int), 0, 0, qx_c113),
  (19, ⟨"java/lang/Integer", "bitCount", "(I)I"⟩, prog_16_method_49_code, 1, (some .int), 0, 0, qx_c114),
  (15, ⟨"OneRoof$Guests", "asPeople", "(I)J"⟩, prog_6_method_6_code, 5, (some .long), 0, 0, qx_c115),
  (1, ⟨"OneRoof", "rooms", "(JII)J"⟩, prog_1_method_23_code, 7, (some .long), 0, 0, qx_c116),
  (15, ⟨"OneRoof$Guests", "twoRooms", "(I)J"⟩, prog_6_method_8_code, 9, (some .long), 0, 0, qx_c117),
  (15, ⟨"OneRoof$Guests", "fillHeaviestWithin", "()V"⟩, prog_6_method_9_code, 4, none, 0, 0, qx_c118),
  (1, ⟨"OneRoof", "buy", "(JII)J"⟩, prog_1_method_24_code, 7, (some .long), 0, 0, qx_c119)]
def qx_mt3 : List (Nat × MethodName × ByteArray × Nat × Option FieldType × Nat × Nat × List (Nat × Instr × Nat × Nat × Nat × Nat × Value)) := [
  (15, ⟨"OneRoof$Guests", "payOff", "(III)J"⟩, prog_6_method_10_code, 12, (some .long), 0, 0, qx_c120),
  (5, ⟨"OneRoof$Feuds", "firstOpen", "(II)J"⟩, prog_4_method_8_code, 6, (some .long), 0, 0, qx_c121),
  (15, ⟨"OneRoof$Guests", "pressingFeuds", "(II)J"⟩, prog_6_method_11_code, 6, (some .long), 0, 0, qx_c122),
  (5, ⟨"OneRoof$Feuds", "nearestOnes", "(IIILOneRoof$Kinship;)J"⟩, prog_4_method_7_code, 9, (some .long), 0, 0, qx_c123),
  (5, ⟨"OneRoof$Feuds", "priceOf", "(J)I"⟩, prog_4_method_9_code, 5, (some .int), 0, 0, qx_c124),
  (1, ⟨"OneRoof", "road", "(II)I"⟩, prog_1_method_25_code, 4, (some .int), 0, 0, qx_c125),
  (1, ⟨"OneRoof", "leave", "(JII)I"⟩, prog_1_method_26_code, 7, (some .int), 0, 0, qx_c126),
  (15, ⟨"OneRoof$Guests", "learnMeetings", "(III)V"⟩, prog_6_method_12_code, 7, none, 0, 0, qx_c127),
  (15, ⟨"OneRoof$Guests", "clash", "(II)Z"⟩, prog_6_method_13_code, 3, (some .boolean), 0, 0, qx_c128),
  (15, ⟨"OneRoof$Guests", "firstOrder", "()I"⟩, prog_6_method_14_code, 1, (some .int), 0, 0, qx_c129),
  (15, ⟨"OneRoof$Guests", "depart", "(III)I"⟩, prog_6_method_15_code, 6, (some .int), 0, 0, qx_c130),
  (15, ⟨"OneRoof$Guests", "meetsEarlier", "(II)Z"⟩, prog_6_method_16_code, 4, (some .boolean), 0, 0, qx_c131),
  (1, ⟨"OneRoof", "strike", "(IJII)I"⟩, prog_1_method_27_code, 9, (some .int), 0, 0, qx_c132),
  (16, ⟨"OneRoof$Telling", "tell", "(IIJ)V"⟩, prog_12_method_2_code, 7, none, 0, 0, qx_c133),
  (16, ⟨"OneRoof$Telling", "land", "(II)V"⟩, prog_12_method_3_code, 6, none, 0, 0, qx_c134),
  (6, ⟨"OneRoof$Peaces", "bindingOn", "(I)J"⟩, prog_10_method_8_code, 5, (some .long), 0, 0, qx_c135),
  (16, ⟨"OneRoof$Telling", "firstHelp", "()I"⟩, prog_12_method_4_code, 4, (some .int), 0, 0, qx_c136),
  (1, ⟨"OneRoof", "blow", "(I)I"⟩, prog_1_method_28_code, 2, (some .int), 0, 0, qx_c137),
  (1, ⟨"OneRoof", "alive", "()J"⟩, prog_1_method_29_code, 1, (some .long), 0, 0, qx_c138),
  (1, ⟨"OneRoof", "worst", "(JI)I"⟩, prog_1_method_30_code, 10, (some .int), 0, 0, qx_c139),
  (1, ⟨"OneRoof", "wed", "(III)I"⟩, prog_1_method_31_code, 7, (some .int), 0, 0, qx_c140),
  (5, ⟨"OneRoof$Feuds", "pairsAt", "(ILOneRoof$Kinship;I)I"⟩, prog_4_method_10_code, 7, (some .int), 0, 0, qx_c141),
  (3, ⟨"OneRoof$Kinship", "become", "(LOneRoof$Kinship;)V"⟩, prog_8_method_4_code, 2, none, 0, 0, qx_c142),
  (1, ⟨"OneRoof", "undo", "()I"⟩, prog_1_method_32_code, 1, (some .int), 0, 0, qx_c143),
  (17, ⟨"OneRoof$History", "back", "()I"⟩, prog_7_method_4_code, 1, (some .int), 0, 0, qx_c144),
  (1, ⟨"OneRoof", "redo", "()I"⟩, prog_1_method_33_code, 1, (some .int), 0, 0, qx_c145),
  (17, ⟨"OneRoof$History", "again", "()I"⟩, prog_7_method_5_code, 1, (some .int), 0, 0, qx_c146),
  (1, ⟨"OneRoof", "act", "(III)I"⟩, prog_1_method_34_code, 4, (some .int), 0, 0, qx_c147),
  (7, ⟨"OneRoof$Acts", "forget", "()V"⟩, prog_2_method_3_code, 1, none, 0, 0, qx_c148),
  (7, ⟨"OneRoof$Acts", "start", "(IIII)I"⟩, prog_2_method_4_code, 5, (some .int), 0, 0, qx_c149),
  (7, ⟨"OneRoof$Acts", "run", "(IIIII)I"⟩, prog_2_method_5_code, 6, (some .int), 0, 0, qx_c150),
  (7, ⟨"OneRoof$Acts", "runFrom", "(IIIIII)I"⟩, prog_2_method_6_code, 10, (some .int), 0, 0, qx_c151),
  (7, ⟨"OneRoof$Acts", "begin", "(IIIIII)I"⟩, prog_2_method_7_code, 8, (some .int), 0, 0, qx_c152),
  (1, ⟨"OneRoof", "trace", "(I)I"⟩, prog_1_method_35_code, 2, (some .int), 0, 0, qx_c153),
  (1, ⟨"OneRoof", "keep", "(II)I"⟩, prog_1_method_36_code, 3, (some .int), 0, 0, qx_c154),
  (8, ⟨"OneRoof$Pegs", "hang", "(II)V"⟩, prog_11_method_7_code, 3, none, 0, 0, qx_c155),
  (1, ⟨"OneRoof", "row", "(III)I"⟩, prog_1_method_37_code, 4, (some .int), 0, 0, qx_c156),
  (8, ⟨"OneRoof$Pegs", "hangRow", "(III)V"⟩, prog_11_method_8_code, 5, none, 0, 0, qx_c157),
  (1, ⟨"OneRoof", "put", "(IIJ)I"⟩, prog_1_method_38_code, 6, (some .int), 0, 0, qx_c158),
  (8, ⟨"OneRoof$Pegs", "refusalAt", "(II)I"⟩, prog_11_method_9_code, 3, (some .int), 0, 0, qx_c159)]
def qx_mt4 : List (Nat × MethodName × ByteArray × Nat × Option FieldType × Nat × Nat × List (Nat × Instr × Nat × Nat × Nat × Nat × Value)) := [
  (8, ⟨"OneRoof$Pegs", "store", "(IIJ)V"⟩, prog_11_method_11_code, 5, none, 0, 0, qx_c160),
  (8, ⟨"OneRoof$Pegs", "narrowed", "(IJ)J"⟩, prog_11_method_12_code, 3, (some .long), 0, 0, qx_c161),
  (1, ⟨"OneRoof", "element", "(II)J"⟩, prog_1_method_39_code, 3, (some .long), 0, 0, qx_c162),
  (1, ⟨"OneRoof", "shift", "(IIIII)I"⟩, prog_1_method_40_code, 6, (some .int), 0, 0, qx_c163),
  (8, ⟨"OneRoof$Pegs", "hasRun", "(III)Z"⟩, prog_11_method_13_code, 4, (some .boolean), 0, 0, qx_c164),
  (8, ⟨"OneRoof$Pegs", "copyRun", "(IIIII)V"⟩, prog_11_method_14_code, 6, none, 0, 0, qx_c165),
  (1, ⟨"OneRoof", "taken", "(II)I"⟩, prog_1_method_41_code, 4, (some .int), 0, 0, qx_c166),
  (8, ⟨"OneRoof$Pegs", "peaceOn", "(I)I"⟩, prog_11_method_6_code, 2, (some .int), 0, 0, qx_c167),
  (7, ⟨"OneRoof$Acts", "isUnder", "(II)Z"⟩, prog_2_method_2_code, 4, (some .boolean), 0, 0, qx_c168),
  (1, ⟨"OneRoof", "count", "(I)I"⟩, prog_1_method_42_code, 2, (some .int), 0, 0, qx_c169),
  (20, ⟨"OneRoofModel", "<init>", "()V"⟩, prog_14_method_3_code, 2, none, 38, 8185, qx_c170),
  (20, ⟨"OneRoofModel", "undo", "()I"⟩, prog_14_method_5_code, 1, (some .int), 0, 0, qx_c171),
  (20, ⟨"OneRoofModel", "redo", "()I"⟩, prog_14_method_6_code, 1, (some .int), 0, 0, qx_c172),
  (20, ⟨"OneRoofModel", "person", "(III)I"⟩, prog_14_method_9_code, 4, (some .int), 0, 0, qx_c173),
  (20, ⟨"OneRoofModel", "isOne", "(III)Z"⟩, prog_14_method_8_code, 4, (some .boolean), 0, 0, qx_c174),
  (20, ⟨"OneRoofModel", "within", "(JJJ)Z"⟩, prog_14_method_1_code, 6, (some .boolean), 0, 0, qx_c175),
  (20, ⟨"OneRoofModel", "people", "(III)I"⟩, prog_14_method_10_code, 8, (some .int), 0, 0, qx_c176),
  (20, ⟨"OneRoofModel", "isShelf", "(I)Z"⟩, prog_14_method_92_code, 1, (some .boolean), 0, 0, qx_c177),
  (20, ⟨"OneRoofModel", "of", "(II)I"⟩, prog_14_method_12_code, 3, (some .int), 0, 0, qx_c178),
  (20, ⟨"OneRoofModel", "isPerson", "(I)Z"⟩, prog_14_method_7_code, 2, (some .boolean), 0, 0, qx_c179),
  (20, ⟨"OneRoofModel", "isDead", "(I)Z"⟩, prog_14_method_11_code, 2, (some .boolean), 0, 0, qx_c180),
  (20, ⟨"OneRoofModel", "sword", "(II)I"⟩, prog_14_method_13_code, 3, (some .int), 0, 0, qx_c181),
  (20, ⟨"OneRoofModel", "becomes", "(II)I"⟩, prog_14_method_4_code, 5, (some .int), 0, 0, qx_c182),
  (20, ⟨"OneRoofModel", "kin", "(II)I"⟩, prog_14_method_15_code, 3, (some .int), 0, 0, qx_c183),
  (20, ⟨"OneRoofModel", "areKin", "(II)Z"⟩, prog_14_method_14_code, 4, (some .boolean), 0, 0, qx_c184),
  (20, ⟨"OneRoofModel", "steps", "(II)I"⟩, prog_14_method_19_code, 4, (some .int), 0, 0, qx_c185),
  (20, ⟨"OneRoofModel", "stepsTo", "(II)I"⟩, prog_14_method_18_code, 4, (some .int), 0, 0, qx_c186),
  (20, ⟨"OneRoofModel", "findSteps", "()V"⟩, prog_14_method_17_code, 3, none, 0, 0, qx_c187),
  (20, ⟨"OneRoofModel", "nearer", "(II)Z"⟩, prog_14_method_16_code, 6, (some .boolean), 0, 0, qx_c188),
  (20, ⟨"OneRoofModel", "feud", "(III)I"⟩, prog_14_method_22_code, 4, (some .int), 0, 0, qx_c189),
  (20, ⟨"OneRoofModel", "arePair", "(I)Z"⟩, prog_14_method_21_code, 2, (some .boolean), 0, 0, qx_c190),
  (20, ⟨"OneRoofModel", "isHour", "(I)Z"⟩, prog_14_method_2_code, 1, (some .boolean), 0, 0, qx_c191),
  (20, ⟨"OneRoofModel", "pay", "(II)I"⟩, prog_14_method_23_code, 3, (some .int), 0, 0, qx_c192),
  (20, ⟨"OneRoofModel", "near", "(IIII)I"⟩, prog_14_method_27_code, 6, (some .int), 0, 0, qx_c193),
  (20, ⟨"OneRoofModel", "nearOf", "(III)I"⟩, prog_14_method_26_code, 9, (some .int), 0, 0, qx_c194),
  (20, ⟨"OneRoofModel", "isOpen", "(II)Z"⟩, prog_14_method_24_code, 3, (some .boolean), 0, 0, qx_c195),
  (20, ⟨"OneRoofModel", "byFeud", "(III)I"⟩, prog_14_method_25_code, 6, (some .int), 0, 0, qx_c196),
  (20, ⟨"OneRoofModel", "peace", "(IJII)I"⟩, prog_14_method_29_code, 7, (some .int), 0, 0, qx_c197),
  (20, ⟨"OneRoofModel", "ofPeace", "(II)I"⟩, prog_14_method_32_code, 5, (some .int), 0, 0, qx_c198),
  (20, ⟨"OneRoofModel", "isPeace", "(I)Z"⟩, prog_14_method_28_code, 2, (some .boolean), 0, 0, qx_c199)]
def qx_mt5 : List (Nat × MethodName × ByteArray × Nat × Option FieldType × Nat × Nat × List (Nat × Instr × Nat × Nat × Nat × Nat × Value)) := [
  (20, ⟨"OneRoofModel", "kindOf", "(I)I"⟩, prog_14_method_31_code, 2, (some .int), 0, 0, qx_c200),
  (20, ⟨"OneRoofModel", "covers", "(II)Z"⟩, prog_14_method_30_code, 3, (some .boolean), 0, 0, qx_c201),
  (20, ⟨"OneRoofModel", "cover", "(III)I"⟩, prog_14_method_33_code, 8, (some .int), 0, 0, qx_c202),
  (20, ⟨"OneRoofModel", "holds", "(III)I"⟩, prog_14_method_36_code, 4, (some .int), 0, 0, qx_c203),
  (20, ⟨"OneRoofModel", "holdsNow", "(IIII)Z"⟩, prog_14_method_35_code, 8, (some .boolean), 0, 0, qx_c204),
  (20, ⟨"OneRoofModel", "isUnderGiver", "(II)Z"⟩, prog_14_method_34_code, 3, (some .boolean), 0, 0, qx_c205),
  (20, ⟨"OneRoofModel", "isLordOf", "(II)Z"⟩, prog_14_method_20_code, 4, (some .boolean), 0, 0, qx_c206),
  (20, ⟨"OneRoofModel", "between", "(II)I"⟩, prog_14_method_38_code, 3, (some .int), 0, 0, qx_c207),
  (20, ⟨"OneRoofModel", "manyBetween", "(III)I"⟩, prog_14_method_37_code, 6, (some .int), 0, 0, qx_c208),
  (20, ⟨"OneRoofModel", "proof", "(II)I"⟩, prog_14_method_39_code, 3, (some .int), 0, 0, qx_c209),
  (20, ⟨"OneRoofModel", "feed", "(II)I"⟩, prog_14_method_40_code, 4, (some .int), 0, 0, qx_c210),
  (20, ⟨"OneRoofModel", "custom", "(I)I"⟩, prog_14_method_52_code, 5, (some .int), 0, 0, qx_c211),
  (20, ⟨"OneRoofModel", "workOut", "(II)I"⟩, prog_14_method_51_code, 8, (some .int), 0, 0, qx_c212),
  (20, ⟨"OneRoofModel", "either", "()I"⟩, prog_14_method_44_code, 3, (some .int), 0, 0, qx_c213),
  (20, ⟨"OneRoofModel", "both", "()I"⟩, prog_14_method_45_code, 3, (some .int), 0, 0, qx_c214),
  (20, ⟨"OneRoofModel", "compared", "()I"⟩, prog_14_method_46_code, 4, (some .int), 0, 0, qx_c215),
  (20, ⟨"OneRoofModel", "sums", "()I"⟩, prog_14_method_47_code, 4, (some .int), 0, 0, qx_c216),
  (20, ⟨"OneRoofModel", "product", "()I"⟩, prog_14_method_48_code, 4, (some .int), 0, 0, qx_c217),
  (20, ⟨"OneRoofModel", "one", "()I"⟩, prog_14_method_50_code, 5, (some .int), 0, 0, qx_c218),
  (20, ⟨"OneRoofModel", "byteAt", "()I"⟩, prog_14_method_41_code, 1, (some .int), 0, 0, qx_c219),
  (20, ⟨"OneRoofModel", "wrong", "()I"⟩, prog_14_method_42_code, 1, (some .int), 0, 0, qx_c220),
  (20, ⟨"OneRoofModel", "takes", "(I)Z"⟩, prog_14_method_43_code, 2, (some .boolean), 0, 0, qx_c221),
  (20, ⟨"OneRoofModel", "nameOf", "(I)I"⟩, prog_14_method_49_code, 1, (some .int), 0, 0, qx_c222),
  (20, ⟨"OneRoofModel", "must", "(IJI)I"⟩, prog_14_method_58_code, 7, (some .int), 0, 0, qx_c223),
  (20, ⟨"OneRoofModel", "isSet", "(J)Z"⟩, prog_14_method_55_code, 3, (some .boolean), 0, 0, qx_c224),
  (20, ⟨"OneRoofModel", "has", "(JI)Z"⟩, prog_14_method_57_code, 3, (some .boolean), 0, 0, qx_c225),
  (20, ⟨"OneRoofModel", "mustNow", "(IIJI)I"⟩, prog_14_method_54_code, 6, (some .int), 0, 0, qx_c226),
  (20, ⟨"OneRoofModel", "gives", "(IIIIJI)I"⟩, prog_14_method_53_code, 11, (some .int), 0, 0, qx_c227),
  (20, ⟨"OneRoofModel", "together", "(JII)I"⟩, prog_14_method_59_code, 10, (some .int), 0, 0, qx_c228),
  (20, ⟨"OneRoofModel", "isSpan", "(I)Z"⟩, prog_14_method_56_code, 1, (some .boolean), 0, 0, qx_c229),
  (20, ⟨"OneRoofModel", "bars", "(II)I"⟩, prog_14_method_61_code, 3, (some .int), 0, 0, qx_c230),
  (20, ⟨"OneRoofModel", "doBar", "(III)Z"⟩, prog_14_method_60_code, 8, (some .boolean), 0, 0, qx_c231),
  (20, ⟨"OneRoofModel", "most", "(JJI)J"⟩, prog_14_method_66_code, 10, (some .long), 0, 0, qx_c232),
  (20, ⟨"OneRoofModel", "lists", "(JI)Z"⟩, prog_14_method_62_code, 5, (some .boolean), 0, 0, qx_c233),
  (20, ⟨"OneRoofModel", "findSets", "(I)V"⟩, prog_14_method_63_code, 5, none, 0, 0, qx_c234),
  (20, ⟨"OneRoofModel", "bitsOf", "(I)I"⟩, prog_14_method_64_code, 3, (some .int), 0, 0, qx_c235),
  (20, ⟨"OneRoofModel", "peopleOf", "(I)J"⟩, prog_14_method_65_code, 5, (some .long), 0, 0, qx_c236),
  (20, ⟨"OneRoofModel", "rooms", "(JII)J"⟩, prog_14_method_67_code, 12, (some .long), 0, 0, qx_c237),
  (20, ⟨"OneRoofModel", "buy", "(JII)J"⟩, prog_14_method_69_code, 13, (some .long), 0, 0, qx_c238),
  (20, ⟨"OneRoofModel", "barAny", "(I)Z"⟩, prog_14_method_68_code, 4, (some .boolean), 0, 0, qx_c239)]
def qx_mt6 : List (Nat × MethodName × ByteArray × Nat × Option FieldType × Nat × Nat × List (Nat × Instr × Nat × Nat × Nat × Nat × Value)) := [
  (20, ⟨"OneRoofModel", "road", "(II)I"⟩, prog_14_method_70_code, 4, (some .int), 0, 0, qx_c240),
  (20, ⟨"OneRoofModel", "leave", "(JII)I"⟩, prog_14_method_73_code, 7, (some .int), 0, 0, qx_c241),
  (20, ⟨"OneRoofModel", "orders", "(IIII)Z"⟩, prog_14_method_72_code, 6, (some .boolean), 0, 0, qx_c242),
  (20, ⟨"OneRoofModel", "meets", "(III)Z"⟩, prog_14_method_71_code, 9, (some .boolean), 0, 0, qx_c243),
  (20, ⟨"OneRoofModel", "strike", "(IJII)I"⟩, prog_14_method_78_code, 10, (some .int), 0, 0, qx_c244),
  (20, ⟨"OneRoofModel", "goesOn", "(IJIZ)V"⟩, prog_14_method_77_code, 7, none, 0, 0, qx_c245),
  (20, ⟨"OneRoofModel", "blowFalls", "(IIIZ)V"⟩, prog_14_method_74_code, 7, none, 0, 0, qx_c246),
  (20, ⟨"OneRoofModel", "nextBlow", "(JI)I"⟩, prog_14_method_76_code, 6, (some .int), 0, 0, qx_c247),
  (20, ⟨"OneRoofModel", "mustHelp", "(IIJI)Z"⟩, prog_14_method_75_code, 7, (some .boolean), 0, 0, qx_c248),
  (20, ⟨"OneRoofModel", "blow", "(I)I"⟩, prog_14_method_79_code, 2, (some .int), 0, 0, qx_c249),
  (20, ⟨"OneRoofModel", "alive", "()J"⟩, prog_14_method_80_code, 1, (some .long), 0, 0, qx_c250),
  (20, ⟨"OneRoofModel", "worst", "(JI)I"⟩, prog_14_method_82_code, 15, (some .int), 0, 0, qx_c251),
  (20, ⟨"OneRoofModel", "bitsIn", "(J)I"⟩, prog_14_method_81_code, 5, (some .int), 0, 0, qx_c252),
  (20, ⟨"OneRoofModel", "wed", "(III)I"⟩, prog_14_method_83_code, 8, (some .int), 0, 0, qx_c253),
  (20, ⟨"OneRoofModel", "act", "(III)I"⟩, prog_14_method_90_code, 4, (some .int), 0, 0, qx_c254),
  (20, ⟨"OneRoofModel", "holdsAs", "(II)I"⟩, prog_14_method_86_code, 4, (some .int), 0, 0, qx_c255),
  (20, ⟨"OneRoofModel", "begins", "(I)V"⟩, prog_14_method_85_code, 2, none, 0, 0, qx_c256),
  (20, ⟨"OneRoofModel", "endsAs", "(II)I"⟩, prog_14_method_88_code, 4, (some .int), 0, 0, qx_c257),
  (20, ⟨"OneRoofModel", "coversAs", "(II)I"⟩, prog_14_method_87_code, 3, (some .int), 0, 0, qx_c258),
  (20, ⟨"OneRoofModel", "tellsAs", "(II)I"⟩, prog_14_method_89_code, 4, (some .int), 0, 0, qx_c259),
  (20, ⟨"OneRoofModel", "trace", "(I)I"⟩, prog_14_method_91_code, 2, (some .int), 0, 0, qx_c260),
  (20, ⟨"OneRoofModel", "keep", "(II)I"⟩, prog_14_method_93_code, 3, (some .int), 0, 0, qx_c261),
  (20, ⟨"OneRoofModel", "row", "(III)I"⟩, prog_14_method_94_code, 5, (some .int), 0, 0, qx_c262),
  (20, ⟨"OneRoofModel", "put", "(IIJ)I"⟩, prog_14_method_97_code, 6, (some .int), 0, 0, qx_c263),
  (20, ⟨"OneRoofModel", "refusal", "(II)I"⟩, prog_14_method_95_code, 3, (some .int), 0, 0, qx_c264),
  (20, ⟨"OneRoofModel", "asSort", "(IJ)J"⟩, prog_14_method_96_code, 3, (some .long), 0, 0, qx_c265),
  (20, ⟨"OneRoofModel", "element", "(II)J"⟩, prog_14_method_98_code, 3, (some .long), 0, 0, qx_c266),
  (20, ⟨"OneRoofModel", "shift", "(IIIII)I"⟩, prog_14_method_99_code, 7, (some .int), 0, 0, qx_c267),
  (20, ⟨"OneRoofModel", "taken", "(II)I"⟩, prog_14_method_100_code, 4, (some .int), 0, 0, qx_c268),
  (20, ⟨"OneRoofModel", "above", "(I)I"⟩, prog_14_method_84_code, 1, (some .int), 0, 0, qx_c269),
  (20, ⟨"OneRoofModel", "count", "(I)I"⟩, prog_14_method_101_code, 2, (some .int), 0, 0, qx_c270)]
def qx_mt : List (Nat × MethodName × ByteArray × Nat × Option FieldType × Nat × Nat × List (Nat × Instr × Nat × Nat × Nat × Nat × Value)) := qx_mt0 ++ qx_mt1 ++ qx_mt2 ++ qx_mt3 ++ qx_mt4 ++ qx_mt5 ++ qx_mt6
def qx_T (c : Nat) : u_T := match c with
  | 0 => qx_F0
  | 1 => qx_F1
  | 2 => qx_F2
  | 3 => qx_F3
  | 4 => qx_F4
  | 5 => qx_F5
  | 6 => qx_F6
  | 7 => qx_F7
  | 8 => qx_F8
  | 9 => qx_F9
  | 10 => qx_F10
  | 11 => qx_F11
  | _ => qx_F12
/-- the class that a name of the list of owners is, among those whose objects are made; 99: none -/
def qx_oc (o : Nat) : Nat := [99, 0, 1, 2, 99, 3, 4, 5, 6, 7, 13, 99, 99, 99, 8, 9, 10, 11, 99, 99, 12].getD o 99
/-- statics that nobody writes -/
def qx_sta : List (String × String × String × Option Value) := [("OneRoof$Acts", "ABOVE", "[I", some (.ref 1)), ("OneRoof$Acts", "BODIES", "[I", some (.ref 2)), ("java/lang/String", "COMPACT_STRINGS", "Z", some (.int 1)), ("jdk/internal/util/Preconditions", "SIOOBE_FORMATTER", "Ljava/util/function/BiFunction;", none)]
def qx_str : List (String × Nat × String × Nat) := [("OneRoof", 56, "f&!c", 3), ("OneRoof$Custom", 98, "fncwvlkod", 4), ("OneRoof", 61, "d<2&w", 5), ("OneRoof", 108, "0", 6)]
def qx_nest : List Cond := [.methodLinkNest "OneRoof" 9 ⟨"OneRoof$Folk", "<init>", "()V"⟩ "OneRoof",
  .fieldLinkNest "OneRoof$Feuds" 38 "OneRoof$Kinship" "table" "[I" "OneRoof",
  .methodLinkNest "OneRoof" 28 ⟨"OneRoof$Feuds", "<init>", "()V"⟩ "OneRoof",
  .methodLinkNest "OneRoof" 35 ⟨"OneRoof$Peaces", "<init>", "()V"⟩ "OneRoof",
  .methodLinkNest "OneRoof" 42 ⟨"OneRoof$Acts", "<init>", "()V"⟩ "OneRoof",
  .methodLinkNest "OneRoof" 49 ⟨"OneRoof$Pegs", "<init>", "()V"⟩ "OneRoof",
  .methodLinkNest "OneRoof$Folk" 40 ⟨"OneRoof", "isBit", "(I)Z"⟩ "OneRoof",
  .methodLinkNest "OneRoof$History" 71 ⟨"OneRoof", "isIn", "(JI)Z"⟩ "OneRoof",
  .methodLinkNest "OneRoof$Custom" 56 ⟨"OneRoof", "isIn", "(JI)Z"⟩ "OneRoof",
  .methodLinkNest "OneRoof$Folk" 43 ⟨"OneRoof", "isIn", "(JI)Z"⟩ "OneRoof",
  .methodLinkNest "OneRoof$Moment" 120 ⟨"OneRoof", "isIn", "(JI)Z"⟩ "OneRoof",
  .methodLinkNest "OneRoof$Guests" 38 ⟨"OneRoof", "isIn", "(JI)Z"⟩ "OneRoof",
  .methodLinkNest "OneRoof$Feuds" 68 ⟨"OneRoof", "isIn", "(JI)Z"⟩ "OneRoof",
  .methodLinkNest "OneRoof$Peaces" 51 ⟨"OneRoof", "isIn", "(JI)Z"⟩ "OneRoof",
  .methodLinkNest "OneRoof$Telling" 68 ⟨"OneRoof", "isIn", "(JI)Z"⟩ "OneRoof"]
theorem qx_nest_warm {s U : State} (hW : s.WarmedH U.vm) : ∀ w ∈ qx_nest, va_Nw w s → va_Nw w U := by
  unfold qx_nest
  refine List.forall_mem_cons.mpr ⟨fun h => va_Nw.warmM hW h, List.forall_mem_cons.mpr ⟨fun h => va_Nw.warmF hW h, List.forall_mem_cons.mpr ⟨fun h => va_Nw.warmM hW h, List.forall_mem_cons.mpr ⟨fun h => va_Nw.warmM hW h, List.forall_mem_cons.mpr ⟨fun h => va_Nw.warmM hW h, List.forall_mem_cons.mpr ⟨fun h => va_Nw.warmM hW h, List.forall_mem_cons.mpr ⟨fun h => va_Nw.warmM hW h, List.forall_mem_cons.mpr ⟨fun h => va_Nw.warmM hW h, List.forall_mem_cons.mpr ⟨fun h => va_Nw.warmM hW h, List.forall_mem_cons.mpr ⟨fun h => va_Nw.warmM hW h, List.forall_mem_cons.mpr ⟨fun h => va_Nw.warmM hW h, List.forall_mem_cons.mpr ⟨fun h => va_Nw.warmM hW h, List.forall_mem_cons.mpr ⟨fun h => va_Nw.warmM hW h, List.forall_mem_cons.mpr ⟨fun h => va_Nw.warmM hW h, List.forall_mem_cons.mpr ⟨fun h => va_Nw.warmM hW h, fun _ h => absurd h List.not_mem_nil⟩⟩⟩⟩⟩⟩⟩⟩⟩⟩⟩⟩⟩⟩⟩
theorem qx_nest_same {u U : State} (hv : u.vm = U.vm) : ∀ w ∈ qx_nest, va_Nw w u → va_Nw w U := by
  unfold qx_nest
  refine List.forall_mem_cons.mpr ⟨fun h => va_Nw.same rfl hv h, List.forall_mem_cons.mpr ⟨fun h => va_Nw.same rfl hv h, List.forall_mem_cons.mpr ⟨fun h => va_Nw.same rfl hv h, List.forall_mem_cons.mpr ⟨fun h => va_Nw.same rfl hv h, List.forall_mem_cons.mpr ⟨fun h => va_Nw.same rfl hv h, List.forall_mem_cons.mpr ⟨fun h => va_Nw.same rfl hv h, List.forall_mem_cons.mpr ⟨fun h => va_Nw.same rfl hv h, List.forall_mem_cons.mpr ⟨fun h => va_Nw.same rfl hv h, List.forall_mem_cons.mpr ⟨fun h => va_Nw.same rfl hv h, List.forall_mem_cons.mpr ⟨fun h => va_Nw.same rfl hv h, List.forall_mem_cons.mpr ⟨fun h => va_Nw.same rfl hv h, List.forall_mem_cons.mpr ⟨fun h => va_Nw.same rfl hv h, List.forall_mem_cons.mpr ⟨fun h => va_Nw.same rfl hv h, List.forall_mem_cons.mpr ⟨fun h => va_Nw.same rfl hv h, List.forall_mem_cons.mpr ⟨fun h => va_Nw.same rfl hv h, fun _ h => absurd h List.not_mem_nil⟩⟩⟩⟩⟩⟩⟩⟩⟩⟩⟩⟩⟩⟩⟩
set_option maxRecDepth 100000 in
theorem qx_nest_ok : qx_nest = [108, 160, 170, 204, 244, 259, 674, 728, 892, 914, 915, 975, 1049, 1099, 1100].filterMap (fun i => lw_tbl[i]?) := by rfl
end
section
/-! THE SMALL MACHINE: the same instructions over cells that are told by their places; what it does is a function of numbers and lists. qm_ names. -/
abbrev qm_E : Type := (FieldType × vp_A) ⊕ (Nat × List Value)
abbrev qm_W : Type := List qm_E
abbrev qm_L : Type := List (Nat × Value)
abbrev qm_I : Type := Nat × Instr × Nat × Nat × Nat × Nat × Value
abbrev qm_C : Type := List qm_I
/-- what lies outside: cells that nobody writes (places 0 to 15), and a static that is only carried -/
abbrev qm_X : Type := (Nat → Option qm_E) × Value
abbrev qm_S : Type := Nat × qm_L × List Value × qm_W × Nat × Nat
def qm_cell (X : qm_X) (w : qm_W) (a : Nat) : Option qm_E := if a < 16 then X.1 a else w[a - 16]?
def qm_get (l : qm_L) (i : Nat) : Option Value := (l.find? (fun q => q.1 == i)).map (fun q => q.2)
def qm_put1 (l : qm_L) (i : Nat) (v : Value) : qm_L := (i, v) :: l.filter (fun q => !(q.1 == i) && !(q.1 + 1 == i && q.2.category == 2))
def qm_put2 (l : qm_L) (i : Nat) (v : Value) : qm_L := (i, v) :: l.filter (fun q => !(q.1 == i) && (!(q.1 == i + 1) && !(q.1 + 1 == i && q.2.category == 2)))
def qm_fetch (cd : qm_C) (pc : Nat) : Option qm_I := cd.find? (fun q => q.1 == pc)
def qm_go (pc : Nat) (ls : qm_L) (st : List Value) (w : qm_W) (c n : Nat) : Option qm_S := some (pc, ls, st, w, c, n)
def qm_to (pc : Nat) (off : Int) : Option Nat := if 0 ≤ (pc : Int) + off then some ((pc : Int) + off).toNat else none
def qm_jump (pc : Nat) (off : Int) (ls : qm_L) (st : List Value) (w : qm_W) (c n : Nat) : Option qm_S := (qm_to pc off).bind fun t => qm_go t ls st w c n
def qm_cond (k : ClassFile.Cond) (x y : Int32) : Bool := match k with
  | .eq => decide (x = y)
  | .ne => decide (¬ x = y)
  | .lt => decide (x < y)
  | .ge => decide (y ≤ x)
  | .gt => decide (y < x)
  | .le => decide (x ≤ y)
def qm_sum (st : List Value) : Nat := (st.map fun v => v.category).sum
def qm_fit (ty : FieldType) (v : Value) : Prop := narrow ty v = v ∧ fits ty v = true
def qm_fitb (ty : FieldType) (v : Value) : Bool := decide (narrow ty v = v) && fits ty v
def qm_in (i : Int32) (n : Nat) : Bool := decide (¬ i < 0) && decide (i.toNatClampNeg < n)
/-- the tables' part for a method: its number of locals, its return type, its name, its class, what it may make -/
abbrev qm_M : Type := Nat × Option FieldType × Bool × Nat × Nat × Nat
/-- one instruction -/
def qm_eff (X : qm_X) (T : Nat → Nat → String × String × String × Bool) (M : qm_M) (q : qm_I) (ls : qm_L) (st : List Value) (w : qm_W) (c n : Nat) : Option qm_S :=
  let pc := q.1
  let len := q.2.2.1
  let r1 := q.2.2.2.1
  let r2 := q.2.2.2.2.1
  let r3 := q.2.2.2.2.2.1
  let rv := q.2.2.2.2.2.2
  match q.2.1 with
  | .iconst k => if len = 1 then qm_go (pc + 1) ls (.int (Int32.ofInt k) :: st) w c n else none
  | .bipush k => if len = 2 then qm_go (pc + 2) ls (.int (Int8.ofInt k).toInt32 :: st) w c n else none
  | .sipush k => if len = 3 then qm_go (pc + 3) ls (.int (Int16.ofInt k).toInt32 :: st) w c n else none
  | .lconst k => if len = 1 then qm_go (pc + 1) ls (.long (Int64.ofNat (k : Nat)) :: st) w c n else none
  | .ldc _ => if len = 2 ∧ (r3 = 0 ∨ r3 = 1) then qm_go (pc + 2) ls (rv :: st) w c n else none
  | .ldc_w _ => if len = 3 ∧ r3 = 0 then qm_go (pc + 3) ls (rv :: st) w c n else none
  | .ldc2_w _ => if len = 3 ∧ r3 = 2 then qm_go (pc + 3) ls (rv :: st) w c n else none
  | .iload_n k => match qm_get ls (k : Nat) with | some (.int x) => if len = 1 then qm_go (pc + 1) ls (.int x :: st) w c n else none | _ => none
  | .iload k => match qm_get ls k with | some (.int x) => if len = 2 then qm_go (pc + 2) ls (.int x :: st) w c n else none | _ => none
  | .lload_n k => match qm_get ls (k : Nat) with | some (.long x) => if len = 1 then qm_go (pc + 1) ls (.long x :: st) w c n else none | _ => none
  | .lload k => match qm_get ls k with | some (.long x) => if len = 2 then qm_go (pc + 2) ls (.long x :: st) w c n else none | _ => none
  | .aload_n k => match qm_get ls (k : Nat) with | some (.ref x) => if len = 1 then qm_go (pc + 1) ls (.ref x :: st) w c n else none | _ => none
  | .aload k => match qm_get ls k with | some (.ref x) => if len = 2 then qm_go (pc + 2) ls (.ref x :: st) w c n else none | _ => none
  | .istore_n k => match st with | .int x :: s => if len = 1 ∧ (k : Nat) < M.1 then qm_go (pc + 1) (qm_put1 ls (k : Nat) (.int x)) s w c n else none | _ => none
  | .istore k => match st with | .int x :: s => if len = 2 ∧ k < M.1 then qm_go (pc + 2) (qm_put1 ls k (.int x)) s w c n else none | _ => none
  | .astore_n k => match st with | .ref x :: s => if len = 1 ∧ (k : Nat) < M.1 then qm_go (pc + 1) (qm_put1 ls (k : Nat) (.ref x)) s w c n else none | _ => none
  | .astore k => match st with | .ref x :: s => if len = 2 ∧ k < M.1 then qm_go (pc + 2) (qm_put1 ls k (.ref x)) s w c n else none | _ => none
  | .lstore_n k => match st with | .long x :: s => if len = 1 ∧ (k : Nat) + 1 < M.1 then qm_go (pc + 1) (qm_put2 ls (k : Nat) (.long x)) s w c n else none | _ => none
  | .lstore k => match st with | .long x :: s => if len = 2 ∧ k + 1 < M.1 then qm_go (pc + 2) (qm_put2 ls k (.long x)) s w c n else none | _ => none
  | .iinc k d => match qm_get ls k with | some (.int x) => if len = 3 ∧ k < M.1 then qm_go (pc + 3) (qm_put1 ls k (.int (x + Int32.ofInt d))) st w c n else none | _ => none
  | .iadd => match st with | .int y :: .int x :: s => if len = 1 then qm_go (pc + 1) ls (.int (x + y) :: s) w c n else none | _ => none
  | .isub => match st with | .int y :: .int x :: s => if len = 1 then qm_go (pc + 1) ls (.int (x - y) :: s) w c n else none | _ => none
  | .imul => match st with | .int y :: .int x :: s => if len = 1 then qm_go (pc + 1) ls (.int (x * y) :: s) w c n else none | _ => none
  | .iand => match st with | .int y :: .int x :: s => if len = 1 then qm_go (pc + 1) ls (.int (x &&& y) :: s) w c n else none | _ => none
  | .ior => match st with | .int y :: .int x :: s => if len = 1 then qm_go (pc + 1) ls (.int (x ||| y) :: s) w c n else none | _ => none
  | .ixor => match st with | .int y :: .int x :: s => if len = 1 then qm_go (pc + 1) ls (.int (x ^^^ y) :: s) w c n else none | _ => none
  | .idiv => match st with | .int y :: .int x :: s => if len = 1 ∧ ¬ y = 0 then qm_go (pc + 1) ls (.int (x / y) :: s) w c n else none | _ => none
  | .irem => match st with | .int y :: .int x :: s => if len = 1 ∧ ¬ y = 0 then qm_go (pc + 1) ls (.int (x - x / y * y) :: s) w c n else none | _ => none
  | .ineg => match st with | .int x :: s => if len = 1 then qm_go (pc + 1) ls (.int (-x) :: s) w c n else none | _ => none
  | .ladd => match st with | .long y :: .long x :: s => if len = 1 then qm_go (pc + 1) ls (.long (x + y) :: s) w c n else none | _ => none
  | .lsub => match st with | .long y :: .long x :: s => if len = 1 then qm_go (pc + 1) ls (.long (x - y) :: s) w c n else none | _ => none
  | .lmul => match st with | .long y :: .long x :: s => if len = 1 then qm_go (pc + 1) ls (.long (x * y) :: s) w c n else none | _ => none
  | .land => match st with | .long y :: .long x :: s => if len = 1 then qm_go (pc + 1) ls (.long (x &&& y) :: s) w c n else none | _ => none
  | .lor => match st with | .long y :: .long x :: s => if len = 1 then qm_go (pc + 1) ls (.long (x ||| y) :: s) w c n else none | _ => none
  | .lxor => match st with | .long y :: .long x :: s => if len = 1 then qm_go (pc + 1) ls (.long (x ^^^ y) :: s) w c n else none | _ => none
  | .ishl => match st with | .int y :: .int x :: s => if len = 1 then qm_go (pc + 1) ls (.int (x <<< (y &&& 31)) :: s) w c n else none | _ => none
  | .ishr => match st with | .int y :: .int x :: s => if len = 1 then qm_go (pc + 1) ls (.int (x >>> (y &&& 31)) :: s) w c n else none | _ => none
  | .iushr => match st with | .int y :: .int x :: s => if len = 1 then qm_go (pc + 1) ls (.int (x.toUInt32 >>> (y.toUInt32 &&& Int32.toUInt32 31)).toInt32 :: s) w c n else none | _ => none
  | .lshl => match st with | .int y :: .long x :: s => if len = 1 then qm_go (pc + 1) ls (.long (x <<< (y.toInt64 &&& 63)) :: s) w c n else none | _ => none
  | .lshr => match st with | .int y :: .long x :: s => if len = 1 then qm_go (pc + 1) ls (.long (x >>> (y.toInt64 &&& 63)) :: s) w c n else none | _ => none
  | .lushr => match st with | .int y :: .long x :: s => if len = 1 then qm_go (pc + 1) ls (.long (x.toUInt64 >>> (y.toInt64.toUInt64 &&& Int64.toUInt64 63)).toInt64 :: s) w c n else none | _ => none
  | .lcmp => match st with | .long y :: .long x :: s => if len = 1 then qm_go (pc + 1) ls (.int (lg_cmp x y) :: s) w c n else none | _ => none
  | .i2l => match st with | .int x :: s => if len = 1 then qm_go (pc + 1) ls (.long x.toInt64 :: s) w c n else none | _ => none
  | .l2i => match st with | .long x :: s => if len = 1 then qm_go (pc + 1) ls (.int x.toInt32 :: s) w c n else none | _ => none
  | .i2b => match st with | .int x :: s => if len = 1 then qm_go (pc + 1) ls (.int x.toInt8.toInt32 :: s) w c n else none | _ => none
  | .i2s => match st with | .int x :: s => if len = 1 then qm_go (pc + 1) ls (.int x.toInt16.toInt32 :: s) w c n else none | _ => none
  | .i2c => match st with | .int x :: s => if len = 1 then qm_go (pc + 1) ls (.int (x.toUInt32 % 65536).toInt32 :: s) w c n else none | _ => none
  | .dup => match st with | a :: s => if len = 1 ∧ a.category = 1 then qm_go (pc + 1) ls (a :: a :: s) w c n else none | _ => none
  | .dup_x1 => match st with | a :: b :: s => if len = 1 ∧ a.category = 1 ∧ b.category = 1 then qm_go (pc + 1) ls (a :: b :: a :: s) w c n else none | _ => none
  | .dup2 => match st with | a :: b :: s => if len = 1 ∧ a.category = 1 ∧ b.category = 1 then qm_go (pc + 1) ls (a :: b :: a :: b :: s) w c n else none | _ => none
  | .pop => match st with | a :: s => if len = 1 ∧ a.category = 1 then qm_go (pc + 1) ls s w c n else none | _ => none
  | .pop2 => match st with | a :: s => if len = 1 ∧ a.category = 2 then qm_go (pc + 1) ls s w c n else none | _ => none
  | .ifCond k off => match st with | .int x :: s => if len = 3 then (if qm_cond k x 0 then qm_jump pc off ls s w c n else qm_go (pc + 3) ls s w c n) else none | _ => none
  | .if_icmp k off => match st with | .int y :: .int x :: s => if len = 3 then (if qm_cond k x y then qm_jump pc off ls s w c n else qm_go (pc + 3) ls s w c n) else none | _ => none
  | .goto off => if len = 3 then qm_jump pc off ls st w c n else none
  | .tableswitch dflt lo hi offs => match st with | .int x :: s => (if x.toInt < lo ∨ hi < x.toInt then qm_jump pc dflt ls s w c n else (offs[(x.toInt - lo).toNat]?).bind fun off => qm_jump pc off ls s w c n) | _ => none
  | .lookupswitch dflt ps => match st with | .int x :: s => (if (ps.toList.zip (ps.toList.drop 1)).all (fun (a, next) => a.1 < next.1) = true then qm_jump pc (Op.lookupswitch.offset ps.toList dflt x.toInt) ls s w c n else none) | _ => none
  | .getfield _ => match st with | .ref a :: s => (match qm_cell X w a with | some (.inr (ci, fs)) => (match fs[r2]? with | some v => if len = 3 ∧ ci = r1 ∧ ¬ r3 = 9 then qm_go (pc + 3) ls (v :: s) w c n else none | _ => none) | _ => none) | _ => none
  | .putfield _ => match st with | v :: .ref a :: s => (match w[a - 16]? with | some (.inr (ci, fs)) => if len = 3 ∧ 16 ≤ a ∧ ci = r1 ∧ r3 = 0 ∧ r2 < fs.length ∧ ((T r1 r2).2.2.2 = true → M.2.2.1 = true ∧ M.2.2.2.1 = r1) ∧ (parseFieldDescriptor (T r1 r2).2.2.1).any (fun ty => qm_fitb ty v) = true then qm_go (pc + 3) ls s (w.set (a - 16) (.inr (ci, fs.set r2 v))) c n else none | _ => none) | _ => none
  | .getstatic _ => if len = 3 ∧ r3 = 0 then qm_go (pc + 3) ls (rv :: st) w c n else if len = 3 ∧ r3 = 1 then qm_go (pc + 3) ls (X.2 :: st) w c n else none
  | .iaload => match st with | .int i :: .ref a :: s => (match qm_cell X w a with | some (.inl (.int, m, .inl f)) => if len = 1 ∧ qm_in i m = true then qm_go (pc + 1) ls (.int (f i.toNatClampNeg) :: s) w c n else none | _ => none) | _ => none
  | .laload => match st with | .int i :: .ref a :: s => (match w[a - 16]? with | some (.inl (.long, m, .inr (.inl f))) => if len = 1 ∧ 16 ≤ a ∧ qm_in i m = true then qm_go (pc + 1) ls (.long (f i.toNatClampNeg) :: s) w c n else none | _ => none) | _ => none
  | .baload => match st with
      | .int i :: .ref a :: s => (match qm_cell X w a with
          | some (.inl (.boolean, m, .inl f)) => if len = 1 ∧ 16 ≤ a ∧ qm_in i m = true then qm_go (pc + 1) ls (.int (f i.toNatClampNeg) :: s) w c n else none
          | some (.inl (.byte, m, .inl f)) => if len = 1 ∧ a < 16 ∧ qm_in i m = true then qm_go (pc + 1) ls (.int (f i.toNatClampNeg) :: s) w c n else none
          | _ => none)
      | _ => none
  | .aaload => match st with | .int i :: .ref a :: s => (match w[a - 16]? with | some (.inl (.object C, m, .inr (.inr (.inr (.inr f))))) => if len = 1 ∧ 16 ≤ a ∧ C = "OneRoof$Custom" ∧ qm_in i m = true then qm_go (pc + 1) ls (va_rf (f i.toNatClampNeg) :: s) w c n else none | _ => none) | _ => none
  | .iastore => match st with | .int x :: .int i :: .ref a :: s => (match w[a - 16]? with | some (.inl (.int, m, .inl f)) => if len = 1 ∧ 16 ≤ a ∧ qm_in i m = true then qm_go (pc + 1) ls s (w.set (a - 16) (.inl (.int, m, .inl (upd f i.toNatClampNeg x)))) c n else none | _ => none) | _ => none
  | .lastore => match st with | .long x :: .int i :: .ref a :: s => (match w[a - 16]? with | some (.inl (.long, m, .inr (.inl f))) => if len = 1 ∧ 16 ≤ a ∧ qm_in i m = true then qm_go (pc + 1) ls s (w.set (a - 16) (.inl (.long, m, .inr (.inl (vp_updL f i.toNatClampNeg x))))) c n else none | _ => none) | _ => none
  | .bastore => match st with | .int x :: .int i :: .ref a :: s => (match w[a - 16]? with | some (.inl (.boolean, m, .inl f)) => if len = 1 ∧ 16 ≤ a ∧ qm_in i m = true then qm_go (pc + 1) ls s (w.set (a - 16) (.inl (.boolean, m, .inl (upd f i.toNatClampNeg (vp_nar .boolean x))))) c n else none | _ => none) | _ => none
  | .aastore => match st with | .ref v :: .int i :: .ref a :: s => (match w[a - 16]?, w[v - 16]? with | some (.inl (.object C, m, .inr (.inr (.inr (.inr f))))), some (.inr (cv, _)) => if len = 1 ∧ 16 ≤ a ∧ 16 ≤ v ∧ cv = 7 ∧ C = "OneRoof$Custom" ∧ qm_in i m = true then qm_go (pc + 1) ls s (w.set (a - 16) (.inl (.object C, m, .inr (.inr (.inr (.inr (va_up f i.toNatClampNeg (some v)))))))) c n else none | _, _ => none) | _ => none
  | .arraylength => match st with | .ref a :: s => (match qm_cell X w a with | some (.inl (ty, m, _)) => if len = 1 ∧ (a < 16 ∨ ty = .int ∨ ty = .long ∨ ty = .boolean ∨ ty = .object "OneRoof$Custom") then qm_go (pc + 1) ls (.int (Int32.ofNat m) :: s) w c n else none | _ => none) | _ => none
  | .newarray at_ => match st with
      | .int k :: s => if len = 2 ∧ ¬ k < 0 ∧ k.toNatClampNeg ≤ 1000000 ∧ c + 1 ≤ M.2.2.2.2.1 ∧ n + k.toNatClampNeg ≤ M.2.2.2.2.2 then (match at_ with
          | .int => qm_go (pc + 2) ls (.ref (16 + w.length) :: s) (w ++ [.inl (.int, k.toNatClampNeg, .inl (fun _ => 0))]) (c + 1) (n + k.toNatClampNeg)
          | .long => qm_go (pc + 2) ls (.ref (16 + w.length) :: s) (w ++ [.inl (.long, k.toNatClampNeg, .inr (.inl (fun _ => 0)))]) (c + 1) (n + k.toNatClampNeg)
          | .boolean => qm_go (pc + 2) ls (.ref (16 + w.length) :: s) (w ++ [.inl (.boolean, k.toNatClampNeg, .inl (fun _ => 0))]) (c + 1) (n + k.toNatClampNeg)
          | _ => none) else none
      | _ => none
  | .anewarray _ => match st with | .int k :: s => if len = 3 ∧ r1 = 7 ∧ r3 = 0 ∧ ¬ k < 0 ∧ k.toNatClampNeg ≤ 1000000 ∧ c + 1 ≤ M.2.2.2.2.1 ∧ n + k.toNatClampNeg ≤ M.2.2.2.2.2 then qm_go (pc + 3) ls (.ref (16 + w.length) :: s) (w ++ [.inl (.object "OneRoof$Custom", k.toNatClampNeg, .inr (.inr (.inr (.inr (fun _ => none)))))]) (c + 1) (n + k.toNatClampNeg) else none | _ => none
  | .new _ => if len = 3 ∧ r3 = 0 ∧ c + 1 ≤ M.2.2.2.2.1 ∧ n + ((qx_cl[r1]?).map (fun q => q.2.2)).getD 0 ≤ M.2.2.2.2.2 then (match qx_cl[r1]? with | some q => qm_go (pc + 3) ls (.ref (16 + w.length) :: st) (w ++ [.inr (r1, (List.range q.2.2).map (fun j => defaultValue (qx_ty r1 j)))]) (c + 1) (n + q.2.2) | none => none) else none
  | .invokestatic _ => match st with
        | .int k :: .int dp :: .ref a1 :: .int sp :: .ref a0 :: s => if len = 3 ∧ r3 = 7 ∧ 16 ≤ a0 ∧ 16 ≤ a1 ∧ ¬ sp < 0 ∧ ¬ dp < 0 ∧ ¬ k < 0 ∧ qm_sum s ≤ 8 then (match w[a0 - 16]?, w[a1 - 16]? with
            | some (.inl (.int, n0, .inl f)), some (.inl (.int, n1, .inl g)) => if sp.toNatClampNeg + k.toNatClampNeg ≤ n0 ∧ dp.toNatClampNeg + k.toNatClampNeg ≤ n1 then qm_go (pc + 3) ls s (w.set (a1 - 16) (.inl (.int, n1, .inl (va_cpy f g sp.toNatClampNeg dp.toNatClampNeg k.toNatClampNeg)))) c n else none
            | some (.inl (.long, n0, .inr (.inl f))), some (.inl (.long, n1, .inr (.inl g))) => if sp.toNatClampNeg + k.toNatClampNeg ≤ n0 ∧ dp.toNatClampNeg + k.toNatClampNeg ≤ n1 then qm_go (pc + 3) ls s (w.set (a1 - 16) (.inl (.long, n1, .inr (.inl (va_cpy f g sp.toNatClampNeg dp.toNatClampNeg k.toNatClampNeg))))) c n else none
            | _, _ => none) else none
        | _ => none
  | .invokespecial _ => match st with
      | .ref a :: s => if len = 3 ∧ r3 = 6 ∧ r2 = 0 ∧ qm_sum s ≤ 8 then qm_go (pc + 3) ls s w c n else none
      | _ => none
  | _ => none
/-- a call: which, with what, where it goes on, with what below -/
def qm_call (X : qm_X) (q : qm_I) (st : List Value) (w : qm_W) : Option (Nat × List Value × Nat × List Value) :=
  match q.2.1 with
  | .invokevirtual _ => match st[q.2.2.2.2.1]? with
      | some (.ref a) => (match qm_cell X w a with
          | some (.inr (ci, _)) => if q.2.2.1 = 3 ∧ (q.2.2.2.2.2.1 = 0 ∨ q.2.2.2.2.2.1 = 1) ∧ q.2.2.2.2.2.2 = .ref ci ∧ qm_sum (st.drop (q.2.2.2.2.1 + 1)) ≤ 8 then some (q.2.2.2.1, .ref a :: (st.take q.2.2.2.2.1).reverse, q.1 + 3, st.drop (q.2.2.2.2.1 + 1)) else none
          | _ => none)
      | _ => none
  | .invokestatic _ => if q.2.2.1 = 3 ∧ (q.2.2.2.2.2.1 = 2 ∨ q.2.2.2.2.2.1 = 3) ∧ q.2.2.2.2.1 ≤ st.length ∧ qm_sum (st.drop q.2.2.2.2.1) ≤ 8 then some (q.2.2.2.1, (st.take q.2.2.2.2.1).reverse, q.1 + 3, st.drop q.2.2.2.2.1) else none
  | .invokespecial _ => match st[q.2.2.2.2.1]? with
      | some (.ref a) => if q.2.2.1 = 3 ∧ (q.2.2.2.2.2.1 = 4 ∨ q.2.2.2.2.2.1 = 5) ∧ qm_sum (st.drop (q.2.2.2.2.1 + 1)) ≤ 8 then some (q.2.2.2.1, .ref a :: (st.take q.2.2.2.2.1).reverse, q.1 + 3, st.drop (q.2.2.2.2.1 + 1)) else none
      | _ => none
  | _ => none
/-- a return -/
def qm_retn (M : qm_M) (q : qm_I) (st : List Value) : Option (Option Value) :=
  match q.2.1 with
  | .ireturn => match st with | [.int x] => (match M.2.1 with | some ty => if q.2.2.1 = 1 ∧ narrow ty (.int x) = .int x then some (some (.int x)) else none | none => none) | _ => none
  | .lreturn => match st with | [.long x] => if q.2.2.1 = 1 ∧ M.2.1 = some .long then some (some (.long x)) else none | _ => none
  | .return_ => match st with | [] => if q.2.2.1 = 1 ∧ M.2.1 = none then some none else none | _ => none
  | _ => none
/-- one step of a method's code -/
def qm_step (C : Nat → List Value → qm_W → (Option Value → qm_W → Prop) → Prop) (B : Nat → Nat × Nat) (X : qm_X) (M : qm_M) (cd : qm_C) (Q : Option Value → qm_W → Prop) (P : qm_S → Prop) (s : qm_S) : Prop :=
  match qm_fetch cd s.1 with
  | none => False
  | some q => match qm_call X q s.2.2.1 s.2.2.2.1 with
    | some k => s.2.2.2.2.1 + (B k.1).1 ≤ M.2.2.2.2.1 ∧ s.2.2.2.2.2 + (B k.1).2 ≤ M.2.2.2.2.2 ∧ C k.1 k.2.1 s.2.2.2.1 (fun r w' => P (k.2.2.1, s.2.1, r.toList ++ k.2.2.2, w', s.2.2.2.2.1 + (B k.1).1, s.2.2.2.2.2 + (B k.1).2))
    | none => match qm_retn M q s.2.2.1 with
      | some r => s.2.2.2.2.1 ≤ M.2.2.2.2.1 ∧ s.2.2.2.2.2 ≤ M.2.2.2.2.2 ∧ Q r s.2.2.2.1
      | none => match qm_eff X qx_T M q s.2.1 s.2.2.1 s.2.2.2.1 s.2.2.2.2.1 s.2.2.2.2.2 with
        | none => False
        | some s' => P s'
/-- the least predicate that is closed under steps: from here the method returns, with Q -/
def qm_wp (C : Nat → List Value → qm_W → (Option Value → qm_W → Prop) → Prop) (B : Nat → Nat × Nat) (X : qm_X) (M : qm_M) (cd : qm_C) (Q : Option Value → qm_W → Prop) (s : qm_S) : Prop :=
  ∀ P : qm_S → Prop, (∀ s, qm_step C B X M cd Q P s → P s) → P s
def qm_mono (C : Nat → List Value → qm_W → (Option Value → qm_W → Prop) → Prop) : Prop := ∀ k as w (Q Q' : Option Value → qm_W → Prop), (∀ r w', Q r w' → Q' r w') → C k as w Q → C k as w Q'
theorem qm_step_mono {C B X M cd} {Q Q' : Option Value → qm_W → Prop} {P P' : qm_S → Prop} (hC : qm_mono C) (hQ : ∀ r w, Q r w → Q' r w) (hP : ∀ s, P s → P' s) {s : qm_S} (h : qm_step C B X M cd Q P s) : qm_step C B X M cd Q' P' s := by
  unfold qm_step at h ⊢
  split at h
  · exact h.elim
  · split at h
    · exact ⟨h.1, h.2.1, hC _ _ _ _ _ (fun r w' hh => hP _ hh) h.2.2⟩
    · split at h
      · exact ⟨h.1, h.2.1, hQ _ _ h.2.2⟩
      · split at h
        · exact h.elim
        · exact hP _ h
theorem qm_wp_go {C B X M cd} {Q : Option Value → qm_W → Prop} (hC : qm_mono C) {s : qm_S} (h : qm_step C B X M cd Q (qm_wp C B X M cd Q) s) : qm_wp C B X M cd Q s :=
  fun P hP => hP s (qm_step_mono hC (fun _ _ h => h) (fun s hs => hs P hP) h)
theorem qm_wp_mono {C B X M cd} {Q Q' : Option Value → qm_W → Prop} (hC : qm_mono C) (hQ : ∀ r w, Q r w → Q' r w) {s : qm_S} (h : qm_wp C B X M cd Q s) : qm_wp C B X M cd Q' s :=
  h (qm_wp C B X M cd Q') (fun _ hs => qm_wp_go hC (qm_step_mono hC hQ (fun _ h => h) hs))
/-- calls within a depth -/
theorem qm_wp_sub {C C' B X M cd} {Q : Option Value → qm_W → Prop} (hC' : qm_mono C') (hCC : ∀ k as w Q, C k as w Q → C' k as w Q) {s : qm_S} (h : qm_wp C B X M cd Q s) : qm_wp C' B X M cd Q s := by
  refine h (qm_wp C' B X M cd Q) (fun s hs => qm_wp_go hC' ?_)
  unfold qm_step at hs ⊢
  split at hs
  · exact hs.elim
  · split at hs
    · exact ⟨hs.1, hs.2.1, hCC _ _ _ _ hs.2.2⟩
    · split at hs
      · exact hs
      · split at hs
        · exact hs.elim
        · exact hs
def qm_ent (k : Nat) : Option (Nat × MethodName × ByteArray × Nat × Option FieldType × Nat × Nat × qm_C) := qx_mt[k]?
def qm_bud (k : Nat) : Nat × Nat := match qm_ent k with | some x => (x.2.2.2.2.2.1, x.2.2.2.2.2.2.1) | none => (0, 0)
def qm_M1 (x : Nat × MethodName × ByteArray × Nat × Option FieldType × Nat × Nat × qm_C) : qm_M := (x.2.2.2.1, x.2.2.2.2.1, decide (x.2.1.name = "<init>"), qx_oc x.1, x.2.2.2.2.2.1, x.2.2.2.2.2.2.1)
def qm_T (X : qm_X) : Nat → Nat → List Value → qm_W → (Option Value → qm_W → Prop) → Prop
  | 0, _, _, _, _ => False
  | d + 1, k, as, w, Q => match qm_ent k with
    | none => False
    | some x => (lg_sl as).length ≤ x.2.2.2.1 ∧ qm_wp (qm_T X d) qm_bud X (qm_M1 x) x.2.2.2.2.2.2.2 Q (0, lv_args 0 as, [], w, 0, 0)
theorem qm_T_mono (X : qm_X) : ∀ d, qm_mono (qm_T X d)
  | 0 => fun _ _ _ _ _ _ h => h
  | d + 1 => fun k as w Q Q' hQ h => by
    unfold qm_T at h ⊢
    split at h
    · exact h
    · exact ⟨h.1, qm_wp_mono (qm_T_mono X d) hQ h.2⟩
theorem qm_T_up (X : qm_X) : ∀ d k as w Q, qm_T X d k as w Q → qm_T X (d + 1) k as w Q
  | 0, _, _, _, _, h => h.elim
  | d + 1, k, as, w, Q, h => by
    unfold qm_T at h ⊢
    split at h
    · exact h
    · exact ⟨h.1, qm_wp_sub (qm_T_mono X (d + 1)) (qm_T_up X d) h.2⟩
theorem qm_T_le (X : qm_X) {d d' k as w Q} (hd : d ≤ d') (h : qm_T X d k as w Q) : qm_T X d' k as w Q := by
  induction hd with
  | refl => exact h
  | step _ ih => exact qm_T_up X _ _ _ _ _ ih
end
section
/-! the small machine's cells as cells of the heap -/
def qs_TB : List Cond := lw_tbl.filter goodWord
theorem qs_in {w : Cond} (h : w ∈ lw_tbl) (g : goodWord w = true) : w ∈ qs_TB := List.mem_filter.mpr ⟨h, g⟩
abbrev qs_Ent : Type := Nat × MethodName × ByteArray × Nat × Option FieldType × Nat × Nat × qm_C
def qs_ws (x : qs_Ent) : List Cond := Cond.code x.2.1 x.2.2.1 x.2.2.2.1 x.2.2.2.2.1 :: qs_TB
def qs_rm (d : Nat) (x : qs_Ent) : Room := { frames := d, cells := x.2.2.2.2.2.1, slots := x.2.2.2.2.2.2.1, locals := 60 * d }
def qs_ad (xa : Nat → Nat) (base : Nat) (a : Nat) : Nat := if a < 16 then xa a else base + (a - 16)
def qs_tv (xa : Nat → Nat) (base : Nat) : Value → Value
  | .ref a => .ref (qs_ad xa base a)
  | .int x => .int x
  | .long x => .long x
  | .float x => .float x
  | .double x => .double x
  | .null => .null
  | .retAddr x => .retAddr x
def qs_ta (xa : Nat → Nat) (base : Nat) : ((Nat → Int32) ⊕ (Nat → Int64) ⊕ (Nat → UInt32) ⊕ (Nat → UInt64) ⊕ (Nat → Option Nat)) → ((Nat → Int32) ⊕ (Nat → Int64) ⊕ (Nat → UInt32) ⊕ (Nat → UInt64) ⊕ (Nat → Option Nat))
  | .inl f => .inl f
  | .inr (.inl f) => .inr (.inl f)
  | .inr (.inr (.inl f)) => .inr (.inr (.inl f))
  | .inr (.inr (.inr (.inl f))) => .inr (.inr (.inr (.inl f)))
  | .inr (.inr (.inr (.inr f))) => .inr (.inr (.inr (.inr (fun k => (f k).map (qs_ad xa base)))))
def qs_te (xa : Nat → Nat) (base : Nat) (cA : FieldType → ClassId) : qm_E → va_E
  | .inl x => .inl (cA x.1, x.2.1, qs_ta xa base x.2.2)
  | .inr x => .inr (x.1, x.2.map (qs_tv xa base))
def qs_tl (xa : Nat → Nat) (base : Nat) (ls : qm_L) : qm_L := ls.map (fun q => (q.1, qs_tv xa base q.2))
/-- the heap holds the small world from base on, and nothing behind it -/
def qs_R (xa : Nat → Nat) (base : Nat) (cA : FieldType → ClassId) (D : va_G) (w : qm_W) (H : Heap) : Prop := H.size = base + w.length ∧ ∀ (k : Nat) (e : qm_E), w[k]? = some e → va_at D qx_cl (base + k, qs_te xa base cA e) H
def qs_tys (cA : FieldType → ClassId) : List (ClassId × FieldType) := [(cA .int, .int), (cA .long, .long), (cA .boolean, .boolean), (cA (.object "OneRoof$Custom"), .object "OneRoof$Custom")]
abbrev qs_A (base : Nat) : Nat → Prop := fun q => base ≤ q
/-- what lies outside, as the small machine has it -/
def qs_X (xa : Nat → Nat) (base : Nat) (X : qm_X) (U : State) (H : Heap) : Prop :=
  (∀ (j n : Nat) (ty : FieldType) (f : Nat → Int32), j < 16 → X.1 j = some (.inl (ty, n, .inl f)) → va_T ty (xa j) n (fun k => .int (f k)) (qs_A base) U H) ∧
  (∀ (j ci : Nat) (fs : List Value), j < 16 → X.1 j = some (.inr (ci, fs)) → ci = 13 ∧ va_O "java/lang/String" (xa j) (qs_A base) U H ∧ (∀ v, fs[0]? = some v → va_OF "java/lang/String" "value" "[B" (qs_tv xa base v) (xa j) (qs_A base) U H) ∧ ∀ v, fs[1]? = some v → va_OF "java/lang/String" "coder" "B" (qs_tv xa base v) (xa j) (qs_A base) U H) ∧
  (∀ q ∈ qx_sta, va_Z q.1 q.2.1 q.2.2.1 (qs_tv xa base (q.2.2.2.getD X.2)) (qs_A base) U H) ∧
  (∀ q ∈ qx_str, vk_R q.1 q.2.1 q.2.2.1 (xa q.2.2.2) U) ∧
  (∀ w ∈ qx_nest, va_Nw w U) ∧ va_AO "OneRoof$Custom" U
def qs_B (xa : Nat → Nat) (base : Nat) (cA : FieldType → ClassId) (D : va_G) (X : qm_X) (w : qm_W) (U : State) : Prop := qs_R xa base cA D w U.heap ∧ va_K D qx_cl (qs_tys cA) U ∧ qs_X xa base X U U.heap
def qs_Q (xa : Nat → Nat) (base : Nat) (cA : FieldType → ClassId) (D : va_G) (Q : Option Value → qm_W → Prop) : Array Value → State → Outcome → State → Prop := fun _ st oc t => (∃ (r : Option Value) (w' : qm_W), oc = .returned (r.map (qs_tv xa base)) ∧ Q r w' ∧ qs_R xa base cA D w' t.heap) ∧ va_F (qs_A base) st t
section QS1
variable {xa : Nat → Nat} {base : Nat} {cA : FieldType → ClassId} {D : va_G} {X : qm_X}
theorem qs_tv_cat (v : Value) : (qs_tv xa base v).category = v.category := by cases v <;> rfl
theorem qs_sum_map (st : List Value) : ((st.map (qs_tv xa base)).map fun v => v.category).sum = qm_sum st := by
  unfold qm_sum
  rw [List.map_map]
  congr 1
  exact List.map_congr_left (fun v _ => qs_tv_cat v)
theorem qs_nar (ty : FieldType) (a b : Nat) : narrow ty (.ref a) = .ref a → narrow ty (.ref b) = .ref b := by
  cases ty <;> simp [narrow]
theorem qs_fitv {ty : FieldType} {v : Value} (h : qm_fitb ty v = true) : narrow ty (qs_tv xa base v) = qs_tv xa base v ∧ fits ty (qs_tv xa base v) = true := by
  unfold qm_fitb at h
  rw [Bool.and_eq_true, decide_eq_true_eq] at h
  obtain ⟨h1, h2⟩ := h
  cases v with
  | ref a =>
    refine ⟨qs_nar ty a _ h1, ?_⟩
    cases ty <;> simp [fits, qs_tv] at h2 ⊢
  | _ => exact ⟨h1, h2⟩
theorem qs_get {ls : Array Slot} {n : Nat} {l : qm_L} {i : Nat} {v : Value} (h : lv_has ls n (qs_tl xa base l)) (hg : qm_get l i = some v) : ls[i]? = some (.val (qs_tv xa base v)) := by
  unfold qm_get at hg
  cases hf : l.find? (fun q => q.1 == i) with
  | none => rw [hf] at hg; cases hg
  | some q =>
    rw [hf] at hg
    have h1 := List.find?_some hf
    have h2 := List.mem_of_find?_eq_some hf
    have h3 : q.1 = i := by simpa using h1
    cases hg
    have h4 := h.2.2 (q.1, qs_tv xa base q.2) (List.mem_map.mpr ⟨q, h2, rfl⟩)
    rw [← h3]
    exact h4
theorem qs_put1 (l : qm_L) (i : Nat) (v : Value) : (i, qs_tv xa base v) :: (qs_tl xa base l).filter (fun q => !(q.1 == i) && !(q.1 + 1 == i && q.2.category == 2)) = qs_tl xa base (qm_put1 l i v) := by
  unfold qm_put1 qs_tl
  rw [List.map_cons, List.filter_map]
  congr 2
  exact List.filter_congr (fun q _ => by simp [Function.comp, qs_tv_cat])
theorem qs_put2 (l : qm_L) (i : Nat) (v : Value) : (i, qs_tv xa base v) :: (qs_tl xa base l).filter (fun q => !(q.1 == i) && (!(q.1 == i + 1) && !(q.1 + 1 == i && q.2.category == 2))) = qs_tl xa base (qm_put2 l i v) := by
  unfold qm_put2 qs_tl
  rw [List.map_cons, List.filter_map]
  congr 2
  exact List.filter_congr (fun q _ => by simp [Function.comp, qs_tv_cat])
theorem qs_R_set {w : qm_W} {H H1 : Heap} {k : Nat} {e0 e : qm_E} (h : qs_R xa base cA D w H) (hk : w[k]? = some e0) (he : va_at D qx_cl (base + k, qs_te xa base cA e) H1) (z : H1.size = H.size) (o : ∀ q : Nat, q ≠ base + k → H1[q]? = H[q]?) : qs_R xa base cA D (w.set k e) H1 := by
  refine ⟨by rw [z, h.1, List.length_set], fun j e' hj => ?_⟩
  by_cases hjk : j = k
  · subst hjk
    rw [List.getElem?_set_self (List.getElem?_eq_some_iff.mp hk).1] at hj
    cases hj
    exact he
  · rw [List.getElem?_set_ne (Ne.symm hjk)] at hj
    exact (h.2 j e' hj).kept (o _ (by show base + j ≠ base + k; omega))
theorem qs_R_push {w : qm_W} {H H1 : Heap} {e : qm_E} (h : qs_R xa base cA D w H) (he : va_at D qx_cl (H.size, qs_te xa base cA e) H1) (z : H1.size = H.size + 1) (o : ∀ q : Nat, q < H.size → H1[q]? = H[q]?) : qs_R xa base cA D (w ++ [e]) H1 := by
  refine ⟨by rw [z, h.1, List.length_append]; simp; omega, fun j e' hj => ?_⟩
  by_cases hl : j < w.length
  · rw [List.getElem?_append_left hl] at hj
    exact (h.2 j e' hj).kept (o _ (by show base + j < H.size; rw [h.1]; omega))
  · rw [List.getElem?_append_right (by omega)] at hj
    have hz : j - w.length < 1 := (List.getElem?_eq_some_iff.mp hj).1
    have hj0 : j = w.length := by omega
    subst hj0
    rw [Nat.sub_self] at hj
    cases hj
    rw [← h.1]
    exact he
theorem qs_P1 {w : qm_W} {H : Heap} {k : Nat} {e : qm_E} (h : qs_R xa base cA D w H) (hk : w[k]? = some e) : va_P D qx_cl [(base + k, qs_te xa base cA e)] H := by
  intro j q hj
  have hz : j < 1 := (List.getElem?_eq_some_iff.mp hj).1
  have : j = 0 := by omega
  subst this
  cases hj
  exact h.2 k e hk
theorem qs_S_push {H0 H H1 : Heap} {locs : List Loc} (h : va_S (qs_A base) H0 H locs) (z : H1.size = H.size + 1) (o : ∀ q : Nat, q < H.size → H1[q]? = H[q]?) : va_S (qs_A base) H0 H1 locs :=
  ⟨Nat.le_trans h.1 (by omega), fun q h1 h2 => (o q (Nat.lt_of_lt_of_le h1 h.1)).trans (h.2.1 q h1 h2), h.2.2⟩
theorem qs_ad_hi {a : Nat} (h : 16 ≤ a) : qs_ad xa base a = base + (a - 16) := if_neg (by omega)
theorem qs_ad_lo {a : Nat} (h : a < 16) : qs_ad xa base a = xa a := if_pos h
theorem qs_cell_hi {w : qm_W} {a : Nat} (h : 16 ≤ a) : qm_cell X w a = w[a - 16]? := if_neg (by omega)
theorem qs_cell_lo {w : qm_W} {a : Nat} (h : a < 16) : qm_cell X w a = X.1 a := if_pos h
theorem qs_vin {i : Int32} {n : Nat} (h : qm_in i n = true) : vp_in i n := by
  unfold qm_in at h
  rw [Bool.and_eq_true, decide_eq_true_eq, decide_eq_true_eq] at h
  exact fun q => q.elim h.1 (fun q => by omega)
theorem qs_X_moved {u U : State} {H : Heap} (hW : u.WarmedH U.vm) (h : qs_X xa base X u H) : qs_X xa base X U H := by
  obtain ⟨h1, h2, h3, h4, h5, h6⟩ := h
  refine ⟨fun j n ty f hj e => va_T.moved hW.alike (h1 j n ty f hj e), fun j ci fs hj e => ?_, fun q hq => va_Z.moved hW.alike (h3 q hq), fun q hq => (h4 q hq).warm hW, fun w hw => ?_, va_AO.moved hW.alike h6⟩
  · obtain ⟨a1, a2, a3, a4⟩ := h2 j ci fs hj e
    exact ⟨a1, a2.moved hW.alike, fun v hv => (a3 v hv).moved hW.alike, fun v hv => (a4 v hv).moved hW.alike⟩
  · exact qx_nest_warm hW w hw (h5 w hw)
theorem qs_X_same {u U : State} {H : Heap} (hv : u.vm = U.vm) (h : qs_X xa base X u H) : qs_X xa base X U H := by
  have hal : u.vm.Alike U.vm := by rw [hv]; exact Vm.Alike.refl _
  obtain ⟨h1, h2, h3, h4, h5, h6⟩ := h
  refine ⟨fun j n ty f hj e => va_T.moved hal (h1 j n ty f hj e), fun j ci fs hj e => ?_, fun q hq => va_Z.moved hal (h3 q hq), fun q hq => vk_R.same hv.symm (h4 q hq), fun w hw => qx_nest_same hv w hw (h5 w hw), va_AO.moved hal h6⟩
  obtain ⟨a1, a2, a3, a4⟩ := h2 j ci fs hj e
  exact ⟨a1, a2.moved hal, fun v hv => (a3 v hv).moved hal, fun v hv => (a4 v hv).moved hal⟩
theorem qs_X_kept {U : State} {H H1 : Heap} (hq : ∀ a : Nat, a < H.size → ¬ qs_A base a → H1[a]? = H[a]?) (h : qs_X xa base X U H) : qs_X xa base X U H1 := by
  obtain ⟨h1, h2, h3, h4, h5, h6⟩ := h
  refine ⟨fun j n ty f hj e => va_T.kept (h1 j n ty f hj e) hq, fun j ci fs hj e => ?_, fun q hh => va_Z.kept (h3 q hh) hq, h4, h5, h6⟩
  obtain ⟨a1, a2, a3, a4⟩ := h2 j ci fs hj e
  exact ⟨a1, a2.kept hq, fun v hv => (a3 v hv).kept hq, fun v hv => (a4 v hv).kept hq⟩
theorem qs_blind {w : qm_W} {av : List Value} : FrameBlind (va_Pc av (qs_B xa base cA D X w)) := by
  intro a U g mk h
  obtain ⟨h1, h2, h3, h4⟩ := h
  exact ⟨h1, h2, va_K.moved (u := U) (U := U.calling g mk a) (Vm.Alike.refl U.vm) h3, qs_X_same (u := U) (U := U.calling g mk a) rfl h4⟩
end QS1
end
section
/-! one instruction of the small machine is one of the machine -/
def qs_link (o i : Nat) (y : MethodName) (nest : Bool) : Prop := if nest then ∃ host, Cond.methodLinkNest (qx_on o) i y host ∈ qx_nest else Cond.methodLink (qx_on o) i y ∈ lw_tbl
def qs_nargs (y : MethodName) (n : Nat) : Prop := y.cls ≠ "java/lang/invoke/MethodHandle" ∧ y.cls ≠ "java/lang/invoke/VarHandle" ∧ (parseMethodDescriptor y.desc).map (fun d => d.parameters.length) = some n
def qs_off : Instr → Int
  | .ifCond _ off => off
  | .if_icmp _ off => off
  | _ => 0
/-- what the tables say of an entry's number -/
def qs_ok (o : Nat) (q : qm_I) : Prop := match q.2.1 with
  | .getfield i => q.2.2.2.2.2.1 = 9 ∨ (q.2.2.2.2.2.1 = 0 ∧ q.2.2.2.1 = 13 ∧ ((q.2.2.2.2.1 = 0 ∧ Cond.fieldLink (qx_on o) i "java/lang/String" "value" "[B" ∈ lw_tbl) ∨ (q.2.2.2.2.1 = 1 ∧ Cond.fieldLink (qx_on o) i "java/lang/String" "coder" "B" ∈ lw_tbl))) ∨
      (q.2.2.2.1 < 13 ∧ ∃ C N, qx_cl[q.2.2.2.1]? = some (C, qx_T q.2.2.2.1, N) ∧ q.2.2.2.2.1 < N ∧ ((q.2.2.2.2.2.1 = 0 ∧ Cond.fieldLink (qx_on o) i (qx_T q.2.2.2.1 q.2.2.2.2.1).1 (qx_T q.2.2.2.1 q.2.2.2.2.1).2.1 (qx_T q.2.2.2.1 q.2.2.2.2.1).2.2.1 ∈ lw_tbl) ∨ ∃ host, Cond.fieldLinkNest (qx_on o) i (qx_T q.2.2.2.1 q.2.2.2.2.1).1 (qx_T q.2.2.2.1 q.2.2.2.2.1).2.1 (qx_T q.2.2.2.1 q.2.2.2.2.1).2.2.1 host ∈ qx_nest))
  | .putfield i => ¬ q.2.2.2.2.2.1 = 0 ∨ ((qx_oc o = q.2.2.2.1 → (qx_T q.2.2.2.1 q.2.2.2.2.1).1 = qx_on o) ∧ ∃ C N, qx_cl[q.2.2.2.1]? = some (C, qx_T q.2.2.2.1, N) ∧ q.2.2.2.2.1 < N ∧ Cond.fieldLink (qx_on o) i (qx_T q.2.2.2.1 q.2.2.2.2.1).1 (qx_T q.2.2.2.1 q.2.2.2.2.1).2.1 (qx_T q.2.2.2.1 q.2.2.2.2.1).2.2.1 ∈ lw_tbl)
  | .getstatic i => (q.2.2.2.2.2.1 = 0 → ∃ C n d, (C, n, d, some q.2.2.2.2.2.2) ∈ qx_sta ∧ Cond.fieldLink (qx_on o) i C n d ∈ lw_tbl) ∧ (q.2.2.2.2.2.1 = 1 → ∃ C n d, (C, n, d, none) ∈ qx_sta ∧ Cond.fieldLink (qx_on o) i C n d ∈ lw_tbl)
  | .ldc i => (q.2.2.2.2.2.1 = 0 → ∃ v, q.2.2.2.2.2.2 = .int v ∧ Cond.constant (qx_on o) i v ∈ lw_tbl) ∧ (q.2.2.2.2.2.1 = 1 → ∃ tx j, q.2.2.2.2.2.2 = .ref j ∧ j < 16 ∧ (qx_on o, i, tx, j) ∈ qx_str)
  | .ldc_w i => q.2.2.2.2.2.1 = 0 → ∃ v, q.2.2.2.2.2.2 = .int v ∧ Cond.constant (qx_on o) i v ∈ lw_tbl
  | .ldc2_w i => q.2.2.2.2.2.1 = 2 → ∃ v, q.2.2.2.2.2.2 = .long v ∧ Cond.constantLong (qx_on o) i v ∈ lw_tbl
  | .new i => q.2.2.2.2.2.1 = 0 → ∃ C N, qx_cl[q.2.2.2.1]? = some (C, qx_T q.2.2.2.1, N) ∧ Cond.classLink (qx_on o) i C ∈ lw_tbl ∧ Cond.instantiable C N ∈ lw_tbl ∧ Cond.initialized C ∈ lw_tbl
  | .anewarray i => q.2.2.2.2.2.1 = 0 → q.2.2.2.1 = 7 → Cond.classLink (qx_on o) i "OneRoof$Custom" ∈ lw_tbl
  | .invokevirtual i => (q.2.2.2.2.2.1 = 0 ∨ q.2.2.2.2.2.1 = 1) → 0 < q.2.2.2.1 ∧ ∃ x, qm_ent q.2.2.2.1 = some x ∧ qs_nargs x.2.1 q.2.2.2.2.1 ∧ qs_link o i x.2.1 (decide (q.2.2.2.2.2.1 = 1)) ∧ Cond.instanceMethod x.2.1 ∈ lw_tbl ∧ Cond.selects x.2.1.cls x.2.1 x.2.1 ∈ lw_tbl ∧ Cond.initialized x.2.1.cls ∈ lw_tbl ∧ ((q.2.2.2.2.2.2 = .ref 13 ∧ x.2.1.cls = "java/lang/String") ∨ ∃ ci N, q.2.2.2.2.2.2 = .ref ci ∧ ci < 13 ∧ qx_cl[ci]? = some (x.2.1.cls, qx_T ci, N))
  | .invokestatic i => ((q.2.2.2.2.2.1 = 2 ∨ q.2.2.2.2.2.1 = 3) → 0 < q.2.2.2.1 ∧ ∃ x, qm_ent q.2.2.2.1 = some x ∧ qs_nargs x.2.1 q.2.2.2.2.1 ∧ qs_link o i x.2.1 (decide (q.2.2.2.2.2.1 = 3)) ∧ Cond.static x.2.1 ∈ lw_tbl ∧ Cond.initialized x.2.1.cls ∈ lw_tbl) ∧ (q.2.2.2.2.2.1 = 7 → Cond.methodLink (qx_on o) i arraycopyName ∈ lw_tbl)
  | .invokespecial i => (q.2.2.2.2.2.1 = 6 → Cond.methodLink (qx_on o) i objectInit ∈ lw_tbl) ∧ ((q.2.2.2.2.2.1 = 4 ∨ q.2.2.2.2.2.1 = 5) → 0 < q.2.2.2.1 ∧ ∃ x, qm_ent q.2.2.2.1 = some x ∧ qs_nargs x.2.1 q.2.2.2.2.1 ∧ qs_link o i x.2.1 (decide (q.2.2.2.2.2.1 = 5)) ∧ Cond.instanceMethod x.2.1 ∈ lw_tbl ∧ Cond.initialized x.2.1.cls ∈ lw_tbl ∧ x.2.1.name = "<init>" ∧ x.2.2.2.2.1 = none)
  | _ => True
/-- what the tables say of all methods and classes -/
def qs_all : Prop :=
  (∀ (ci : Nat) (r : vw_C), qx_cl[ci]? = some r → r.2.1 = qx_T ci ∧ (∀ w ∈ u_ws r.1 r.2.1 r.2.2, w ∈ lw_tbl) ∧ (∀ k, k < r.2.2 → parseFieldDescriptor (r.2.1 k).2.2.1 = some (qx_ty ci k)) ∧ (∀ a, a < r.2.2 → ∀ b, b < r.2.2 → a ≠ b → (r.2.1 a).2.1 ≠ (r.2.1 b).2.1)) ∧
  (Cond.arrayClass .int ∈ lw_tbl ∧ Cond.arrayClass .long ∈ lw_tbl ∧ Cond.arrayClass .boolean ∈ lw_tbl ∧ Cond.native arraycopyName ∈ lw_tbl ∧ Cond.static arraycopyName ∈ lw_tbl ∧ Cond.initialized "java/lang/System" ∈ lw_tbl ∧ Cond.instanceMethod objectInit ∈ lw_tbl ∧ Cond.code objectInit ⟨#[0xb1]⟩ 1 none ∈ lw_tbl) ∧
  (∀ (k : Nat) (x : qs_Ent), 0 < k → qm_ent k = some x → plainName x.2.1.cls = true ∧ Cond.code x.2.1 x.2.2.1 x.2.2.2.1 x.2.2.2.2.1 ∈ lw_tbl ∧ x.2.1.cls = qx_on x.1 ∧ x.2.2.2.1 ≤ 30 ∧ ∀ q ∈ x.2.2.2.2.2.2.2, decode x.2.2.1 q.1 = .ok (q.2.1, q.2.2.1) ∧ 0 ≤ (q.1 : Int) + qs_off q.2.1 ∧ qs_ok x.1 q)
theorem qs_u_in {C : String} {T : u_T} {N : Nat} (h : ∀ w ∈ u_ws C T N, w ∈ lw_tbl) : ∀ w ∈ u_ws C T N, w ∈ qs_TB := by
  intro w hw
  refine qs_in (h w hw) ?_
  obtain ⟨k, -, rfl⟩ := List.mem_map.mp hw
  unfold u_lay
  split <;> rfl
section QS2
variable {xa : Nat → Nat} {base : Nat} {cA : FieldType → ClassId} {D : va_G} {X : qm_X}
variable {p : Program} {l : Launch} {e : Env} {R : Room} {s : State} {m : MethodId} {args : Array Value} {below : List Frame} {meth : Method} {c : Code} {Z : State → Prop} {cc : ByteArray} {nL o : Nat}
/-- the machine stands at a state of the small one -/
def qs_P (xa : Nat → Nat) (base : Nat) (cA : FieldType → ClassId) (D : va_G) (p : Program) (l : Launch) (e : Env) (R : Room) (s : State) (m : MethodId) (args : Array Value) (below : List Frame) (meth : Method) (c : Code) (Z : State → Prop) (nL : Nat) (t : qm_S) : Prop :=
  ∀ (H : Heap) (locs : List Loc) (ls : Array Slot), lv_has ls nL (qs_tl xa base t.2.1) → qs_R xa base cA D t.2.2.2.1 H → va_S (qs_A base) s.heap H locs → W p l e R s m args below meth c H locs t.2.2.2.2.1 t.2.2.2.2.2 Z (F0 m t.1 ls (t.2.2.1.map (qs_tv xa base)))
theorem qs_jump {pc : Nat} {off : Int} {ls : qm_L} {st : List Value} {w : qm_W} {cn n : Nat} {f : qm_S} (h : qm_jump pc off ls st w cn n = some f) : ∃ t : Nat, (pc : Int) + off = (t : Int) ∧ f = (t, ls, st, w, cn, n) := by
  unfold qm_jump qm_to qm_go at h
  split at h
  · rename_i h0
    exact ⟨((pc : Int) + off).toNat, by omega, (Option.some.inj h).symm⟩
  · cases h
theorem qs_icmp {lst : Array Slot} (hx : p.tables.exec = Jvm.exec) (hb : c.code = cc) {k : ClassFile.Cond} {x y : Int32} {off : Int} {pc tgt : Nat} {rest : List Value} {H : Heap} {locs : List Loc} {cn n : Nat} (hdg : decode cc pc = .ok (.if_icmp k off, 3)) (ht : (pc : Int) + off = (tgt : Int))
    (kt : qm_cond k x y = true → W p l e R s m args below meth c H locs cn n Z (F0 m tgt lst rest)) (kf : qm_cond k x y = false → W p l e R s m args below meth c H locs cn n Z (F0 m (pc + 3) lst rest)) : W p l e R s m args below meth c H locs cn n Z (F0 m pc lst (.int y :: .int x :: rest)) := by
  cases k with
  | eq => exact lv_icmp_eq hx hb hdg ht (fun h => kt (decide_eq_true h)) (fun h => kf (decide_eq_false h))
  | ne => exact lv_icmp_ne hx hb hdg ht (fun h => kt (decide_eq_true h)) (fun h => kf (decide_eq_false (fun g => g h)))
  | lt => exact lv_icmp_lt hx hb hdg ht (fun h => kt (decide_eq_true h)) (fun h => kf (decide_eq_false h))
  | ge => exact lv_icmp_ge hx hb hdg ht (fun h => kt (decide_eq_true h)) (fun h => kf (decide_eq_false h))
  | gt => exact lv_icmp_gt hx hb hdg ht (fun h => kt (decide_eq_true h)) (fun h => kf (decide_eq_false h))
  | le => exact lv_icmp_le hx hb hdg ht (fun h => kt (decide_eq_true h)) (fun h => kf (decide_eq_false h))
theorem qs_icond {lst : Array Slot} (hx : p.tables.exec = Jvm.exec) (hb : c.code = cc) {k : ClassFile.Cond} {x : Int32} {off : Int} {pc tgt : Nat} {rest : List Value} {H : Heap} {locs : List Loc} {cn n : Nat} (hdg : decode cc pc = .ok (.ifCond k off, 3)) (ht : (pc : Int) + off = (tgt : Int))
    (kt : qm_cond k x 0 = true → W p l e R s m args below meth c H locs cn n Z (F0 m tgt lst rest)) (kf : qm_cond k x 0 = false → W p l e R s m args below meth c H locs cn n Z (F0 m (pc + 3) lst rest)) : W p l e R s m args below meth c H locs cn n Z (F0 m pc lst (.int x :: rest)) := by
  cases k with
  | eq => exact lv_if_eq hx hb hdg ht (fun h => kt (decide_eq_true h)) (fun h => kf (decide_eq_false h))
  | ne => exact lv_if_ne hx hb hdg ht (fun h => kt (decide_eq_true h)) (fun h => kf (decide_eq_false (fun g => g h)))
  | lt => exact lv_if_lt hx hb hdg ht (fun h => kt (decide_eq_true h)) (fun h => kf (decide_eq_false h))
  | ge => exact lv_if_ge hx hb hdg ht (fun h => kt (decide_eq_true h)) (fun h => kf (decide_eq_false h))
  | gt => exact lv_if_gt hx hb hdg ht (fun h => kt (decide_eq_true h)) (fun h => kf (decide_eq_false h))
  | le => exact lv_if_le hx hb hdg ht (fun h => kt (decide_eq_true h)) (fun h => kf (decide_eq_false h))
end QS2
end
section
section QS3
variable {p : Program} {l : Launch} {e : Env} {R : Room} {s : State} {m : MethodId} {args : Array Value} {below : List Frame} {meth : Method} {c : Code} {H : Heap} {locs : List Loc} {cells slots : Nat} {Q : State → Prop}
variable {cc : ByteArray} {pc : Nat} {ls : Array Slot} {rest : List Value} {D : va_G} {cl : List vw_C} {a : Nat} {tys : List (ClassId × FieldType)}
theorem qs_put (hexec : p.tables.exec = Jvm.exec) (hb : c.code = cc) {own C : String} {T : u_T} {N ci index : Nat} {Ts : List Cond} (hts : ∀ w ∈ Ts, w.before args s = true) (hin : ∀ w ∈ u_ws C T N, w ∈ Ts) (ty0 : Nat → FieldType) (hty : ∀ k, k < N → parseFieldDescriptor (T k).2.2.1 = some (ty0 k)) (hnm : ∀ a, a < N → ∀ b, b < N → a ≠ b → (T a).2.1 ≠ (T b).2.1) (hown : s.vm.findClass own = some m.cls) (hK : va_K D cl tys s) {fs : List Value} (hat : va_at D cl (a, .inr (ci, fs)) H) (hc : cl[ci]? = some (C, T, N)) {k : Nat} (hk : k < N) (hlink : (Cond.fieldLink own index (T k).1 (T k).2.1 (T k).2.2.1).before args s = true) (hfin : (T k).2.2.2 = false) {ty : FieldType} {v : Value} (hd : parseFieldDescriptor (T k).2.2.1 = some ty) (hn : narrow ty v = v) (hfit : fits ty v = true) (hl : k < fs.length)
    (hdg : decode cc pc = .ok (.putfield index, 3)) (kk : ∀ H1 : Heap, va_at D cl (a, .inr (ci, fs.set k v)) H1 → H1.size = H.size → (∀ q : Nat, q ≠ a → H1[q]? = H[q]?) → W p l e R s m args below meth c H1 (locs ++ [⟨a, D.2 ci k⟩]) cells slots Q (F0 m (pc + 3) ls rest)) : W p l e R s m args below meth c H locs cells slots Q (F0 m pc ls (v :: .ref a :: rest)) := by
  have hap := va_apart (own := own) hts hin ty0 hty hnm hK hc
  obtain ⟨r, h1, cell, q1, q2, q3, q4⟩ := hat
  have hr : r = (C, T, N) := Option.some.inj (h1.symm.trans hc)
  subst hr
  obtain ⟨hS, hfc, kC, hkC, hkind⟩ := hK.1 ci _ hc
  obtain ⟨cf, kf, fi, f, hi, hsl⟩ := hS k hk
  have hlay := hts _ (hin _ (u_in_lay hk))
  unfold u_lay at hlay
  rw [if_neg (by rw [hfin]; decide)] at hlay
  have hst := (u_facts hfc hkC (u_lays hts hin hk) hi).1
  have h6 := u_store hfc hkC hkind hlay hi hd hn hfit
  refine W.putK hexec hb (f := f) ⟨hown, hlink, ⟨_, _, _, hi⟩, hst⟩ (by rw [q2]; exact h6) q1 q3 (by rw [hsl]; exact k2_hasslot (q4 k hk)) rfl rfl hdg fun H' e1 e2 e3 => ?_
  rw [hsl] at e1 ⊢
  exact kk H' ⟨_, hc, t_OB.to (V := updV (vp_V fs) k v) ⟨_, e1, q2, q3, t_set q4 hap hk v⟩ (fun j _ => vp_updV_set hl v j)⟩ e2 e3
theorem qs_putF (hexec : p.tables.exec = Jvm.exec) (hb : c.code = cc) {own C : String} {T : u_T} {N ci index : Nat} {Ts : List Cond} (hts : ∀ w ∈ Ts, w.before args s = true) (hin : ∀ w ∈ u_ws C T N, w ∈ Ts) (ty0 : Nat → FieldType) (hty : ∀ k, k < N → parseFieldDescriptor (T k).2.2.1 = some (ty0 k)) (hnm : ∀ a, a < N → ∀ b, b < N → a ≠ b → (T a).2.1 ≠ (T b).2.1) (hown : s.vm.findClass own = some m.cls) (hK : va_K D cl tys s) {fs : List Value} (hat : va_at D cl (a, .inr (ci, fs)) H) (hc : cl[ci]? = some (C, T, N)) {k : Nat} (hk : k < N) (hlink : (Cond.fieldLink own index (T k).1 (T k).2.1 (T k).2.2.1).before args s = true) (hfin : (T k).2.2.2 = true) (hin2 : meth.name = "<init>") (hdecl : (T k).1 = own) {ty : FieldType} {v : Value} (hd : parseFieldDescriptor (T k).2.2.1 = some ty) (hn : narrow ty v = v) (hfit : fits ty v = true) (hl : k < fs.length)
    (hdg : decode cc pc = .ok (.putfield index, 3)) (kk : ∀ H1 : Heap, va_at D cl (a, .inr (ci, fs.set k v)) H1 → H1.size = H.size → (∀ q : Nat, q ≠ a → H1[q]? = H[q]?) → W p l e R s m args below meth c H1 (locs ++ [⟨a, D.2 ci k⟩]) cells slots Q (F0 m (pc + 3) ls rest)) : W p l e R s m args below meth c H locs cells slots Q (F0 m pc ls (v :: .ref a :: rest)) := by
  have hap := va_apart (own := own) hts hin ty0 hty hnm hK hc
  obtain ⟨r, h1, cell, q1, q2, q3, q4⟩ := hat
  have hr : r = (C, T, N) := Option.some.inj (h1.symm.trans hc)
  subst hr
  obtain ⟨hS, hfc, kC, hkC, hkind⟩ := hK.1 ci _ hc
  obtain ⟨cf, kf, fi, f, hi, hsl⟩ := hS k hk
  have hlay := hts _ (hin _ (u_in_lay hk))
  unfold u_lay at hlay
  rw [if_pos hfin] at hlay
  have hst := (u_facts hfc hkC (u_lays hts hin hk) hi).1
  have hcf : m.cls = cf := by
    obtain ⟨_, _, c', _, _, _, -, -, hf', -, -, -, hown2, -⟩ := Cond.laysFinal_spec hlay
    have e1 : c' = cf := by have := hi.symm.trans hf'; simp at this; exact this.1.symm
    rw [hdecl] at hown2
    rw [← e1]; exact Option.some.inj (hown.symm.trans hown2)
  have h6 := u_fits hfc hkC hkind (Or.inr hlay) hi hd hn hfit
  refine W.putFinK hexec hb hown hlink hi hst hcf hin2 (by rw [q2]; exact h6) q1 q3 (by rw [hsl]; exact k2_hasslot (q4 k hk)) rfl rfl hdg fun H' e1 e2 e3 => ?_
  rw [hsl] at e1 ⊢
  exact kk H' ⟨_, hc, t_OB.to (V := updV (vp_V fs) k v) ⟨_, e1, q2, q3, t_set q4 hap hk v⟩ (fun j _ => vp_updV_set hl v j)⟩ e2 e3
theorem qs_iast (hexec : p.tables.exec = Jvm.exec) (hb : c.code = cc) {cA : ClassId} {n : Nat} {f : Nat → Int32} (hA : ArrOfT s cA .int) (hat : H[a]? = some (vp_cell cA (n, .inl f))) {i : Int32} {x : Int32} (hin : vp_in i n) (hdg : decode cc pc = .ok (.iastore, 1))
    (kk : ∀ H1 : Heap, H1[a]? = some (vp_cell cA (n, .inl (upd f i.toNatClampNeg x))) → H1.size = H.size → (∀ q : Nat, q ≠ a → H1[q]? = H[q]?) → W p l e R s m args below meth c H1 (locs ++ [⟨a, i.toNatClampNeg⟩]) cells slots Q (F0 m (pc + 1) ls rest)) : W p l e R s m args below meth c H locs cells slots Q (F0 m pc ls (.int x :: .int i :: .ref a :: rest)) := by
  refine W.iast hexec hb hat (hA n (fun j => .int (f j))) (fun q => by cases q) (by show ¬ (i < 0 ∨ (arrV _ _ _).slots.size ≤ _); rw [arrV_size]; exact hin) rfl rfl hdg fun H1 e z oq => ?_
  refine kk H1 ?_ z oq
  rw [e]
  rw [vp_cell_i, vp_cell_i, arrV_store]
  congr 2
  funext q
  by_cases hq : q = i.toNatClampNeg
  · subst hq
    simp [updV, upd]
    try rfl
  · simp [updV, upd, hq]
theorem qs_last (hexec : p.tables.exec = Jvm.exec) (hb : c.code = cc) {cA : ClassId} {n : Nat} {f : Nat → Int64} (hA : ArrOfT s cA .long) (hat : H[a]? = some (vp_cell cA (n, .inr (.inl f)))) {i : Int32} {x : Int64} (hin : vp_in i n) (hdg : decode cc pc = .ok (.lastore, 1))
    (kk : ∀ H1 : Heap, H1[a]? = some (vp_cell cA (n, .inr (.inl (vp_updL f i.toNatClampNeg x)))) → H1.size = H.size → (∀ q : Nat, q ≠ a → H1[q]? = H[q]?) → W p l e R s m args below meth c H1 (locs ++ [⟨a, i.toNatClampNeg⟩]) cells slots Q (F0 m (pc + 1) ls rest)) : W p l e R s m args below meth c H locs cells slots Q (F0 m pc ls (.long x :: .int i :: .ref a :: rest)) := by
  refine W.last hexec hb hat (hA n (fun j => .long (f j))) (fun q => by cases q) (by show ¬ (i < 0 ∨ (arrV _ _ _).slots.size ≤ _); rw [arrV_size]; exact hin) rfl rfl hdg fun H1 e z oq => ?_
  refine kk H1 ?_ z oq
  rw [e]
  rw [vp_cell_l, vp_cell_l, arrV_store]
  congr 2
  funext q
  by_cases hq : q = i.toNatClampNeg
  · subst hq
    simp [updV, vp_updL]
    try rfl
  · simp [updV, vp_updL, hq]
theorem qs_zast (hexec : p.tables.exec = Jvm.exec) (hb : c.code = cc) {cA : ClassId} {n : Nat} {f : Nat → Int32} (hA : ArrOfT s cA .boolean) (hat : H[a]? = some (vp_cell cA (n, .inl f))) {i : Int32} {x : Int32} (hin : vp_in i n) (hdg : decode cc pc = .ok (.bastore, 1))
    (kk : ∀ H1 : Heap, H1[a]? = some (vp_cell cA (n, .inl (upd f i.toNatClampNeg (vp_nar .boolean x)))) → H1.size = H.size → (∀ q : Nat, q ≠ a → H1[q]? = H[q]?) → W p l e R s m args below meth c H1 (locs ++ [⟨a, i.toNatClampNeg⟩]) cells slots Q (F0 m (pc + 1) ls rest)) : W p l e R s m args below meth c H locs cells slots Q (F0 m pc ls (.int x :: .int i :: .ref a :: rest)) := by
  refine W.zast hexec hb hat (hA n (fun j => .int (f j))) (fun q => by cases q) (by show ¬ (i < 0 ∨ (arrV _ _ _).slots.size ≤ _); rw [arrV_size]; exact hin) rfl rfl hdg fun H1 e z oq => ?_
  refine kk H1 ?_ z oq
  rw [e]
  rw [vp_cell_i, vp_cell_i, arrV_store]
  congr 2
  funext q
  by_cases hq : q = i.toNatClampNeg
  · subst hq
    simp [updV, upd, vp_nar]
    try rfl
  · simp [updV, upd, vp_nar, hq]
theorem qs_aast (hexec : p.tables.exec = Jvm.exec) (hb : c.code = cc) {cA : ClassId} {n v ci : Nat} {r : vw_C} {f : Nat → Option Nat} {vs : List Value} (hK : va_K D cl tys s) (hRA : va_RA s cA (.object r.1)) (hat : H[a]? = some (vp_cell cA (n, .inr (.inr (.inr (.inr f)))))) (hv : va_at D cl (v, .inr (ci, vs)) H) (hc : cl[ci]? = some r) {i : Int32} (hin : vp_in i n) (hdg : decode cc pc = .ok (.aastore, 1))
    (kk : ∀ H1 : Heap, H1[a]? = some (vp_cell cA (n, .inr (.inr (.inr (.inr (va_up f i.toNatClampNeg (some v))))))) → H1.size = H.size → (∀ q : Nat, q ≠ a → H1[q]? = H[q]?) → W p l e R s m args below meth c H1 (locs ++ [⟨a, i.toNatClampNeg⟩]) cells slots Q (F0 m (pc + 1) ls rest)) : W p l e R s m args below meth c H locs cells slots Q (F0 m pc ls (.ref v :: .int i :: .ref a :: rest)) := by
  have hlt : i.toNatClampNeg < n := Nat.not_le.mp fun q => hin (Or.inr q)
  have h0 : ¬ i < 0 := fun q => hin (Or.inl q)
  obtain ⟨r', hr', cellV, g1, g2, g3, -⟩ := hv
  have hcls := (hK.1 ci r hc).2
  obtain ⟨kA, comp, k1, k2, k3, -⟩ := hRA
  have hcomp : comp = D.1 ci := Option.some.inj (k3.symm.trans hcls.1)
  subst hcomp
  obtain ⟨kC, hkC, -⟩ := hcls.2
  refine W.aast hexec hb hat (fun q h => by cases h) (fun h => by cases h) k1 k2 rfl hkC ⟨h0, by show _ < (arrV _ _ _).slots.size; rw [arrV_size]; exact hlt⟩ g1 (fun q h => by rw [g3] at h; cases h) (by rw [g2]; exact hkC) (by rw [g2]; exact va_assign hcls) rfl rfl hdg fun H1 e z oq => ?_
  refine kk H1 ?_ z oq
  rw [e]
  rw [vp_cell_q, vp_cell_q, arrV_store]
  congr 2
  funext q
  by_cases hq : q = i.toNatClampNeg
  · subst hq
    simp [updV, va_up, va_rf]
  · simp [updV, va_up, hq]
theorem qs_new (hexec : p.tables.exec = Jvm.exec) (hb : c.code = cc) {own C : String} {T : u_T} {N ci index : Nat} {Ts : List Cond} (hts : ∀ w ∈ Ts, w.before args s = true) (hin : ∀ w ∈ u_ws C T N, w ∈ Ts) (ty : Nat → FieldType) (hty : ∀ k, k < N → parseFieldDescriptor (T k).2.2.1 = some (ty k)) (hown : s.vm.findClass own = some m.cls) (hcl : (Cond.classLink own index C).before args s = true) (hinst : (Cond.instantiable C N).before args s = true) (hini : (Cond.initialized C).before args s = true)
    (hK : va_K D cl tys s) (hc : cl[ci]? = some (C, T, N)) {fs : List Value} (hfs : ∀ j, j < N → defaultValue (ty j) = vp_V fs j) (hcells : cells + 1 ≤ R.cells) (hslots : slots + N ≤ R.slots) (hdg : decode cc pc = .ok (.new index, 3))
    (kk : ∀ H1 : Heap, va_at D cl (H.size, .inr (ci, fs)) H1 → H1.size = H.size + 1 → (∀ q : Nat, q < H.size → H1[q]? = H[q]?) →
      W p l e R s m args below meth c H1 locs (cells + 1) (slots + N) Q (F0 m (pc + 3) ls (.ref H.size :: rest))) : W p l e R s m args below meth c H locs cells slots Q (F0 m pc ls rest) := by
  have hKn := hK.1 ci _ hc
  refine W.newcK hexec hb hown hcl hinst hini rfl hdg hcells hslots hKn.2.1 rfl fun H1 kC hkC e1 z1 o1 => ?_
  exact kk H1 ⟨_, hc, (u_born ty hts hin hKn hkC e1 hty).to hfs⟩ z1 o1
theorem qs_newq (hexec : p.tables.exec = Jvm.exec) (hb : c.code = cc) {own C : String} {index : Nat} (hown : s.vm.findClass own = some m.cls) (hclink : (Cond.classLink own index C).before args s = true) (hover : va_AO C s)
    {n : Int32} {N' : Nat} (hn : ¬ n < 0) (hN : n.toNatClampNeg = N') (hbytes : N' * 4 ≤ 536870912) (hcells : cells + 1 ≤ R.cells) (hslots : slots + N' ≤ R.slots) (hdg : decode cc pc = .ok (.anewarray index, 3))
    (kk : ∀ (cA : ClassId) (H1 : Heap), s.vm.findClass ("[" ++ (FieldType.object C).toString) = some cA → H1[H.size]? = some (vp_cell cA (N', .inr (.inr (.inr (.inr (fun _ => none)))))) → H1.size = H.size + 1 → (∀ q : Nat, q < H.size → H1[q]? = H[q]?) →
      W p l e R s m args below meth c H1 locs (cells + 1) (slots + N') Q (F0 m (pc + 3) ls (.ref H.size :: rest))) : W p l e R s m args below meth c H locs cells slots Q (F0 m pc ls (.int n :: rest)) := by
  subst hN
  refine W.anew hexec hb hown hclink (va_AO.use hover) rfl hdg rfl hn hbytes hcells hslots fun cA kA comp f1 f2 f3 f4 => ?_
  generalize hH1 : H.push ({ cls := cA, slots := Array.replicate n.toNatClampNeg .null, vm := .none } : Cell) = H1
  have z1 : H1.size = H.size + 1 := by rw [← hH1, Array.size_push]
  have e1 : H1[H.size]? = some (arrV cA n.toNatClampNeg (fun _ => .null)) := by rw [← hH1, Array.getElem?_push_size, ← arrV_new]
  have o1 : ∀ q : Nat, q < H.size → H1[q]? = H[q]? := fun q hq => by rw [← hH1, Array.getElem?_push, if_neg (Nat.ne_of_lt hq)]
  refine kk cA H1 ?_ ?_ z1 o1
  · first | exact f1 | exact f4
  · rw [vp_cell_q]
    exact e1
theorem qs_copyi (hexec : p.tables.exec = Jvm.exec) (hb : c.code = cc) (hml : c.maxLocals = ls.size) {own : String} {index : Nat} (hown : s.vm.findClass own = some m.cls) (hlink : (Cond.methodLink own index arraycopyName).before args s = true) (hnat : (Cond.native arraycopyName).before args s = true) (hstat : (Cond.static arraycopyName).before args s = true) (hini : (Cond.initialized "java/lang/System").before args s = true)
    {a0 : Nat} {c0 c1 : ClassId} {n0 n1 : Nat} {f g : Nat → Int32} (hA0 : ArrOfT s c0 .int) (hA1 : ArrOfT s c1 .int) (hc0 : H[a0]? = some (vp_cell c0 (n0, .inl f))) (hc1 : H[a]? = some (vp_cell c1 (n1, .inl g)))
    {sp dp n : Int32} (h1 : ¬ sp < 0) (h2 : ¬ dp < 0) (h3 : ¬ n < 0) (h4 : sp.toNatClampNeg + n.toNatClampNeg ≤ n0) (h5 : dp.toNatClampNeg + n.toNatClampNeg ≤ n1)
    (hframes : 1 ≤ R.frames) (hlocals : (rest.map fun v => v.category).sum + (nativeFrameWords "java/lang/System" "arraycopy" 5 + 11) ≤ R.locals) (hdg : decode cc pc = .ok (.invokestatic index, 3))
    (kk : ∀ (H1 : Heap) (L : List Loc), (∀ z ∈ L, z.base = a) → H1[a]? = some (vp_cell c1 (n1, .inl (va_cpy f g sp.toNatClampNeg dp.toNatClampNeg n.toNatClampNeg))) → H1.size = H.size → (∀ q : Nat, q ≠ a → H1[q]? = H[q]?) → W p l e R s m args below meth c H1 (locs ++ L) cells slots Q (F0 m (pc + 3) ls rest)) : W p l e R s m args below meth c H locs cells slots Q (F0 m pc ls (.int n :: .int dp :: .ref a :: .int sp :: .ref a0 :: rest)) := by
  have nn : ∀ z : Int32, ¬ z < 0 → z.toInt = (z.toNatClampNeg : Int) := by
    intro z hz
    have hz0 : (0 : Int) ≤ z.toInt := by
      have := Int32.not_lt.mp hz
      simpa using Int32.le_iff_toInt_le.mp this
    show z.toInt = ((z.toInt.toNat : Nat) : Int)
    omega
  intro T hT X
  obtain ⟨-, k0, hk0, cm0, hkk0⟩ := hA0 n0 (fun j => .int (f j))
  obtain ⟨-, k1, hk1, cm1, hkk1⟩ := hA1 n1 (fun j => .int (g j))
  obtain ⟨vm', X', step⟩ := X.arraycopy hexec hown hlink hnat hstat hini (src := a0) (dst := a) (cs := vp_cell c0 (n0, .inl f)) (cd := vp_cell c1 (n1, .inl g)) (srcPos := sp) (destPos := dp) (n := n) (by rw [hT]; exact hc0) (by rw [hT]; exact hc1)
    (fun _ h => by cases h) (fun _ h => by cases h) (fun h => by cases h) (fun h => by cases h) hk0 hk1 hkk0 hkk1 (by simp [refKind]) h1 h2 h3
    (by rw [nn sp h1, nn n h3]; show ¬ _ > ((arrV c0 n0 (fun j => .int (f j))).slots.size : Int); rw [arrV_size]; omega)
    (by rw [nn dp h2, nn n h3]; show ¬ _ > ((arrV c1 n1 (fun j => .int (g j))).slots.size : Int); rw [arrV_size]; omega)
    (fun vm₁ _ i hi => by
      have e : (vp_cell c0 (n0, .inl f)).slots.getD (sp.toNatClampNeg + i) .null = .int (f (sp.toNatClampNeg + i)) := by
        show (arrV c0 n0 (fun j => .int (f j))).slots.getD _ _ = _
        rw [Array.getD_eq_getD_getElem?, arrV_read _ _ (by omega)]
        rfl
      refine ⟨?_, ?_⟩
      · rw [e]
        rfl
      · rw [e]
        exact trivial)
    (g := F0 m pc ls (.int n :: .int dp :: .ref a :: .int sp :: .ref a0 :: rest)) rfl (by rw [hml]) (rest := rest) rfl (by rw [hb]; exact hdg) hframes (by show 2 * 0 + _ + _ ≤ _; omega)
  have e1 : copied (vp_cell c0 (n0, .inl f)) (vp_cell c1 (n1, .inl g)) sp dp n = vp_cell c1 (n1, .inl (va_cpy f g sp.toNatClampNeg dp.toNatClampNeg n.toNatClampNeg)) := va_copied (fun z => .int z) c0 c1 f g h4
  rw [e1] at X' step
  have hl : a < H.size := (Array.getElem?_eq_some_iff.mp hc1).1
  have hheap : ((T.setVm vm').setCell a (vp_cell c1 (n1, .inl (va_cpy f g sp.toNatClampNeg dp.toNatClampNeg n.toNatClampNeg)))).heap = H.setIfInBounds a (vp_cell c1 (n1, .inl (va_cpy f g sp.toNatClampNeg dp.toNatClampNeg n.toNatClampNeg))) := by rw [← hT]; rfl
  obtain ⟨t, a1, b1⟩ := kk (H.setIfInBounds a (vp_cell c1 (n1, .inl (va_cpy f g sp.toNatClampNeg dp.toNatClampNeg n.toNatClampNeg)))) _ (fun z hz => by
      obtain ⟨y, -, hy⟩ := List.mem_map.mp hz
      rw [← hy]) (by simp [Array.getElem?_setIfInBounds, hl]) (by simp) (fun q hq => by simp [Array.getElem?_setIfInBounds, Ne.symm hq]) _ hheap X'
  exact ⟨t, step t a1, b1⟩
theorem qs_copyl (hexec : p.tables.exec = Jvm.exec) (hb : c.code = cc) (hml : c.maxLocals = ls.size) {own : String} {index : Nat} (hown : s.vm.findClass own = some m.cls) (hlink : (Cond.methodLink own index arraycopyName).before args s = true) (hnat : (Cond.native arraycopyName).before args s = true) (hstat : (Cond.static arraycopyName).before args s = true) (hini : (Cond.initialized "java/lang/System").before args s = true)
    {a0 : Nat} {c0 c1 : ClassId} {n0 n1 : Nat} {f g : Nat → Int64} (hA0 : ArrOfT s c0 .long) (hA1 : ArrOfT s c1 .long) (hc0 : H[a0]? = some (vp_cell c0 (n0, .inr (.inl f)))) (hc1 : H[a]? = some (vp_cell c1 (n1, .inr (.inl g))))
    {sp dp n : Int32} (h1 : ¬ sp < 0) (h2 : ¬ dp < 0) (h3 : ¬ n < 0) (h4 : sp.toNatClampNeg + n.toNatClampNeg ≤ n0) (h5 : dp.toNatClampNeg + n.toNatClampNeg ≤ n1)
    (hframes : 1 ≤ R.frames) (hlocals : (rest.map fun v => v.category).sum + (nativeFrameWords "java/lang/System" "arraycopy" 5 + 11) ≤ R.locals) (hdg : decode cc pc = .ok (.invokestatic index, 3))
    (kk : ∀ (H1 : Heap) (L : List Loc), (∀ z ∈ L, z.base = a) → H1[a]? = some (vp_cell c1 (n1, .inr (.inl (va_cpy f g sp.toNatClampNeg dp.toNatClampNeg n.toNatClampNeg)))) → H1.size = H.size → (∀ q : Nat, q ≠ a → H1[q]? = H[q]?) → W p l e R s m args below meth c H1 (locs ++ L) cells slots Q (F0 m (pc + 3) ls rest)) : W p l e R s m args below meth c H locs cells slots Q (F0 m pc ls (.int n :: .int dp :: .ref a :: .int sp :: .ref a0 :: rest)) := by
  have nn : ∀ z : Int32, ¬ z < 0 → z.toInt = (z.toNatClampNeg : Int) := by
    intro z hz
    have hz0 : (0 : Int) ≤ z.toInt := by
      have := Int32.not_lt.mp hz
      simpa using Int32.le_iff_toInt_le.mp this
    show z.toInt = ((z.toInt.toNat : Nat) : Int)
    omega
  intro T hT X
  obtain ⟨-, k0, hk0, cm0, hkk0⟩ := hA0 n0 (fun j => .long (f j))
  obtain ⟨-, k1, hk1, cm1, hkk1⟩ := hA1 n1 (fun j => .long (g j))
  obtain ⟨vm', X', step⟩ := X.arraycopy hexec hown hlink hnat hstat hini (src := a0) (dst := a) (cs := vp_cell c0 (n0, .inr (.inl f))) (cd := vp_cell c1 (n1, .inr (.inl g))) (srcPos := sp) (destPos := dp) (n := n) (by rw [hT]; exact hc0) (by rw [hT]; exact hc1)
    (fun _ h => by cases h) (fun _ h => by cases h) (fun h => by cases h) (fun h => by cases h) hk0 hk1 hkk0 hkk1 (by simp [refKind]) h1 h2 h3
    (by rw [nn sp h1, nn n h3]; show ¬ _ > ((arrV c0 n0 (fun j => .long (f j))).slots.size : Int); rw [arrV_size]; omega)
    (by rw [nn dp h2, nn n h3]; show ¬ _ > ((arrV c1 n1 (fun j => .long (g j))).slots.size : Int); rw [arrV_size]; omega)
    (fun vm₁ _ i hi => by
      have e : (vp_cell c0 (n0, .inr (.inl f))).slots.getD (sp.toNatClampNeg + i) .null = .long (f (sp.toNatClampNeg + i)) := by
        show (arrV c0 n0 (fun j => .long (f j))).slots.getD _ _ = _
        rw [Array.getD_eq_getD_getElem?, arrV_read _ _ (by omega)]
        rfl
      refine ⟨?_, ?_⟩
      · rw [e]
        rfl
      · rw [e]
        exact trivial)
    (g := F0 m pc ls (.int n :: .int dp :: .ref a :: .int sp :: .ref a0 :: rest)) rfl (by rw [hml]) (rest := rest) rfl (by rw [hb]; exact hdg) hframes (by show 2 * 0 + _ + _ ≤ _; omega)
  have e1 : copied (vp_cell c0 (n0, .inr (.inl f))) (vp_cell c1 (n1, .inr (.inl g))) sp dp n = vp_cell c1 (n1, .inr (.inl (va_cpy f g sp.toNatClampNeg dp.toNatClampNeg n.toNatClampNeg))) := va_copied (fun z => .long z) c0 c1 f g h4
  rw [e1] at X' step
  have hl : a < H.size := (Array.getElem?_eq_some_iff.mp hc1).1
  have hheap : ((T.setVm vm').setCell a (vp_cell c1 (n1, .inr (.inl (va_cpy f g sp.toNatClampNeg dp.toNatClampNeg n.toNatClampNeg))))).heap = H.setIfInBounds a (vp_cell c1 (n1, .inr (.inl (va_cpy f g sp.toNatClampNeg dp.toNatClampNeg n.toNatClampNeg)))) := by rw [← hT]; rfl
  obtain ⟨t, a1, b1⟩ := kk (H.setIfInBounds a (vp_cell c1 (n1, .inr (.inl (va_cpy f g sp.toNatClampNeg dp.toNatClampNeg n.toNatClampNeg))))) _ (fun z hz => by
      obtain ⟨y, -, hy⟩ := List.mem_map.mp hz
      rw [← hy]) (by simp [Array.getElem?_setIfInBounds, hl]) (by simp) (fun q hq => by simp [Array.getElem?_setIfInBounds, Ne.symm hq]) _ hheap X'
  exact ⟨t, step t a1, b1⟩
end QS3
end
section
section QS4
variable {xa : Nat → Nat} {base : Nat} {cA : FieldType → ClassId} {D : va_G} {X : qm_X}
variable {p : Program} {l : Launch} {e : Env} {R : Room} {s : State} {m : MethodId} {args : Array Value} {below : List Frame} {meth : Method} {c : Code} {Z : State → Prop} {cc : ByteArray} {nL o : Nat}
theorem qs_getp {l : qm_L} {i : Nat} {v : Value} (hg : qm_get l i = some v) : ∃ j : Nat, (qs_tl xa base l)[j]? = some (i, qs_tv xa base v) := by
  unfold qm_get at hg
  cases hf : l.find? (fun q => q.1 == i) with
  | none => rw [hf] at hg; cases hg
  | some q =>
    rw [hf] at hg
    have h1 := List.find?_some hf
    have h2 := List.mem_of_find?_eq_some hf
    have h3 : q.1 = i := by simpa using h1
    cases hg
    subst h3
    exact List.getElem?_of_mem (List.mem_map.mpr ⟨q, h2, rfl⟩)
set_option maxHeartbeats 4000000 in
set_option maxRecDepth 100000 in
theorem qs_go (hall : qs_all) (hx : p.tables.exec = Jvm.exec) (hb : c.code = cc) (hml : c.maxLocals = nL) (hown : s.vm.findClass (qx_on o) = some m.cls) (hts : ∀ w ∈ qs_TB, w.before args s = true) (hK : va_K D qx_cl (qs_tys cA) s) (hX : qs_X xa base X s s.heap) {M : qm_M} (hM1 : M.1 = nL) (hinit : M.2.2.1 = true → meth.name = "<init>") (hMo : M.2.2.2.1 = qx_oc o) (hM5 : M.2.2.2.2.1 = R.cells) (hM6 : M.2.2.2.2.2 = R.slots) (hR1 : 1 ≤ R.frames) (hR2 : 60 ≤ R.locals)
    {pc len r1 r2 r3 : Nat} {i : Instr} {rv : Value} (hdec : decode cc pc = .ok (i, len)) (hok : qs_ok o (pc, i, len, r1, r2, r3, rv)) {ls : qm_L} {st : List Value} {w : qm_W} {cn n : Nat} {s' : qm_S} (hjmp : ∃ t : Nat, (pc : Int) + qs_off i = (t : Int))
    (hlen : ∀ (ty : FieldType) (mm : Nat) (f : (Nat → Int32) ⊕ (Nat → Int64) ⊕ (Nat → UInt32) ⊕ (Nat → UInt64) ⊕ (Nat → Option Nat)) (a : Nat) (r : List Value), qm_cell X w a = some (.inl (ty, mm, f)) → (a < 16 ∨ ty = .int ∨ ty = .long ∨ ty = .boolean ∨ ty = .object "OneRoof$Custom") → decode cc pc = .ok (.arraylength, 1) → ∀ (H : Heap) (locs : List Loc) (lsA : Array Slot), qs_R xa base cA D w H → va_S (qs_A base) s.heap H locs → W p l e R s m args below meth c H locs cn n Z (F0 m (pc + 1) lsA (.int (Int32.ofNat mm) :: r.map (qs_tv xa base))) → W p l e R s m args below meth c H locs cn n Z (F0 m pc lsA (qs_tv xa base (.ref a) :: r.map (qs_tv xa base))))
    (hf : qm_eff X qx_T M (pc, i, len, r1, r2, r3, rv) ls st w cn n = some s') (K : qs_P xa base cA D p l e R s m args below meth c Z nL s') : qs_P xa base cA D p l e R s m args below meth c Z nL (pc, ls, st, w, cn, n) := by
  cases i with
  | iconst k =>
    simp only [qm_eff, qm_go] at hf
    split at hf
    · rename_i hlen
      subst hlen
      cases hf
      intro H locs lsA hl hR hS
      exact lv_iconst hx hb hdec rfl (K H locs lsA hl hR hS)
    · cases hf
  | bipush k =>
    simp only [qm_eff, qm_go] at hf
    split at hf
    · rename_i hlen
      subst hlen
      cases hf
      intro H locs lsA hl hR hS
      exact lv_bipush hx hb hdec rfl (K H locs lsA hl hR hS)
    · cases hf
  | sipush k =>
    simp only [qm_eff, qm_go] at hf
    split at hf
    · rename_i hlen
      subst hlen
      cases hf
      intro H locs lsA hl hR hS
      exact lv_sipush hx hb hdec rfl (K H locs lsA hl hR hS)
    · cases hf
  | lconst k =>
    simp only [qm_eff, qm_go] at hf
    split at hf
    · rename_i hlen
      subst hlen
      cases hf
      intro H locs lsA hl hR hS
      exact lv_lconst hx hb hdec rfl (K H locs lsA hl hR hS)
    · cases hf
  | iload_n k =>
    simp only [qm_eff, qm_go] at hf
    split at hf
    · rename_i x hg
      split at hf
      · rename_i hlen
        subst hlen
        cases hf
        intro H locs lsA hl hR hS
        exact lv_iload_n hx hb hdec rfl (qs_get hl hg) (K H locs lsA hl hR hS)
      · cases hf
    · cases hf
  | iload k =>
    simp only [qm_eff, qm_go] at hf
    split at hf
    · rename_i x hg
      split at hf
      · rename_i hlen
        subst hlen
        cases hf
        intro H locs lsA hl hR hS
        exact lv_iload hx hb hdec (qs_get hl hg) (K H locs lsA hl hR hS)
      · cases hf
    · cases hf
  | lload_n k =>
    simp only [qm_eff, qm_go] at hf
    split at hf
    · rename_i x hg
      split at hf
      · rename_i hlen
        subst hlen
        cases hf
        intro H locs lsA hl hR hS
        exact lv_lload_n hx hb hdec rfl (qs_get hl hg) (K H locs lsA hl hR hS)
      · cases hf
    · cases hf
  | lload k =>
    simp only [qm_eff, qm_go] at hf
    split at hf
    · rename_i x hg
      split at hf
      · rename_i hlen
        subst hlen
        cases hf
        intro H locs lsA hl hR hS
        exact lv_lload hx hb hdec (qs_get hl hg) (K H locs lsA hl hR hS)
      · cases hf
    · cases hf
  | aload_n k =>
    simp only [qm_eff, qm_go] at hf
    split at hf
    · rename_i x hg
      split at hf
      · rename_i hlen
        subst hlen
        cases hf
        intro H locs lsA hl hR hS
        exact lv_aload_n hx hb hdec rfl (qs_get hl hg) (K H locs lsA hl hR hS)
      · cases hf
    · cases hf
  | aload k =>
    simp only [qm_eff, qm_go] at hf
    split at hf
    · rename_i x hg
      split at hf
      · rename_i hlen
        subst hlen
        cases hf
        intro H locs lsA hl hR hS
        exact lv_aload hx hb hdec (qs_get hl hg) (K H locs lsA hl hR hS)
      · cases hf
    · cases hf
  | istore_n k =>
    simp only [qm_eff, qm_go] at hf
    split at hf
    · rename_i x r
      split at hf
      · rename_i hlen
        obtain ⟨rfl, hlt⟩ := hlen
        cases hf
        intro H locs lsA hl hR hS
        exact lv_istore_n hx hb hdec rfl hl (hM1 ▸ hlt) (qs_put1 ls (k : Nat) (.int x)) (fun ls' hl' => K H locs ls' hl' hR hS)
      · cases hf
    · cases hf
  | istore k =>
    simp only [qm_eff, qm_go] at hf
    split at hf
    · rename_i x r
      split at hf
      · rename_i hlen
        obtain ⟨rfl, hlt⟩ := hlen
        cases hf
        intro H locs lsA hl hR hS
        exact lv_istore hx hb hdec hl (hM1 ▸ hlt) (qs_put1 ls k (.int x)) (fun ls' hl' => K H locs ls' hl' hR hS)
      · cases hf
    · cases hf
  | astore_n k =>
    simp only [qm_eff, qm_go] at hf
    split at hf
    · rename_i x r
      split at hf
      · rename_i hlen
        obtain ⟨rfl, hlt⟩ := hlen
        cases hf
        intro H locs lsA hl hR hS
        exact lv_astore_n hx hb hdec rfl hl (hM1 ▸ hlt) (qs_put1 ls (k : Nat) (.ref x)) (fun ls' hl' => K H locs ls' hl' hR hS)
      · cases hf
    · cases hf
  | astore k =>
    simp only [qm_eff, qm_go] at hf
    split at hf
    · rename_i x r
      split at hf
      · rename_i hlen
        obtain ⟨rfl, hlt⟩ := hlen
        cases hf
        intro H locs lsA hl hR hS
        exact lv_astore hx hb hdec hl (hM1 ▸ hlt) (qs_put1 ls k (.ref x)) (fun ls' hl' => K H locs ls' hl' hR hS)
      · cases hf
    · cases hf
  | lstore_n k =>
    simp only [qm_eff, qm_go] at hf
    split at hf
    · rename_i x r
      split at hf
      · rename_i hlen
        obtain ⟨rfl, hlt⟩ := hlen
        cases hf
        intro H locs lsA hl hR hS
        exact lv_lstore_n hx hb hdec rfl hl (hM1 ▸ hlt) (qs_put2 ls (k : Nat) (.long x)) (fun ls' hl' => K H locs ls' hl' hR hS)
      · cases hf
    · cases hf
  | lstore k =>
    simp only [qm_eff, qm_go] at hf
    split at hf
    · rename_i x r
      split at hf
      · rename_i hlen
        obtain ⟨rfl, hlt⟩ := hlen
        cases hf
        intro H locs lsA hl hR hS
        exact lv_lstore hx hb hdec hl (hM1 ▸ hlt) (qs_put2 ls k (.long x)) (fun ls' hl' => K H locs ls' hl' hR hS)
      · cases hf
    · cases hf
  | iinc k d =>
    simp only [qm_eff, qm_go] at hf
    split at hf
    · rename_i x hg
      split at hf
      · rename_i hlen
        obtain ⟨rfl, hlt⟩ := hlen
        cases hf
        intro H locs lsA hl hR hS
        obtain ⟨j, hj⟩ := qs_getp (xa := xa) (base := base) hg
        exact lv_iinc hx hb hdec hl hj rfl (hM1 ▸ hlt) (qs_put1 ls k (.int (x + Int32.ofInt d))) (fun ls' hl' => K H locs ls' hl' hR hS)
      · cases hf
    · cases hf
  | iadd =>
    simp only [qm_eff, qm_go] at hf
    split at hf
    · split at hf
      · rename_i hlen
        subst hlen
        cases hf
        intro H locs lsA hl hR hS
        exact lv_iadd hx hb hdec (K H locs lsA hl hR hS)
      · cases hf
    · cases hf
  | isub =>
    simp only [qm_eff, qm_go] at hf
    split at hf
    · split at hf
      · rename_i hlen
        subst hlen
        cases hf
        intro H locs lsA hl hR hS
        exact lv_isub hx hb hdec (K H locs lsA hl hR hS)
      · cases hf
    · cases hf
  | imul =>
    simp only [qm_eff, qm_go] at hf
    split at hf
    · split at hf
      · rename_i hlen
        subst hlen
        cases hf
        intro H locs lsA hl hR hS
        exact lv_imul hx hb hdec (K H locs lsA hl hR hS)
      · cases hf
    · cases hf
  | iand =>
    simp only [qm_eff, qm_go] at hf
    split at hf
    · split at hf
      · rename_i hlen
        subst hlen
        cases hf
        intro H locs lsA hl hR hS
        exact lv_iand hx hb hdec (K H locs lsA hl hR hS)
      · cases hf
    · cases hf
  | ior =>
    simp only [qm_eff, qm_go] at hf
    split at hf
    · split at hf
      · rename_i hlen
        subst hlen
        cases hf
        intro H locs lsA hl hR hS
        exact lv_ior hx hb hdec (K H locs lsA hl hR hS)
      · cases hf
    · cases hf
  | ixor =>
    simp only [qm_eff, qm_go] at hf
    split at hf
    · split at hf
      · rename_i hlen
        subst hlen
        cases hf
        intro H locs lsA hl hR hS
        exact lv_ixor hx hb hdec (K H locs lsA hl hR hS)
      · cases hf
    · cases hf
  | ladd =>
    simp only [qm_eff, qm_go] at hf
    split at hf
    · split at hf
      · rename_i hlen
        subst hlen
        cases hf
        intro H locs lsA hl hR hS
        exact lv_ladd hx hb hdec (K H locs lsA hl hR hS)
      · cases hf
    · cases hf
  | lsub =>
    simp only [qm_eff, qm_go] at hf
    split at hf
    · split at hf
      · rename_i hlen
        subst hlen
        cases hf
        intro H locs lsA hl hR hS
        exact lv_lsub hx hb hdec (K H locs lsA hl hR hS)
      · cases hf
    · cases hf
  | lmul =>
    simp only [qm_eff, qm_go] at hf
    split at hf
    · split at hf
      · rename_i hlen
        subst hlen
        cases hf
        intro H locs lsA hl hR hS
        exact lv_lmul hx hb hdec (K H locs lsA hl hR hS)
      · cases hf
    · cases hf
  | land =>
    simp only [qm_eff, qm_go] at hf
    split at hf
    · split at hf
      · rename_i hlen
        subst hlen
        cases hf
        intro H locs lsA hl hR hS
        exact lv_land hx hb hdec (K H locs lsA hl hR hS)
      · cases hf
    · cases hf
  | lor =>
    simp only [qm_eff, qm_go] at hf
    split at hf
    · split at hf
      · rename_i hlen
        subst hlen
        cases hf
        intro H locs lsA hl hR hS
        exact lv_lor hx hb hdec (K H locs lsA hl hR hS)
      · cases hf
    · cases hf
  | lxor =>
    simp only [qm_eff, qm_go] at hf
    split at hf
    · split at hf
      · rename_i hlen
        subst hlen
        cases hf
        intro H locs lsA hl hR hS
        exact lv_lxor hx hb hdec (K H locs lsA hl hR hS)
      · cases hf
    · cases hf
  | ishl =>
    simp only [qm_eff, qm_go] at hf
    split at hf
    · split at hf
      · rename_i hlen
        subst hlen
        cases hf
        intro H locs lsA hl hR hS
        exact lv_ishl hx hb hdec (K H locs lsA hl hR hS)
      · cases hf
    · cases hf
  | ishr =>
    simp only [qm_eff, qm_go] at hf
    split at hf
    · split at hf
      · rename_i hlen
        subst hlen
        cases hf
        intro H locs lsA hl hR hS
        exact lv_ishr hx hb hdec (K H locs lsA hl hR hS)
      · cases hf
    · cases hf
  | iushr =>
    simp only [qm_eff, qm_go] at hf
    split at hf
    · split at hf
      · rename_i hlen
        subst hlen
        cases hf
        intro H locs lsA hl hR hS
        exact lv_iushr hx hb hdec rfl (K H locs lsA hl hR hS)
      · cases hf
    · cases hf
  | lshl =>
    simp only [qm_eff, qm_go] at hf
    split at hf
    · split at hf
      · rename_i hlen
        subst hlen
        cases hf
        intro H locs lsA hl hR hS
        exact lv_lshl hx hb hdec rfl (K H locs lsA hl hR hS)
      · cases hf
    · cases hf
  | lshr =>
    simp only [qm_eff, qm_go] at hf
    split at hf
    · split at hf
      · rename_i hlen
        subst hlen
        cases hf
        intro H locs lsA hl hR hS
        exact lv_lshr hx hb hdec rfl (K H locs lsA hl hR hS)
      · cases hf
    · cases hf
  | lushr =>
    simp only [qm_eff, qm_go] at hf
    split at hf
    · split at hf
      · rename_i hlen
        subst hlen
        cases hf
        intro H locs lsA hl hR hS
        exact lv_lushr hx hb hdec rfl (K H locs lsA hl hR hS)
      · cases hf
    · cases hf
  | lcmp =>
    simp only [qm_eff, qm_go] at hf
    split at hf
    · split at hf
      · rename_i hlen
        subst hlen
        cases hf
        intro H locs lsA hl hR hS
        exact W.lcmp hx hb hdec (K H locs lsA hl hR hS)
      · cases hf
    · cases hf
  | ineg =>
    simp only [qm_eff, qm_go] at hf
    split at hf
    · split at hf
      · rename_i hlen
        subst hlen
        cases hf
        intro H locs lsA hl hR hS
        exact lv_ineg hx hb hdec (K H locs lsA hl hR hS)
      · cases hf
    · cases hf
  | i2l =>
    simp only [qm_eff, qm_go] at hf
    split at hf
    · split at hf
      · rename_i hlen
        subst hlen
        cases hf
        intro H locs lsA hl hR hS
        exact lv_i2l hx hb hdec rfl (K H locs lsA hl hR hS)
      · cases hf
    · cases hf
  | l2i =>
    simp only [qm_eff, qm_go] at hf
    split at hf
    · split at hf
      · rename_i hlen
        subst hlen
        cases hf
        intro H locs lsA hl hR hS
        exact lv_l2i hx hb hdec rfl (K H locs lsA hl hR hS)
      · cases hf
    · cases hf
  | i2b =>
    simp only [qm_eff, qm_go] at hf
    split at hf
    · split at hf
      · rename_i hlen
        subst hlen
        cases hf
        intro H locs lsA hl hR hS
        exact lv_i2b hx hb hdec rfl (K H locs lsA hl hR hS)
      · cases hf
    · cases hf
  | i2s =>
    simp only [qm_eff, qm_go] at hf
    split at hf
    · split at hf
      · rename_i hlen
        subst hlen
        cases hf
        intro H locs lsA hl hR hS
        exact lv_i2s hx hb hdec rfl (K H locs lsA hl hR hS)
      · cases hf
    · cases hf
  | i2c =>
    simp only [qm_eff, qm_go] at hf
    split at hf
    · split at hf
      · rename_i hlen
        subst hlen
        cases hf
        intro H locs lsA hl hR hS
        exact lv_i2c hx hb hdec rfl (K H locs lsA hl hR hS)
      · cases hf
    · cases hf
  | idiv =>
    simp only [qm_eff, qm_go] at hf
    split at hf
    · split at hf
      · rename_i hlen
        obtain ⟨rfl, hne⟩ := hlen
        cases hf
        intro H locs lsA hl hR hS
        exact lv_idiv hx hb hdec hne (K H locs lsA hl hR hS)
      · cases hf
    · cases hf
  | irem =>
    simp only [qm_eff, qm_go] at hf
    split at hf
    · split at hf
      · rename_i hlen
        obtain ⟨rfl, hne⟩ := hlen
        cases hf
        intro H locs lsA hl hR hS
        exact lv_irem hx hb hdec hne (K H locs lsA hl hR hS)
      · cases hf
    · cases hf
  | dup =>
    simp only [qm_eff, qm_go] at hf
    split at hf
    · split at hf
      · rename_i hlen
        obtain ⟨rfl, h1⟩ := hlen
        cases hf
        intro H locs lsA hl hR hS
        exact lv_dup hx hb hdec ((qs_tv_cat _).trans h1) (K H locs lsA hl hR hS)
      · cases hf
    · cases hf
  | pop =>
    simp only [qm_eff, qm_go] at hf
    split at hf
    · split at hf
      · rename_i hlen
        obtain ⟨rfl, h1⟩ := hlen
        cases hf
        intro H locs lsA hl hR hS
        exact lv_pop hx hb hdec ((qs_tv_cat _).trans h1) (K H locs lsA hl hR hS)
      · cases hf
    · cases hf
  | dup_x1 =>
    simp only [qm_eff, qm_go] at hf
    split at hf
    · split at hf
      · rename_i hlen
        obtain ⟨rfl, h1, h2⟩ := hlen
        cases hf
        intro H locs lsA hl hR hS
        exact lv_dup_x1 hx hb hdec ((qs_tv_cat _).trans h1) ((qs_tv_cat _).trans h2) (K H locs lsA hl hR hS)
      · cases hf
    · cases hf
  | dup2 =>
    simp only [qm_eff, qm_go] at hf
    split at hf
    · split at hf
      · rename_i hlen
        obtain ⟨rfl, h1, h2⟩ := hlen
        cases hf
        intro H locs lsA hl hR hS
        exact lv_dup2_11 hx hb hdec ((qs_tv_cat _).trans h1) ((qs_tv_cat _).trans h2) (K H locs lsA hl hR hS)
      · cases hf
    · cases hf
  | pop2 =>
    simp only [qm_eff, qm_go] at hf
    split at hf
    · split at hf
      · rename_i hlen
        obtain ⟨rfl, h1⟩ := hlen
        cases hf
        intro H locs lsA hl hR hS
        exact lv_pop2_2 hx hb hdec ((qs_tv_cat _).trans h1) (K H locs lsA hl hR hS)
      · cases hf
    · cases hf
  | ifCond k off =>
    simp only [qm_eff, qm_go] at hf
    split at hf
    · split at hf
      · rename_i hlen
        subst hlen
        split at hf
        · rename_i hc
          obtain ⟨t, ht, rfl⟩ := qs_jump hf
          intro H locs lsA hl hR hS
          exact qs_icond hx hb hdec ht (fun _ => K H locs lsA hl hR hS) (fun h => by rw [hc] at h; cases h)
        · rename_i hc
          cases hf
          intro H locs lsA hl hR hS
          obtain ⟨t, ht⟩ := hjmp
          exact qs_icond hx hb hdec ht (fun h => absurd h hc) (fun _ => K H locs lsA hl hR hS)
      · cases hf
    · cases hf
  | if_icmp k off =>
    simp only [qm_eff, qm_go] at hf
    split at hf
    · split at hf
      · rename_i hlen
        subst hlen
        split at hf
        · rename_i hc
          obtain ⟨t, ht, rfl⟩ := qs_jump hf
          intro H locs lsA hl hR hS
          exact qs_icmp hx hb hdec ht (fun _ => K H locs lsA hl hR hS) (fun h => by rw [hc] at h; cases h)
        · rename_i hc
          cases hf
          intro H locs lsA hl hR hS
          obtain ⟨t, ht⟩ := hjmp
          exact qs_icmp hx hb hdec ht (fun h => absurd h hc) (fun _ => K H locs lsA hl hR hS)
      · cases hf
    · cases hf
  | goto off =>
    simp only [qm_eff, qm_go] at hf
    split at hf
    · rename_i hlen
      subst hlen
      obtain ⟨t, ht, rfl⟩ := qs_jump hf
      intro H locs lsA hl hR hS
      exact lv_goto hx hb hdec ht (K H locs lsA hl hR hS)
    · cases hf
  | tableswitch dflt lo hi offs =>
    simp only [qm_eff, qm_go] at hf
    split at hf
    · split at hf
      · rename_i h
        obtain ⟨t, ht, rfl⟩ := qs_jump hf
        intro H locs lsA hl hR hS
        exact lv_tableOut hx hb hdec h ht (K H locs lsA hl hR hS)
      · rename_i x r h
        cases ho : offs[(x.toInt - lo).toNat]? with
        | none => rw [ho] at hf; cases hf
        | some off =>
          rw [ho] at hf
          obtain ⟨t, ht, rfl⟩ := qs_jump hf
          intro H locs lsA hl hR hS
          exact lv_tableIn hx hb hdec (fun z => h (Or.inl z)) (fun z => h (Or.inr z)) ho ht (K H locs lsA hl hR hS)
    · cases hf
  | lookupswitch dflt ps =>
    simp only [qm_eff, qm_go] at hf
    split at hf
    · split at hf
      · rename_i h
        obtain ⟨t, ht, rfl⟩ := qs_jump hf
        intro H locs lsA hl hR hS
        exact lv_lookup hx hb hdec h rfl ht (K H locs lsA hl hR hS)
      · cases hf
    · cases hf
  | ldc i =>
    simp only [qm_eff, qm_go] at hf
    split at hf
    · rename_i h
      obtain ⟨rfl, h⟩ := h
      cases hf
      intro H locs lsA hl hR hS
      have k := K H locs lsA hl hR hS
      rcases h with h | h
      · obtain ⟨v, hv, hw⟩ := hok.1 h
        have hv : rv = .int v := hv
        subst hv
        exact lv_ldc hx hb hown (hts _ (qs_in hw rfl)) hdec k
      · obtain ⟨tx, j, hv, hj, hw⟩ := hok.2 h
        have hv : rv = .ref j := hv
        subst hv
        have e1 : qs_tv xa base (.ref j) = .ref (xa j) := by show Value.ref (qs_ad xa base j) = _; rw [qs_ad_lo hj]
        simp only [List.map_cons, e1] at k
        exact va_ldcS hx hb hown (hX.2.2.2.1 _ hw) hdec k
    · cases hf
  | ldc_w i =>
    simp only [qm_eff, qm_go] at hf
    split at hf
    · rename_i h
      obtain ⟨rfl, h⟩ := h
      cases hf
      intro H locs lsA hl hR hS
      have k := K H locs lsA hl hR hS
      obtain ⟨v, hv, hw⟩ := hok h
      have hv : rv = .int v := hv
      subst hv
      exact lv_ldcw hx hb hown (hts _ (qs_in hw rfl)) hdec k
    · cases hf
  | ldc2_w i =>
    simp only [qm_eff, qm_go] at hf
    split at hf
    · rename_i h
      obtain ⟨rfl, h⟩ := h
      cases hf
      intro H locs lsA hl hR hS
      have k := K H locs lsA hl hR hS
      obtain ⟨v, hv, hw⟩ := hok h
      have hv : rv = .long v := hv
      subst hv
      exact lv_ldc2 hx hb hown (hts _ (qs_in hw rfl)) hdec k
    · cases hf
  | getstatic i =>
    simp only [qm_eff, qm_go] at hf
    split at hf
    · rename_i h
      obtain ⟨rfl, h⟩ := h
      cases hf
      intro H locs lsA hl hR hS
      obtain ⟨C, n', d, hm, hw⟩ := hok.1 h
      exact va_gets hx hb (hX.2.2.1 _ hm) hS hown (hts _ (qs_in hw rfl)) (fun _ h => h) hdec (K H locs lsA hl hR hS)
    · split at hf
      · rename_i h
        obtain ⟨rfl, h⟩ := h
        cases hf
        intro H locs lsA hl hR hS
        obtain ⟨C, n', d, hm, hw⟩ := hok.2 h
        exact va_gets hx hb (hX.2.2.1 _ hm) hS hown (hts _ (qs_in hw rfl)) (fun _ h => h) hdec (K H locs lsA hl hR hS)
      · cases hf
  | getfield i =>
    simp only [qm_eff, qm_go] at hf
    split at hf
    · rename_i a r
      split at hf
      · rename_i ci fs hcell
        split at hf
        · rename_i v hv
          split at hf
          · rename_i h
            obtain ⟨rfl, rfl, h9⟩ := h
            cases hf
            intro H locs lsA hl hR hS
            have k := K H locs lsA hl hR hS
            by_cases ha : a < 16
            · rw [qs_cell_lo ha] at hcell
              obtain ⟨e13, -, hval, hcod⟩ := hX.2.1 a _ _ ha hcell
              have e1 : qs_tv xa base (.ref a) = .ref (xa a) := by show Value.ref (qs_ad xa base a) = _; rw [qs_ad_lo ha]
              show W p l e R s m args below meth c H locs cn n Z (F0 m pc lsA (qs_tv xa base (.ref a) :: r.map (qs_tv xa base)))
              rw [e1]
              rcases hok with h0 | ⟨-, -, h0⟩ | ⟨h0, -⟩
              · exact absurd h0 h9
              · rcases h0 with ⟨h0, hw⟩ | ⟨h0, hw⟩
                · have h0 : r2 = 0 := h0
                  subst h0
                  exact vk_getf hx hb (hval _ hv) hS hown (hts _ (qs_in hw rfl)) (fun _ h => h) hdec k
                · have h0 : r2 = 1 := h0
                  subst h0
                  exact vk_getf hx hb (hcod _ hv) hS hown (hts _ (qs_in hw rfl)) (fun _ h => h) hdec k
              · have h0 : ci < 13 := h0
                omega
            · have ha : 16 ≤ a := Nat.le_of_not_lt ha
              rw [qs_cell_hi ha] at hcell
              have e1 : qs_tv xa base (.ref a) = .ref (base + (a - 16)) := by show Value.ref (qs_ad xa base a) = _; rw [qs_ad_hi ha]
              show W p l e R s m args below meth c H locs cn n Z (F0 m pc lsA (qs_tv xa base (.ref a) :: r.map (qs_tv xa base)))
              rw [e1]
              rcases hok with h0 | ⟨-, h13, -⟩ | ⟨h0, C, N, hc, hk, hw⟩
              · exact absurd h0 h9
              · obtain ⟨rr, hrr, -⟩ := hR.2 _ _ hcell
                have h13 : ci = 13 := h13
                subst h13
                cases hrr
              · obtain ⟨-, hin, -, -⟩ := hall.1 _ _ hc
                have hv' : (fs.map (qs_tv xa base))[r2]? = some (qs_tv xa base v) := by rw [List.getElem?_map, hv]; rfl
                rcases hw with ⟨-, hw⟩ | ⟨host, hw⟩
                · exact va_get hx hb hts (qs_u_in hin) hown hK (qs_P1 hR hcell) 0 rfl hc r2 hk (hts _ (qs_in hw rfl)) (fun _ h => h) hv' hdec k
                · exact va_getN hx hb hts (qs_u_in hin) hown hK (qs_P1 hR hcell) 0 rfl hc r2 hk (va_Nw.use rfl (hX.2.2.2.2.1 _ hw)) (fun _ h => h) hv' hdec k
          · cases hf
        · cases hf
      · cases hf
    · cases hf
  | putfield i =>
    simp only [qm_eff, qm_go] at hf
    split at hf
    · rename_i v a r
      split at hf
      · rename_i ci fs hcell
        split at hf
        · rename_i h
          obtain ⟨rfl, ha, rfl, h0, hlf, hfin, hfit⟩ := h
          cases hf
          intro H locs lsA hl hR hS
          have e1 : qs_tv xa base (.ref a) = .ref (base + (a - 16)) := by show Value.ref (qs_ad xa base a) = _; rw [qs_ad_hi ha]
          show W p l e R s m args below meth c H locs cn n Z (F0 m pc lsA (qs_tv xa base v :: qs_tv xa base (.ref a) :: r.map (qs_tv xa base)))
          rw [e1]
          rcases hok with h9 | ⟨hdecl, C, N, hc, hk, hw⟩
          · exact absurd h0 h9
          · obtain ⟨-, hin, hty, hnm⟩ := hall.1 _ _ hc
            obtain ⟨ty, hd, hb2⟩ : ∃ ty, parseFieldDescriptor (qx_T ci r2).2.2.1 = some ty ∧ qm_fitb ty v = true := by
              cases hpd : parseFieldDescriptor (qx_T ci r2).2.2.1 with
              | none => rw [hpd] at hfit; cases hfit
              | some ty => rw [hpd] at hfit; exact ⟨ty, rfl, hfit⟩
            obtain ⟨hn, hft⟩ := qs_fitv (xa := xa) (base := base) hb2
            have kk : ∀ H1 : Heap, va_at D qx_cl (base + (a - 16), .inr (ci, (fs.map (qs_tv xa base)).set r2 (qs_tv xa base v))) H1 → H1.size = H.size → (∀ q : Nat, q ≠ base + (a - 16) → H1[q]? = H[q]?) → W p l e R s m args below meth c H1 (locs ++ [⟨base + (a - 16), D.2 ci r2⟩]) cn n Z (F0 m (pc + 3) lsA (r.map (qs_tv xa base))) := by
              intro H1 e1 z o
              refine K H1 _ lsA hl (qs_R_set hR hcell ?_ z o) (hS.put z o (Nat.le_add_right _ _))
              show va_at D qx_cl (base + (a - 16), .inr (ci, (fs.set r2 v).map (qs_tv xa base))) H1
              rw [List.map_set]
              exact e1
            cases hf2 : (qx_T ci r2).2.2.2 with
            | false => exact qs_put hx hb hts (qs_u_in hin) (qx_ty ci) hty hnm hown hK (hR.2 _ _ hcell) hc hk (hts _ (qs_in hw rfl)) hf2 hd hn hft (by rw [List.length_map]; exact hlf) hdec kk
            | true =>
              obtain ⟨f1, f2⟩ := hfin hf2
              exact qs_putF hx hb hts (qs_u_in hin) (qx_ty ci) hty hnm hown hK (hR.2 _ _ hcell) hc hk (hts _ (qs_in hw rfl)) hf2 (hinit f1) (hdecl (hMo ▸ f2)) hd hn hft (by rw [List.length_map]; exact hlf) hdec kk
        · cases hf
      · cases hf
    · cases hf
  | iaload =>
    simp only [qm_eff, qm_go] at hf
    split at hf
    · rename_i i a r
      split at hf
      · rename_i mm f hcell
        split at hf
        · rename_i h
          obtain ⟨rfl, hin⟩ := h
          cases hf
          intro H locs lsA hl hR hS
          have k := K H locs lsA hl hR hS
          by_cases ha : a < 16
          · rw [qs_cell_lo ha] at hcell
            have e1 : qs_tv xa base (.ref a) = .ref (xa a) := by show Value.ref (qs_ad xa base a) = _; rw [qs_ad_lo ha]
            show W p l e R s m args below meth c H locs cn n Z (F0 m pc lsA (.int i :: qs_tv xa base (.ref a) :: r.map (qs_tv xa base)))
            rw [e1]
            exact va_ti hx hb (hX.1 a mm .int f ha hcell) hS (qs_vin hin) rfl hdec k
          · have ha : 16 ≤ a := Nat.le_of_not_lt ha
            rw [qs_cell_hi ha] at hcell
            have e1 : qs_tv xa base (.ref a) = .ref (base + (a - 16)) := by show Value.ref (qs_ad xa base a) = _; rw [qs_ad_hi ha]
            show W p l e R s m args below meth c H locs cn n Z (F0 m pc lsA (.int i :: qs_tv xa base (.ref a) :: r.map (qs_tv xa base)))
            rw [e1]
            exact va_iald hx hb hK (qs_P1 hR hcell) 0 0 rfl rfl (qs_vin hin) hdec k
        · cases hf
      · cases hf
    · cases hf
  | laload =>
    simp only [qm_eff, qm_go] at hf
    split at hf
    · rename_i i a r
      split at hf
      · rename_i mm f hcell
        split at hf
        · rename_i h
          obtain ⟨rfl, ha, hin⟩ := h
          cases hf
          intro H locs lsA hl hR hS
          have k := K H locs lsA hl hR hS
          have e1 : qs_tv xa base (.ref a) = .ref (base + (a - 16)) := by show Value.ref (qs_ad xa base a) = _; rw [qs_ad_hi ha]
          show W p l e R s m args below meth c H locs cn n Z (F0 m pc lsA (.int i :: qs_tv xa base (.ref a) :: r.map (qs_tv xa base)))
          rw [e1]
          exact va_lald hx hb hK (qs_P1 hR hcell) 0 1 rfl rfl (qs_vin hin) hdec k
        · cases hf
      · cases hf
    · cases hf
  | aaload =>
    simp only [qm_eff, qm_go] at hf
    split at hf
    · rename_i i a r
      split at hf
      · rename_i C mm f hcell
        split at hf
        · rename_i h
          obtain ⟨rfl, ha, rfl, hin⟩ := h
          cases hf
          intro H locs lsA hl hR hS
          have k := K H locs lsA hl hR hS
          have e1 : qs_tv xa base (.ref a) = .ref (base + (a - 16)) := by show Value.ref (qs_ad xa base a) = _; rw [qs_ad_hi ha]
          show W p l e R s m args below meth c H locs cn n Z (F0 m pc lsA (.int i :: qs_tv xa base (.ref a) :: r.map (qs_tv xa base)))
          rw [e1]
          have e2 : qs_tv xa base (va_rf (f i.toNatClampNeg)) = va_rf ((f i.toNatClampNeg).map (qs_ad xa base)) := by cases f i.toNatClampNeg <;> rfl
          simp only [List.map_cons, e2] at k
          exact va_aldq (C := "OneRoof$Custom") hx hb hK (qs_P1 hR hcell) 0 3 rfl rfl (qs_vin hin) hdec k
        · cases hf
      · cases hf
    · cases hf
  | baload =>
    simp only [qm_eff, qm_go] at hf
    split at hf
    · rename_i i a r
      split at hf
      · rename_i mm f hcell
        split at hf
        · rename_i h
          obtain ⟨rfl, ha, hin⟩ := h
          cases hf
          intro H locs lsA hl hR hS
          have k := K H locs lsA hl hR hS
          rw [qs_cell_hi ha] at hcell
          have e1 : qs_tv xa base (.ref a) = .ref (base + (a - 16)) := by show Value.ref (qs_ad xa base a) = _; rw [qs_ad_hi ha]
          show W p l e R s m args below meth c H locs cn n Z (F0 m pc lsA (.int i :: qs_tv xa base (.ref a) :: r.map (qs_tv xa base)))
          rw [e1]
          exact va_zald hx hb hK (qs_P1 hR hcell) 0 2 rfl rfl (qs_vin hin) hdec k
        · cases hf
      · rename_i mm f hcell
        split at hf
        · rename_i h
          obtain ⟨rfl, ha, hin⟩ := h
          cases hf
          intro H locs lsA hl hR hS
          have k := K H locs lsA hl hR hS
          rw [qs_cell_lo ha] at hcell
          have e1 : qs_tv xa base (.ref a) = .ref (xa a) := by show Value.ref (qs_ad xa base a) = _; rw [qs_ad_lo ha]
          show W p l e R s m args below meth c H locs cn n Z (F0 m pc lsA (.int i :: qs_tv xa base (.ref a) :: r.map (qs_tv xa base)))
          rw [e1]
          exact va_tb hx hb (hX.1 a mm .byte f ha hcell) hS (qs_vin hin) rfl hdec k
        · cases hf
      · cases hf
    · cases hf
  | iastore =>
    simp only [qm_eff, qm_go] at hf
    split at hf
    · rename_i x i a r
      split at hf
      · rename_i mm f hcell
        split at hf
        · rename_i h
          obtain ⟨rfl, ha, hin⟩ := h
          cases hf
          intro H locs lsA hl hR hS
          have e1 : qs_tv xa base (.ref a) = .ref (base + (a - 16)) := by show Value.ref (qs_ad xa base a) = _; rw [qs_ad_hi ha]
          show W p l e R s m args below meth c H locs cn n Z (F0 m pc lsA (.int x :: .int i :: qs_tv xa base (.ref a) :: r.map (qs_tv xa base)))
          rw [e1]
          exact qs_iast hx hb ((hK.2 0 _ rfl).1) (hR.2 _ _ hcell) (qs_vin hin) hdec (fun H1 e1 z o => K H1 _ lsA hl (qs_R_set hR hcell e1 z o) (hS.put z o (Nat.le_add_right _ _)))
        · cases hf
      · cases hf
    · cases hf
  | lastore =>
    simp only [qm_eff, qm_go] at hf
    split at hf
    · rename_i x i a r
      split at hf
      · rename_i mm f hcell
        split at hf
        · rename_i h
          obtain ⟨rfl, ha, hin⟩ := h
          cases hf
          intro H locs lsA hl hR hS
          have e1 : qs_tv xa base (.ref a) = .ref (base + (a - 16)) := by show Value.ref (qs_ad xa base a) = _; rw [qs_ad_hi ha]
          show W p l e R s m args below meth c H locs cn n Z (F0 m pc lsA (.long x :: .int i :: qs_tv xa base (.ref a) :: r.map (qs_tv xa base)))
          rw [e1]
          exact qs_last hx hb ((hK.2 1 _ rfl).1) (hR.2 _ _ hcell) (qs_vin hin) hdec (fun H1 e1 z o => K H1 _ lsA hl (qs_R_set hR hcell e1 z o) (hS.put z o (Nat.le_add_right _ _)))
        · cases hf
      · cases hf
    · cases hf
  | bastore =>
    simp only [qm_eff, qm_go] at hf
    split at hf
    · rename_i x i a r
      split at hf
      · rename_i mm f hcell
        split at hf
        · rename_i h
          obtain ⟨rfl, ha, hin⟩ := h
          cases hf
          intro H locs lsA hl hR hS
          have e1 : qs_tv xa base (.ref a) = .ref (base + (a - 16)) := by show Value.ref (qs_ad xa base a) = _; rw [qs_ad_hi ha]
          show W p l e R s m args below meth c H locs cn n Z (F0 m pc lsA (.int x :: .int i :: qs_tv xa base (.ref a) :: r.map (qs_tv xa base)))
          rw [e1]
          exact qs_zast hx hb ((hK.2 2 _ rfl).1) (hR.2 _ _ hcell) (qs_vin hin) hdec (fun H1 e1 z o => K H1 _ lsA hl (qs_R_set hR hcell e1 z o) (hS.put z o (Nat.le_add_right _ _)))
        · cases hf
      · cases hf
    · cases hf
  | aastore =>
    simp only [qm_eff, qm_go] at hf
    split at hf
    · rename_i v i a r
      split at hf
      · rename_i C mm f cv vs hcell hcv
        split at hf
        · rename_i h
          obtain ⟨rfl, ha, hv, rfl, rfl, hin⟩ := h
          cases hf
          intro H locs lsA hl hR hS
          have e1 : qs_tv xa base (.ref a) = .ref (base + (a - 16)) := by show Value.ref (qs_ad xa base a) = _; rw [qs_ad_hi ha]
          have e2 : qs_tv xa base (.ref v) = .ref (base + (v - 16)) := by show Value.ref (qs_ad xa base v) = _; rw [qs_ad_hi hv]
          show W p l e R s m args below meth c H locs cn n Z (F0 m pc lsA (qs_tv xa base (.ref v) :: .int i :: qs_tv xa base (.ref a) :: r.map (qs_tv xa base)))
          rw [e1, e2]
          refine qs_aast hx hb hK (hK.2 3 _ rfl).2 (hR.2 _ _ hcell) (hR.2 _ _ hcv) rfl (qs_vin hin) hdec (fun H1 e1 z o => K H1 _ lsA hl (qs_R_set hR hcell ?_ z o) (hS.put z o (Nat.le_add_right _ _)))
          show H1[base + (a - 16)]? = some (vp_cell _ (mm, .inr (.inr (.inr (.inr (fun k => (va_up f i.toNatClampNeg (some v) k).map (qs_ad xa base)))))))
          have e3 : (fun k => (va_up f i.toNatClampNeg (some v) k).map (qs_ad xa base)) = va_up (fun k => (f k).map (qs_ad xa base)) i.toNatClampNeg (some (base + (v - 16))) := by
            funext k
            unfold va_up
            split
            · show some (qs_ad xa base v) = _
              rw [qs_ad_hi hv]
            · rfl
          rw [e3]
          exact e1
        · cases hf
      · cases hf
    · cases hf
  | arraylength =>
    simp only [qm_eff, qm_go] at hf
    split at hf
    · rename_i a r
      split at hf
      · rename_i ty mm f hcell
        split at hf
        · rename_i h
          obtain ⟨rfl, hty⟩ := h
          cases hf
          intro H locs lsA hl hR hS
          have k := K H locs lsA hl hR hS
          exact hlen ty mm f a r hcell hty hdec H locs lsA hR hS k
        · cases hf
      · cases hf
    · cases hf
  | newarray t =>
    simp only [qm_eff, qm_go] at hf
    split at hf
    · rename_i k r
      split at hf
      · rename_i h
        obtain ⟨rfl, hk0, hk1, hcs, hns⟩ := h
        split at hf
        · cases hf
          intro H locs lsA hl hR hS
          refine va_newaK (atype := .int) hx hb (hts _ (qs_in hall.2.1.1 rfl)) rfl hdec rfl hk0 rfl (by simp [componentBytes, newarray.typeOf]; omega) (hM5 ▸ hcs) (hM6 ▸ hns) rfl fun H1 c1 e1 z1 o1 hAr hnm => ?_
          have hc : c1 = cA .int := Option.some.inj (hnm.symm.trans ((hK.2 0 _ rfl).2))
          subst hc
          have hh : qs_tv xa base (.ref (16 + w.length)) = .ref H.size := by show Value.ref (qs_ad xa base (16 + w.length)) = _; rw [qs_ad_hi (Nat.le_add_right _ _), hR.1, Nat.add_sub_cancel_left]
          have kk := K H1 locs lsA hl (qs_R_push hR e1 z1 o1) (qs_S_push hS z1 o1)
          simp only [List.map_cons, hh] at kk
          exact kk
        · cases hf
          intro H locs lsA hl hR hS
          refine va_newaK (atype := .long) hx hb (hts _ (qs_in hall.2.1.2.1 rfl)) rfl hdec rfl hk0 rfl (by simp [componentBytes, newarray.typeOf]; omega) (hM5 ▸ hcs) (hM6 ▸ hns) rfl fun H1 c1 e1 z1 o1 hAr hnm => ?_
          have hc : c1 = cA .long := Option.some.inj (hnm.symm.trans ((hK.2 1 _ rfl).2))
          subst hc
          have hh : qs_tv xa base (.ref (16 + w.length)) = .ref H.size := by show Value.ref (qs_ad xa base (16 + w.length)) = _; rw [qs_ad_hi (Nat.le_add_right _ _), hR.1, Nat.add_sub_cancel_left]
          have kk := K H1 locs lsA hl (qs_R_push hR e1 z1 o1) (qs_S_push hS z1 o1)
          simp only [List.map_cons, hh] at kk
          exact kk
        · cases hf
          intro H locs lsA hl hR hS
          refine va_newaK (atype := .boolean) hx hb (hts _ (qs_in hall.2.1.2.2.1 rfl)) rfl hdec rfl hk0 rfl (by simp [componentBytes, newarray.typeOf]; omega) (hM5 ▸ hcs) (hM6 ▸ hns) rfl fun H1 c1 e1 z1 o1 hAr hnm => ?_
          have hc : c1 = cA .boolean := Option.some.inj (hnm.symm.trans ((hK.2 2 _ rfl).2))
          subst hc
          have hh : qs_tv xa base (.ref (16 + w.length)) = .ref H.size := by show Value.ref (qs_ad xa base (16 + w.length)) = _; rw [qs_ad_hi (Nat.le_add_right _ _), hR.1, Nat.add_sub_cancel_left]
          have kk := K H1 locs lsA hl (qs_R_push hR e1 z1 o1) (qs_S_push hS z1 o1)
          simp only [List.map_cons, hh] at kk
          exact kk
        · cases hf
      · cases hf
    · cases hf
  | anewarray i =>
    simp only [qm_eff, qm_go] at hf
    split at hf
    · rename_i k r
      split at hf
      · rename_i h
        obtain ⟨rfl, h7, h0, hk0, hk1, hcs, hns⟩ := h
        cases hf
        intro H locs lsA hl hR hS
        refine qs_newq hx hb hown (hts _ (qs_in (hok h0 h7) rfl)) hX.2.2.2.2.2 hk0 rfl (by omega) (hM5 ▸ hcs) (hM6 ▸ hns) hdec fun c1 H1 hnm e1 z1 o1 => ?_
        obtain ⟨_, _, -, -, -, h4⟩ := (hK.2 3 _ rfl).2
        have hc : c1 = cA (.object "OneRoof$Custom") := Option.some.inj (hnm.symm.trans h4)
        subst hc
        have hh : qs_tv xa base (.ref (16 + w.length)) = .ref H.size := by show Value.ref (qs_ad xa base (16 + w.length)) = _; rw [qs_ad_hi (Nat.le_add_right _ _), hR.1, Nat.add_sub_cancel_left]
        have kk := K H1 locs lsA hl (qs_R_push hR e1 z1 o1) (qs_S_push hS z1 o1)
        simp only [List.map_cons, hh] at kk
        exact kk
      · cases hf
    · cases hf
  | new i =>
    simp only [qm_eff, qm_go] at hf
    split at hf
    · rename_i h
      obtain ⟨rfl, h0, hcs, hns⟩ := h
      split at hf
      · rename_i q hq
        cases hf
        intro H locs lsA hl hR hS
        obtain ⟨C, N, hc, hw1, hw2, hw3⟩ := hok h0
        have hq' : q = (C, qx_T r1, N) := Option.some.inj (hq.symm.trans hc)
        subst hq'
        obtain ⟨-, hin, hty, -⟩ := hall.1 _ _ hc
        have hns : n + N ≤ M.2.2.2.2.2 := by rw [hq] at hns; exact hns
        have hfs : ∀ j, j < N → defaultValue (qx_ty r1 j) = vp_V (((List.range N).map (fun j => defaultValue (qx_ty r1 j))).map (qs_tv xa base)) j := by
          intro j hj
          unfold vp_V
          rw [List.map_map, List.getD_eq_getElem?_getD, List.getElem?_map, List.getElem?_range hj]
          show _ = qs_tv xa base (defaultValue (qx_ty r1 j))
          cases qx_ty r1 j <;> rfl
        refine qs_new (fs := ((List.range N).map (fun j => defaultValue (qx_ty r1 j))).map (qs_tv xa base)) hx hb hts (qs_u_in hin) (qx_ty r1) hty hown (hts _ (qs_in hw1 rfl)) (hts _ (qs_in hw2 rfl)) (hts _ (qs_in hw3 rfl)) hK hc hfs (hM5 ▸ hcs) (hM6 ▸ hns) hdec fun H1 e1 z1 o1 => ?_
        have hh : qs_tv xa base (.ref (16 + w.length)) = .ref H.size := by show Value.ref (qs_ad xa base (16 + w.length)) = _; rw [qs_ad_hi (Nat.le_add_right _ _), hR.1, Nat.add_sub_cancel_left]
        have kk := K H1 locs lsA hl (qs_R_push hR e1 z1 o1) (qs_S_push hS z1 o1)
        simp only [List.map_cons, hh] at kk
        exact kk
      · cases hf
    · cases hf
  | invokespecial i =>
    simp only [qm_eff, qm_go] at hf
    split at hf
    · rename_i a r
      split at hf
      · rename_i h
        obtain ⟨rfl, h6, h0, hsm⟩ := h
        cases hf
        intro H locs lsA hl hR hS
        refine W.objInit hx hb hown (hts _ (qs_in (hok.1 h6) rfl)) (hts _ (qs_in hall.2.1.2.2.2.2.2.2.1 rfl)) (hts _ (qs_in hall.2.1.2.2.2.2.2.2.2 rfl)) rfl (by rw [hml]; exact hl.1) rfl hdec hR1 ?_ (K H locs lsA hl hR hS)
        have := qs_sum_map (xa := xa) (base := base) r
        show 2 * 0 + _ + 12 ≤ _
        omega
      · cases hf
    · cases hf
  | invokestatic i =>
    simp only [qm_eff, qm_go] at hf
    · split at hf
      · rename_i k dp a1 sp a0 r
        split at hf
        · rename_i h
          obtain ⟨rfl, h7, ha0, ha1, hsp, hdp, hk, hsm⟩ := h
          have hloc : ((r.map (qs_tv xa base)).map fun v => v.category).sum + (nativeFrameWords "java/lang/System" "arraycopy" 5 + 11) ≤ R.locals := by
            rw [qs_sum_map]
            have : nativeFrameWords "java/lang/System" "arraycopy" 5 ≤ 30 := by decide +kernel
            omega
          have e1 : qs_tv xa base (.ref a1) = .ref (base + (a1 - 16)) := by show Value.ref (qs_ad xa base a1) = _; rw [qs_ad_hi ha1]
          have e0 : qs_tv xa base (.ref a0) = .ref (base + (a0 - 16)) := by show Value.ref (qs_ad xa base a0) = _; rw [qs_ad_hi ha0]
          split at hf
          · rename_i n0 f n1 g hc0 hc1
            split at hf
            · rename_i h
              cases hf
              intro H locs lsA hl hR hS
              show W p l e R s m args below meth c H locs cn n Z (F0 m pc lsA (.int k :: .int dp :: qs_tv xa base (.ref a1) :: .int sp :: qs_tv xa base (.ref a0) :: r.map (qs_tv xa base)))
              rw [e1, e0]
              refine qs_copyi hx hb (hml.trans hl.1.symm) hown (hts _ (qs_in (hok.2 h7) rfl)) (hts _ (qs_in hall.2.1.2.2.2.1 rfl)) (hts _ (qs_in hall.2.1.2.2.2.2.1 rfl)) (hts _ (qs_in hall.2.1.2.2.2.2.2.1 rfl)) (hK.2 0 _ rfl).1 (hK.2 0 _ rfl).1 (hR.2 _ _ hc0) (hR.2 _ _ hc1) hsp hdp hk h.1 h.2 hR1 hloc hdec (fun H1 L hL e2 z o => K H1 _ lsA hl (qs_R_set hR hc1 e2 z o) ?_)
              refine ⟨by rw [z]; exact hS.1, fun q g1 g2 => ?_, fun q hq => ?_⟩
              · rw [o q (fun e => g2 (by rw [e]; exact Nat.le_add_right _ _))]
                exact hS.2.1 q g1 g2
              · rcases List.mem_append.mp hq with h | h
                · exact hS.2.2 q h
                · rw [hL q h]; exact Nat.le_add_right _ _
            · cases hf
          · rename_i n0 f n1 g hc0 hc1
            split at hf
            · rename_i h
              cases hf
              intro H locs lsA hl hR hS
              show W p l e R s m args below meth c H locs cn n Z (F0 m pc lsA (.int k :: .int dp :: qs_tv xa base (.ref a1) :: .int sp :: qs_tv xa base (.ref a0) :: r.map (qs_tv xa base)))
              rw [e1, e0]
              refine qs_copyl hx hb (hml.trans hl.1.symm) hown (hts _ (qs_in (hok.2 h7) rfl)) (hts _ (qs_in hall.2.1.2.2.2.1 rfl)) (hts _ (qs_in hall.2.1.2.2.2.2.1 rfl)) (hts _ (qs_in hall.2.1.2.2.2.2.2.1 rfl)) (hK.2 1 _ rfl).1 (hK.2 1 _ rfl).1 (hR.2 _ _ hc0) (hR.2 _ _ hc1) hsp hdp hk h.1 h.2 hR1 hloc hdec (fun H1 L hL e2 z o => K H1 _ lsA hl (qs_R_set hR hc1 e2 z o) ?_)
              refine ⟨by rw [z]; exact hS.1, fun q g1 g2 => ?_, fun q hq => ?_⟩
              · rw [o q (fun e => g2 (by rw [e]; exact Nat.le_add_right _ _))]
                exact hS.2.1 q g1 g2
              · rcases List.mem_append.mp hq with h | h
                · exact hS.2.2 q h
                · rw [hL q h]; exact Nat.le_add_right _ _
            · cases hf
          · cases hf
        · cases hf
      · cases hf
  | _ => cases hf
end QS4
end
section
/-! calls and returns; from the small machine's judgement to contracts -/
/-- cells outside are rows of numbers, or texts -/
def qs_Xok (X : qm_X) : Prop := ∀ (a : Nat) (ty : FieldType) (mm : Nat) (f : (Nat → Int32) ⊕ (Nat → Int64) ⊕ (Nat → UInt32) ⊕ (Nat → UInt64) ⊕ (Nat → Option Nat)), X.1 a = some (.inl (ty, mm, f)) → ∃ g, f = .inl g
section QS5
variable {xa : Nat → Nat} {base : Nat} {cA : FieldType → ClassId} {D : va_G} {X : qm_X}
variable {p : Program} {l : Launch} {e : Env} {R : Room} {s : State} {m : MethodId} {args : Array Value} {below : List Frame} {meth : Method} {c : Code} {Z : State → Prop} {cc : ByteArray} {nL o : Nat}
theorem qs_alen (hx : p.tables.exec = Jvm.exec) (hb : c.code = cc) (hK : va_K D qx_cl (qs_tys cA) s) (hX : qs_X xa base X s s.heap) (hXo : qs_Xok X) {w : qm_W} {pc cn n : Nat} (ty : FieldType) (mm : Nat) (f : (Nat → Int32) ⊕ (Nat → Int64) ⊕ (Nat → UInt32) ⊕ (Nat → UInt64) ⊕ (Nat → Option Nat)) (a : Nat) (r : List Value) (hcell : qm_cell X w a = some (.inl (ty, mm, f))) (hty : a < 16 ∨ ty = .int ∨ ty = .long ∨ ty = .boolean ∨ ty = .object "OneRoof$Custom") (hdec : decode cc pc = .ok (.arraylength, 1)) (H : Heap) (locs : List Loc) (lsA : Array Slot) (hR : qs_R xa base cA D w H) (hS : va_S (qs_A base) s.heap H locs) (k : W p l e R s m args below meth c H locs cn n Z (F0 m (pc + 1) lsA (.int (Int32.ofNat mm) :: r.map (qs_tv xa base)))) : W p l e R s m args below meth c H locs cn n Z (F0 m pc lsA (qs_tv xa base (.ref a) :: r.map (qs_tv xa base))) := by
  by_cases ha : a < 16
  · rw [qs_cell_lo ha] at hcell
    obtain ⟨g, rfl⟩ := hXo a _ _ _ hcell
    have e1 : qs_tv xa base (.ref a) = .ref (xa a) := by show Value.ref (qs_ad xa base a) = _; rw [qs_ad_lo ha]
    rw [e1]
    exact va_tlen hx hb (hX.1 a mm ty g ha hcell) hS rfl hdec k
  · rw [qs_cell_hi (Nat.le_of_not_lt ha)] at hcell
    have e1 : qs_tv xa base (.ref a) = .ref (base + (a - 16)) := by show Value.ref (qs_ad xa base a) = _; rw [qs_ad_hi (Nat.le_of_not_lt ha)]
    rw [e1]
    rcases hty with h | rfl | rfl | rfl | rfl
    · exact absurd h ha
    · exact va_alen hx hb hK (qs_P1 hR hcell) 0 0 rfl rfl rfl hdec k
    · exact va_alen hx hb hK (qs_P1 hR hcell) 0 1 rfl rfl rfl hdec k
    · exact va_alen hx hb hK (qs_P1 hR hcell) 0 2 rfl rfl rfl hdec k
    · exact va_alen hx hb hK (qs_P1 hR hcell) 0 3 rfl rfl rfl hdec k
/-- behind a call -/
theorem qs_call {H : Heap} {locs : List Loc} {cells slots mc ms pc : Nat} {ls : Array Slot} {st0 rest : List Value} {a : Array Value} {Q : Option Value → qm_W → Prop} (hr : va_Run p l e R s m args below meth c H locs cells slots mc ms (F0 m pc ls st0) rest (qs_Q xa base cA D Q a) (qs_A base)) (hS : va_S (qs_A base) s.heap H locs)
    (kk : ∀ (r : Option Value) (w' : qm_W) (H1 : Heap) (locs1 : List Loc), Q r w' → qs_R xa base cA D w' H1 → va_S (qs_A base) s.heap H1 locs1 → W p l e R s m args below meth c H1 locs1 (cells + mc) (slots + ms) Z (F0 m (pc + 3) ls ((r.map (qs_tv xa base)).toList ++ rest))) : W p l e R s m args below meth c H locs cells slots Z (F0 m pc ls st0) := by
  intro T hT X
  obtain ⟨v, st₀, t, T', L, h0, X', hL, e1, e2, ⟨⟨r, w', hv, hp, hb⟩, hz, hk⟩, st⟩ := hr T hT X
  cases hv
  rw [h0] at hz hk
  obtain ⟨t2, a1, b1⟩ := kk r w' T'.heap (locs ++ L) hp (by rw [e1]; exact hb)
    ⟨Nat.le_trans hS.1 (by rw [e1]; exact hz), fun q h1 h2 => by rw [e1, hk q (Nat.lt_of_lt_of_le h1 hS.1) h2]; exact hS.2.1 q h1 h2, fun q hq => by
      rcases List.mem_append.mp hq with h | h
      · exact hS.2.2 q h
      · exact hL q h⟩ T' rfl X'
  exact ⟨t2, st t2 a1, b1⟩
theorem qs_good (hall : qs_all) {k : Nat} {x : qs_Ent} (hk : 0 < k) (he : qm_ent k = some x) : GoodIn qs_TB (qs_ws x) := by
  intro w hw
  rcases List.mem_cons.mp hw with rfl | hw
  · exact ⟨qs_in (hall.2.2 k x hk he).2.1 rfl, good_of_word rfl⟩
  · exact ⟨hw, good_of_word (List.mem_filter.mp hw).2⟩
theorem qs_split (st : List Value) (n : Nat) : st.map (qs_tv xa base) = (((st.take n).reverse).map (qs_tv xa base)).reverse ++ (st.drop n).map (qs_tv xa base) := by
  rw [← List.map_reverse, List.reverse_reverse, ← List.map_append, List.take_append_drop]
theorem qs_splitR {st : List Value} {n : Nat} {v : Value} (h : st[n]? = some v) : st.map (qs_tv xa base) = (((st.take n).reverse).map (qs_tv xa base)).reverse ++ qs_tv xa base v :: (st.drop (n + 1)).map (qs_tv xa base) := by
  rw [qs_split st n]
  obtain ⟨hn, hv⟩ := List.getElem?_eq_some_iff.mp h
  rw [List.drop_eq_getElem_cons hn, hv]
  rfl
theorem qs_take_len {st : List Value} {n : Nat} (h : n ≤ st.length) : (((st.take n).reverse).map (qs_tv xa base)).length = n := by
  rw [List.length_map, List.length_reverse, List.length_take, Nat.min_eq_left h]
theorem qs_pre (hK : va_K D qx_cl (qs_tys cA) s) (hX : qs_X xa base X s s.heap) {w : qm_W} {H : Heap} {locs : List Loc} (hR : qs_R xa base cA D w H) (hS : va_S (qs_A base) s.heap H locs) {U : State} (hU : U.heap = H) (hW : s.WarmedH U.vm) : qs_B xa base cA D X w U := by
  refine ⟨by rw [hU]; exact hR, va_K.moved hW.alike hK, ?_⟩
  rw [hU]
  exact qs_X_moved hW (qs_X_kept hS.2.1 hX)
set_option maxHeartbeats 4000000 in
set_option maxRecDepth 100000 in
/-- a call of the small machine is one of the machine -/
theorem qs_do (hall : qs_all) (hx : p.tables.exec = Jvm.exec) (hb : c.code = cc) (hml : c.maxLocals = nL) (hown : s.vm.findClass (qx_on o) = some m.cls) (hts : ∀ w ∈ qs_TB, w.before args s = true) (hK : va_K D qx_cl (qs_tys cA) s) (hX : qs_X xa base X s s.heap) {d : Nat} (hR1 : d + 1 ≤ R.frames) (hR2 : 60 * (d + 1) ≤ R.locals)
    {C : Nat → List Value → qm_W → (Option Value → qm_W → Prop) → Prop} (hC : ∀ (k : Nat) (x : qs_Ent) (as : List Value) (w : qm_W) (Q : Option Value → qm_W → Prop), 0 < k → qm_ent k = some x → C k as w Q → Met l x.2.1 (qs_ws x) (qs_rm d x) (va_Pc (as.map (qs_tv xa base)) (qs_B xa base cA D X w)) (qs_Q xa base cA D Q) x.2.2.2.2.2.1 x.2.2.2.2.2.2.1 (qs_A base))
    {M : qm_M} (hM5 : M.2.2.2.2.1 = R.cells) (hM6 : M.2.2.2.2.2 = R.slots) {pc len r1 r2 r3 : Nat} {i : Instr} {rv : Value} (hdec : decode cc pc = .ok (i, len)) (hok : qs_ok o (pc, i, len, r1, r2, r3, rv)) {ls : qm_L} {st : List Value} {w : qm_W} {cn n : Nat} {k : Nat × List Value × Nat × List Value}
    (hf : qm_call X (pc, i, len, r1, r2, r3, rv) st w = some k) (h5 : cn + (qm_bud k.1).1 ≤ M.2.2.2.2.1) (h6 : n + (qm_bud k.1).2 ≤ M.2.2.2.2.2)
    (K : C k.1 k.2.1 w (fun r w' => qs_P xa base cA D p l e R s m args below meth c Z nL (k.2.2.1, ls, r.toList ++ k.2.2.2, w', cn + (qm_bud k.1).1, n + (qm_bud k.1).2))) : qs_P xa base cA D p l e R s m args below meth c Z nL (pc, ls, st, w, cn, n) := by
  have hroom : ∀ (k : Nat) (x : qs_Ent), 0 < k → qm_ent k = some x → (qs_rm d x).frames + 1 ≤ R.frames ∧ 8 + (x.2.2.2.1 + 11) + (qs_rm d x).locals ≤ R.locals := by
    intro k x hk he
    have := (hall.2.2 k x hk he).2.2.2.1
    refine ⟨hR1, ?_⟩
    show 8 + (x.2.2.2.1 + 11) + 60 * d ≤ R.locals
    omega
  have hbud : ∀ (k : Nat) (x : qs_Ent), qm_ent k = some x → qm_bud k = (x.2.2.2.2.2.1, x.2.2.2.2.2.2.1) := by
    intro k x he
    unfold qm_bud
    rw [he]
  cases i with
  | invokevirtual i =>
    simp only [qm_call] at hf
    split at hf
    · rename_i a hst
      split at hf
      · rename_i ci fs hcell
        split at hf
        · rename_i h
          obtain ⟨rfl, h3, rfl, hsm⟩ := h
          cases hf
          obtain ⟨hk0, x, he, hna, hlk, hw1, hw2, hw3, hrc⟩ := hok h3
          have hk0 : 0 < r1 := hk0
          have he : qm_ent r1 = some x := he
          have hM := hC r1 x _ w _ hk0 he K
          have hbd := hbud r1 x he
          intro H locs lsA hl hR hS
          have hn : r2 < st.length := (List.getElem?_eq_some_iff.mp hst).1
          have hrec : ∃ cell : Cell, H[qs_ad xa base a]? = some cell ∧ cell.vm.isStatics = false ∧ s.vm.findClass x.2.1.cls = some cell.cls := by
            by_cases ha : a < 16
            · rw [qs_cell_lo ha] at hcell
              obtain ⟨e13, hO, -, -⟩ := hX.2.1 a _ _ ha hcell
              rw [qs_ad_lo ha]
              obtain ⟨cell, g1, g2, g3, -⟩ := va_O.kept hO hS.2.1
              refine ⟨cell, g1, g2, ?_⟩
              rcases hrc with ⟨-, hrc⟩ | ⟨ci', N, hrv, hci, -⟩
              · rw [hrc]; exact g3
              · have hrv : Value.ref ci = .ref ci' := hrv
                cases hrv
                have hci : ci < 13 := hci
                rw [e13] at hci
                exact absurd hci (by decide)
            · have ha := Nat.le_of_not_lt ha
              rw [qs_cell_hi ha] at hcell
              rw [qs_ad_hi ha]
              rcases hrc with ⟨hrv, -⟩ | ⟨ci', N, hrv, -, hcl⟩
              · have hrv : Value.ref ci = .ref 13 := hrv
                cases hrv
                obtain ⟨rr, hrr, -⟩ := hR.2 _ _ hcell
                cases hrr
              · have hrv : Value.ref ci = .ref ci' := hrv
                cases hrv
                exact va_recv hK (qs_P1 hR hcell) hcl (q0 := 0) rfl
          have hstk : (st.map (qs_tv xa base)) = (((st.take r2).reverse).map (qs_tv xa base)).reverse ++ .ref (qs_ad xa base a) :: (st.drop (r2 + 1)).map (qs_tv xa base) := qs_splitR hst
          have hpre : PreV s H x.2.1.cls (qs_ad xa base a) (va_Pc ((Value.ref a :: (st.take r2).reverse).map (qs_tv xa base)) (qs_B xa base cA D X w)) (((st.take r2).reverse).map (qs_tv xa base)) :=
            ⟨qs_blind, hrec, fun U hU hW => ⟨rfl, qs_pre hK hX hR hS hU hW⟩⟩
          have hcap : cn + x.2.2.2.2.2.1 ≤ R.cells ∧ n + x.2.2.2.2.2.2.1 ≤ R.slots := by rw [hbd] at h5 h6; exact ⟨hM5 ▸ h5, hM6 ▸ h6⟩
          show W p l e R s m args below meth c H locs cn n Z (F0 m pc lsA (st.map (qs_tv xa base)))
          rw [hstk]
          have hcont : ∀ (r : Option Value) (w' : qm_W) (H1 : Heap) (locs1 : List Loc), qs_P xa base cA D p l e R s m args below meth c Z nL (pc + 3, ls, r.toList ++ st.drop (r2 + 1), w', cn + (qm_bud r1).1, n + (qm_bud r1).2) → qs_R xa base cA D w' H1 → va_S (qs_A base) s.heap H1 locs1 → W p l e R s m args below meth c H1 locs1 (cn + x.2.2.2.2.2.1) (n + x.2.2.2.2.2.2.1) Z (F0 m (pc + 3) lsA ((r.map (qs_tv xa base)).toList ++ (st.drop (r2 + 1)).map (qs_tv xa base))) := by
            intro r w' H1 locs1 hP hR1 hS1
            have := hP H1 locs1 lsA hl hR1 hS1
            rw [hbd] at this
            simp only [List.map_append] at this
            have e : (r.toList).map (qs_tv xa base) = (r.map (qs_tv xa base)).toList := by cases r <;> rfl
            rw [e] at this
            exact this
          by_cases h1 : r3 = 1
          · have hlk : qs_link o i x.2.1 (decide (r3 = 1)) := hlk
            rw [decide_eq_true h1] at hlk
            obtain ⟨host, hlk⟩ := hlk
            exact qs_call (va_runVN (As := ((st.take r2).reverse).map (qs_tv xa base)) (rest := (st.drop (r2 + 1)).map (qs_tv xa base)) ⟨hx, hb, hml, hown, hts⟩ hM ⟨va_cnB r2 hts (qs_good hall hk0 he) rfl rfl rfl (hX.2.2.2.2.1 _ hlk) (hts _ (qs_in hw3 rfl)) hna (hroom r1 x hk0 he), hts _ (qs_in hw1 rfl), hts _ (qs_in hw2 rfl)⟩ hpre rfl (qs_take_len (Nat.le_of_lt hn)) hl.1 rfl (lv_room (by rw [qs_sum_map]; exact hsm)) hdec hcap) hS hcont
          · have hlk : qs_link o i x.2.1 (decide (r3 = 1)) := hlk
            rw [decide_eq_false h1] at hlk
            have hlk : Cond.methodLink (qx_on o) i x.2.1 ∈ lw_tbl := hlk
            have hG : GoodIn qs_TB (wsV (qx_on o) i x.2.1.cls x.2.1 (qs_ws x)) := by
              intro w hw
              rcases List.mem_append.mp hw with hw | hw
              · rcases List.mem_cons.mp hw with rfl | hw
                · exact ⟨qs_in hlk rfl, good_of_word rfl⟩
                rcases List.mem_cons.mp hw with rfl | hw
                · exact ⟨qs_in hw1 rfl, good_of_word rfl⟩
                rcases List.mem_cons.mp hw with rfl | hw
                · exact ⟨qs_in hw2 rfl, good_of_word rfl⟩
                rcases List.mem_cons.mp hw with rfl | hw
                · exact ⟨qs_in hw3 rfl, good_of_word rfl⟩
                · cases hw
              · exact qs_good hall hk0 he w hw
            exact qs_call (va_runV (As := ((st.take r2).reverse).map (qs_tv xa base)) (rest := (st.drop (r2 + 1)).map (qs_tv xa base)) ⟨hx, hb, hml, hown, hts⟩ hM (cwV r2 hts hG rfl rfl rfl ⟨rfl, hna⟩ (hroom r1 x hk0 he)) hpre rfl (qs_take_len (Nat.le_of_lt hn)) hl.1 rfl (lv_room (by rw [qs_sum_map]; exact hsm)) hdec hcap) hS hcont
        · cases hf
      · cases hf
    · cases hf
  | invokestatic i =>
    simp only [qm_call] at hf
    split at hf
    · rename_i h
      obtain ⟨rfl, h3, hn, hsm⟩ := h
      cases hf
      obtain ⟨hk0, x, he, hna, hlk, hw1, hw3⟩ := hok.1 h3
      have hk0 : 0 < r1 := hk0
      have he : qm_ent r1 = some x := he
      have hM := hC r1 x _ w _ hk0 he K
      have hbd := hbud r1 x he
      intro H locs lsA hl hR hS
      have hpre : PreS s H (va_Pc (((st.take r2).reverse).map (qs_tv xa base)) (qs_B xa base cA D X w)) (((st.take r2).reverse).map (qs_tv xa base)) :=
        ⟨qs_blind, fun U hU hW => ⟨rfl, qs_pre hK hX hR hS hU hW⟩⟩
      have hcap : cn + x.2.2.2.2.2.1 ≤ R.cells ∧ n + x.2.2.2.2.2.2.1 ≤ R.slots := by rw [hbd] at h5 h6; exact ⟨hM5 ▸ h5, hM6 ▸ h6⟩
      show W p l e R s m args below meth c H locs cn n Z (F0 m pc lsA (st.map (qs_tv xa base)))
      rw [qs_split st r2]
      have hcont : ∀ (r : Option Value) (w' : qm_W) (H1 : Heap) (locs1 : List Loc), qs_P xa base cA D p l e R s m args below meth c Z nL (pc + 3, ls, r.toList ++ st.drop r2, w', cn + (qm_bud r1).1, n + (qm_bud r1).2) → qs_R xa base cA D w' H1 → va_S (qs_A base) s.heap H1 locs1 → W p l e R s m args below meth c H1 locs1 (cn + x.2.2.2.2.2.1) (n + x.2.2.2.2.2.2.1) Z (F0 m (pc + 3) lsA ((r.map (qs_tv xa base)).toList ++ (st.drop r2).map (qs_tv xa base))) := by
        intro r w' H1 locs1 hP hR1 hS1
        have := hP H1 locs1 lsA hl hR1 hS1
        rw [hbd] at this
        simp only [List.map_append] at this
        have e : (r.toList).map (qs_tv xa base) = (r.map (qs_tv xa base)).toList := by cases r <;> rfl
        rw [e] at this
        exact this
      by_cases h1 : r3 = 3
      · have hlk : qs_link o i x.2.1 (decide (r3 = 3)) := hlk
        rw [decide_eq_true h1] at hlk
        obtain ⟨host, hlk⟩ := hlk
        exact qs_call (va_runSN (As := ((st.take r2).reverse).map (qs_tv xa base)) (rest := (st.drop r2).map (qs_tv xa base)) ⟨hx, hb, hml, hown, hts⟩ hM ⟨va_cnB r2 hts (qs_good hall hk0 he) rfl rfl rfl (hX.2.2.2.2.1 _ hlk) (hts _ (qs_in hw3 rfl)) hna (hroom r1 x hk0 he), hts _ (qs_in hw1 rfl), trivial⟩ hpre rfl (qs_take_len hn) hl.1 rfl (lv_room (by rw [qs_sum_map]; exact hsm)) hdec hcap) hS hcont
      · have hlk : qs_link o i x.2.1 (decide (r3 = 3)) := hlk
        rw [decide_eq_false h1] at hlk
        have hlk : Cond.methodLink (qx_on o) i x.2.1 ∈ lw_tbl := hlk
        have hG : GoodIn qs_TB (va_wsS (qx_on o) i x.2.1 (qs_ws x)) := by
          intro w hw
          rcases List.mem_append.mp hw with hw | hw
          · rcases List.mem_cons.mp hw with rfl | hw
            · exact ⟨qs_in hlk rfl, good_of_word rfl⟩
            rcases List.mem_cons.mp hw with rfl | hw
            · exact ⟨qs_in hw1 rfl, good_of_word rfl⟩
            rcases List.mem_cons.mp hw with rfl | hw
            · exact ⟨qs_in hw3 rfl, good_of_word rfl⟩
            · cases hw
          · exact qs_good hall hk0 he w hw
        exact qs_call (va_runS (As := ((st.take r2).reverse).map (qs_tv xa base)) (rest := (st.drop r2).map (qs_tv xa base)) ⟨hx, hb, hml, hown, hts⟩ hM (va_cwS r2 hts hG rfl rfl rfl hna (hroom r1 x hk0 he)) hpre rfl (qs_take_len hn) hl.1 rfl (lv_room (by rw [qs_sum_map]; exact hsm)) hdec hcap) hS hcont
    · cases hf
  | invokespecial i =>
    simp only [qm_call] at hf
    split at hf
    · rename_i a hst
      · split at hf
        · rename_i h
          obtain ⟨rfl, h3, hsm⟩ := h
          cases hf
          obtain ⟨hk0, x, he, hna, hlk, hw1, hw3, hnm, hret⟩ := hok.2 h3
          have hk0 : 0 < r1 := hk0
          have he : qm_ent r1 = some x := he
          have hM := hC r1 x _ w _ hk0 he K
          have hbd := hbud r1 x he
          intro H locs lsA hl hR hS
          have hn : r2 < st.length := (List.getElem?_eq_some_iff.mp hst).1
          have hstk : (st.map (qs_tv xa base)) = (((st.take r2).reverse).map (qs_tv xa base)).reverse ++ .ref (qs_ad xa base a) :: (st.drop (r2 + 1)).map (qs_tv xa base) := qs_splitR hst
          have hpre : PreS s H (va_Pc ((Value.ref a :: (st.take r2).reverse).map (qs_tv xa base)) (qs_B xa base cA D X w)) (.ref (qs_ad xa base a) :: ((st.take r2).reverse).map (qs_tv xa base)) :=
            ⟨qs_blind, fun U hU hW => ⟨rfl, qs_pre hK hX hR hS hU hW⟩⟩
          have hcap : cn + x.2.2.2.2.2.1 ≤ R.cells ∧ n + x.2.2.2.2.2.2.1 ≤ R.slots := by rw [hbd] at h5 h6; exact ⟨hM5 ▸ h5, hM6 ▸ h6⟩
          show W p l e R s m args below meth c H locs cn n Z (F0 m pc lsA (st.map (qs_tv xa base)))
          rw [hstk]
          have hcont : ∀ (r : Option Value) (w' : qm_W) (H1 : Heap) (locs1 : List Loc), qs_P xa base cA D p l e R s m args below meth c Z nL (pc + 3, ls, r.toList ++ st.drop (r2 + 1), w', cn + (qm_bud r1).1, n + (qm_bud r1).2) → qs_R xa base cA D w' H1 → va_S (qs_A base) s.heap H1 locs1 → W p l e R s m args below meth c H1 locs1 (cn + x.2.2.2.2.2.1) (n + x.2.2.2.2.2.2.1) Z (F0 m (pc + 3) lsA ((r.map (qs_tv xa base)).toList ++ (st.drop (r2 + 1)).map (qs_tv xa base))) := by
            intro r w' H1 locs1 hP hR1 hS1
            have := hP H1 locs1 lsA hl hR1 hS1
            rw [hbd] at this
            simp only [List.map_append] at this
            have e : (r.toList).map (qs_tv xa base) = (r.map (qs_tv xa base)).toList := by cases r <;> rfl
            rw [e] at this
            exact this
          have hws : qs_ws x = Cond.code x.2.1 x.2.2.1 x.2.2.2.1 none :: qs_TB := by unfold qs_ws; rw [hret]
          by_cases h1 : r3 = 5
          · have hlk : qs_link o i x.2.1 (decide (r3 = 5)) := hlk
            rw [decide_eq_true h1] at hlk
            obtain ⟨host, hlk⟩ := hlk
            exact qs_call (va_runIN (As := ((st.take r2).reverse).map (qs_tv xa base)) (rest := (st.drop (r2 + 1)).map (qs_tv xa base)) ⟨hx, hb, hml, hown, hts⟩ hM ⟨va_cnB r2 hts (qs_good hall hk0 he) hws rfl rfl (hX.2.2.2.2.1 _ hlk) (hts _ (qs_in hw3 rfl)) hna (hroom r1 x hk0 he), hnm, hts _ (qs_in hw1 rfl)⟩ hpre rfl (qs_take_len (Nat.le_of_lt hn)) hl.1 rfl (lv_room (by rw [qs_sum_map]; exact hsm)) hdec hcap) hS hcont
          · have hlk : qs_link o i x.2.1 (decide (r3 = 5)) := hlk
            rw [decide_eq_false h1] at hlk
            have hlk : Cond.methodLink (qx_on o) i x.2.1 ∈ lw_tbl := hlk
            exact qs_call (va_runI (As := ((st.take r2).reverse).map (qs_tv xa base)) (rest := (st.drop (r2 + 1)).map (qs_tv xa base)) ⟨hx, hb, hml, hown, hts⟩ hM (cwI r2 hts (qs_good hall hk0 he) hws rfl rfl (hts _ (qs_in hw3 rfl)) (hts _ (qs_in hlk rfl)) (hts _ (qs_in hw1 rfl)) hnm hna (hroom r1 x hk0 he)) hpre rfl (qs_take_len (Nat.le_of_lt hn)) hl.1 rfl (lv_room (by rw [qs_sum_map]; exact hsm)) hdec hcap) hS hcont
        · cases hf
    · cases hf
  | _ => cases hf
end QS5
end
section
section QS6
variable {xa : Nat → Nat} {base : Nat} {cA : FieldType → ClassId} {D : va_G} {X : qm_X}
variable {p : Program} {l : Launch} {e : Env} {R : Room} {s : State} {m : MethodId} {args : Array Value} {below : List Frame} {meth : Method} {c : Code} {Z : State → Prop} {cc : ByteArray} {nL o : Nat}
/-- a method's end is one of the machine -/
def qs_ends (xa : Nat → Nat) (base : Nat) (cA : FieldType → ClassId) (D : va_G) (p : Program) (l : Launch) (e : Env) (R : Room) (s : State) (m : MethodId) (args : Array Value) (below : List Frame) (meth : Method) (c : Code) (Z : State → Prop) (cc : ByteArray) (ret : Option FieldType) (Q : Option Value → qm_W → Prop) : Prop :=
  (∀ (x : Int32) (ty : FieldType) (w : qm_W) (cn n pc : Nat) (H : Heap) (locs : List Loc) (lsA : Array Slot), decode cc pc = .ok (.ireturn, 1) → ret = some ty → narrow ty (.int x) = .int x → cn ≤ R.cells → n ≤ R.slots → Q (some (.int x)) w → qs_R xa base cA D w H → va_S (qs_A base) s.heap H locs → W p l e R s m args below meth c H locs cn n Z (F0 m pc lsA [.int x])) ∧
  (∀ (x : Int64) (w : qm_W) (cn n pc : Nat) (H : Heap) (locs : List Loc) (lsA : Array Slot), decode cc pc = .ok (.lreturn, 1) → ret = some .long → cn ≤ R.cells → n ≤ R.slots → Q (some (.long x)) w → qs_R xa base cA D w H → va_S (qs_A base) s.heap H locs → W p l e R s m args below meth c H locs cn n Z (F0 m pc lsA [.long x])) ∧
  (∀ (w : qm_W) (cn n pc : Nat) (H : Heap) (locs : List Loc) (lsA : Array Slot), decode cc pc = .ok (.return_, 1) → ret = none → cn ≤ R.cells → n ≤ R.slots → Q none w → qs_R xa base cA D w H → va_S (qs_A base) s.heap H locs → W p l e R s m args below meth c H locs cn n Z (F0 m pc lsA []))
/-- a body: what the small machine comes to, the machine comes to -/
theorem qs_body (hall : qs_all) (hXo : qs_Xok X) (hx : p.tables.exec = Jvm.exec) (hb : c.code = cc) (hml : c.maxLocals = nL) (hown : s.vm.findClass (qx_on o) = some m.cls) (hts : ∀ w ∈ qs_TB, w.before args s = true) (hK : va_K D qx_cl (qs_tys cA) s) (hX : qs_X xa base X s s.heap) {d : Nat} (hR1 : d + 1 ≤ R.frames) (hR2 : 60 * (d + 1) ≤ R.locals)
    {C : Nat → List Value → qm_W → (Option Value → qm_W → Prop) → Prop} (hC : ∀ (k : Nat) (x : qs_Ent) (as : List Value) (w : qm_W) (Q : Option Value → qm_W → Prop), 0 < k → qm_ent k = some x → C k as w Q → Met l x.2.1 (qs_ws x) (qs_rm d x) (va_Pc (as.map (qs_tv xa base)) (qs_B xa base cA D X w)) (qs_Q xa base cA D Q) x.2.2.2.2.2.1 x.2.2.2.2.2.2.1 (qs_A base))
    {M : qm_M} (hM1 : M.1 = nL) (hinit : M.2.2.1 = true → meth.name = "<init>") (hMo : M.2.2.2.1 = qx_oc o) (hM5 : M.2.2.2.2.1 = R.cells) (hM6 : M.2.2.2.2.2 = R.slots) {cd : qm_C} (hcd : ∀ q ∈ cd, decode cc q.1 = .ok (q.2.1, q.2.2.1) ∧ 0 ≤ (q.1 : Int) + qs_off q.2.1 ∧ qs_ok o q) {Q : Option Value → qm_W → Prop}
    (hend : qs_ends xa base cA D p l e R s m args below meth c Z cc M.2.1 Q) {t : qm_S} (h : qm_wp C qm_bud X M cd Q t) : qs_P xa base cA D p l e R s m args below meth c Z nL t := by
  refine h _ (fun t ht => ?_)
  obtain ⟨pc, ls, st, w, cn, n⟩ := t
  unfold qm_step at ht
  split at ht
  · exact ht.elim
  · rename_i q hq
    have h1 := List.find?_some hq
    have h2 := List.mem_of_find?_eq_some hq
    have h3 : q.1 = pc := by simpa using h1
    obtain ⟨pc', i, len, r1, r2, r3, rv⟩ := q
    have h3 : pc' = pc := h3
    subst h3
    obtain ⟨hdec, hoff, hok⟩ := hcd _ h2
    split at ht
    · rename_i k hk
      exact qs_do hall hx hb hml hown hts hK hX hR1 hR2 hC hM5 hM6 hdec hok hk ht.1 ht.2.1 ht.2.2
    · split at ht
      · rename_i r hr
        obtain ⟨ht1, ht2, ht3⟩ := ht
        have h5 : cn ≤ R.cells := by rw [← hM5]; exact ht1
        have h6 : n ≤ R.slots := by rw [← hM6]; exact ht2
        cases i with
        | ireturn =>
          simp only [qm_retn] at hr
          split at hr
          · split at hr
            · split at hr
              · rename_i hh
                obtain ⟨rfl, hn⟩ := hh
                cases hr
                intro H locs lsA hl hR hS
                exact hend.1 _ _ w cn n pc' H locs lsA hdec (by assumption) hn h5 h6 ht3 hR hS
              · cases hr
            · cases hr
          · cases hr
        | lreturn =>
          simp only [qm_retn] at hr
          split at hr
          · split at hr
            · rename_i hh
              obtain ⟨rfl, hn⟩ := hh
              cases hr
              intro H locs lsA hl hR hS
              exact hend.2.1 _ w cn n pc' H locs lsA hdec hn h5 h6 ht3 hR hS
            · cases hr
          · cases hr
        | return_ =>
          simp only [qm_retn] at hr
          split at hr
          · split at hr
            · rename_i hh
              obtain ⟨rfl, hn⟩ := hh
              cases hr
              intro H locs lsA hl hR hS
              exact hend.2.2 w cn n pc' H locs lsA hdec hn h5 h6 ht3 hR hS
            · cases hr
          · cases hr
        | _ => cases hr
      · split at ht
        · exact ht.elim
        · rename_i s' hs
          exact qs_go hall hx hb hml hown hts hK hX hM1 hinit hMo hM5 hM6 (by omega) (by omega) hdec hok ⟨_, (Int.toNat_of_nonneg (show 0 ≤ (pc' : Int) + qs_off i from hoff)).symm⟩ (qs_alen hx hb hK hX hXo) hs ht
theorem qs_args (as : List Value) : ∀ i : Nat, lv_args i (as.map (qs_tv xa base)) = qs_tl xa base (lv_args i as) := by
  induction as with
  | nil => intro i; rfl
  | cons v vs ih =>
    intro i
    show (i, qs_tv xa base v) :: lv_args (if (qs_tv xa base v).category = 2 then i + 2 else i + 1) (vs.map (qs_tv xa base)) = _
    rw [qs_tv_cat, ih]
    rfl
theorem qs_sl (as : List Value) : (lg_sl (as.map (qs_tv xa base))).length = (lg_sl as).length := by
  unfold lg_sl
  induction as with
  | nil => rfl
  | cons v vs ih =>
    rw [List.map_cons, List.flatMap_cons, List.flatMap_cons, List.length_append, List.length_append, ih, qs_tv_cat]
    split <;> rfl
/-- FROM THE SMALL MACHINE TO CONTRACTS -/
theorem qs_met (hall : qs_all) (hXo : qs_Xok X) : ∀ (d k : Nat) (x : qs_Ent) (as : List Value) (w : qm_W) (Q : Option Value → qm_W → Prop), 0 < k → qm_ent k = some x → qm_T X d k as w Q → Met l x.2.1 (qs_ws x) (qs_rm d x) (va_Pc (as.map (qs_tv xa base)) (qs_B xa base cA D X w)) (qs_Q xa base cA D Q) x.2.2.2.2.2.1 x.2.2.2.2.2.2.1 (qs_A base) := by
  intro d
  induction d with
  | zero => intro k x as w Q hk he h; exact h.elim
  | succ d ih =>
    intro k x as w Q hk he h
    unfold qm_T at h
    rw [he] at h
    obtain ⟨hlen, h⟩ := h
    obtain ⟨hpl, hcode, hcls, hmx, hcd⟩ := hall.2.2 k x hk he
    refine Met.ofW (cc := x.2.2.1) (maxL := x.2.2.2.1) (ret := x.2.2.2.2.1) hpl rfl ?_
    intro p e s m args below meth c s₁ B hml hv
    obtain ⟨rfl, hR0, hK, hX⟩ := hv
    have hx := B.exec
    have hb := B.bytes
    have hr := B.returns
    have hts0 := atoms_spec (ws := qs_ws x) B.pre
    have hts : ∀ w ∈ qs_TB, w.before _ s = true := fun w hw => hts0 w (List.mem_cons_of_mem _ hw)
    have hown : s.vm.findClass (qx_on x.1) = some m.cls := by rw [← hcls]; exact findClass_of_methodNamed B.named
    have hlocks := B.notSynchronized
    have hnm : meth.name = x.2.1.name := (name_of_methodNamed B.named B.method).1
    have hl := lv_entry (as.map (qs_tv xa base)) (n := x.2.2.2.1) (by rw [qs_sl]; exact hlen)
    rw [lg_entry_eq]
    rw [qs_args] at hl
    generalize (lg_sl (as.map (qs_tv xa base)) ++ List.replicate (x.2.2.2.1 - (lg_sl (as.map (qs_tv xa base))).length) Slot.unset).toArray = ls at hl ⊢
    have hend : qs_ends xa base cA D p l e (qs_rm (d + 1) x) s m (as.map (qs_tv xa base)).toArray below meth c (MQ below (qs_Q xa base cA D Q) (as.map (qs_tv xa base)).toArray s x.2.2.2.2.2.1 x.2.2.2.2.2.2.1 (qs_A base)) x.2.2.1 x.2.2.2.2.1 Q := by
      refine ⟨fun v ty w cn n pc H locs lsA hd hty hn h1 h2 hQ hR hS => ?_, fun v w cn n pc H locs lsA hd hty h1 h2 hQ hR hS => ?_, fun w cn n pc H locs lsA hd hty h1 h2 hQ hR hS => ?_⟩
      · refine W.widen (k := x.2.2.2.2.2.1) (n := x.2.2.2.2.2.2.1) h1 h2 ?_
        exact W.zret hx hb (hr.trans hty) hn (fun t ht hW => ⟨⟨_, w, rfl, hQ, by rw [ht]; exact hR⟩, hS.F ht⟩) hS.2.2 hd
      · refine W.widen (k := x.2.2.2.2.2.1) (n := x.2.2.2.2.2.2.1) h1 h2 ?_
        exact W.lret hx hb (hr.trans hty) (fun t ht hW => ⟨⟨_, w, rfl, hQ, by rw [ht]; exact hR⟩, hS.F ht⟩) hS.2.2 hd
      · refine W.widen (k := x.2.2.2.2.2.1) (n := x.2.2.2.2.2.2.1) h1 h2 ?_
        exact W.vret hx hb (hr.trans hty) (fun t ht hW => ⟨⟨_, w, rfl, hQ, by rw [ht]; exact hR⟩, hS.F ht⟩) hS.2.2 hd
    exact qs_body (o := x.1) (d := d) hall hXo hx hb hml hown hts hK hX (Nat.le_refl _) (Nat.le_refl _) (fun k x as w Q hk he hC => ih k x as w Q hk he hC) rfl (fun h => by
      have h : decide (x.2.1.name = "<init>") = true := h
      rw [hnm]
      exact of_decide_eq_true h) rfl rfl rfl hcd hend h s.heap [] ls hl hR0 va_S.rf
end QS6
end
