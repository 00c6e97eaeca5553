section
-- ===== PART A: goes FIRST, ahead of the names: the tables' words, and 'selects' of the private methods out of them =====
/-- a private method of a class that the tables say can be made, by its rows of tables_1 -/
def lw_okq (q : MethodName × Nat) : Prop := (q.1.cls ≠ "java/lang/invoke/MethodHandle" ∧ q.1.cls ≠ "java/lang/invoke/VarHandle") ∧ Cond.instantiable q.1.cls q.2 ∈ tables_1 ∧ Cond.privateMethod q.1 ∈ tables_1 ∧ Cond.instanceMethod q.1 ∈ tables_1
theorem lw_p0 : lw_okq (⟨"java/lang/Throwable", "fillInStackTrace", "(I)Ljava/lang/Throwable;"⟩, 6) := ⟨⟨by decide +kernel, by decide +kernel⟩, List.mem_of_getElem? (i := 212) (by decide +kernel), List.mem_of_getElem? (i := 210) (by decide +kernel), List.mem_of_getElem? (i := 211) (by decide +kernel)⟩
theorem lw_p1 : lw_okq (⟨"Platehall", "vehicleOfSerial", "(I)I"⟩, 10) := ⟨⟨by decide +kernel, by decide +kernel⟩, List.mem_of_getElem? (i := 37) (by decide +kernel), List.mem_of_getElem? (i := 270) (by decide +kernel), List.mem_of_getElem? (i := 271) (by decide +kernel)⟩
theorem lw_p2 : lw_okq (⟨"java/util/ArrayList", "add", "(Ljava/lang/Object;[Ljava/lang/Object;I)V"⟩, 3) := ⟨⟨by decide +kernel, by decide +kernel⟩, List.mem_of_getElem? (i := 79) (by decide +kernel), List.mem_of_getElem? (i := 402) (by decide +kernel), List.mem_of_getElem? (i := 403) (by decide +kernel)⟩
theorem lw_p3 : lw_okq (⟨"java/util/ArrayList", "grow", "()[Ljava/lang/Object;"⟩, 3) := ⟨⟨by decide +kernel, by decide +kernel⟩, List.mem_of_getElem? (i := 79) (by decide +kernel), List.mem_of_getElem? (i := 406) (by decide +kernel), List.mem_of_getElem? (i := 407) (by decide +kernel)⟩
theorem lw_p4 : lw_okq (⟨"java/util/ArrayList", "grow", "(I)[Ljava/lang/Object;"⟩, 3) := ⟨⟨by decide +kernel, by decide +kernel⟩, List.mem_of_getElem? (i := 79) (by decide +kernel), List.mem_of_getElem? (i := 410) (by decide +kernel), List.mem_of_getElem? (i := 411) (by decide +kernel)⟩
theorem lw_p5 : lw_okq (⟨"Platehall", "personAt", "(I)LPlatehall$Person;"⟩, 10) := ⟨⟨by decide +kernel, by decide +kernel⟩, List.mem_of_getElem? (i := 37) (by decide +kernel), List.mem_of_getElem? (i := 505) (by decide +kernel), List.mem_of_getElem? (i := 506) (by decide +kernel)⟩
theorem lw_p6 : lw_okq (⟨"Platehall", "vehicleAt", "(I)LPlatehall$Vehicle;"⟩, 10) := ⟨⟨by decide +kernel, by decide +kernel⟩, List.mem_of_getElem? (i := 37) (by decide +kernel), List.mem_of_getElem? (i := 531) (by decide +kernel), List.mem_of_getElem? (i := 532) (by decide +kernel)⟩
theorem lw_p7 : lw_okq (⟨"java/util/ArrayList", "rangeCheckForAdd", "(I)V"⟩, 3) := ⟨⟨by decide +kernel, by decide +kernel⟩, List.mem_of_getElem? (i := 79) (by decide +kernel), List.mem_of_getElem? (i := 580) (by decide +kernel), List.mem_of_getElem? (i := 581) (by decide +kernel)⟩
theorem lw_p8 : lw_okq (⟨"java/util/ArrayList", "outOfBoundsMsg", "(I)Ljava/lang/String;"⟩, 3) := ⟨⟨by decide +kernel, by decide +kernel⟩, List.mem_of_getElem? (i := 79) (by decide +kernel), List.mem_of_getElem? (i := 585) (by decide +kernel), List.mem_of_getElem? (i := 586) (by decide +kernel)⟩
theorem lw_p9 : lw_okq (⟨"Platehall$History", "followFrom", "(I)V"⟩, 3) := ⟨⟨by decide +kernel, by decide +kernel⟩, List.mem_of_getElem? (i := 300) (by decide +kernel), List.mem_of_getElem? (i := 837) (by decide +kernel), List.mem_of_getElem? (i := 838) (by decide +kernel)⟩
theorem lw_p10 : lw_okq (⟨"Platehall$Standing", "changeState", "(I)V"⟩, 5) := ⟨⟨by decide +kernel, by decide +kernel⟩, List.mem_of_getElem? (i := 308) (by decide +kernel), List.mem_of_getElem? (i := 849) (by decide +kernel), List.mem_of_getElem? (i := 850) (by decide +kernel)⟩
theorem lw_p11 : lw_okq (⟨"Platehall", "refuseStandingAsked", "(II)V"⟩, 10) := ⟨⟨by decide +kernel, by decide +kernel⟩, List.mem_of_getElem? (i := 37) (by decide +kernel), List.mem_of_getElem? (i := 860) (by decide +kernel), List.mem_of_getElem? (i := 861) (by decide +kernel)⟩
theorem lw_p12 : lw_okq (⟨"Platehall", "isGoneToday", "(LPlatehall$Vehicle;)Z"⟩, 10) := ⟨⟨by decide +kernel, by decide +kernel⟩, List.mem_of_getElem? (i := 37) (by decide +kernel), List.mem_of_getElem? (i := 913) (by decide +kernel), List.mem_of_getElem? (i := 914) (by decide +kernel)⟩
theorem lw_p13 : lw_okq (⟨"Platehall", "give", "(ILPlatehall$Vehicle;)V"⟩, 10) := ⟨⟨by decide +kernel, by decide +kernel⟩, List.mem_of_getElem? (i := 37) (by decide +kernel), List.mem_of_getElem? (i := 917) (by decide +kernel), List.mem_of_getElem? (i := 918) (by decide +kernel)⟩
theorem lw_p14 : lw_okq (⟨"Platehall$Course", "rowOn", "(I)I"⟩, 3) := ⟨⟨by decide +kernel, by decide +kernel⟩, List.mem_of_getElem? (i := 106) (by decide +kernel), List.mem_of_getElem? (i := 929) (by decide +kernel), List.mem_of_getElem? (i := 930) (by decide +kernel)⟩
theorem lw_p15 : lw_okq (⟨"Platehall$Course", "makeRoomAt", "(I)V"⟩, 3) := ⟨⟨by decide +kernel, by decide +kernel⟩, List.mem_of_getElem? (i := 106) (by decide +kernel), List.mem_of_getElem? (i := 933) (by decide +kernel), List.mem_of_getElem? (i := 934) (by decide +kernel)⟩
def lw_privs_1 : List (MethodName × Nat) := [(⟨"java/lang/Throwable", "fillInStackTrace", "(I)Ljava/lang/Throwable;"⟩, 6), (⟨"Platehall", "vehicleOfSerial", "(I)I"⟩, 10), (⟨"java/util/ArrayList", "add", "(Ljava/lang/Object;[Ljava/lang/Object;I)V"⟩, 3), (⟨"java/util/ArrayList", "grow", "()[Ljava/lang/Object;"⟩, 3), (⟨"java/util/ArrayList", "grow", "(I)[Ljava/lang/Object;"⟩, 3), (⟨"Platehall", "personAt", "(I)LPlatehall$Person;"⟩, 10), (⟨"Platehall", "vehicleAt", "(I)LPlatehall$Vehicle;"⟩, 10), (⟨"java/util/ArrayList", "rangeCheckForAdd", "(I)V"⟩, 3), (⟨"java/util/ArrayList", "outOfBoundsMsg", "(I)Ljava/lang/String;"⟩, 3), (⟨"Platehall$History", "followFrom", "(I)V"⟩, 3), (⟨"Platehall$Standing", "changeState", "(I)V"⟩, 5), (⟨"Platehall", "refuseStandingAsked", "(II)V"⟩, 10), (⟨"Platehall", "isGoneToday", "(LPlatehall$Vehicle;)Z"⟩, 10), (⟨"Platehall", "give", "(ILPlatehall$Vehicle;)V"⟩, 10), (⟨"Platehall$Course", "rowOn", "(I)I"⟩, 3), (⟨"Platehall$Course", "makeRoomAt", "(I)V"⟩, 3)]
theorem lw_r1 : ∀ q ∈ lw_privs_1, lw_okq q := List.forall_mem_cons.mpr ⟨lw_p0, List.forall_mem_cons.mpr ⟨lw_p1, List.forall_mem_cons.mpr ⟨lw_p2, List.forall_mem_cons.mpr ⟨lw_p3, List.forall_mem_cons.mpr ⟨lw_p4, List.forall_mem_cons.mpr ⟨lw_p5, List.forall_mem_cons.mpr ⟨lw_p6, List.forall_mem_cons.mpr ⟨lw_p7, List.forall_mem_cons.mpr ⟨lw_p8, List.forall_mem_cons.mpr ⟨lw_p9, List.forall_mem_cons.mpr ⟨lw_p10, List.forall_mem_cons.mpr ⟨lw_p11, List.forall_mem_cons.mpr ⟨lw_p12, List.forall_mem_cons.mpr ⟨lw_p13, List.forall_mem_cons.mpr ⟨lw_p14, List.forall_mem_cons.mpr ⟨lw_p15, fun _ h => absurd h List.not_mem_nil⟩⟩⟩⟩⟩⟩⟩⟩⟩⟩⟩⟩⟩⟩⟩⟩
theorem lw_p16 : lw_okq (⟨"Platehall", "taxOf", "(LPlatehall$History;)J"⟩, 10) := ⟨⟨by decide +kernel, by decide +kernel⟩, List.mem_of_getElem? (i := 37) (by decide +kernel), List.mem_of_getElem? (i := 997) (by decide +kernel), List.mem_of_getElem? (i := 998) (by decide +kernel)⟩
theorem lw_p17 : lw_okq (⟨"Platehall", "taxBetween", "(III)J"⟩, 10) := ⟨⟨by decide +kernel, by decide +kernel⟩, List.mem_of_getElem? (i := 37) (by decide +kernel), List.mem_of_getElem? (i := 1009) (by decide +kernel), List.mem_of_getElem? (i := 1010) (by decide +kernel)⟩
theorem lw_p18 : lw_okq (⟨"Platehall", "gapOf", "(LPlatehall$Vehicle;)I"⟩, 10) := ⟨⟨by decide +kernel, by decide +kernel⟩, List.mem_of_getElem? (i := 37) (by decide +kernel), List.mem_of_getElem? (i := 1048) (by decide +kernel), List.mem_of_getElem? (i := 1049) (by decide +kernel)⟩
theorem lw_p19 : lw_okq (⟨"Platehall", "clonesOf", "(I)I"⟩, 10) := ⟨⟨by decide +kernel, by decide +kernel⟩, List.mem_of_getElem? (i := 37) (by decide +kernel), List.mem_of_getElem? (i := 1058) (by decide +kernel), List.mem_of_getElem? (i := 1059) (by decide +kernel)⟩
theorem lw_p20 : lw_okq (⟨"Platehall", "vehicleSeen", "(LPlatehall$Sighting;)I"⟩, 10) := ⟨⟨by decide +kernel, by decide +kernel⟩, List.mem_of_getElem? (i := 37) (by decide +kernel), List.mem_of_getElem? (i := 1063) (by decide +kernel), List.mem_of_getElem? (i := 1064) (by decide +kernel)⟩
theorem lw_p21 : lw_okq (⟨"Platehall", "fileByTime", "(LPlatehall$Sighting;)V"⟩, 10) := ⟨⟨by decide +kernel, by decide +kernel⟩, List.mem_of_getElem? (i := 37) (by decide +kernel), List.mem_of_getElem? (i := 1112) (by decide +kernel), List.mem_of_getElem? (i := 1113) (by decide +kernel)⟩
theorem lw_p22 : lw_okq (⟨"Platehall", "sightingAt", "(I)LPlatehall$Sighting;"⟩, 10) := ⟨⟨by decide +kernel, by decide +kernel⟩, List.mem_of_getElem? (i := 37) (by decide +kernel), List.mem_of_getElem? (i := 1124) (by decide +kernel), List.mem_of_getElem? (i := 1125) (by decide +kernel)⟩
theorem lw_p23 : lw_okq (⟨"Platehall", "fineAt", "(I)LPlatehall$Fine;"⟩, 10) := ⟨⟨by decide +kernel, by decide +kernel⟩, List.mem_of_getElem? (i := 37) (by decide +kernel), List.mem_of_getElem? (i := 1169) (by decide +kernel), List.mem_of_getElem? (i := 1170) (by decide +kernel)⟩
theorem lw_p24 : lw_okq (⟨"Platehall", "payerOf", "(LPlatehall$Fine;)I"⟩, 10) := ⟨⟨by decide +kernel, by decide +kernel⟩, List.mem_of_getElem? (i := 37) (by decide +kernel), List.mem_of_getElem? (i := 1173) (by decide +kernel), List.mem_of_getElem? (i := 1174) (by decide +kernel)⟩
theorem lw_p25 : lw_okq (⟨"Platehall", "isAllowedByState", "(I)Z"⟩, 10) := ⟨⟨by decide +kernel, by decide +kernel⟩, List.mem_of_getElem? (i := 37) (by decide +kernel), List.mem_of_getElem? (i := 1230) (by decide +kernel), List.mem_of_getElem? (i := 1231) (by decide +kernel)⟩
theorem lw_p26 : lw_okq (⟨"PlatehallModel", "goesWell", "(I)Z"⟩, 44) := ⟨⟨by decide +kernel, by decide +kernel⟩, List.mem_of_getElem? (i := 1250) (by decide +kernel), List.mem_of_getElem? (i := 1398) (by decide +kernel), List.mem_of_getElem? (i := 1399) (by decide +kernel)⟩
theorem lw_p27 : lw_okq (⟨"PlatehallModel", "vehicleOf", "(I)I"⟩, 44) := ⟨⟨by decide +kernel, by decide +kernel⟩, List.mem_of_getElem? (i := 1250) (by decide +kernel), List.mem_of_getElem? (i := 1416) (by decide +kernel), List.mem_of_getElem? (i := 1417) (by decide +kernel)⟩
theorem lw_p28 : lw_okq (⟨"PlatehallModel", "isPerson", "(I)Z"⟩, 44) := ⟨⟨by decide +kernel, by decide +kernel⟩, List.mem_of_getElem? (i := 1250) (by decide +kernel), List.mem_of_getElem? (i := 1433) (by decide +kernel), List.mem_of_getElem? (i := 1434) (by decide +kernel)⟩
theorem lw_p29 : lw_okq (⟨"PlatehallModel", "isVehicle", "(I)Z"⟩, 44) := ⟨⟨by decide +kernel, by decide +kernel⟩, List.mem_of_getElem? (i := 1250) (by decide +kernel), List.mem_of_getElem? (i := 1441) (by decide +kernel), List.mem_of_getElem? (i := 1442) (by decide +kernel)⟩
theorem lw_p30 : lw_okq (⟨"PlatehallModel", "isAbout", "(II)Z"⟩, 44) := ⟨⟨by decide +kernel, by decide +kernel⟩, List.mem_of_getElem? (i := 1250) (by decide +kernel), List.mem_of_getElem? (i := 1445) (by decide +kernel), List.mem_of_getElem? (i := 1446) (by decide +kernel)⟩
theorem lw_p31 : lw_okq (⟨"PlatehallModel", "isOn", "(III)I"⟩, 44) := ⟨⟨by decide +kernel, by decide +kernel⟩, List.mem_of_getElem? (i := 1250) (by decide +kernel), List.mem_of_getElem? (i := 1453) (by decide +kernel), List.mem_of_getElem? (i := 1454) (by decide +kernel)⟩
def lw_privs_2 : List (MethodName × Nat) := [(⟨"Platehall", "taxOf", "(LPlatehall$History;)J"⟩, 10), (⟨"Platehall", "taxBetween", "(III)J"⟩, 10), (⟨"Platehall", "gapOf", "(LPlatehall$Vehicle;)I"⟩, 10), (⟨"Platehall", "clonesOf", "(I)I"⟩, 10), (⟨"Platehall", "vehicleSeen", "(LPlatehall$Sighting;)I"⟩, 10), (⟨"Platehall", "fileByTime", "(LPlatehall$Sighting;)V"⟩, 10), (⟨"Platehall", "sightingAt", "(I)LPlatehall$Sighting;"⟩, 10), (⟨"Platehall", "fineAt", "(I)LPlatehall$Fine;"⟩, 10), (⟨"Platehall", "payerOf", "(LPlatehall$Fine;)I"⟩, 10), (⟨"Platehall", "isAllowedByState", "(I)Z"⟩, 10), (⟨"PlatehallModel", "goesWell", "(I)Z"⟩, 44), (⟨"PlatehallModel", "vehicleOf", "(I)I"⟩, 44), (⟨"PlatehallModel", "isPerson", "(I)Z"⟩, 44), (⟨"PlatehallModel", "isVehicle", "(I)Z"⟩, 44), (⟨"PlatehallModel", "isAbout", "(II)Z"⟩, 44), (⟨"PlatehallModel", "isOn", "(III)I"⟩, 44)]
theorem lw_r2 : ∀ q ∈ lw_privs_2, lw_okq q := List.forall_mem_cons.mpr ⟨lw_p16, List.forall_mem_cons.mpr ⟨lw_p17, List.forall_mem_cons.mpr ⟨lw_p18, List.forall_mem_cons.mpr ⟨lw_p19, List.forall_mem_cons.mpr ⟨lw_p20, List.forall_mem_cons.mpr ⟨lw_p21, List.forall_mem_cons.mpr ⟨lw_p22, List.forall_mem_cons.mpr ⟨lw_p23, List.forall_mem_cons.mpr ⟨lw_p24, List.forall_mem_cons.mpr ⟨lw_p25, List.forall_mem_cons.mpr ⟨lw_p26, List.forall_mem_cons.mpr ⟨lw_p27, List.forall_mem_cons.mpr ⟨lw_p28, List.forall_mem_cons.mpr ⟨lw_p29, List.forall_mem_cons.mpr ⟨lw_p30, List.forall_mem_cons.mpr ⟨lw_p31, fun _ h => absurd h List.not_mem_nil⟩⟩⟩⟩⟩⟩⟩⟩⟩⟩⟩⟩⟩⟩⟩⟩
theorem lw_p32 : lw_okq (⟨"PlatehallModel", "stateOn", "(II)I"⟩, 44) := ⟨⟨by decide +kernel, by decide +kernel⟩, List.mem_of_getElem? (i := 1250) (by decide +kernel), List.mem_of_getElem? (i := 1457) (by decide +kernel), List.mem_of_getElem? (i := 1458) (by decide +kernel)⟩
theorem lw_p33 : lw_okq (⟨"PlatehallModel", "change", "(I)V"⟩, 44) := ⟨⟨by decide +kernel, by decide +kernel⟩, List.mem_of_getElem? (i := 1250) (by decide +kernel), List.mem_of_getElem? (i := 1461) (by decide +kernel), List.mem_of_getElem? (i := 1462) (by decide +kernel)⟩
theorem lw_p34 : lw_okq (⟨"PlatehallModel", "latest", "(IIII)I"⟩, 44) := ⟨⟨by decide +kernel, by decide +kernel⟩, List.mem_of_getElem? (i := 1250) (by decide +kernel), List.mem_of_getElem? (i := 1465) (by decide +kernel), List.mem_of_getElem? (i := 1466) (by decide +kernel)⟩
theorem lw_p35 : lw_okq (⟨"PlatehallModel", "isFree", "(I)Z"⟩, 44) := ⟨⟨by decide +kernel, by decide +kernel⟩, List.mem_of_getElem? (i := 1250) (by decide +kernel), List.mem_of_getElem? (i := 1484) (by decide +kernel), List.mem_of_getElem? (i := 1485) (by decide +kernel)⟩
theorem lw_p36 : lw_okq (⟨"PlatehallModel", "give", "(II)I"⟩, 44) := ⟨⟨by decide +kernel, by decide +kernel⟩, List.mem_of_getElem? (i := 1250) (by decide +kernel), List.mem_of_getElem? (i := 1488) (by decide +kernel), List.mem_of_getElem? (i := 1489) (by decide +kernel)⟩
theorem lw_p37 : lw_okq (⟨"PlatehallModel", "plateIn", "()I"⟩, 44) := ⟨⟨by decide +kernel, by decide +kernel⟩, List.mem_of_getElem? (i := 1250) (by decide +kernel), List.mem_of_getElem? (i := 1496) (by decide +kernel), List.mem_of_getElem? (i := 1497) (by decide +kernel)⟩
theorem lw_p38 : lw_okq (⟨"PlatehallModel", "plateOn", "(II)I"⟩, 44) := ⟨⟨by decide +kernel, by decide +kernel⟩, List.mem_of_getElem? (i := 1250) (by decide +kernel), List.mem_of_getElem? (i := 1504) (by decide +kernel), List.mem_of_getElem? (i := 1505) (by decide +kernel)⟩
theorem lw_p39 : lw_okq (⟨"PlatehallModel", "owed", "(I)J"⟩, 44) := ⟨⟨by decide +kernel, by decide +kernel⟩, List.mem_of_getElem? (i := 1250) (by decide +kernel), List.mem_of_getElem? (i := 1523) (by decide +kernel), List.mem_of_getElem? (i := 1524) (by decide +kernel)⟩
theorem lw_p40 : lw_okq (⟨"PlatehallModel", "rateOn", "(II)I"⟩, 44) := ⟨⟨by decide +kernel, by decide +kernel⟩, List.mem_of_getElem? (i := 1250) (by decide +kernel), List.mem_of_getElem? (i := 1527) (by decide +kernel), List.mem_of_getElem? (i := 1528) (by decide +kernel)⟩
theorem lw_p41 : lw_okq (⟨"PlatehallModel", "isInsured", "(II)Z"⟩, 44) := ⟨⟨by decide +kernel, by decide +kernel⟩, List.mem_of_getElem? (i := 1250) (by decide +kernel), List.mem_of_getElem? (i := 1544) (by decide +kernel), List.mem_of_getElem? (i := 1545) (by decide +kernel)⟩
theorem lw_p42 : lw_okq (⟨"PlatehallModel", "gap", "(I)I"⟩, 44) := ⟨⟨by decide +kernel, by decide +kernel⟩, List.mem_of_getElem? (i := 1250) (by decide +kernel), List.mem_of_getElem? (i := 1553) (by decide +kernel), List.mem_of_getElem? (i := 1554) (by decide +kernel)⟩
theorem lw_p43 : lw_okq (⟨"PlatehallModel", "clones", "(I)I"⟩, 44) := ⟨⟨by decide +kernel, by decide +kernel⟩, List.mem_of_getElem? (i := 1250) (by decide +kernel), List.mem_of_getElem? (i := 1557) (by decide +kernel), List.mem_of_getElem? (i := 1558) (by decide +kernel)⟩
theorem lw_p44 : lw_okq (⟨"PlatehallModel", "seenBy", "(I)I"⟩, 44) := ⟨⟨by decide +kernel, by decide +kernel⟩, List.mem_of_getElem? (i := 1250) (by decide +kernel), List.mem_of_getElem? (i := 1561) (by decide +kernel), List.mem_of_getElem? (i := 1562) (by decide +kernel)⟩
theorem lw_p45 : lw_okq (⟨"PlatehallModel", "agrees", "(II)Z"⟩, 44) := ⟨⟨by decide +kernel, by decide +kernel⟩, List.mem_of_getElem? (i := 1250) (by decide +kernel), List.mem_of_getElem? (i := 1565) (by decide +kernel), List.mem_of_getElem? (i := 1566) (by decide +kernel)⟩
theorem lw_p46 : lw_okq (⟨"PlatehallModel", "isBehind", "(II)Z"⟩, 44) := ⟨⟨by decide +kernel, by decide +kernel⟩, List.mem_of_getElem? (i := 1250) (by decide +kernel), List.mem_of_getElem? (i := 1569) (by decide +kernel), List.mem_of_getElem? (i := 1570) (by decide +kernel)⟩
theorem lw_p47 : lw_okq (⟨"PlatehallModel", "minutes", "(I)I"⟩, 44) := ⟨⟨by decide +kernel, by decide +kernel⟩, List.mem_of_getElem? (i := 1250) (by decide +kernel), List.mem_of_getElem? (i := 1573) (by decide +kernel), List.mem_of_getElem? (i := 1574) (by decide +kernel)⟩
def lw_privs_3 : List (MethodName × Nat) := [(⟨"PlatehallModel", "stateOn", "(II)I"⟩, 44), (⟨"PlatehallModel", "change", "(I)V"⟩, 44), (⟨"PlatehallModel", "latest", "(IIII)I"⟩, 44), (⟨"PlatehallModel", "isFree", "(I)Z"⟩, 44), (⟨"PlatehallModel", "give", "(II)I"⟩, 44), (⟨"PlatehallModel", "plateIn", "()I"⟩, 44), (⟨"PlatehallModel", "plateOn", "(II)I"⟩, 44), (⟨"PlatehallModel", "owed", "(I)J"⟩, 44), (⟨"PlatehallModel", "rateOn", "(II)I"⟩, 44), (⟨"PlatehallModel", "isInsured", "(II)Z"⟩, 44), (⟨"PlatehallModel", "gap", "(I)I"⟩, 44), (⟨"PlatehallModel", "clones", "(I)I"⟩, 44), (⟨"PlatehallModel", "seenBy", "(I)I"⟩, 44), (⟨"PlatehallModel", "agrees", "(II)Z"⟩, 44), (⟨"PlatehallModel", "isBehind", "(II)Z"⟩, 44), (⟨"PlatehallModel", "minutes", "(I)I"⟩, 44)]
theorem lw_r3 : ∀ q ∈ lw_privs_3, lw_okq q := List.forall_mem_cons.mpr ⟨lw_p32, List.forall_mem_cons.mpr ⟨lw_p33, List.forall_mem_cons.mpr ⟨lw_p34, List.forall_mem_cons.mpr ⟨lw_p35, List.forall_mem_cons.mpr ⟨lw_p36, List.forall_mem_cons.mpr ⟨lw_p37, List.forall_mem_cons.mpr ⟨lw_p38, List.forall_mem_cons.mpr ⟨lw_p39, List.forall_mem_cons.mpr ⟨lw_p40, List.forall_mem_cons.mpr ⟨lw_p41, List.forall_mem_cons.mpr ⟨lw_p42, List.forall_mem_cons.mpr ⟨lw_p43, List.forall_mem_cons.mpr ⟨lw_p44, List.forall_mem_cons.mpr ⟨lw_p45, List.forall_mem_cons.mpr ⟨lw_p46, List.forall_mem_cons.mpr ⟨lw_p47, fun _ h => absurd h List.not_mem_nil⟩⟩⟩⟩⟩⟩⟩⟩⟩⟩⟩⟩⟩⟩⟩⟩
theorem lw_p48 : lw_okq (⟨"PlatehallModel", "isSight", "()Z"⟩, 44) := ⟨⟨by decide +kernel, by decide +kernel⟩, List.mem_of_getElem? (i := 1250) (by decide +kernel), List.mem_of_getElem? (i := 1581) (by decide +kernel), List.mem_of_getElem? (i := 1582) (by decide +kernel)⟩
theorem lw_p49 : lw_okq (⟨"PlatehallModel", "isSighting", "(I)Z"⟩, 44) := ⟨⟨by decide +kernel, by decide +kernel⟩, List.mem_of_getElem? (i := 1250) (by decide +kernel), List.mem_of_getElem? (i := 1589) (by decide +kernel), List.mem_of_getElem? (i := 1590) (by decide +kernel)⟩
theorem lw_p50 : lw_okq (⟨"PlatehallModel", "isFine", "(I)Z"⟩, 44) := ⟨⟨by decide +kernel, by decide +kernel⟩, List.mem_of_getElem? (i := 1250) (by decide +kernel), List.mem_of_getElem? (i := 1601) (by decide +kernel), List.mem_of_getElem? (i := 1602) (by decide +kernel)⟩
theorem lw_p51 : lw_okq (⟨"PlatehallModel", "whoseIs", "(I)I"⟩, 44) := ⟨⟨by decide +kernel, by decide +kernel⟩, List.mem_of_getElem? (i := 1250) (by decide +kernel), List.mem_of_getElem? (i := 1605) (by decide +kernel), List.mem_of_getElem? (i := 1606) (by decide +kernel)⟩
theorem lw_p52 : lw_okq (⟨"PlatehallModel", "isWord", "(JI)Z"⟩, 44) := ⟨⟨by decide +kernel, by decide +kernel⟩, List.mem_of_getElem? (i := 1250) (by decide +kernel), List.mem_of_getElem? (i := 1624) (by decide +kernel), List.mem_of_getElem? (i := 1625) (by decide +kernel)⟩
def lw_privs_4 : List (MethodName × Nat) := [(⟨"PlatehallModel", "isSight", "()Z"⟩, 44), (⟨"PlatehallModel", "isSighting", "(I)Z"⟩, 44), (⟨"PlatehallModel", "isFine", "(I)Z"⟩, 44), (⟨"PlatehallModel", "whoseIs", "(I)I"⟩, 44), (⟨"PlatehallModel", "isWord", "(JI)Z"⟩, 44)]
theorem lw_r4 : ∀ q ∈ lw_privs_4, lw_okq q := List.forall_mem_cons.mpr ⟨lw_p48, List.forall_mem_cons.mpr ⟨lw_p49, List.forall_mem_cons.mpr ⟨lw_p50, List.forall_mem_cons.mpr ⟨lw_p51, List.forall_mem_cons.mpr ⟨lw_p52, fun _ h => absurd h List.not_mem_nil⟩⟩⟩⟩⟩
def lw_privs : List (MethodName × Nat) := lw_privs_1 ++ (lw_privs_2 ++ (lw_privs_3 ++ (lw_privs_4)))
def lw_tbl : List Cond := k2_sels lw_privs ++ tables_1
theorem lw_privs_ok : ∀ q ∈ lw_privs, lw_okq q := by
  show ∀ q ∈ lw_privs_1 ++ (lw_privs_2 ++ (lw_privs_3 ++ (lw_privs_4))), lw_okq q
  exact List.forall_mem_append.mpr ⟨lw_r1, List.forall_mem_append.mpr ⟨lw_r2, List.forall_mem_append.mpr ⟨lw_r3, lw_r4⟩⟩⟩
-- ===== end of PART A; then your names; then what follows =====
theorem tb_1 (i : Nat) (w : Cond) (h : tables_1_1[i]? = some w) : w ∈ lw_tbl := List.mem_append_right _ (show w ∈ tables_1_1 ++ (tables_1_2 ++ (tables_1_3 ++ (tables_1_4 ++ (tables_1_5 ++ (tables_1_6 ++ tables_1_7))))) from List.mem_append_left _ (List.mem_of_getElem? h))
theorem tb_2 (i : Nat) (w : Cond) (h : tables_1_2[i]? = some w) : w ∈ lw_tbl := List.mem_append_right _ (show w ∈ tables_1_1 ++ (tables_1_2 ++ (tables_1_3 ++ (tables_1_4 ++ (tables_1_5 ++ (tables_1_6 ++ tables_1_7))))) from List.mem_append_right _ (List.mem_append_left _ (List.mem_of_getElem? h)))
theorem tb_3 (i : Nat) (w : Cond) (h : tables_1_3[i]? = some w) : w ∈ lw_tbl := List.mem_append_right _ (show w ∈ tables_1_1 ++ (tables_1_2 ++ (tables_1_3 ++ (tables_1_4 ++ (tables_1_5 ++ (tables_1_6 ++ tables_1_7))))) from List.mem_append_right _ (List.mem_append_right _ (List.mem_append_left _ (List.mem_of_getElem? h))))
theorem tb_4 (i : Nat) (w : Cond) (h : tables_1_4[i]? = some w) : w ∈ lw_tbl := List.mem_append_right _ (show w ∈ tables_1_1 ++ (tables_1_2 ++ (tables_1_3 ++ (tables_1_4 ++ (tables_1_5 ++ (tables_1_6 ++ tables_1_7))))) from List.mem_append_right _ (List.mem_append_right _ (List.mem_append_right _ (List.mem_append_left _ (List.mem_of_getElem? h)))))
theorem tb_5 (i : Nat) (w : Cond) (h : tables_1_5[i]? = some w) : w ∈ lw_tbl := List.mem_append_right _ (show w ∈ tables_1_1 ++ (tables_1_2 ++ (tables_1_3 ++ (tables_1_4 ++ (tables_1_5 ++ (tables_1_6 ++ tables_1_7))))) from List.mem_append_right _ (List.mem_append_right _ (List.mem_append_right _ (List.mem_append_right _ (List.mem_append_left _ (List.mem_of_getElem? h))))))
theorem tb_6 (i : Nat) (w : Cond) (h : tables_1_6[i]? = some w) : w ∈ lw_tbl := List.mem_append_right _ (show w ∈ tables_1_1 ++ (tables_1_2 ++ (tables_1_3 ++ (tables_1_4 ++ (tables_1_5 ++ (tables_1_6 ++ tables_1_7))))) from List.mem_append_right _ (List.mem_append_right _ (List.mem_append_right _ (List.mem_append_right _ (List.mem_append_right _ (List.mem_append_left _ (List.mem_of_getElem? h)))))))
theorem tb_7 (i : Nat) (w : Cond) (h : tables_1_7[i]? = some w) : w ∈ lw_tbl := List.mem_append_right _ (show w ∈ tables_1_1 ++ (tables_1_2 ++ (tables_1_3 ++ (tables_1_4 ++ (tables_1_5 ++ (tables_1_6 ++ tables_1_7))))) from List.mem_append_right _ (List.mem_append_right _ (List.mem_append_right _ (List.mem_append_right _ (List.mem_append_right _ (List.mem_append_right _ (List.mem_of_getElem? h)))))))
theorem tb_0 (i : Nat) (w : Cond) (h : (k2_sels lw_privs)[i]? = some w) : w ∈ lw_tbl := List.mem_append_left _ (List.mem_of_getElem? h)
end
section
/-! ===== BEGIN words of one list among another's, by their places ===== -/
theorem goodIn_r {big : List Cond} (ws : List Cond) (ps : List Nat) (hp : ws = ps.filterMap (fun i => big[i]?)) (h : ws.all goodWord = true) : GoodIn big ws := by
  intro w hw
  have h1 := List.all_eq_true.mp h w hw
  rw [hp] at hw
  obtain ⟨i, -, hi⟩ := List.mem_filterMap.mp hw
  have hm : w ∈ big := by first | exact List.mem_of_getElem? hi | exact List.getElem?_mem hi
  exact ⟨hm, good_of_word h1⟩
theorem goodIn_app {big a b : List Cond} (ha : GoodIn big a) (hb : GoodIn big b) : GoodIn big (a ++ b) := fun w h => (List.mem_append.mp h).elim (ha w) (hb w)
theorem goodIn_ca {big a b : List Cond} {c : Cond} (ha : GoodIn big (c :: a)) (hb : GoodIn big b) : GoodIn big (c :: (a ++ b)) := fun w h => (List.mem_cons.mp h).elim (fun e => ha w (List.mem_cons.mpr (Or.inl e))) (fun h => (List.mem_append.mp h).elim (fun h => ha w (List.mem_cons.mpr (Or.inr h))) (hb w))
theorem goodIn_sub {big ws : List Cond} (hm : ∀ w ∈ ws, w ∈ big) (h : ws.all goodWord = true) : GoodIn big ws := fun w hw => ⟨hm w hw, good_of_word (List.all_eq_true.mp h w hw)⟩
/-! ===== END ===== -/

/-! ===== BEGIN exceptions that leave a method, and their catching by the caller (launches without stack traces) ===== -/
section VXA
/-! The laws vx_back, vx_callV, vx_callS, vx_callSW, vx_throw0, vx_throwS follow proofs of the library, with one case more: JvmDerived/Free/Laws.lean (Back.of_free), Shelf42/LK1.lean (callV, callS), Shelf/KitTraced.lean (throwNew0V, throwNewS). -/
/-- where a method has thrown q: the class by its name, the cell, what was written, the world -/
def vx_T (XC : String → State → State → Prop) (st : State) (q : Addr) (t : State) (mc ms : Nat) (free : Addr → Prop) : Prop :=
  ∃ (E : String) (ce : Cell) (L : List Loc), XC E st t ∧ t.heap[q]? = some ce ∧ ce.vm = .none ∧ st.vm.findClass E = some ce.cls ∧ st.WarmedH t.vm ∧ st.sameButNew ({ t with vm := st.vm } : State) L mc ms ∧ ∀ z ∈ L, free z.base
def vx_Q (Qc : Array Value → State → Outcome → State → Prop) (XC : String → State → State → Prop) (mc ms : Nat) (free : Addr → Prop) : Array Value → State → Outcome → State → Prop := fun a st o t =>
  (Qc a st o t ∧ ∃ L, FrameEnd st o t L mc ms ∧ ∀ q ∈ L, free q.base) ∨ ∃ q, o = .threw q ∧ vx_T XC st q t mc ms free
/-- a callee that returns or throws -/
def vx_Met (l : Launch) (y : MethodName) (ws : List Cond) (rm : Room) (Pc : Array Value → State → Prop) (Qc : Array Value → State → Outcome → State → Prop) (XC : String → State → State → Prop) (mc ms : Nat) (free : Addr → Prop) : Prop :=
  MetFree l y (headSpec ws rm) Pc (fun _ _ _ _ _ => True) (vx_Q Qc XC mc ms free)
def vx_Post (XC : String → State → State → Prop) (mc ms : Nat) (free : Addr → Prop) : Pt → Array Value → Addr → Pt → Prop := fun A a q B =>
  ∃ (g : JFrame) (mk : MethodId) (t : State) (L : List Loc) (E : String) (ce : Cell), B.U.heap = t.heap ∧ B.U.vm = t.vm ∧ XC E (A.U.calling g mk a) t ∧ t.heap[q]? = some ce ∧ ce.vm = .none ∧ A.U.vm.findClass E = some ce.cls ∧ B.locs = A.locs ++ L ∧ (∀ z ∈ L, free z.base) ∧ B.cells = A.cells + mc ∧ B.slots = A.slots + ms
def vx_Back (l : Launch) (R : Room) (p : Program) (e : Env) (below : List Frame) (s : State) (sargs : Array Value) (y : MethodName) (len W9 : Nat)
    (Pre : Pt → Array Value → Prop) (Post : Pt → Array Value → Option Value → Pt → Prop) (PostX : Pt → Array Value → Addr → Pt → Prop) : Prop :=
  ∀ (m : MethodId) (meth : Method) (c : Code) (A : Pt) (g : JFrame) (ig : Instr) (mk : MethodId) (a : Array Value),
    Stand p l e R s m sargs below meth c A.U A.locs A.cells A.slots → g.method = m → g.locals.size = c.maxLocals → decode c.code g.pc = .ok (ig, len) →
    2 * g.monitorRoom + (g.stack.map fun v => v.category).sum ≤ W9 → A.U.methodNamed? y = some mk → Pre A a →
    (∃ (v : Option Value) (B : Pt), Stand p l e R s m sargs below meth c B.U B.locs B.cells B.slots ∧ Post A a v B ∧
      Steps p.tables e below (doInvoke e (A.U.setTop g) [] mk a).1 (B.U.setTop { g with pc := g.pc + len, stack := v.toList ++ g.stack })) ∨
    (∃ (q : Addr) (B : Pt), Stand p l e R s m sargs below meth c B.U B.locs B.cells B.slots ∧ PostX A a q B ∧
      Steps p.tables e below (doInvoke e (A.U.setTop g) [] mk a).1 ((B.U.setTop g).pushFrame (.throwing q)))
section Payer
variable {l : Launch} {R : Room} {p : Program} {e : Env} {below : List Frame} {s : State} {sargs : Array Value} {y : MethodName} {len W9 : Nat}
theorem vx_back {ws : List Cond} {rm : Room} {Pc : Array Value → State → Prop} {Qc : Array Value → State → Outcome → State → Prop} {XC : String → State → State → Prop} {mc ms : Nat} {free : Addr → Prop} {bytes : ByteArray} {maxL : Nat} {ret : Option FieldType}
    (hM : vx_Met l y ws rm Pc Qc XC mc ms free) (hblind : FrameBlind Pc) (hrc : rm.cells = mc) (hrs : rm.slots = ms)
    (hframes : rm.frames + 1 ≤ R.frames) (hlocals : W9 + (maxL + 11) + rm.locals ≤ R.locals)
    (hws : ∀ w ∈ ws, ∀ a' U, s.WarmedH U.vm → w.before a' U = true) (hcode : Cond.code y bytes maxL ret ∈ ws) (hinit : ∀ a' U, s.WarmedH U.vm → (Cond.initialized y.cls).before a' U = true) :
    vx_Back l R p e below s sargs y len W9 (PreOf R mc ms Pc) (PostOf Qc mc ms free) (vx_Post XC mc ms free) := by
  intro m meth c A g ig mk a X hg hsize hdg hW hn hp
  have h1 : (headSpec ws rm).pre.before a A.U = true := atoms_intro fun w hw => hws w hw _ _ X.warmed
  have h2 : (Cond.code y bytes maxL ret).before a A.U = true := hws _ hcode _ _ X.warmed
  have h3 : (Cond.initialized y.cls).before a A.U = true := hinit _ _ X.warmed
  have h4 : A.cells + (headSpec ws rm).room.cells ≤ R.cells := by rw [show (headSpec ws rm).room.cells = mc from hrc]; exact hp.1
  have h5 : A.slots + (headSpec ws rm).room.slots ≤ R.slots := by rw [show (headSpec ws rm).room.slots = ms from hrs]; exact hp.2.1
  have hPc : Pc a (A.U.calling g mk a) := hblind _ _ _ _ hp.2.2
  obtain ⟨U, Ls, c0, s0⟩ := A
  dsimp only [Pt.U, Pt.locs, Pt.cells, Pt.slots] at h1 h2 h3 h4 h5 X hn hPc ⊢
  obtain ⟨methY, cY, hmY, hcY, -, hlY, -, -, -, -⟩ := Cond.code_spec hn h2
  obtain ⟨kY, hkY, -⟩ := className_of_methodNamed hn
  have hinitY : kY.init = .initialized := Cond.initialized_spec (findClass_of_methodNamed hn) hkY h3
  have h : At U g.method c below := by rw [hg]; exact X.here
  have hlocals9 : W9 + (maxL + 11) + (headSpec ws rm).room.locals ≤ R.locals := hlocals
  have happ : (headSpec ws rm).appliesLoose y e.platform (U.calling g mk a) = true :=
    Spec.appliesLoose_calling (g := g) h hdg hn hkY hinitY
      (X.room_calling (g := g) (R' := (headSpec ws rm).room) hsize hmY hcY hframes (by rw [hlY]; omega) h4 h5) h1
  obtain ⟨mid, hmid⟩ := h.above
  have hfr : (U.setTop g).frames = (.java g :: mid) ++ below := by rw [State.frames_setTop' g h.top, hmid]; rfl
  obtain ⟨o, s₂, hsteps, -, hend, hq⟩ := Steps.callFree hM p X.admits X.cas X.clock (acts := []) hfr happ hPc trivial
  have hq' : vx_Q Qc XC mc ms free a (U.calling g mk a) o s₂ := hq
  rw [State.frames_setTop' g h.top] at hend
  obtain ⟨g₀, hg0⟩ := Option.isSome_iff_exists.mp h.top
  obtain ⟨r, hr⟩ := State.topJava?_eq_some.mp hg0
  have hr' : (({ U with heap := s₂.heap, slotsUsed := s₂.slotsUsed } : State).setVm s₂.vm).frames = .java g₀ :: r := hr
  rcases hq' with ⟨hqc, L, hfe, hL⟩ | ⟨q, rfl, E, ce, L, hx, hce, hcv, hcl, hW₂, hsm, hL⟩
  · obtain ⟨⟨v, rfl⟩, hW₂, e2, q2, q3, q4, q5, q6⟩ := id hfe
    have e3 : s₂ = ({ (U.calling g mk a).setFrames s₂.frames with heap := s₂.heap, slotsUsed := s₂.slotsUsed } : State).setVm s₂.vm := by
      have : s₂ = ({ s₂ with vm := (U.calling g mk a).vm } : State).setVm s₂.vm := rfl
      rw [e2] at this
      exact this
    obtain ⟨c₂, i₂, len₂, hc₂, hd₂, hf₂⟩ := hend
    have hW' : U.WarmedH s₂.vm := hW₂
    have hcc : c₂ = c := by
      have h1 : s₂.code? g.method = U.code? g.method := by
        rw [State.code?_eq, State.code?_eq, hW'.alike.method?]
      exact Option.some.inj (hc₂.symm.trans (h1.trans h.code))
    subst hcc
    have hlen : len₂ = len := by rw [hdg] at hd₂; cases hd₂; rfl
    subst hlen
    have hs₂ : s₂ = (({ U with heap := s₂.heap, slotsUsed := s₂.slotsUsed } : State).setVm s₂.vm).setTop { g with pc := g.pc + len₂, stack := v.toList ++ g.stack } := by
      refine e3.trans ?_
      rw [hf₂, State.calling_eq h.top, State.setFrames_setFrames, State.setTop_of_frames _ hr', hr]
      rfl
    have hsame : U.sameButNew ({ U with heap := s₂.heap, slotsUsed := s₂.slotsUsed } : State) L mc ms := by
      refine ⟨?_, q2, q3, q4, q5, q6⟩
      obtain ⟨t, ht, -⟩ := State.frames_cons hr
      show ({ U with heap := s₂.heap, slotsUsed := s₂.slotsUsed } : State) = { U.setFrames U.frames with heap := s₂.heap, slotsUsed := s₂.slotsUsed }
      rw [State.setFrames_self ht]
    subst hg
    refine Or.inl ⟨v, ⟨(({ U with heap := s₂.heap, slotsUsed := s₂.slotsUsed } : State).setVm s₂.vm), Ls ++ L, c0 + mc, s0 + ms⟩,
      ⟨X.admits, X.cas, X.clock, X.frames, X.room, X.hears, X.method, X.code, (X.here.setHeapUsed s₂.heap s₂.slotsUsed).setVm hW'.alike, X.tail, State.WarmedH.trans X.warmed hW', X.limits, X.bytes, X.same.trans (hsame.setVm s.vm)⟩,
      ⟨g, mk, s₂, L, rfl, rfl, hqc, rfl, hL, rfl, rfl⟩, ?_⟩
    show Steps p.tables e below _ ((({ U with heap := s₂.heap, slotsUsed := s₂.slotsUsed } : State).setVm s₂.vm).setTop { g with pc := g.pc + len₂, stack := v.toList ++ g.stack })
    rw [← hs₂]
    exact hsteps
  · obtain ⟨e2, q2, q3, q4, q5, q6⟩ := id hsm
    have e3 : s₂ = ({ (U.calling g mk a).setFrames s₂.frames with heap := s₂.heap, slotsUsed := s₂.slotsUsed } : State).setVm s₂.vm := by
      have : s₂ = ({ s₂ with vm := (U.calling g mk a).vm } : State).setVm s₂.vm := rfl
      rw [e2] at this
      exact this
    have hf₂ : s₂.frames = .throwing q :: .java g :: U.frames.tail := hend
    have hW' : U.WarmedH s₂.vm := hW₂
    have hs₂ : s₂ = ((({ U with heap := s₂.heap, slotsUsed := s₂.slotsUsed } : State).setVm s₂.vm).setTop g).pushFrame (.throwing q) := by
      refine e3.trans ?_
      rw [hf₂, State.calling_eq h.top, State.setFrames_setFrames, State.pushFrame, State.frames_setTop _ hr', State.setTop_of_frames _ hr', State.setFrames_setFrames, hr]
      rfl
    have hsame : U.sameButNew ({ U with heap := s₂.heap, slotsUsed := s₂.slotsUsed } : State) L mc ms := by
      refine ⟨?_, q2, q3, q4, q5, q6⟩
      obtain ⟨t, ht, -⟩ := State.frames_cons hr
      show ({ U with heap := s₂.heap, slotsUsed := s₂.slotsUsed } : State) = { U.setFrames U.frames with heap := s₂.heap, slotsUsed := s₂.slotsUsed }
      rw [State.setFrames_self ht]
    subst hg
    refine Or.inr ⟨q, ⟨(({ U with heap := s₂.heap, slotsUsed := s₂.slotsUsed } : State).setVm s₂.vm), Ls ++ L, c0 + mc, s0 + ms⟩,
      ⟨X.admits, X.cas, X.clock, X.frames, X.room, X.hears, X.method, X.code, (X.here.setHeapUsed s₂.heap s₂.slotsUsed).setVm hW'.alike, X.tail, State.WarmedH.trans X.warmed hW', X.limits, X.bytes, X.same.trans (hsame.setVm s.vm)⟩,
      ⟨g, mk, s₂, L, E, ce, rfl, rfl, hx, hce, hcv, hcl, rfl, hL, rfl, rfl⟩, ?_⟩
    show Steps p.tables e below _ (((({ U with heap := s₂.heap, slotsUsed := s₂.slotsUsed } : State).setVm s₂.vm).setTop g).pushFrame (.throwing q))
    rw [← hs₂]
    exact hsteps
end Payer
section Calls
variable {p : Program} {l : Launch} {e : Env} {R : Room} {s : State} {m : MethodId} {args : Array Value} {below : List Frame} {meth : Method} {c : Code} {T : State} {locs : List Loc} {cells slots : Nat}
theorem vx_callV (X : Stand p l e R s m args below meth c T locs cells slots) (hexec : p.tables.exec = Jvm.exec) {own C : String} {index : Nat} {y : MethodName} {bytes : ByteArray} {maxL : Nat} {ret : Option FieldType}
    (hown : s.vm.findClass own = some m.cls) (hlink : (Cond.methodLink own index y).before args s = true) (hinst : (Cond.instanceMethod y).before args s = true) (hsel : (Cond.selects C y y).before args s = true)
    (hcode : (Cond.code y bytes maxL ret).before args s = true) (hy : y.cls ≠ "java/lang/invoke/MethodHandle" ∧ y.cls ≠ "java/lang/invoke/VarHandle")
    {W9 : Nat} {Pre : Pt → Array Value → Prop} {Post : Pt → Array Value → Option Value → Pt → Prop} {PostX : Pt → Array Value → Addr → Pt → Prop} (hK : vx_Back l R p e below s args y 3 W9 Pre Post PostX)
    {b : Addr} {cellB : Cell} (hcell : T.heap[b]? = some cellB) (hobj : cellB.vm.isStatics = false) (hcls : s.vm.findClass C = some cellB.cls)
    {g : JFrame} (hg : g.method = m) (hsize : g.locals.size = c.maxLocals) {argsL rest : List Value} (hlen : ∀ sig, parseMethodDescriptor y.desc = some sig → argsL.length = sig.parameters.length)
    (hstack : g.stack = argsL.reverse ++ .ref b :: rest) (hW : 2 * g.monitorRoom + (rest.map fun v => v.category).sum ≤ W9) (hdg : decode c.code g.pc = .ok (.invokevirtual index, 3))
    (hpre : ∀ vm₁, s.WarmedH vm₁ → Pre ⟨T.setVm vm₁, locs, cells, slots⟩ (Value.ref b :: argsL).toArray) :
    (∃ (v : Option Value) (vm₁ : Vm) (B : Pt), s.WarmedH vm₁ ∧ Stand p l e R s m args below meth c B.U B.locs B.cells B.slots ∧ Post ⟨T.setVm vm₁, locs, cells, slots⟩ (Value.ref b :: argsL).toArray v B ∧
      ∀ target, Steps p.tables e below (B.U.setTop { g with pc := g.pc + 3, stack := v.toList ++ rest }) target → Steps p.tables e below (T.setTop g) target) ∨
    (∃ (q : Addr) (vm₁ : Vm) (B : Pt), s.WarmedH vm₁ ∧ Stand p l e R s m args below meth c B.U B.locs B.cells B.slots ∧ PostX ⟨T.setVm vm₁, locs, cells, slots⟩ (Value.ref b :: argsL).toArray q B ∧
      Steps p.tables e below (T.setTop g) ((B.U.setTop { g with stack := rest }).pushFrame (.throwing q))) := by
  obtain ⟨mk, methM, hnamed, hmethM, hstM, habM⟩ := Cond.instanceMethod_spec hinst
  obtain ⟨methM', cM, hmethM', -, -, -, -, -, -, hsigM⟩ := Cond.code_spec hnamed hcode
  cases hmethM.symm.trans hmethM'
  obtain ⟨c2, r2, m2, q1, q2, q3, q4, kP, hkP, hkPi⟩ := Cond.selects_spec hsel
  cases hcls.symm.trans q1
  cases (State.methodFound?_of_named hnamed hy).symm.trans q2
  cases hnamed.symm.trans q3
  have hselP : selectMethod e.platform s.vm cellB.cls mk = .method mk := by rw [Launch.admits_selectMethod X.admits]; exact q4
  obtain ⟨vm₁, X₁, hstep₁⟩ := X.invokevirtual hexec hown hlink hnamed hmethM hstM hkP hkPi hy (a := b) (cell := cellB) hcell
    (fun z h => by rw [h] at hobj; cases hobj) hselP hmethM habM hkP hkPi (g := g) hg (argsL := argsL) (rest := rest) (hlen _ hsigM) hstack hdg
  rcases hK m meth c ⟨T.setVm vm₁, locs, cells, slots⟩ { g with stack := rest } (.invokevirtual index) mk (Value.ref b :: argsL).toArray X₁ hg hsize hdg hW (X₁.named hnamed) (hpre vm₁ X₁.warmed) with ⟨v, B, X', hpost, hsteps⟩ | ⟨q, B, X', hpost, hsteps⟩
  · exact Or.inl ⟨v, vm₁, B, X₁.warmed, X', hpost, fun target h => hstep₁ _ fun acts => by rw [doInvoke_state]; exact hsteps.trans h⟩
  · exact Or.inr ⟨q, vm₁, B, X₁.warmed, X', hpost, hstep₁ _ fun acts => by rw [doInvoke_state]; exact hsteps⟩
theorem vx_callS (X : Stand p l e R s m args below meth c T locs cells slots) (hexec : p.tables.exec = Jvm.exec) {own : String} {index : Nat} {y : MethodName} {bytes : ByteArray} {maxL : Nat} {ret : Option FieldType}
    (hown : s.vm.findClass own = some m.cls) (hlink : (Cond.methodLink own index y).before args s = true) (hstat : (Cond.static y).before args s = true) (hinit : (Cond.initialized y.cls).before args s = true)
    (hcode : (Cond.code y bytes maxL ret).before args s = true) (hy : y.cls ≠ "java/lang/invoke/MethodHandle" ∧ y.cls ≠ "java/lang/invoke/VarHandle")
    {W9 : Nat} {Pre : Pt → Array Value → Prop} {Post : Pt → Array Value → Option Value → Pt → Prop} {PostX : Pt → Array Value → Addr → Pt → Prop} (hK : vx_Back l R p e below s args y 3 W9 Pre Post PostX)
    {g : JFrame} (hg : g.method = m) (hsize : g.locals.size = c.maxLocals) {argsL rest : List Value} (hlen : ∀ sig, parseMethodDescriptor y.desc = some sig → argsL.length = sig.parameters.length)
    (hstack : g.stack = argsL.reverse ++ rest) (hW : 2 * g.monitorRoom + (rest.map fun v => v.category).sum ≤ W9) (hdg : decode c.code g.pc = .ok (.invokestatic index, 3))
    (hpre : ∀ vm₁, s.WarmedH vm₁ → Pre ⟨T.setVm vm₁, locs, cells, slots⟩ argsL.toArray) :
    (∃ (v : Option Value) (vm₁ : Vm) (B : Pt), s.WarmedH vm₁ ∧ Stand p l e R s m args below meth c B.U B.locs B.cells B.slots ∧ Post ⟨T.setVm vm₁, locs, cells, slots⟩ argsL.toArray v B ∧
      ∀ target, Steps p.tables e below (B.U.setTop { g with pc := g.pc + 3, stack := v.toList ++ rest }) target → Steps p.tables e below (T.setTop g) target) ∨
    (∃ (q : Addr) (vm₁ : Vm) (B : Pt), s.WarmedH vm₁ ∧ Stand p l e R s m args below meth c B.U B.locs B.cells B.slots ∧ PostX ⟨T.setVm vm₁, locs, cells, slots⟩ argsL.toArray q B ∧
      Steps p.tables e below (T.setTop g) ((B.U.setTop { g with stack := rest }).pushFrame (.throwing q))) := by
  obtain ⟨mk, hnamed⟩ := Cond.code_named hcode
  obtain ⟨methM, cM, hmethM, -, -, -, -, -, -, hsigM⟩ := Cond.code_spec hnamed hcode
  have hstatic : methM.isStatic = true := Cond.static_spec hnamed hmethM hstat
  obtain ⟨kP, hkP, -⟩ := className_of_methodNamed hnamed
  have hinitP : kP.init = .initialized := Cond.initialized_spec (findClass_of_methodNamed hnamed) hkP hinit
  obtain ⟨vm₁, X₁, hstep₁⟩ := X.invokestatic hexec hown hlink hnamed hmethM hstatic hkP hinitP hy (g := g) hg (argsL := argsL) (rest := rest) (hlen _ hsigM) hstack hdg
  rcases hK m meth c ⟨T.setVm vm₁, locs, cells, slots⟩ { g with stack := rest } (.invokestatic index) mk argsL.toArray X₁ hg hsize hdg hW (X₁.named hnamed) (hpre vm₁ X₁.warmed) with ⟨v, B, X', hpost, hsteps⟩ | ⟨q, B, X', hpost, hsteps⟩
  · exact Or.inl ⟨v, vm₁, B, X₁.warmed, X', hpost, fun target h => hstep₁ _ fun acts => by rw [doInvoke_state]; exact hsteps.trans h⟩
  · exact Or.inr ⟨q, vm₁, B, X₁.warmed, X', hpost, hstep₁ _ fun acts => by rw [doInvoke_state]; exact hsteps⟩
end Calls
theorem vx_cls {s : State} {T : State} {vm₁ : Vm} {E : String} {k : ClassId} (hW : s.WarmedH vm₁) (h : (T.setVm vm₁).vm.findClass E = some k) : s.vm.findClass E = some k := by
  have h1 : vm₁.findClass E = some k := h
  rw [hW.alike.findClass] at h1
  exact h1
/-- the method's frame g, with q thrown over it -/
def vx_W (p : Program) (l : Launch) (e : Env) (R : Room) (s : State) (m : MethodId) (args : Array Value) (below : List Frame) (meth : Method) (c : Code) (H : Heap) (locs : List Loc) (cells slots : Nat) (Q : State → Prop) (g : JFrame) (q : Addr) : Prop :=
  ∀ T : State, T.heap = H → Stand p l e R s m args below meth c T locs cells slots → ∃ t, Steps p.tables e below ((T.setTop g).pushFrame (.throwing q)) t ∧ Q t
def vx_Run (p : Program) (l : Launch) (e : Env) (R : Room) (s : State) (m : MethodId) (args : Array Value) (below : List Frame) (meth : Method) (c : Code) (H : Heap) (locs : List Loc) (cells slots mc ms : Nat) (g : JFrame) (rest : List Value) (Qa : State → Outcome → State → Prop) (XC : String → State → State → Prop) (free : Addr → Prop) : Prop :=
  ∀ T : State, T.heap = H → Stand p l e R s m args below meth c T locs cells slots →
    (∃ (v : Option Value) (st₀ t T' : State) (L : List Loc), st₀.heap = H ∧ Stand p l e R s m args below meth c T' (locs ++ L) (cells + mc) (slots + ms) ∧ (∀ q ∈ L, free q.base) ∧ T'.heap = t.heap ∧ T'.vm = t.vm ∧ Qa st₀ (.returned v) t ∧
      Goes p e below T g T' { g with pc := g.pc + 3, stack := v.toList ++ rest }) ∨
    (∃ (q : Addr) (st₀ t T' : State) (L : List Loc) (E : String) (ce : Cell), st₀.heap = H ∧ Stand p l e R s m args below meth c T' (locs ++ L) (cells + mc) (slots + ms) ∧ (∀ z ∈ L, free z.base) ∧ T'.heap = t.heap ∧ T'.vm = t.vm ∧ XC E st₀ t ∧ t.heap[q]? = some ce ∧ ce.vm = .none ∧ s.vm.findClass E = some ce.cls ∧
      Steps p.tables e below (T.setTop g) ((T'.setTop { g with stack := rest }).pushFrame (.throwing q)))
def vx_X {S : Type} (px : S → Prop) (B : String → S → State → Prop) (A : Nat → Prop) : String → State → State → Prop := fun E st t => ∃ u : S, px u ∧ B E u t ∧ va_F A st t
section Runs
variable {p : Program} {l : Launch} {e : Env} {R : Room} {s : State} {m : MethodId} {args : Array Value} {below : List Frame} {meth : Method} {c : Code} {H : Heap} {locs : List Loc} {cells slots : Nat}
variable {y : MethodName} {bytes cc : ByteArray} {maxL nL mc ms n index : Nat} {ret : Option FieldType} {ws : List Cond} {rm : Room} {Pc : Array Value → State → Prop} {Qc : Array Value → State → Outcome → State → Prop} {XC : String → State → State → Prop} {free : Addr → Prop} {Ts : List Cond} {own C : String} {b : Addr} {As rest : List Value} {g : JFrame}
theorem vx_callBack (cb : CallB R s args own index y bytes maxL ret ws rm mc ms n) (hM : vx_Met l y ws rm Pc Qc XC mc ms free) (hbl : FrameBlind Pc) : vx_Back l R p e below s args y 3 8 (PreOf R mc ms Pc) (PostOf Qc mc ms free) (vx_Post XC mc ms free) := by
  obtain ⟨hrc, hrs, hfr, hlo, hws, hcw, -, hini, -⟩ := cb
  exact vx_back (bytes := bytes) (maxL := maxL) (ret := ret) hM hbl hrc hrs hfr hlo hws hcw (fun a' U hW => word_at hW (Or.inl (by first | rfl | simp [Cond.onTables, Cond.keeps, Cond.steady])) hini)
theorem vx_runV (S : CallFix p m c cc nL s args Ts own) (hM : vx_Met l y ws rm Pc Qc XC mc ms free) (cw : CallW R s args own C index y bytes maxL ret ws rm mc ms n) (hp : PreV s H C b Pc As)
    (hg : g.method = m) (hn : As.length = n) (hsize : g.locals.size = nL) (hstack : g.stack = As.reverse ++ .ref b :: rest) (hW : 2 * g.monitorRoom + (rest.map fun v => v.category).sum ≤ 8) (hdg : decode cc g.pc = .ok (.invokevirtual index, 3)) (hf : cells + mc ≤ R.cells ∧ slots + ms ≤ R.slots) :
    vx_Run p l e R s m args below meth c H locs cells slots mc ms g rest (Qc (Value.ref b :: As).toArray) XC free := by
  have hK : vx_Back l R p e below s args y 3 8 (PreOf R mc ms Pc) (PostOf Qc mc ms free) (vx_Post XC mc ms free) := vx_callBack cw.1 hM hp.1
  obtain ⟨⟨-, -, -, -, -, -, hcode, -, hy, hlen, hl⟩, hin, hse⟩ := cw
  obtain ⟨hx, hb, hml, ho, -⟩ := S
  obtain ⟨-, ⟨cellB, hcB, hoB, hclB⟩, hPc⟩ := hp
  intro T hT X
  rcases vx_callV X hx (C := C) (bytes := bytes) (maxL := maxL) (ret := ret) ho hl hin hse hcode hy hK (by rw [hT]; exact hcB) hoB hclB hg (hsize.trans hml.symm) (argsL := As) (rest := rest) (fun sig h => hn.trans (hlen sig h)) hstack hW (by rw [hb]; exact hdg)
    (fun vm₁ hW₁ => ⟨hf.1, hf.2, hPc (T.setVm vm₁) hT hW₁⟩) with ⟨v, vm₁, ⟨U', l2, c2, s2⟩, hW₁, X', ⟨g', mk, t, L, e1, e2, hq, h1, hL, h2, h3⟩, st⟩ | ⟨q, vm₁, ⟨U', l2, c2, s2⟩, hW₁, X', ⟨g', mk, t, L, E, ce, e1, e2, hq, hce, hcv, hcl, h1, hL, h2, h3⟩, st⟩
  · dsimp only [Pt.U, Pt.locs, Pt.cells, Pt.slots] at X' e1 e2 h1 h2 h3 st
    subst h1; subst h2; subst h3
    exact Or.inl ⟨v, (T.setVm vm₁).calling g' mk (Value.ref b :: As).toArray, t, U', L, hT, X', hL, e1, e2, hq, st⟩
  · dsimp only [Pt.U, Pt.locs, Pt.cells, Pt.slots] at X' e1 e2 h1 h2 h3 st hcl
    subst h1; subst h2; subst h3
    exact Or.inr ⟨q, (T.setVm vm₁).calling g' mk (Value.ref b :: As).toArray, t, U', L, E, ce, hT, X', hL, e1, e2, hq, hce, hcv, vx_cls hW₁ hcl, st⟩
theorem vx_runS (S : CallFix p m c cc nL s args Ts own) (hM : vx_Met l y ws rm Pc Qc XC mc ms free) (cw : CallB R s args own index y bytes maxL ret ws rm mc ms n ∧ (Cond.static y).before args s = true) (hp : PreS s H Pc As)
    (hg : g.method = m) (hn : As.length = n) (hsize : g.locals.size = nL) (hstack : g.stack = As.reverse ++ rest) (hW : 2 * g.monitorRoom + (rest.map fun v => v.category).sum ≤ 8) (hdg : decode cc g.pc = .ok (.invokestatic index, 3)) (hf : cells + mc ≤ R.cells ∧ slots + ms ≤ R.slots) :
    vx_Run p l e R s m args below meth c H locs cells slots mc ms g rest (Qc As.toArray) XC free := by
  have hK : vx_Back l R p e below s args y 3 8 (PreOf R mc ms Pc) (PostOf Qc mc ms free) (vx_Post XC mc ms free) := vx_callBack cw.1 hM hp.1
  obtain ⟨⟨-, -, -, -, -, -, hcode, hini, hy, hlen, hl⟩, hstt⟩ := cw
  obtain ⟨hx, hb, hml, ho, -⟩ := S
  intro T hT X
  rcases vx_callS X hx (bytes := bytes) (maxL := maxL) (ret := ret) ho hl hstt hini hcode hy hK hg (hsize.trans hml.symm) (argsL := As) (rest := rest) (fun sig h => hn.trans (hlen sig h)) hstack hW (by rw [hb]; exact hdg)
    (fun vm₁ hW₁ => ⟨hf.1, hf.2, hp.2 (T.setVm vm₁) hT hW₁⟩) with ⟨v, vm₁, ⟨U', l2, c2, s2⟩, hW₁, X', ⟨g', mk, t, L, e1, e2, hq, h1, hL, h2, h3⟩, st⟩ | ⟨q, vm₁, ⟨U', l2, c2, s2⟩, hW₁, X', ⟨g', mk, t, L, E, ce, e1, e2, hq, hce, hcv, hcl, h1, hL, h2, h3⟩, st⟩
  · dsimp only [Pt.U, Pt.locs, Pt.cells, Pt.slots] at X' e1 e2 h1 h2 h3 st
    subst h1; subst h2; subst h3
    exact Or.inl ⟨v, (T.setVm vm₁).calling g' mk As.toArray, t, U', L, hT, X', hL, e1, e2, hq, st⟩
  · dsimp only [Pt.U, Pt.locs, Pt.cells, Pt.slots] at X' e1 e2 h1 h2 h3 st hcl
    subst h1; subst h2; subst h3
    exact Or.inr ⟨q, (T.setVm vm₁).calling g' mk As.toArray, t, U', L, E, ce, hT, X', hL, e1, e2, hq, hce, hcv, vx_cls hW₁ hcl, st⟩
end Runs
section Rows
variable {p : Program} {l : Launch} {e : Env} {R : Room} {s : State} {m : MethodId} {args : Array Value} {below : List Frame} {meth : Method} {c : Code} {H : Heap} {locs : List Loc} {cells slots : Nat} {Q : State → Prop}
variable {mc ms : Nat} {free : Addr → Prop} {A0 A1 : Nat → Prop} {H0 : Heap} {a : Array Value} {pc : Nat} {ls : Array Slot} {st0 rest : List Value}
theorem vx_keep {st₀ t T' : State} {L : List Loc} (h0 : st₀.heap = H) (e1 : T'.heap = t.heap) (hS : va_S A0 H0 H locs) (hA : ∀ q, q < H.size → A1 q → A0 q) (hf : ∀ q, free q → A0 q) (hL : ∀ q ∈ L, free q.base) (hF : va_F A1 st₀ t) :
    H.size ≤ T'.heap.size ∧ (∀ q : Nat, q < H.size → ¬ A1 q → T'.heap[q]? = H[q]?) ∧ va_S A0 H0 T'.heap (locs ++ L) := by
  obtain ⟨hz, hk⟩ := hF
  rw [h0] at hz hk
  exact ⟨by rw [e1]; exact hz, fun q h1 h2 => by rw [e1]; exact hk q h1 h2,
    ⟨Nat.le_trans hS.1 (by rw [e1]; exact hz), fun q h1 h2 => by rw [e1, hk q (Nat.lt_of_lt_of_le h1 hS.1) (fun z => h2 (hA q (Nat.lt_of_lt_of_le h1 hS.1) z))]; exact hS.2.1 q h1 h2, fun q hq => by
      rcases List.mem_append.mp hq with h | h
      · exact hS.2.2 q h
      · exact hf _ (hL q h)⟩⟩
theorem vx_calli {S SX : Type} {post : Int32 → S → Prop} {px : SX → Prop} {B : S → State → Prop} {BX : String → SX → State → Prop} {AX : Nat → Prop} (hr : vx_Run p l e R s m args below meth c H locs cells slots mc ms (F0 m pc ls st0) rest (va_Qi post B A1 a) (vx_X px BX AX) free) (hS : va_S A0 H0 H locs) (hA : ∀ q, q < H.size → A1 q → A0 q) (hf : ∀ q, free q → A0 q) (hAX : ∀ q, q < H.size → AX q → A0 q)
    (kx : ∀ (E : String) (ce : Cell) (q9 : Addr) (u : SX) (t : State) (H1 : Heap) (locs1 : List Loc), t.heap = H1 → s.vm.Alike t.vm → px u → BX E u t → H.size ≤ H1.size → (∀ q : Nat, q < H.size → ¬ AX q → H1[q]? = H[q]?) → va_S A0 H0 H1 locs1 → H1[q9]? = some ce → ce.vm = .none → s.vm.findClass E = some ce.cls → vx_W p l e R s m args below meth c H1 locs1 (cells + mc) (slots + ms) Q (F0 m pc ls rest) q9)
    (kk : ∀ (r : Int32) (u : S) (t : State) (H1 : Heap) (locs1 : List Loc), t.heap = H1 → s.vm.Alike t.vm → post r u → B u t → H.size ≤ H1.size → (∀ q : Nat, q < H.size → ¬ A1 q → H1[q]? = H[q]?) → va_S A0 H0 H1 locs1 → W p l e R s m args below meth c H1 locs1 (cells + mc) (slots + ms) Q (F0 m (pc + 3) ls (.int r :: rest))) : W p l e R s m args below meth c H locs cells slots Q (F0 m pc ls st0) := by
  intro T hT X
  rcases hr T hT X with ⟨v, st₀, t, T', L, h0, X', hL, e1, e2, ⟨⟨r, u, hv, hp, hb⟩, hF⟩, st⟩ | ⟨q, st₀, t, T', L, E, ce, h0, X', hL, e1, e2, ⟨u, hp, hb, hF⟩, hce, hcv, hcl, st⟩
  · cases hv
    obtain ⟨k1, k2, k3⟩ := vx_keep h0 e1 hS hA hf hL hF
    obtain ⟨t2, a1, b1⟩ := kk r u t T'.heap (locs ++ L) e1.symm (by rw [← e2]; exact X'.warmed.alike) hp hb k1 k2 k3 T' rfl X'
    exact ⟨t2, st t2 a1, b1⟩
  · obtain ⟨k1, k2, k3⟩ := vx_keep h0 e1 hS hAX hf hL hF
    obtain ⟨t2, a1, b1⟩ := kx E ce q u t T'.heap (locs ++ L) e1.symm (by rw [← e2]; exact X'.warmed.alike) hp hb k1 k2 k3 (by rw [e1]; exact hce) hcv hcl T' rfl X'
    exact ⟨t2, st.trans a1, b1⟩
theorem vx_calll {S SX : Type} {post : Int64 → S → Prop} {px : SX → Prop} {B : S → State → Prop} {BX : String → SX → State → Prop} {AX : Nat → Prop} (hr : vx_Run p l e R s m args below meth c H locs cells slots mc ms (F0 m pc ls st0) rest (va_Ql post B A1 a) (vx_X px BX AX) free) (hS : va_S A0 H0 H locs) (hA : ∀ q, q < H.size → A1 q → A0 q) (hf : ∀ q, free q → A0 q) (hAX : ∀ q, q < H.size → AX q → A0 q)
    (kx : ∀ (E : String) (ce : Cell) (q9 : Addr) (u : SX) (t : State) (H1 : Heap) (locs1 : List Loc), t.heap = H1 → s.vm.Alike t.vm → px u → BX E u t → H.size ≤ H1.size → (∀ q : Nat, q < H.size → ¬ AX q → H1[q]? = H[q]?) → va_S A0 H0 H1 locs1 → H1[q9]? = some ce → ce.vm = .none → s.vm.findClass E = some ce.cls → vx_W p l e R s m args below meth c H1 locs1 (cells + mc) (slots + ms) Q (F0 m pc ls rest) q9)
    (kk : ∀ (r : Int64) (u : S) (t : State) (H1 : Heap) (locs1 : List Loc), t.heap = H1 → s.vm.Alike t.vm → post r u → B u t → H.size ≤ H1.size → (∀ q : Nat, q < H.size → ¬ A1 q → H1[q]? = H[q]?) → va_S A0 H0 H1 locs1 → W p l e R s m args below meth c H1 locs1 (cells + mc) (slots + ms) Q (F0 m (pc + 3) ls (.long r :: rest))) : W p l e R s m args below meth c H locs cells slots Q (F0 m pc ls st0) := by
  intro T hT X
  rcases hr T hT X with ⟨v, st₀, t, T', L, h0, X', hL, e1, e2, ⟨⟨r, u, hv, hp, hb⟩, hF⟩, st⟩ | ⟨q, st₀, t, T', L, E, ce, h0, X', hL, e1, e2, ⟨u, hp, hb, hF⟩, hce, hcv, hcl, st⟩
  · cases hv
    obtain ⟨k1, k2, k3⟩ := vx_keep h0 e1 hS hA hf hL hF
    obtain ⟨t2, a1, b1⟩ := kk r u t T'.heap (locs ++ L) e1.symm (by rw [← e2]; exact X'.warmed.alike) hp hb k1 k2 k3 T' rfl X'
    exact ⟨t2, st t2 a1, b1⟩
  · obtain ⟨k1, k2, k3⟩ := vx_keep h0 e1 hS hAX hf hL hF
    obtain ⟨t2, a1, b1⟩ := kx E ce q u t T'.heap (locs ++ L) e1.symm (by rw [← e2]; exact X'.warmed.alike) hp hb k1 k2 k3 (by rw [e1]; exact hce) hcv hcl T' rfl X'
    exact ⟨t2, st.trans a1, b1⟩
theorem vx_callf {S SX : Type} {post : UInt32 → S → Prop} {px : SX → Prop} {B : S → State → Prop} {BX : String → SX → State → Prop} {AX : Nat → Prop} (hr : vx_Run p l e R s m args below meth c H locs cells slots mc ms (F0 m pc ls st0) rest (va_Qf post B A1 a) (vx_X px BX AX) free) (hS : va_S A0 H0 H locs) (hA : ∀ q, q < H.size → A1 q → A0 q) (hf : ∀ q, free q → A0 q) (hAX : ∀ q, q < H.size → AX q → A0 q)
    (kx : ∀ (E : String) (ce : Cell) (q9 : Addr) (u : SX) (t : State) (H1 : Heap) (locs1 : List Loc), t.heap = H1 → s.vm.Alike t.vm → px u → BX E u t → H.size ≤ H1.size → (∀ q : Nat, q < H.size → ¬ AX q → H1[q]? = H[q]?) → va_S A0 H0 H1 locs1 → H1[q9]? = some ce → ce.vm = .none → s.vm.findClass E = some ce.cls → vx_W p l e R s m args below meth c H1 locs1 (cells + mc) (slots + ms) Q (F0 m pc ls rest) q9)
    (kk : ∀ (r : UInt32) (u : S) (t : State) (H1 : Heap) (locs1 : List Loc), t.heap = H1 → s.vm.Alike t.vm → post r u → B u t → H.size ≤ H1.size → (∀ q : Nat, q < H.size → ¬ A1 q → H1[q]? = H[q]?) → va_S A0 H0 H1 locs1 → W p l e R s m args below meth c H1 locs1 (cells + mc) (slots + ms) Q (F0 m (pc + 3) ls (.float r :: rest))) : W p l e R s m args below meth c H locs cells slots Q (F0 m pc ls st0) := by
  intro T hT X
  rcases hr T hT X with ⟨v, st₀, t, T', L, h0, X', hL, e1, e2, ⟨⟨r, u, hv, hp, hb⟩, hF⟩, st⟩ | ⟨q, st₀, t, T', L, E, ce, h0, X', hL, e1, e2, ⟨u, hp, hb, hF⟩, hce, hcv, hcl, st⟩
  · cases hv
    obtain ⟨k1, k2, k3⟩ := vx_keep h0 e1 hS hA hf hL hF
    obtain ⟨t2, a1, b1⟩ := kk r u t T'.heap (locs ++ L) e1.symm (by rw [← e2]; exact X'.warmed.alike) hp hb k1 k2 k3 T' rfl X'
    exact ⟨t2, st t2 a1, b1⟩
  · obtain ⟨k1, k2, k3⟩ := vx_keep h0 e1 hS hAX hf hL hF
    obtain ⟨t2, a1, b1⟩ := kx E ce q u t T'.heap (locs ++ L) e1.symm (by rw [← e2]; exact X'.warmed.alike) hp hb k1 k2 k3 (by rw [e1]; exact hce) hcv hcl T' rfl X'
    exact ⟨t2, st.trans a1, b1⟩
theorem vx_calld {S SX : Type} {post : UInt64 → S → Prop} {px : SX → Prop} {B : S → State → Prop} {BX : String → SX → State → Prop} {AX : Nat → Prop} (hr : vx_Run p l e R s m args below meth c H locs cells slots mc ms (F0 m pc ls st0) rest (va_Qd post B A1 a) (vx_X px BX AX) free) (hS : va_S A0 H0 H locs) (hA : ∀ q, q < H.size → A1 q → A0 q) (hf : ∀ q, free q → A0 q) (hAX : ∀ q, q < H.size → AX q → A0 q)
    (kx : ∀ (E : String) (ce : Cell) (q9 : Addr) (u : SX) (t : State) (H1 : Heap) (locs1 : List Loc), t.heap = H1 → s.vm.Alike t.vm → px u → BX E u t → H.size ≤ H1.size → (∀ q : Nat, q < H.size → ¬ AX q → H1[q]? = H[q]?) → va_S A0 H0 H1 locs1 → H1[q9]? = some ce → ce.vm = .none → s.vm.findClass E = some ce.cls → vx_W p l e R s m args below meth c H1 locs1 (cells + mc) (slots + ms) Q (F0 m pc ls rest) q9)
    (kk : ∀ (r : UInt64) (u : S) (t : State) (H1 : Heap) (locs1 : List Loc), t.heap = H1 → s.vm.Alike t.vm → post r u → B u t → H.size ≤ H1.size → (∀ q : Nat, q < H.size → ¬ A1 q → H1[q]? = H[q]?) → va_S A0 H0 H1 locs1 → W p l e R s m args below meth c H1 locs1 (cells + mc) (slots + ms) Q (F0 m (pc + 3) ls (.double r :: rest))) : W p l e R s m args below meth c H locs cells slots Q (F0 m pc ls st0) := by
  intro T hT X
  rcases hr T hT X with ⟨v, st₀, t, T', L, h0, X', hL, e1, e2, ⟨⟨r, u, hv, hp, hb⟩, hF⟩, st⟩ | ⟨q, st₀, t, T', L, E, ce, h0, X', hL, e1, e2, ⟨u, hp, hb, hF⟩, hce, hcv, hcl, st⟩
  · cases hv
    obtain ⟨k1, k2, k3⟩ := vx_keep h0 e1 hS hA hf hL hF
    obtain ⟨t2, a1, b1⟩ := kk r u t T'.heap (locs ++ L) e1.symm (by rw [← e2]; exact X'.warmed.alike) hp hb k1 k2 k3 T' rfl X'
    exact ⟨t2, st t2 a1, b1⟩
  · obtain ⟨k1, k2, k3⟩ := vx_keep h0 e1 hS hAX hf hL hF
    obtain ⟨t2, a1, b1⟩ := kx E ce q u t T'.heap (locs ++ L) e1.symm (by rw [← e2]; exact X'.warmed.alike) hp hb k1 k2 k3 (by rw [e1]; exact hce) hcv hcl T' rfl X'
    exact ⟨t2, st.trans a1, b1⟩
theorem vx_callv {S SX : Type} {post : S → Prop} {px : SX → Prop} {B : S → State → Prop} {BX : String → SX → State → Prop} {AX : Nat → Prop} (hr : vx_Run p l e R s m args below meth c H locs cells slots mc ms (F0 m pc ls st0) rest (va_Qv post B A1 a) (vx_X px BX AX) free) (hS : va_S A0 H0 H locs) (hA : ∀ q, q < H.size → A1 q → A0 q) (hf : ∀ q, free q → A0 q) (hAX : ∀ q, q < H.size → AX q → A0 q)
    (kx : ∀ (E : String) (ce : Cell) (q9 : Addr) (u : SX) (t : State) (H1 : Heap) (locs1 : List Loc), t.heap = H1 → s.vm.Alike t.vm → px u → BX E u t → H.size ≤ H1.size → (∀ q : Nat, q < H.size → ¬ AX q → H1[q]? = H[q]?) → va_S A0 H0 H1 locs1 → H1[q9]? = some ce → ce.vm = .none → s.vm.findClass E = some ce.cls → vx_W p l e R s m args below meth c H1 locs1 (cells + mc) (slots + ms) Q (F0 m pc ls rest) q9)
    (kk : ∀ (u : S) (t : State) (H1 : Heap) (locs1 : List Loc), t.heap = H1 → s.vm.Alike t.vm → post u → B u t → H.size ≤ H1.size → (∀ q : Nat, q < H.size → ¬ A1 q → H1[q]? = H[q]?) → va_S A0 H0 H1 locs1 → W p l e R s m args below meth c H1 locs1 (cells + mc) (slots + ms) Q (F0 m (pc + 3) ls (rest))) : W p l e R s m args below meth c H locs cells slots Q (F0 m pc ls st0) := by
  intro T hT X
  rcases hr T hT X with ⟨v, st₀, t, T', L, h0, X', hL, e1, e2, ⟨⟨u, hv, hp, hb⟩, hF⟩, st⟩ | ⟨q, st₀, t, T', L, E, ce, h0, X', hL, e1, e2, ⟨u, hp, hb, hF⟩, hce, hcv, hcl, st⟩
  · cases hv
    obtain ⟨k1, k2, k3⟩ := vx_keep h0 e1 hS hA hf hL hF
    obtain ⟨t2, a1, b1⟩ := kk u t T'.heap (locs ++ L) e1.symm (by rw [← e2]; exact X'.warmed.alike) hp hb k1 k2 k3 T' rfl X'
    exact ⟨t2, st t2 a1, b1⟩
  · obtain ⟨k1, k2, k3⟩ := vx_keep h0 e1 hS hAX hf hL hF
    obtain ⟨t2, a1, b1⟩ := kx E ce q u t T'.heap (locs ++ L) e1.symm (by rw [← e2]; exact X'.warmed.alike) hp hb k1 k2 k3 (by rw [e1]; exact hce) hcv hcl T' rfl X'
    exact ⟨t2, st.trans a1, b1⟩
/-- caught by the row x of this method's table; the rows ahead don't take it -/
theorem vx_catch {own name : String} {E : String} {ce : Cell} {q : Addr} (hown : s.vm.findClass own = some m.cls) (pre : List ExceptionTableEntry) (x : ExceptionTableEntry) (suf : List ExceptionTableEntry) (hsplit : c.exceptionTable.toList = pre ++ x :: suf)
    (hpass : ∀ z ∈ pre, covers z pc = false ∨ (z.catchType ≠ 0 ∧ ∃ nm : String, (Cond.classLink own z.catchType nm).before args s = true ∧ va_Nc E nm s)) (hx : covers x pc = true) (h0 : x.catchType ≠ 0)
    (hlink : (Cond.classLink own x.catchType name).before args s = true) (hcast : (Cond.castable E name).before args s = true) (hcell : H[q]? = some ce) (hv : ce.vm = .none) (hcl : s.vm.findClass E = some ce.cls)
    (kk : W p l e R s m args below meth c H locs cells slots Q (F0 m x.handlerPc ls [.ref q])) : vx_W p l e R s m args below meth c H locs cells slots Q (F0 m pc ls rest) q := by
  intro T hT X
  have hpl : e.platform.magicAccessors = ({} : Platform).magicAccessors := by rw [X.admits.platform]
  obtain ⟨c3, c4, hc3, hc4, hasg⟩ := Cond.castable_spec hcast
  cases Option.some.inj (hc3.symm.trans hcl)
  obtain ⟨c5, hc5, hcl5⟩ := Cond.classLink_spec hown hlink e.platform hpl
  cases Option.some.inj (hc4.symm.trans hc5)
  obtain ⟨vm', X', st⟩ := X.thenCaughtThrough q (g := F0 m pc ls rest) rfl (Steps.refl _) (by rw [hT]; exact hcell) (by rw [hv]; rfl) (by obtain ⟨k9, h9, -⟩ := Vm.findClass_spec hcl; exact ⟨k9, h9⟩) pre x suf hsplit
    (fun z hz => by
      rcases hpass z hz with h | ⟨hz0, nm, hl1, hn1⟩
      · exact Or.inl h
      · obtain ⟨c6, hc6, hcl6⟩ := Cond.classLink_spec hown hl1 e.platform hpl
        obtain ⟨a8, b8, h1, h2, h3⟩ := hn1
        cases Option.some.inj (h1.symm.trans hcl)
        cases Option.some.inj (h2.symm.trans hc6)
        exact Or.inr ⟨hz0, _, hcl6, h3⟩) hx (Or.inr ⟨h0, c4, hcl5, hasg⟩)
  obtain ⟨t, a1, b1⟩ := kk (T.setVm vm') hT X'
  exact ⟨t, st.trans a1, b1⟩
end Rows
section Ends
variable {p : Program} {l : Launch} {e : Env} {R : Room} {s : State} {m : MethodId} {args : Array Value} {below : List Frame} {meth : Method} {c : Code} {H : Heap} {locs : List Loc} {cells slots : Nat} {Q : State → Prop}
variable {mc ms : Nat} {free : Addr → Prop} {A0 A1 : Nat → Prop} {H0 : Heap} {a : Array Value} {ls : Array Slot} {st0 rest : List Value}
variable {Qc : Array Value → State → Outcome → State → Prop} {XC : String → State → State → Prop}
/-- what a body that may throw owes at its end -/
def vx_MQ (below : List Frame) (Qc : Array Value → State → Outcome → State → Prop) (XC : String → State → State → Prop) (a : Array Value) (s : State) (mc ms : Nat) (free : Addr → Prop) : State → Prop := fun t =>
  ∃ o, t.status = .running ∧ Ended t below o ∧ vx_Q Qc XC mc ms free a s o t
theorem vx_ret {g : JFrame} {mc ms : Nat} (k : W p l e R s m args below meth c H locs cells slots (MQ below Qc args s mc ms free) g) : W p l e R s m args below meth c H locs cells slots (vx_MQ below Qc XC args s mc ms free) g := by
  intro T hT X
  obtain ⟨t, a1, o, b1, b2, b3, b4⟩ := k T hT X
  exact ⟨t, a1, o, b1, b2, Or.inl ⟨b3, b4⟩⟩
/-- not caught here: it goes on to the caller -/
theorem vx_widen {g : JFrame} {q : Addr} {k n : Nat} (h1 : cells ≤ k) (h2 : slots ≤ n) (kk : vx_W p l e R s m args below meth c H locs k n Q g q) : vx_W p l e R s m args below meth c H locs cells slots Q g q := fun T hT X => kk T hT (stand_widen X h1 h2)
theorem vx_out {pc : Nat} {E : String} {ce : Cell} {q : Addr} {mc ms : Nat} (hout : ∀ x ∈ c.exceptionTable.toList, covers x pc = false) (hlocks : meth.locks = false) (hcell : H[q]? = some ce) (hv : ce.vm = .none) (hcl : s.vm.findClass E = some ce.cls)
    (hx : ∀ t : State, t.heap = H → s.vm.Alike t.vm → XC E s t) (hf : ∀ z ∈ locs, free z.base) (hc : cells ≤ mc) (hs : slots ≤ ms) :
    vx_W p l e R s m args below meth c H locs cells slots (vx_MQ below Qc XC args s mc ms free) (F0 m pc ls rest) q := by
  intro T hT X
  obtain ⟨st1, hrun, hend, hW, hsm⟩ := X.leaveThrown q (g := F0 m pc ls rest) rfl rfl rfl hout hlocks
  have hcell9 : (T.setFrames (.throwing q :: below)).heap[q]? = some ce := by
    show T.heap[q]? = some ce
    rw [hT]; exact hcell
  exact ⟨_, st1, .threw q, hrun, hend, Or.inr ⟨q, rfl, E, ce, locs, hx _ hT hW.alike, hcell9, hv, hcl, hW, hsm.mono hc hs, hf⟩⟩
theorem vx_frame {U : State} {k n : Nat} (h : s.sameButNew ({ U with vm := s.vm } : State) locs k n) : s.heap.size ≤ U.heap.size ∧ ∀ q : Nat, q < s.heap.size → (∀ z ∈ locs, z.base ≠ q) → U.heap[q]? = s.heap[q]? := by
  obtain ⟨-, h2, -, -, -, h6⟩ := h
  refine ⟨h2, fun q hq hz => ?_⟩
  obtain ⟨c9, e1, e2, e3, e4⟩ := h6 q _ (Array.getElem?_eq_getElem hq)
  have hs : c9.slots = (s.heap[q]).slots := Array.ext_getElem? fun i => e4 i fun hm => hz _ hm rfl
  have h9 : c9 = s.heap[q] := by
    rw [hs] at e2
    exact e2
  have e5 : U.heap[q]? = some c9 := e1
  rw [e5, h9, Array.getElem?_eq_getElem hq]
/-- the words of a throw but the four that speak of the heap -/
def vx_no (w : Cond) : Bool := decide (w ≠ .isRef (.static Bundle.tN "UNASSIGNED_STACK" Bundle.steD)) && decide (w ≠ .isRef (.static Bundle.tN "SUPPRESSED_SENTINEL" Bundle.listD)) && decide (w ≠ .laysStatic Bundle.tN "UNASSIGNED_STACK" Bundle.steD) && decide (w ≠ .laysStatic Bundle.tN "SUPPRESSED_SENTINEL" Bundle.listD)
def vx_at0 (own : String) (ic : Nat) (X : String) (names : List String) : List Cond := (Bundle.ownAtoms0 own ic X names).filter vx_no
def vx_atS (own : String) (ic : Nat) (X : String) (names : List String) : List Cond := (Bundle.ownAtoms own ic X names).filter vx_no
/-- a word that the tables alone decide, or a good one -/
def vx_ot (w : Cond) : Bool := w.onTables || goodWord w
theorem vx_ot_at {args a' : Array Value} {s U : State} {w : Cond} (hW : s.WarmedH U.vm) (hvm : s.vm = U.vm) (hg : vx_ot w = true) (h : w.before args s = true) : w.before a' U = true := by
  simp only [vx_ot, Bool.or_eq_true] at hg
  rcases hg with hg | hg
  · exact va_tabs hg hvm h
  · exact word_at hW (good_of_word hg) h
/-- a list's words: the good ones out of the method's own list, the others by premises of their own -/
theorem vx_hat {args : Array Value} {s : State} {L B : List Cond} (h1 : ∀ w ∈ L.filter goodWord, w.before args s = true) (h2 : ∀ w ∈ L.filter (fun w => !goodWord w), w ∈ B) (h3 : ∀ w ∈ B, w.before args s = true) : ∀ w ∈ L, w.before args s = true := by
  intro w hw
  by_cases g : goodWord w = true
  · exact h1 w (List.mem_filter.mpr ⟨hw, g⟩)
  · refine h3 w (h2 w (List.mem_filter.mpr ⟨hw, ?_⟩))
    show (!goodWord w) = true
    cases hgw : goodWord w
    · rfl
    · exact absurd hgw g
theorem vx_c {args : Array Value} {s : State} {w : Cond} {B : List Cond} (h : w.before args s = true) (t : ∀ w ∈ B, w.before args s = true) : ∀ w' ∈ w :: B, w'.before args s = true := fun w' h' => (List.mem_cons.mp h').elim (fun e => by rw [e]; exact h) (t w')
theorem vx_n {args : Array Value} {s : State} : ∀ w ∈ ([] : List Cond), w.before args s = true := fun _ h => nomatch h
theorem vx_own {args : Array Value} {s : State} {L : List Cond} (h1 : ∀ w ∈ L.filter vx_no, w.before args s = true)
    (hU : (Cond.isRef (.static Bundle.tN "UNASSIGNED_STACK" Bundle.steD)).before args s = true) (hN : (Cond.isRef (.static Bundle.tN "SUPPRESSED_SENTINEL" Bundle.listD)).before args s = true)
    (lU : (Cond.laysStatic Bundle.tN "UNASSIGNED_STACK" Bundle.steD).before args s = true) (lN : (Cond.laysStatic Bundle.tN "SUPPRESSED_SENTINEL" Bundle.listD).before args s = true) : ∀ w ∈ L, w.before args s = true := by
  intro w hw
  by_cases e1 : w = .isRef (.static Bundle.tN "UNASSIGNED_STACK" Bundle.steD)
  · rw [e1]; exact hU
  · by_cases e2 : w = .isRef (.static Bundle.tN "SUPPRESSED_SENTINEL" Bundle.listD)
    · rw [e2]; exact hN
    · by_cases e3 : w = .laysStatic Bundle.tN "UNASSIGNED_STACK" Bundle.steD
      · rw [e3]; exact lU
      · by_cases e4 : w = .laysStatic Bundle.tN "SUPPRESSED_SENTINEL" Bundle.listD
        · rw [e4]; exact lN
        · exact h1 w (List.mem_filter.mpr ⟨hw, by unfold vx_no; rw [decide_eq_true e1, decide_eq_true e2, decide_eq_true e3, decide_eq_true e4]; rfl⟩)
/-- where a static field lies, its class's statics cell in H -/
def vx_L (C n d : String) (A : Nat → Prop) (U : State) (H : Heap) : Prop := ∃ (c : ClassId) (k : Class) (i : Nat) (f : Field) (a : Nat) (cell : Cell), U.vm.findClass C = some c ∧ U.fieldFound? C n d = some (c, k, i, f) ∧ f.isStatic = true ∧ k.statics = some a ∧ H[a]? = some cell ∧ cell.vm.isStatics = true ∧ cell.cls = c ∧ f.slot < cell.slots.size ∧ k.staticTypes[f.slot]? = some f.type ∧ ¬ A a
theorem vx_L.moved {C n d : String} {A : Nat → Prop} {u U : State} {H : Heap} (hvm : u.vm.Alike U.vm) (h : vx_L C n d A u H) : vx_L C n d A U H := by
  obtain ⟨c, k, i, f, a, cell, h1, h2, h3, h4, h5, h6, h7, h8, h9, h10⟩ := h
  obtain ⟨k', hi', he⟩ := State.fieldFound?_setVm hvm h2
  exact ⟨c, k', i, f, a, cell, by rw [hvm.findClass]; exact h1, hi', h3, by rw [he]; exact h4, h5, h6, h7, h8, by rw [he]; exact h9, h10⟩
theorem vx_L.kept {C n d : String} {A : Nat → Prop} {U : State} {H H1 : Heap} (h : vx_L C n d A U H) (hq : ∀ a : Nat, a < H.size → ¬ A a → H1[a]? = H[a]?) : vx_L C n d A U H1 := by
  obtain ⟨c, k, i, f, a, cell, h1, h2, h3, h4, h5, h6, h7, h8, h9, h10⟩ := h
  exact ⟨c, k, i, f, a, cell, h1, h2, h3, h4, by rw [hq a (Array.getElem?_eq_some_iff.mp h5).1 h10]; exact h5, h6, h7, h8, h9, h10⟩
theorem vx_L.narrow {C n d : String} {A B : Nat → Prop} {U : State} {H : Heap} (h : vx_L C n d A U H) (hAB : ∀ q, B q → A q) : vx_L C n d B U H := by
  obtain ⟨c, k, i, f, a, cell, h1, h2, h3, h4, h5, h6, h7, h8, h9, h10⟩ := h
  exact ⟨c, k, i, f, a, cell, h1, h2, h3, h4, h5, h6, h7, h8, h9, fun z => h10 (hAB _ z)⟩
theorem vx_L.word {C n d : String} {A : Nat → Prop} {s : State} {args : Array Value} (h : vx_L C n d A s s.heap) : (Cond.laysStatic C n d).before args s = true := by
  obtain ⟨c, k, i, f, a, cell, h1, h2, h3, h4, h5, h6, h7, h8, h9, -⟩ := h
  show (Cond.laysStatic C n d).holds args s none s [] = true
  exact Cond.laysStatic_of h1 h2 h3 h4 h5 h6 h7 h8 h9
/-- .. and what it holds: null or some reference -/
def vx_Zq (C n d : String) (A : Nat → Prop) (U : State) (H : Heap) : Prop := va_Zq C n d A U H ∧ vx_L C n d A U H
theorem vx_Zq.moved {C n d : String} {A : Nat → Prop} {u U : State} {H : Heap} (hvm : u.vm.Alike U.vm) (h : vx_Zq C n d A u H) : vx_Zq C n d A U H := ⟨va_Zq.moved hvm h.1, vx_L.moved hvm h.2⟩
theorem vx_Zq.kept {C n d : String} {A : Nat → Prop} {U : State} {H H1 : Heap} (h : vx_Zq C n d A U H) (hq : ∀ a : Nat, a < H.size → ¬ A a → H1[a]? = H[a]?) : vx_Zq C n d A U H1 := ⟨va_Zq.kept h.1 hq, vx_L.kept h.2 hq⟩
theorem vx_Zq.narrow {C n d : String} {A B : Nat → Prop} {U : State} {H : Heap} (h : vx_Zq C n d A U H) (hAB : ∀ q, B q → A q) : vx_Zq C n d B U H := ⟨va_Zq.narrow h.1 hAB, vx_L.narrow h.2 hAB⟩
theorem vx_Zqof {args : Array Value} {s : State} {C n d : String} {A : Nat → Prop} (hl : (Cond.laysStatic C n d).before args s = true) (hini : (Cond.initialized C).before args s = true) (h : (Cond.isRef (.static C n d)).before args s = true) (hA : ∀ a : Nat, a < s.heap.size → ¬ A a) : vx_Zq C n d A s s.heap := by
  refine ⟨va_Zqof hl hini h hA, ?_⟩
  obtain ⟨c, k, i, f, a, cell, h1, h2, h3, h4, h5, h6, h7, h8, h9⟩ := Cond.laysStatic_spec hl
  exact ⟨c, k, i, f, a, cell, h1, h2, h3, h4, h5, h6, h7, h8, h9, hA a (Array.getElem?_eq_some_iff.mp h5).1⟩
theorem vx_isRef {C n d : String} {v : Value} {A : Nat → Prop} {s : State} {args : Array Value} (h : va_Z C n d v A s s.heap) (hv : v.isRef = true) : (Cond.isRef (.static C n d)).before args s = true := by
  obtain ⟨cf, kf, fi, f, a, cell, h1, h2, h3, h4, h5, h6, h7, -⟩ := h
  have he : (Term.static C n d).eval args s none [] s = some v := by
    simp [Term.eval, State.fieldNamed?, h1, h2, h4, h5, h6, h7]
  simp only [Cond.before, Cond.holds, Cond.value, he]
  cases v <;> simp_all [Value.isRef]
theorem vx_isRefq {C n d : String} {A : Nat → Prop} {s : State} {args : Array Value} (h : va_Zq C n d A s s.heap) : (Cond.isRef (.static C n d)).before args s = true := by
  rcases h with h | ⟨t, h⟩
  · exact vx_isRef h rfl
  · exact vx_isRef h rfl
/-- the same frame, seen from here: as if the method were called anew in this heap -/
theorem vx_rebase {T : State} (X : Stand p l e R s m args below meth c T locs cells slots) {R' : Room} (hf : R'.frames ≤ R.frames) (hl : R'.locals ≤ R.locals) (hc : cells + R'.cells ≤ R.cells) (hs : slots + R'.slots ≤ R.slots) :
    Stand p l e R' ((T.setVm s.vm).setFrames (.invoking m args :: below)) m args below meth c T [] 0 0 := by
  have htop : (T.setVm s.vm).topJava?.isSome := X.here.top
  have hF : ((T.setVm s.vm).setFrames (.invoking m args :: below)).frames = .invoking m args :: below := State.frames_setFrames _ (State.cur_lt_of_top htop)
  obtain ⟨g₀, hg0⟩ := Option.isSome_iff_exists.mp htop
  obtain ⟨r, hr⟩ := State.topJava?_eq_some.mp hg0
  have hl9 : e.platform.stackLimits (T.setVm s.vm).me = e.platform.stackLimits s.me := X.limits
  have hb9 : (T.setVm s.vm).me.stackBytes = s.me.stackBytes := X.bytes
  refine ⟨X.admits, X.cas, X.clock, hF, ?_, X.hears, X.method, X.code, X.here, X.tail, X.warmed, ?_, ?_, ?_⟩
  · have h := X.room
    have hU : ((T.setVm s.vm).setFrames (.invoking m args :: below)).localsInUse = s.localsInUse := by
      rw [State.localsInUse_invoking hF (meth := meth) (c := c) X.method X.code, State.localsInUse_invoking X.frames X.method X.code]
    simp only [State.hasRoom, Bool.and_eq_true, decide_eq_true_eq] at h ⊢
    obtain ⟨⟨⟨⟨h1, h2, h3, h4, h5, h6⟩, h7⟩, h8⟩, h9⟩ := h
    rw [X.frames, List.length_cons] at h2 h3
    have q1 := X.heapSize
    have q2 := X.used
    simp only [hF, hU, List.length_cons, State.stackLimits_setFrames, State.stackBytes_setFrames, hl9, hb9]
    refine ⟨⟨⟨⟨by omega, by omega, by omega, by omega, by omega, h6⟩, ?_⟩, ?_⟩, X.book⟩
    · show T.heap.size + R'.cells ≤ e.platform.maxCells
      omega
    · show T.slotsUsed + R'.slots ≤ e.platform.maxSlots
      omega
  · rw [State.stackLimits_setFrames]; rfl
  · rw [State.stackBytes_setFrames]; rfl
  · refine ⟨?_, Nat.le_refl _, Nat.le_refl _, ?_, ?_, fun a c9 h9 => ⟨c9, h9, rfl, rfl, fun _ _ => rfl⟩⟩
    · obtain ⟨t, ht, -⟩ := State.frames_cons hr
      show T.setVm s.vm = { ((T.setVm s.vm).setFrames (.invoking m args :: below)).setFrames (T.setVm s.vm).frames with heap := T.heap, slotsUsed := T.slotsUsed }
      rw [State.setFrames_setFrames, State.setFrames_self ht]
      rfl
    · show T.slotsUsed = T.slotsUsed + ((T.heap.toList.drop T.heap.size).map (·.slots.size)).sum
      rw [List.drop_eq_nil_of_le (Nat.le_of_eq Array.length_toList)]
      rfl
    · show ((T.heap.toList.drop T.heap.size).map (·.slots.size)).sum ≤ 0
      rw [List.drop_eq_nil_of_le (Nat.le_of_eq Array.length_toList)]
      exact Nat.le_refl _
/-- 'throw new E()': new; dup; invokespecial; athrow -/
theorem vx_throw0 {cc : ByteArray} {pc : Nat} (hexec : p.tables.exec = Jvm.exec) (hb : c.code = cc) (hl : l.stackTraces = false) {own cls : String} {names : List String} {ik ic mc ms : Nat} {A : Nat → Prop}
    (hown : s.vm.findClass own = some m.cls) (hcls : Bundle.fit cls = true) (hnames : ∀ n ∈ names, Bundle.fit n = true)
    (hk : (Cond.classLink own ik cls).before args s = true) (hini : (Cond.initialized cls).before args s = true) (hat : ∀ w ∈ vx_at0 own ic cls names, w.before args s = true)
    (hgood : ∀ w ∈ Cond.classLink own ik cls :: Cond.initialized cls :: vx_at0 own ic cls names, vx_ot w = true)
    (hU : vx_Zq Bundle.tN "UNASSIGNED_STACK" Bundle.steD A s s.heap) (hN : vx_Zq Bundle.tN "SUPPRESSED_SENTINEL" Bundle.listD A s s.heap) (hS : va_S A s.heap H locs) (hsize : ls.size = c.maxLocals)
    (d0 : decode cc pc = .ok (.new ik, 3)) (d3 : decode cc (pc + 3) = .ok (.dup, 1)) (d4 : decode cc (pc + 4) = .ok (.invokespecial ic, 3)) (d7 : decode cc (pc + 7) = .ok (.athrow, 1))
    (hout : ∀ x ∈ c.exceptionTable.toList, covers x (pc + 7) = false)
    (hRframes : names.length + 3 < R.frames) (hRlocals : (rest.map fun v => v.category).sum + (13 * (names.length + 1) + 42) ≤ R.locals) (hRcells : cells + 1 ≤ R.cells) (hRslots : slots + 6 ≤ R.slots) (hlocks : meth.locks = false)
    (hx : ∀ t : State, s.vm.Alike t.vm → H.size ≤ t.heap.size → (∀ q : Nat, q < H.size → t.heap[q]? = H[q]?) → XC cls s t)
    (hf : ∀ z ∈ locs, free z.base) (hc : cells + 1 ≤ mc) (hs : slots + 6 ≤ ms) :
    W p l e R s m args below meth c H locs cells slots (vx_MQ below Qc XC args s mc ms free) (F0 m pc ls rest) := by
  intro T hT X
  have htr : e.platform.stackTraces = false := (show e.platform.stackTraces = l.stackTraces by rw [X.admits.platform]).trans hl
  have Y := vx_rebase X (R' := { frames := R.frames, locals := R.locals, cells := 1, slots := 6 }) (Nat.le_refl _) (Nat.le_refl _) hRcells hRslots
  obtain ⟨s', hA⟩ : ∃ z, z = (T.setVm s.vm).setFrames (.invoking m args :: below) := ⟨_, rfl⟩
  rw [← hA] at Y
  have hvm : s'.vm = s.vm := by rw [hA]; rfl
  have hhp : s'.heap = H := by rw [hA]; exact hT
  have hW0 : s.WarmedH s'.vm := by rw [hvm]; exact State.WarmedH.refl s
  have hat' : ∀ w ∈ vx_at0 own ic cls names, w.before args s' = true := fun w hw => vx_ot_at hW0 hvm.symm (hgood w (List.mem_cons_of_mem _ (List.mem_cons_of_mem _ hw))) (hat w hw)
  have hk' : (Cond.classLink own ik cls).before args s' = true := vx_ot_at hW0 hvm.symm (hgood _ List.mem_cons_self) hk
  have hini' : (Cond.initialized cls).before args s' = true := vx_ot_at hW0 hvm.symm (hgood _ (List.mem_cons_of_mem _ List.mem_cons_self)) hini
  have hU' : vx_Zq Bundle.tN "UNASSIGNED_STACK" Bundle.steD A s' s'.heap := by rw [hhp]; exact vx_Zq.moved hW0.alike (hU.kept hS.2.1)
  have hN' : vx_Zq Bundle.tN "SUPPRESSED_SENTINEL" Bundle.listD A s' s'.heap := by rw [hhp]; exact vx_Zq.moved hW0.alike (hN.kept hS.2.1)
  have h : ∀ w ∈ Bundle.ownAtoms0 own ic cls names, w.before args s' = true := vx_own hat' (vx_isRefq hU'.1) (vx_isRefq hN'.1) hU'.2.word hN'.2.word
  have hown' : s'.vm.findClass own = some m.cls := by rw [hvm]; exact hown
  have hins : (Cond.instantiable cls 6).before args s' = true := h _ (by simp [Bundle.ownAtoms0])
  obtain ⟨vm₁, cX, kX, hfX, hkX, -, -, X₁, st1⟩ := Y.newCold hexec (own := own) (C := cls) (index := ik) (n := 6) hown' hk' hins hini'
    (g := F0 m pc ls rest) rfl (by rw [hb]; exact d0) (Nat.le_refl _) (Nat.le_refl _)
  generalize hT1 : (T.setVm vm₁).pushCell { cls := cX, slots := kX.instanceTypes.map defaultValue, vm := .none } = T1 at X₁ st1
  have hcat : (Value.ref T.heap.size).category = 1 := rfl
  have hcellA : T1.heap[T.heap.size]? = some (freshCell cX kX) := by rw [← hT1]; exact State.heap_pushCell_size _ _
  have d3' : decode c.code (pc + 3) = .ok (.dup, 1) := by rw [hb]; exact d3
  obtain ⟨U, hsteps, hrun, hend, hW, hsame, ce, hce, hO⟩ := X₁.ctorThrow0 hexec htr (own := own) (cls := cls) (names := names) (ic := ic) hown' hcls hnames h (fun x hx => nomatch hx) hfX hkX hcellA (by rw [hhp, hT]; exact Nat.le_refl _)
    (g := { method := m, pc := pc + 4, locals := ls, stack := .ref T.heap.size :: .ref T.heap.size :: rest, locked := none }) rfl hsize rfl rfl (rest := rest) rfl
    (by rw [hb]; exact d4) (by rw [hb]; exact d7) hout hRframes (by simp only [List.map_cons, List.sum_cons, hcat]; omega) hlocks
  obtain ⟨f1, f2⟩ := vx_frame hsame
  rw [hhp] at f1 f2
  have hWs : s.WarmedH U.vm := State.WarmedH.trans hW0 hW
  have hcl : s.vm.findClass cls = some ce.cls := by
    have h9 := hO.cls
    rw [hvm] at h9
    exact h9
  have hall : s.sameButNew ({ U with vm := s.vm } : State) locs mc ms := by
    subst hA
    obtain ⟨e1, e2⟩ := hsame
    rw [State.setFrames_setFrames] at e1
    have h2 : (T.setVm s.vm).sameButNew ({ U with vm := s.vm } : State) [] (0 + 1) (0 + 6) := ⟨e1, e2⟩
    have h3 := X.same.trans h2
    rw [List.append_nil] at h3
    exact h3.mono hc hs
  refine ⟨U, ?_, .threw T.heap.size, hrun, hend, Or.inr ⟨T.heap.size, rfl, cls, ce, locs, hx U hWs.alike f1 (fun q hq => f2 q hq (fun z hz => nomatch hz)), hce, hO.vm, hcl, hWs, hall, hf⟩⟩
  refine st1 _ ?_
  show Steps p.tables e below (T1.setTop { method := m, pc := pc + 3, locals := ls, stack := .ref T.heap.size :: rest, locked := none }) _
  jvm_step X₁.here [X₁.here.top, hexec, d3', Value.category]
  exact hsteps
/-- 'throw new E("text")': new; dup; ldc; invokespecial; athrow -/
theorem vx_throwS {cc : ByteArray} {pc : Nat} (hexec : p.tables.exec = Jvm.exec) (hb : c.code = cc) (hl : l.stackTraces = false) {own cls text : String} {names : List String} {ik is ic mc ms sa : Nat} {A : Nat → Prop}
    (hown : s.vm.findClass own = some m.cls) (hcls : Bundle.fit cls = true) (hnames : ∀ n ∈ names, Bundle.fit n = true)
    (hk : (Cond.classLink own ik cls).before args s = true) (hini : (Cond.initialized cls).before args s = true) (hstr : vk_R own is text sa s) (hat : ∀ w ∈ vx_atS own ic cls names, w.before args s = true)
    (hgood : ∀ w ∈ Cond.classLink own ik cls :: Cond.initialized cls :: vx_atS own ic cls names, vx_ot w = true)
    (hU : vx_Zq Bundle.tN "UNASSIGNED_STACK" Bundle.steD A s s.heap) (hN : vx_Zq Bundle.tN "SUPPRESSED_SENTINEL" Bundle.listD A s s.heap) (hS : va_S A s.heap H locs) (hsize : ls.size = c.maxLocals)
    (d0 : decode cc pc = .ok (.new ik, 3)) (d3 : decode cc (pc + 3) = .ok (.dup, 1)) (d4 : decode cc (pc + 4) = .ok (.ldc is, 2)) (d6 : decode cc (pc + 6) = .ok (.invokespecial ic, 3)) (d9 : decode cc (pc + 9) = .ok (.athrow, 1))
    (hout : ∀ x ∈ c.exceptionTable.toList, covers x (pc + 9) = false)
    (hRframes : names.length + 3 < R.frames) (hRlocals : (rest.map fun v => v.category).sum + (13 * (names.length + 1) + 43) ≤ R.locals) (hRcells : cells + 1 ≤ R.cells) (hRslots : slots + 6 ≤ R.slots) (hlocks : meth.locks = false)
    (hx : ∀ t : State, s.vm.Alike t.vm → H.size ≤ t.heap.size → (∀ q : Nat, q < H.size → t.heap[q]? = H[q]?) → XC cls s t)
    (hf : ∀ z ∈ locs, free z.base) (hc : cells + 1 ≤ mc) (hs : slots + 6 ≤ ms) :
    W p l e R s m args below meth c H locs cells slots (vx_MQ below Qc XC args s mc ms free) (F0 m pc ls rest) := by
  intro T hT X
  have htr : e.platform.stackTraces = false := (show e.platform.stackTraces = l.stackTraces by rw [X.admits.platform]).trans hl
  have Y := vx_rebase X (R' := { frames := R.frames, locals := R.locals, cells := 1, slots := 6 }) (Nat.le_refl _) (Nat.le_refl _) hRcells hRslots
  obtain ⟨s', hA⟩ : ∃ z, z = (T.setVm s.vm).setFrames (.invoking m args :: below) := ⟨_, rfl⟩
  rw [← hA] at Y
  have hvm : s'.vm = s.vm := by rw [hA]; rfl
  have hhp : s'.heap = H := by rw [hA]; exact hT
  have hW0 : s.WarmedH s'.vm := by rw [hvm]; exact State.WarmedH.refl s
  have hat' : ∀ w ∈ vx_atS own ic cls names, w.before args s' = true := fun w hw => vx_ot_at hW0 hvm.symm (hgood w (List.mem_cons_of_mem _ (List.mem_cons_of_mem _ hw))) (hat w hw)
  have hk' : (Cond.classLink own ik cls).before args s' = true := vx_ot_at hW0 hvm.symm (hgood _ List.mem_cons_self) hk
  have hini' : (Cond.initialized cls).before args s' = true := vx_ot_at hW0 hvm.symm (hgood _ (List.mem_cons_of_mem _ List.mem_cons_self)) hini
  have hU' : vx_Zq Bundle.tN "UNASSIGNED_STACK" Bundle.steD A s' s'.heap := by rw [hhp]; exact vx_Zq.moved hW0.alike (hU.kept hS.2.1)
  have hN' : vx_Zq Bundle.tN "SUPPRESSED_SENTINEL" Bundle.listD A s' s'.heap := by rw [hhp]; exact vx_Zq.moved hW0.alike (hN.kept hS.2.1)
  have h : ∀ w ∈ Bundle.ownAtoms own ic cls names, w.before args s' = true := vx_own hat' (vx_isRefq hU'.1) (vx_isRefq hN'.1) hU'.2.word hN'.2.word
  have hown' : s'.vm.findClass own = some m.cls := by rw [hvm]; exact hown
  have hins : (Cond.instantiable cls 6).before args s' = true := h _ (by simp [Bundle.ownAtoms])
  obtain ⟨vm₁, cX, kX, hfX, hkX, -, -, X₁, st1⟩ := Y.newCold hexec (own := own) (C := cls) (index := ik) (n := 6) hown' hk' hins hini'
    (g := F0 m pc ls rest) rfl (by rw [hb]; exact d0) (Nat.le_refl _) (Nat.le_refl _)
  generalize hT1 : (T.setVm vm₁).pushCell { cls := cX, slots := kX.instanceTypes.map defaultValue, vm := .none } = T1 at X₁ st1
  have hcat : (Value.ref T.heap.size).category = 1 := rfl
  have hcellA : T1.heap[T.heap.size]? = some (freshCell cX kX) := by rw [← hT1]; exact State.heap_pushCell_size _ _
  have d3' : decode c.code (pc + 3) = .ok (.dup, 1) := by rw [hb]; exact d3
  have d4' : decode c.code (pc + 4) = .ok (.ldc is, 2) := by rw [hb]; exact d4
  have hstr' : vk_R own is text sa s' := vk_R.warm hW0 hstr
  obtain ⟨U, hsteps, hrun, hend, hW, hsame, ce, hce, hO⟩ := X₁.ctorThrowS hexec htr (own := own) (cls := cls) (names := names) (ic := ic) hown' hcls hnames h (fun x hx => nomatch hx) hfX hkX hcellA (by rw [hhp, hT]; exact Nat.le_refl _) (msg := .ref sa) rfl
    (g := { method := m, pc := pc + 6, locals := ls, stack := .ref sa :: .ref T.heap.size :: .ref T.heap.size :: rest, locked := none }) rfl hsize rfl rfl (rest := rest) rfl
    (by rw [hb]; exact d6) (by rw [hb]; exact d9) hout hRframes (by simp only [List.map_cons, List.sum_cons, hcat]; omega) hlocks
  obtain ⟨f1, f2⟩ := vx_frame hsame
  rw [hhp] at f1 f2
  have hWs : s.WarmedH U.vm := State.WarmedH.trans hW0 hW
  have hcl : s.vm.findClass cls = some ce.cls := by
    have h9 := hO.cls
    rw [hvm] at h9
    exact h9
  have hall : s.sameButNew ({ U with vm := s.vm } : State) locs mc ms := by
    subst hA
    obtain ⟨e1, e2⟩ := hsame
    rw [State.setFrames_setFrames] at e1
    have h2 : (T.setVm s.vm).sameButNew ({ U with vm := s.vm } : State) [] (0 + 1) (0 + 6) := ⟨e1, e2⟩
    have h3 := X.same.trans h2
    rw [List.append_nil] at h3
    exact h3.mono hc hs
  refine ⟨U, ?_, .threw T.heap.size, hrun, hend, Or.inr ⟨T.heap.size, rfl, cls, ce, locs, hx U hWs.alike f1 (fun q hq => f2 q hq (fun z hz => nomatch hz)), hce, hO.vm, hcl, hWs, hall, hf⟩⟩
  refine st1 _ ?_
  show Steps p.tables e below (T1.setTop { method := m, pc := pc + 3, locals := ls, stack := .ref T.heap.size :: rest, locked := none }) _
  jvm_step X₁.here [X₁.here.top, hexec, d3', Value.category]
  exact X₁.ldcString hexec (own := own) (text := text) (index := is) (a := sa) hown' hstr'.1 hstr'.2
    (g := { method := m, pc := pc + 4, locals := ls, stack := .ref T.heap.size :: .ref T.heap.size :: rest, locked := none }) rfl d4' _ hsteps
/-- 'throw new E("text")', the text by a wide index -/
theorem vx_throwSW {cc : ByteArray} {pc : Nat} (hexec : p.tables.exec = Jvm.exec) (hb : c.code = cc) (hl : l.stackTraces = false) {own cls text : String} {names : List String} {ik is ic mc ms sa : Nat} {A : Nat → Prop}
    (hown : s.vm.findClass own = some m.cls) (hcls : Bundle.fit cls = true) (hnames : ∀ n ∈ names, Bundle.fit n = true)
    (hk : (Cond.classLink own ik cls).before args s = true) (hini : (Cond.initialized cls).before args s = true) (hstr : vk_R own is text sa s) (hat : ∀ w ∈ vx_atS own ic cls names, w.before args s = true)
    (hgood : ∀ w ∈ Cond.classLink own ik cls :: Cond.initialized cls :: vx_atS own ic cls names, vx_ot w = true)
    (hU : vx_Zq Bundle.tN "UNASSIGNED_STACK" Bundle.steD A s s.heap) (hN : vx_Zq Bundle.tN "SUPPRESSED_SENTINEL" Bundle.listD A s s.heap) (hS : va_S A s.heap H locs) (hsize : ls.size = c.maxLocals)
    (d0 : decode cc pc = .ok (.new ik, 3)) (d3 : decode cc (pc + 3) = .ok (.dup, 1)) (d4 : decode cc (pc + 4) = .ok (.ldc_w is, 3)) (d7 : decode cc (pc + 7) = .ok (.invokespecial ic, 3)) (d10 : decode cc (pc + 10) = .ok (.athrow, 1))
    (hout : ∀ x ∈ c.exceptionTable.toList, covers x (pc + 10) = false)
    (hRframes : names.length + 3 < R.frames) (hRlocals : (rest.map fun v => v.category).sum + (13 * (names.length + 1) + 43) ≤ R.locals) (hRcells : cells + 1 ≤ R.cells) (hRslots : slots + 6 ≤ R.slots) (hlocks : meth.locks = false)
    (hx : ∀ t : State, s.vm.Alike t.vm → H.size ≤ t.heap.size → (∀ q : Nat, q < H.size → t.heap[q]? = H[q]?) → XC cls s t)
    (hf : ∀ z ∈ locs, free z.base) (hc : cells + 1 ≤ mc) (hs : slots + 6 ≤ ms) :
    W p l e R s m args below meth c H locs cells slots (vx_MQ below Qc XC args s mc ms free) (F0 m pc ls rest) := by
  intro T hT X
  have htr : e.platform.stackTraces = false := (show e.platform.stackTraces = l.stackTraces by rw [X.admits.platform]).trans hl
  have Y := vx_rebase X (R' := { frames := R.frames, locals := R.locals, cells := 1, slots := 6 }) (Nat.le_refl _) (Nat.le_refl _) hRcells hRslots
  obtain ⟨s', hA⟩ : ∃ z, z = (T.setVm s.vm).setFrames (.invoking m args :: below) := ⟨_, rfl⟩
  rw [← hA] at Y
  have hvm : s'.vm = s.vm := by rw [hA]; rfl
  have hhp : s'.heap = H := by rw [hA]; exact hT
  have hW0 : s.WarmedH s'.vm := by rw [hvm]; exact State.WarmedH.refl s
  have hat' : ∀ w ∈ vx_atS own ic cls names, w.before args s' = true := fun w hw => vx_ot_at hW0 hvm.symm (hgood w (List.mem_cons_of_mem _ (List.mem_cons_of_mem _ hw))) (hat w hw)
  have hk' : (Cond.classLink own ik cls).before args s' = true := vx_ot_at hW0 hvm.symm (hgood _ List.mem_cons_self) hk
  have hini' : (Cond.initialized cls).before args s' = true := vx_ot_at hW0 hvm.symm (hgood _ (List.mem_cons_of_mem _ List.mem_cons_self)) hini
  have hU' : vx_Zq Bundle.tN "UNASSIGNED_STACK" Bundle.steD A s' s'.heap := by rw [hhp]; exact vx_Zq.moved hW0.alike (hU.kept hS.2.1)
  have hN' : vx_Zq Bundle.tN "SUPPRESSED_SENTINEL" Bundle.listD A s' s'.heap := by rw [hhp]; exact vx_Zq.moved hW0.alike (hN.kept hS.2.1)
  have h : ∀ w ∈ Bundle.ownAtoms own ic cls names, w.before args s' = true := vx_own hat' (vx_isRefq hU'.1) (vx_isRefq hN'.1) hU'.2.word hN'.2.word
  have hown' : s'.vm.findClass own = some m.cls := by rw [hvm]; exact hown
  have hins : (Cond.instantiable cls 6).before args s' = true := h _ (by simp [Bundle.ownAtoms])
  obtain ⟨vm₁, cX, kX, hfX, hkX, -, -, X₁, st1⟩ := Y.newCold hexec (own := own) (C := cls) (index := ik) (n := 6) hown' hk' hins hini'
    (g := F0 m pc ls rest) rfl (by rw [hb]; exact d0) (Nat.le_refl _) (Nat.le_refl _)
  generalize hT1 : (T.setVm vm₁).pushCell { cls := cX, slots := kX.instanceTypes.map defaultValue, vm := .none } = T1 at X₁ st1
  have hcat : (Value.ref T.heap.size).category = 1 := rfl
  have hcellA : T1.heap[T.heap.size]? = some (freshCell cX kX) := by rw [← hT1]; exact State.heap_pushCell_size _ _
  have d3' : decode c.code (pc + 3) = .ok (.dup, 1) := by rw [hb]; exact d3
  have d4' : decode c.code (pc + 4) = .ok (.ldc_w is, 3) := by rw [hb]; exact d4
  have hstr' : vk_R own is text sa s' := vk_R.warm hW0 hstr
  obtain ⟨U, hsteps, hrun, hend, hW, hsame, ce, hce, hO⟩ := X₁.ctorThrowS hexec htr (own := own) (cls := cls) (names := names) (ic := ic) hown' hcls hnames h (fun x hx => nomatch hx) hfX hkX hcellA (by rw [hhp, hT]; exact Nat.le_refl _) (msg := .ref sa) rfl
    (g := { method := m, pc := pc + 7, locals := ls, stack := .ref sa :: .ref T.heap.size :: .ref T.heap.size :: rest, locked := none }) rfl hsize rfl rfl (rest := rest) rfl
    (by rw [hb]; exact d7) (by rw [hb]; exact d10) hout hRframes (by simp only [List.map_cons, List.sum_cons, hcat]; omega) hlocks
  obtain ⟨f1, f2⟩ := vx_frame hsame
  rw [hhp] at f1 f2
  have hWs : s.WarmedH U.vm := State.WarmedH.trans hW0 hW
  have hcl : s.vm.findClass cls = some ce.cls := by
    have h9 := hO.cls
    rw [hvm] at h9
    exact h9
  have hall : s.sameButNew ({ U with vm := s.vm } : State) locs mc ms := by
    subst hA
    obtain ⟨e1, e2⟩ := hsame
    rw [State.setFrames_setFrames] at e1
    have h2 : (T.setVm s.vm).sameButNew ({ U with vm := s.vm } : State) [] (0 + 1) (0 + 6) := ⟨e1, e2⟩
    have h3 := X.same.trans h2
    rw [List.append_nil] at h3
    exact h3.mono hc hs
  refine ⟨U, ?_, .threw T.heap.size, hrun, hend, Or.inr ⟨T.heap.size, rfl, cls, ce, locs, hx U hWs.alike f1 (fun q hq => f2 q hq (fun z hz => nomatch hz)), hce, hO.vm, hcl, hWs, hall, hf⟩⟩
  refine st1 _ ?_
  show Steps p.tables e below (T1.setTop { method := m, pc := pc + 3, locals := ls, stack := .ref T.heap.size :: rest, locked := none }) _
  jvm_step X₁.here [X₁.here.top, hexec, d3', Value.category]
  exact X₁.ldcStringW hexec (own := own) (text := text) (index := is) (a := sa) hown' hstr'.1 hstr'.2
    (g := { method := m, pc := pc + 4, locals := ls, stack := .ref T.heap.size :: .ref T.heap.size :: rest, locked := none }) rfl d4' _ hsteps
end Ends
section Bodies
variable {l : Launch}
theorem vx_ofW {y : MethodName} {ws ws' : List Cond} {rm : Room} {Pc : Array Value → State → Prop} {Qc : Array Value → State → Outcome → State → Prop} {XC : String → State → State → Prop} {mc ms : Nat} {free : Addr → Prop} {cc : ByteArray} {maxL : Nat} {ret : Option FieldType}
    (hy : plainName y.cls = true) (hw : ws = Cond.code y cc maxL ret :: ws')
    (body : ∀ p e s m args below meth c s₁, BodyLoose p l y (headSpec ws rm) cc maxL ret e s m args below meth c s₁ → c.maxLocals = maxL → (∀ x ∈ c.exceptionTable.toList, False) → Pc args s →
      W p l e (headSpec ws rm).room s m args below meth c s.heap [] 0 0 (vx_MQ below Qc XC args s mc ms free) (entryFrame m args maxL)) : vx_Met l y ws rm Pc Qc XC mc ms free := by
  refine MetFree.of_bodyS (code := cc) (maxLocals := maxL) (ret := ret) hy ?_ ?_
  · intro args s m h hn
    obtain ⟨meth, c, h1, h2, h3, h4, h5, h6, -, -⟩ := Cond.code_spec hn (atoms_spec (ws := ws) h _ (by rw [hw]; exact List.mem_cons_self))
    exact ⟨meth, c, h1, h2, h3, h4, h5, h6⟩
  · intro p e s m args below meth c s₁ B hml hP _
    have hh0 : s₁.heap = s.heap := by rw [B.state]; rfl
    have ht : ∀ x ∈ c.exceptionTable.toList, False := by
      obtain ⟨meth9, c9, h1, h2, -, -, -, -, h7, -⟩ := Cond.code_spec B.named (atoms_spec (ws := ws) B.pre _ (by rw [hw]; exact List.mem_cons_self))
      cases Option.some.inj (h1.symm.trans B.method)
      cases Option.some.inj (h2.symm.trans (Stand.of_body B).code)
      intro x hx
      rw [Array.isEmpty_iff.mp h7] at hx
      cases hx
    obtain ⟨t, a1, o, b1, b2, b3⟩ := body p e s m args below meth c s₁ B hml ht hP s₁ hh0 (Stand.of_body B)
    exact ⟨t, o, a1, b1, b2, b3⟩
/-- the table of a body with handlers -/
theorem vx_table {p : Program} {x y : MethodName} {S : Spec} {cc bytes : ByteArray} {maxL maxL' : Nat} {ret ret' : Option FieldType} {e : Env} {s s₁ : State} {m : MethodId} {args : Array Value} {below : List Frame} {meth : Method} {c : Code} {hh : List (Nat × Nat × Nat × Nat)}
    (B : BodyLoose p l y S cc maxL ret e s m args below meth c s₁) (h : (Cond.codeWith y bytes maxL' ret' hh).before args s = true) : c.exceptionTable.toList = tableOf hh := by
  obtain ⟨m9, meth9, c9, hn9, h1, h2, -, -, h6, -⟩ := Cond.codeWith_spec h
  cases Option.some.inj (hn9.symm.trans B.named)
  cases Option.some.inj (h1.symm.trans B.method)
  cases Option.some.inj (h2.symm.trans (Stand.of_body B).code)
  rw [← h6, table_eq]
end Bodies
end VXA
/-! ===== END ===== -/
/-! ===== BEGIN a static call of a method with an exception table ===== -/
section VXS
variable {p : Program} {l : Launch} {e : Env} {R : Room} {s : State} {m : MethodId} {args : Array Value} {below : List Frame} {meth : Method} {c : Code} {T : State} {H : Heap} {locs : List Loc} {cells slots : Nat}
abbrev vx_CSW (R : Room) (s : State) (args : Array Value) (own : String) (index : Nat) (y : MethodName) (bytes : ByteArray) (maxL : Nat) (ret : Option FieldType) (hh : List (Nat × Nat × Nat × Nat)) (ws : List Cond) (rm : Room) (mc ms n : Nat) : Prop :=
  (rm.cells = mc ∧ rm.slots = ms ∧ rm.frames + 1 ≤ R.frames ∧ 8 + (maxL + 11) + rm.locals ≤ R.locals ∧ (∀ w ∈ ws, ∀ (a' : Array Value) (U : State), s.WarmedH U.vm → w.before a' U = true) ∧ Cond.codeWith y bytes maxL ret hh ∈ ws) ∧
  (Cond.codeWith y bytes maxL ret hh).before args s = true ∧ (Cond.initialized y.cls).before args s = true ∧ (y.cls ≠ "java/lang/invoke/MethodHandle" ∧ y.cls ≠ "java/lang/invoke/VarHandle") ∧
  (∀ sig, parseMethodDescriptor y.desc = some sig → n = sig.parameters.length) ∧ (Cond.methodLink own index y).before args s = true ∧ (Cond.static y).before args s = true
theorem vx_cwSW {own : String} {index maxL mc ms : Nat} {y : MethodName} {bytes : ByteArray} {ret : Option FieldType} {hh : List (Nat × Nat × Nat × Nat)} {Ts ws ws' : List Cond} {rm : Room} (n : Nat) (ht : ∀ w ∈ Ts, w.before args s = true) (hT : GoodIn Ts (va_wsS own index y ws)) (hw : ws = Cond.codeWith y bytes maxL ret hh :: ws') (hrc : rm.cells = mc) (hrs : rm.slots = ms)
    (hd : y.cls ≠ "java/lang/invoke/MethodHandle" ∧ y.cls ≠ "java/lang/invoke/VarHandle" ∧ (parseMethodDescriptor y.desc).map (fun d => d.parameters.length) = some n) (hR : rm.frames + 1 ≤ R.frames ∧ 8 + (maxL + 11) + rm.locals ≤ R.locals) :
    vx_CSW R s args own index y bytes maxL ret hh ws rm mc ms n := by
  have ok : ∀ w ∈ va_wsS own index y ws, w.before args s = true := fun w h => ht w (hT w h).1
  have hG : GoodIn Ts ws := fun w h => hT w (by unfold va_wsS; exact List.mem_append_right _ h)
  have hc : Cond.codeWith y bytes maxL ret hh ∈ ws := by rw [hw]; exact List.mem_cons_self
  refine ⟨⟨hrc, hrs, hR.1, hR.2, pay_in ht hG, hc⟩, ht _ (hG _ hc).1, ok _ (by simp [va_wsS]), ⟨hd.1, hd.2.1⟩, fun sig h => ?_, ok _ (by simp [va_wsS]), ok _ (by simp [va_wsS])⟩
  have h2 := hd.2.2
  rw [h] at h2
  exact (Option.some.inj h2).symm
theorem vx_callSW (X : Stand p l e R s m args below meth c T locs cells slots) (hexec : p.tables.exec = Jvm.exec) {own : String} {index : Nat} {y : MethodName} {bytes : ByteArray} {maxL : Nat} {ret : Option FieldType} {hh : List (Nat × Nat × Nat × Nat)}
    (hown : s.vm.findClass own = some m.cls) (hlink : (Cond.methodLink own index y).before args s = true) (hstat : (Cond.static y).before args s = true) (hinit : (Cond.initialized y.cls).before args s = true)
    (hcode : (Cond.codeWith y bytes maxL ret hh).before args s = true) (hy : y.cls ≠ "java/lang/invoke/MethodHandle" ∧ y.cls ≠ "java/lang/invoke/VarHandle")
    {W9 : Nat} {Pre : Pt → Array Value → Prop} {Post : Pt → Array Value → Option Value → Pt → Prop} (hK : Back l R p e below s args y 3 W9 Pre Post)
    {g : JFrame} (hg : g.method = m) (hsize : g.locals.size = c.maxLocals) {argsL rest : List Value} (hlen : ∀ sig, parseMethodDescriptor y.desc = some sig → argsL.length = sig.parameters.length)
    (hstack : g.stack = argsL.reverse ++ rest) (hW : 2 * g.monitorRoom + (rest.map fun v => v.category).sum ≤ W9) (hdg : decode c.code g.pc = .ok (.invokestatic index, 3))
    (hpre : ∀ vm₁, s.WarmedH vm₁ → Pre ⟨T.setVm vm₁, locs, cells, slots⟩ argsL.toArray) :
    ∃ (v : Option Value) (vm₁ : Vm) (B : Pt), s.WarmedH vm₁ ∧ Stand p l e R s m args below meth c B.U B.locs B.cells B.slots ∧ Post ⟨T.setVm vm₁, locs, cells, slots⟩ argsL.toArray v B ∧
      ∀ target, Steps p.tables e below (B.U.setTop { g with pc := g.pc + 3, stack := v.toList ++ rest }) target → Steps p.tables e below (T.setTop g) target := by
  obtain ⟨mk, methM, cM, hnamed, hmethM, -, -, -, -, -, -, hsigM⟩ := Cond.codeWith_spec hcode
  have hstatic : methM.isStatic = true := Cond.static_spec hnamed hmethM hstat
  obtain ⟨kP, hkP, -⟩ := className_of_methodNamed hnamed
  have hinitP : kP.init = .initialized := Cond.initialized_spec (findClass_of_methodNamed hnamed) hkP hinit
  obtain ⟨vm₁, X₁, hstep₁⟩ := X.invokestatic hexec hown hlink hnamed hmethM hstatic hkP hinitP hy (g := g) hg (argsL := argsL) (rest := rest) (hlen _ hsigM) hstack hdg
  obtain ⟨v, B, X', hpost, hsteps⟩ := hK m meth c ⟨T.setVm vm₁, locs, cells, slots⟩ { g with stack := rest } (.invokestatic index) mk argsL.toArray X₁ hg hsize hdg hW (X₁.named hnamed) (hpre vm₁ X₁.warmed)
  exact ⟨v, vm₁, B, X₁.warmed, X', hpost, fun target h => hstep₁ _ fun acts => by rw [doInvoke_state]; exact hsteps.trans h⟩
theorem vx_runSW {y : MethodName} {bytes cc : ByteArray} {maxL nL mc ms n index : Nat} {ret : Option FieldType} {hh : List (Nat × Nat × Nat × Nat)} {ws : List Cond} {rm : Room} {Pc : Array Value → State → Prop} {Qc : Array Value → State → Outcome → State → Prop} {free : Addr → Prop} {Ts : List Cond} {own : String} {As rest : List Value} {g : JFrame}
    (S : CallFix p m c cc nL s args Ts own) (hM : Met l y ws rm Pc Qc mc ms free) (cw : vx_CSW R s args own index y bytes maxL ret hh ws rm mc ms n) (hp : PreS s H Pc As)
    (hg : g.method = m) (hn : As.length = n) (hsize : g.locals.size = nL) (hstack : g.stack = As.reverse ++ rest) (hW : 2 * g.monitorRoom + (rest.map fun v => v.category).sum ≤ 8) (hdg : decode cc g.pc = .ok (.invokestatic index, 3)) (hf : cells + mc ≤ R.cells ∧ slots + ms ≤ R.slots) :
    va_Run p l e R s m args below meth c H locs cells slots mc ms g rest (Qc As.toArray) (free) := by
  obtain ⟨⟨hrc, hrs, hfr, hlo, hws, hcw⟩, hcode, hini, hy, hlen, hl, hstt⟩ := cw
  have hK : Back l R p e below s args y 3 8 (PreOf R mc ms Pc) (PostOf Qc mc ms free) := va_backW (hh := hh) (bytes := bytes) (maxL := maxL) (ret := ret) hM hp.1 hrc hrs hfr hlo hws hcw (fun a' U hW => word_at hW (Or.inl (by first | rfl | simp [Cond.onTables, Cond.keeps, Cond.steady])) hini)
  obtain ⟨hx, hb, hml, ho, -⟩ := S
  intro T hT X
  obtain ⟨v, vm₁, ⟨U', l2, c2, s2⟩, hW₁, X', ⟨g', mk, t, L, e1, e2, hq, h1, hL, h2, h3⟩, st⟩ := vx_callSW X hx (hh := hh) (bytes := bytes) (maxL := maxL) (ret := ret) ho hl hstt hini hcode hy hK hg (hsize.trans hml.symm) (argsL := As) (rest := rest) (fun sig h => hn.trans (hlen sig h)) hstack hW (by rw [hb]; exact hdg)
    (fun vm₁ hW₁ => ⟨hf.1, hf.2, hp.2 (T.setVm vm₁) hT hW₁⟩)
  dsimp only [Pt.U, Pt.locs, Pt.cells, Pt.slots] at X' e1 e2 h1 h2 h3 st
  subst h1; subst h2; subst h3
  exact ⟨v, (T.setVm vm₁).calling g' mk As.toArray, t, U', L, hT, X', hL, e1, e2, hq, st⟩
/-- not caught here, past rows that name other classes: it goes on to the caller -/
theorem vx_outP {p : Program} {l : Launch} {e : Env} {R : Room} {s : State} {m : MethodId} {args : Array Value} {below : List Frame} {meth : Method} {c : Code} {H : Heap} {locs : List Loc} {cells slots : Nat} {free : Addr → Prop} {ls : Array Slot} {rest : List Value} {Qc : Array Value → State → Outcome → State → Prop} {XC : String → State → State → Prop}
    {pc : Nat} {own E : String} {ce : Cell} {q : Addr} {mc ms : Nat} (hown : s.vm.findClass own = some m.cls) (hlocks : meth.locks = false)
    (hpass : ∀ z ∈ c.exceptionTable.toList, covers z pc = false ∨ (z.catchType ≠ 0 ∧ ∃ nm : String, (Cond.classLink own z.catchType nm).before args s = true ∧ va_Nc E nm s)) (hcell : H[q]? = some ce) (hv : ce.vm = .none) (hcl : s.vm.findClass E = some ce.cls)
    (hx : ∀ t : State, t.heap = H → s.vm.Alike t.vm → XC E s t) (hf : ∀ z ∈ locs, free z.base) (hc : cells ≤ mc) (hs : slots ≤ ms) :
    vx_W p l e R s m args below meth c H locs cells slots (vx_MQ below Qc XC args s mc ms free) (F0 m pc ls rest) q := by
  intro T hT X
  have hpl : e.platform.magicAccessors = ({} : Platform).magicAccessors := by rw [X.admits.platform]
  obtain ⟨vm', hW', X', st⟩ := X.outThrough hlocks q (g := F0 m pc ls rest) rfl rfl rfl (cell := ce) (by rw [hT]; exact hcell) (by rw [hv]; rfl)
    (by obtain ⟨k9, h9, -⟩ := Vm.findClass_spec hcl; exact ⟨k9, h9⟩) (fun z hz => by
      rcases hpass z hz with h | ⟨hz0, nm, hl1, hn1⟩
      · exact Or.inl h
      · obtain ⟨c6, hc6, hcl6⟩ := Cond.classLink_spec hown hl1 e.platform hpl
        obtain ⟨a8, b8, h1, h2, h3⟩ := hn1
        cases Option.some.inj (h1.symm.trans hcl)
        cases Option.some.inj (h2.symm.trans hc6)
        exact Or.inr ⟨hz0, _, hcl6, h3⟩)
  obtain ⟨g₀, hfr⟩ := X'.frames_eq
  have hcell9 : ((T.setVm vm').setFrames (.throwing q :: below)).heap[q]? = some ce := by
    show T.heap[q]? = some ce
    rw [hT]; exact hcell
  have hend : Ended ((T.setVm vm').setFrames (.throwing q :: below)) below (.threw q) := State.frames_setFrames _ (State.cur_lt_of_frames hfr)
  refine ⟨(T.setVm vm').setFrames (.throwing q :: below), ?_, .threw q, X'.here.running, hend, Or.inr ⟨q, rfl, E, ce, locs, hx _ hT (X'.ends _).1.alike, hcell9, hv, hcl, (X'.ends _).1, (X'.ends _).2.mono hc hs, hf⟩⟩
  rw [X.pushThrowing_eq]
  exact st
/-- a thing of a world lies in the heap -/
theorem vx_lt {D : va_G} {cl : List vw_C} {ws : va_W} {H1 : Heap} (h : va_P D cl ws H1) {k : Nat} {q : Nat × va_E} (hk : ws[k]? = some q) : q.1 < H1.size := (h k q hk).lt
end VXS
/-! ===== END ===== -/
/-! ===== BEGIN methods with a table of their own: called by a name, returning or throwing ===== -/
section VXH
/-! vx_backW, vx_callVX, vx_callSX, vx_callVW, vx_runVW, vx_runVX, vx_runSX, vx_ofWH follow the same proofs as their sisters above (Free/Laws.lean, Shelf42/LK1.lean); vx_outP calls Shelf42/NT130.lean (outThrough). -/
section
variable {l : Launch} {R : Room} {p : Program} {e : Env} {below : List Frame} {s : State} {sargs : Array Value} {y : MethodName} {len W9 : Nat}
theorem vx_backW {ws : List Cond} {rm : Room} {Pc : Array Value → State → Prop} {Qc : Array Value → State → Outcome → State → Prop} {XC : String → State → State → Prop} {mc ms : Nat} {free : Addr → Prop} {bytes : ByteArray} {maxL : Nat} {ret : Option FieldType} {hh : List (Nat × Nat × Nat × Nat)}
    (hM : vx_Met l y ws rm Pc Qc XC mc ms free) (hblind : FrameBlind Pc) (hrc : rm.cells = mc) (hrs : rm.slots = ms)
    (hframes : rm.frames + 1 ≤ R.frames) (hlocals : W9 + (maxL + 11) + rm.locals ≤ R.locals)
    (hws : ∀ w ∈ ws, ∀ a' U, s.WarmedH U.vm → w.before a' U = true) (hcode : Cond.codeWith y bytes maxL ret hh ∈ ws) (hinit : ∀ a' U, s.WarmedH U.vm → (Cond.initialized y.cls).before a' U = true) :
    vx_Back l R p e below s sargs y len W9 (PreOf R mc ms Pc) (PostOf Qc mc ms free) (vx_Post XC mc ms free) := by
  intro m meth c A g ig mk a X hg hsize hdg hW hn hp
  have h1 : (headSpec ws rm).pre.before a A.U = true := atoms_intro fun w hw => hws w hw _ _ X.warmed
  have h2 : (Cond.codeWith y bytes maxL ret hh).before a A.U = true := hws _ hcode _ _ X.warmed
  have h3 : (Cond.initialized y.cls).before a A.U = true := hinit _ _ X.warmed
  have h4 : A.cells + (headSpec ws rm).room.cells ≤ R.cells := by rw [show (headSpec ws rm).room.cells = mc from hrc]; exact hp.1
  have h5 : A.slots + (headSpec ws rm).room.slots ≤ R.slots := by rw [show (headSpec ws rm).room.slots = ms from hrs]; exact hp.2.1
  have hPc : Pc a (A.U.calling g mk a) := hblind _ _ _ _ hp.2.2
  obtain ⟨U, Ls, c0, s0⟩ := A
  dsimp only [Pt.U, Pt.locs, Pt.cells, Pt.slots] at h1 h2 h3 h4 h5 X hn hPc ⊢
  obtain ⟨m9, methY, cY, hn9, hmY, hcY, -, hlY, -⟩ := Cond.codeWith_spec h2
  cases Option.some.inj (hn9.symm.trans hn)
  obtain ⟨kY, hkY, -⟩ := className_of_methodNamed hn
  have hinitY : kY.init = .initialized := Cond.initialized_spec (findClass_of_methodNamed hn) hkY h3
  have h : At U g.method c below := by rw [hg]; exact X.here
  have hlocals9 : W9 + (maxL + 11) + (headSpec ws rm).room.locals ≤ R.locals := hlocals
  have happ : (headSpec ws rm).appliesLoose y e.platform (U.calling g mk a) = true :=
    Spec.appliesLoose_calling (g := g) h hdg hn hkY hinitY
      (X.room_calling (g := g) (R' := (headSpec ws rm).room) hsize hmY hcY hframes (by rw [hlY]; omega) h4 h5) h1
  obtain ⟨mid, hmid⟩ := h.above
  have hfr : (U.setTop g).frames = (.java g :: mid) ++ below := by rw [State.frames_setTop' g h.top, hmid]; rfl
  obtain ⟨o, s₂, hsteps, -, hend, hq⟩ := Steps.callFree hM p X.admits X.cas X.clock (acts := []) hfr happ hPc trivial
  have hq' : vx_Q Qc XC mc ms free a (U.calling g mk a) o s₂ := hq
  rw [State.frames_setTop' g h.top] at hend
  obtain ⟨g₀, hg0⟩ := Option.isSome_iff_exists.mp h.top
  obtain ⟨r, hr⟩ := State.topJava?_eq_some.mp hg0
  have hr' : (({ U with heap := s₂.heap, slotsUsed := s₂.slotsUsed } : State).setVm s₂.vm).frames = .java g₀ :: r := hr
  rcases hq' with ⟨hqc, L, hfe, hL⟩ | ⟨q, rfl, E, ce, L, hx, hce, hcv, hcl, hW₂, hsm, hL⟩
  · obtain ⟨⟨v, rfl⟩, hW₂, e2, q2, q3, q4, q5, q6⟩ := id hfe
    have e3 : s₂ = ({ (U.calling g mk a).setFrames s₂.frames with heap := s₂.heap, slotsUsed := s₂.slotsUsed } : State).setVm s₂.vm := by
      have : s₂ = ({ s₂ with vm := (U.calling g mk a).vm } : State).setVm s₂.vm := rfl
      rw [e2] at this
      exact this
    obtain ⟨c₂, i₂, len₂, hc₂, hd₂, hf₂⟩ := hend
    have hW' : U.WarmedH s₂.vm := hW₂
    have hcc : c₂ = c := by
      have h1 : s₂.code? g.method = U.code? g.method := by
        rw [State.code?_eq, State.code?_eq, hW'.alike.method?]
      exact Option.some.inj (hc₂.symm.trans (h1.trans h.code))
    subst hcc
    have hlen : len₂ = len := by rw [hdg] at hd₂; cases hd₂; rfl
    subst hlen
    have hs₂ : s₂ = (({ U with heap := s₂.heap, slotsUsed := s₂.slotsUsed } : State).setVm s₂.vm).setTop { g with pc := g.pc + len₂, stack := v.toList ++ g.stack } := by
      refine e3.trans ?_
      rw [hf₂, State.calling_eq h.top, State.setFrames_setFrames, State.setTop_of_frames _ hr', hr]
      rfl
    have hsame : U.sameButNew ({ U with heap := s₂.heap, slotsUsed := s₂.slotsUsed } : State) L mc ms := by
      refine ⟨?_, q2, q3, q4, q5, q6⟩
      obtain ⟨t, ht, -⟩ := State.frames_cons hr
      show ({ U with heap := s₂.heap, slotsUsed := s₂.slotsUsed } : State) = { U.setFrames U.frames with heap := s₂.heap, slotsUsed := s₂.slotsUsed }
      rw [State.setFrames_self ht]
    subst hg
    refine Or.inl ⟨v, ⟨(({ U with heap := s₂.heap, slotsUsed := s₂.slotsUsed } : State).setVm s₂.vm), Ls ++ L, c0 + mc, s0 + ms⟩,
      ⟨X.admits, X.cas, X.clock, X.frames, X.room, X.hears, X.method, X.code, (X.here.setHeapUsed s₂.heap s₂.slotsUsed).setVm hW'.alike, X.tail, State.WarmedH.trans X.warmed hW', X.limits, X.bytes, X.same.trans (hsame.setVm s.vm)⟩,
      ⟨g, mk, s₂, L, rfl, rfl, hqc, rfl, hL, rfl, rfl⟩, ?_⟩
    show Steps p.tables e below _ ((({ U with heap := s₂.heap, slotsUsed := s₂.slotsUsed } : State).setVm s₂.vm).setTop { g with pc := g.pc + len₂, stack := v.toList ++ g.stack })
    rw [← hs₂]
    exact hsteps
  · obtain ⟨e2, q2, q3, q4, q5, q6⟩ := id hsm
    have e3 : s₂ = ({ (U.calling g mk a).setFrames s₂.frames with heap := s₂.heap, slotsUsed := s₂.slotsUsed } : State).setVm s₂.vm := by
      have : s₂ = ({ s₂ with vm := (U.calling g mk a).vm } : State).setVm s₂.vm := rfl
      rw [e2] at this
      exact this
    have hf₂ : s₂.frames = .throwing q :: .java g :: U.frames.tail := hend
    have hW' : U.WarmedH s₂.vm := hW₂
    have hs₂ : s₂ = ((({ U with heap := s₂.heap, slotsUsed := s₂.slotsUsed } : State).setVm s₂.vm).setTop g).pushFrame (.throwing q) := by
      refine e3.trans ?_
      rw [hf₂, State.calling_eq h.top, State.setFrames_setFrames, State.pushFrame, State.frames_setTop _ hr', State.setTop_of_frames _ hr', State.setFrames_setFrames, hr]
      rfl
    have hsame : U.sameButNew ({ U with heap := s₂.heap, slotsUsed := s₂.slotsUsed } : State) L mc ms := by
      refine ⟨?_, q2, q3, q4, q5, q6⟩
      obtain ⟨t, ht, -⟩ := State.frames_cons hr
      show ({ U with heap := s₂.heap, slotsUsed := s₂.slotsUsed } : State) = { U.setFrames U.frames with heap := s₂.heap, slotsUsed := s₂.slotsUsed }
      rw [State.setFrames_self ht]
    subst hg
    refine Or.inr ⟨q, ⟨(({ U with heap := s₂.heap, slotsUsed := s₂.slotsUsed } : State).setVm s₂.vm), Ls ++ L, c0 + mc, s0 + ms⟩,
      ⟨X.admits, X.cas, X.clock, X.frames, X.room, X.hears, X.method, X.code, (X.here.setHeapUsed s₂.heap s₂.slotsUsed).setVm hW'.alike, X.tail, State.WarmedH.trans X.warmed hW', X.limits, X.bytes, X.same.trans (hsame.setVm s.vm)⟩,
      ⟨g, mk, s₂, L, E, ce, rfl, rfl, hx, hce, hcv, hcl, rfl, hL, rfl, rfl⟩, ?_⟩
    show Steps p.tables e below _ (((({ U with heap := s₂.heap, slotsUsed := s₂.slotsUsed } : State).setVm s₂.vm).setTop g).pushFrame (.throwing q))
    rw [← hs₂]
    exact hsteps
end
variable {p : Program} {l : Launch} {e : Env} {R : Room} {s : State} {m : MethodId} {args : Array Value} {below : List Frame} {meth : Method} {c : Code} {T : State} {H : Heap} {locs : List Loc} {cells slots : Nat}
theorem vx_callVX (X : Stand p l e R s m args below meth c T locs cells slots) (hexec : p.tables.exec = Jvm.exec) {own C : String} {index : Nat} {y : MethodName} {bytes : ByteArray} {maxL : Nat} {ret : Option FieldType} {hh : List (Nat × Nat × Nat × Nat)}
    (hown : s.vm.findClass own = some m.cls) (hlink : (Cond.methodLink own index y).before args s = true) (hinst : (Cond.instanceMethod y).before args s = true) (hsel : (Cond.selects C y y).before args s = true)
    (hcode : (Cond.codeWith y bytes maxL ret hh).before args s = true) (hy : y.cls ≠ "java/lang/invoke/MethodHandle" ∧ y.cls ≠ "java/lang/invoke/VarHandle")
    {W9 : Nat} {Pre : Pt → Array Value → Prop} {Post : Pt → Array Value → Option Value → Pt → Prop} {PostX : Pt → Array Value → Addr → Pt → Prop} (hK : vx_Back l R p e below s args y 3 W9 Pre Post PostX)
    {b : Addr} {cellB : Cell} (hcell : T.heap[b]? = some cellB) (hobj : cellB.vm.isStatics = false) (hcls : s.vm.findClass C = some cellB.cls)
    {g : JFrame} (hg : g.method = m) (hsize : g.locals.size = c.maxLocals) {argsL rest : List Value} (hlen : ∀ sig, parseMethodDescriptor y.desc = some sig → argsL.length = sig.parameters.length)
    (hstack : g.stack = argsL.reverse ++ .ref b :: rest) (hW : 2 * g.monitorRoom + (rest.map fun v => v.category).sum ≤ W9) (hdg : decode c.code g.pc = .ok (.invokevirtual index, 3))
    (hpre : ∀ vm₁, s.WarmedH vm₁ → Pre ⟨T.setVm vm₁, locs, cells, slots⟩ (Value.ref b :: argsL).toArray) :
    (∃ (v : Option Value) (vm₁ : Vm) (B : Pt), s.WarmedH vm₁ ∧ Stand p l e R s m args below meth c B.U B.locs B.cells B.slots ∧ Post ⟨T.setVm vm₁, locs, cells, slots⟩ (Value.ref b :: argsL).toArray v B ∧
      ∀ target, Steps p.tables e below (B.U.setTop { g with pc := g.pc + 3, stack := v.toList ++ rest }) target → Steps p.tables e below (T.setTop g) target) ∨
    (∃ (q : Addr) (vm₁ : Vm) (B : Pt), s.WarmedH vm₁ ∧ Stand p l e R s m args below meth c B.U B.locs B.cells B.slots ∧ PostX ⟨T.setVm vm₁, locs, cells, slots⟩ (Value.ref b :: argsL).toArray q B ∧
      Steps p.tables e below (T.setTop g) ((B.U.setTop { g with stack := rest }).pushFrame (.throwing q))) := by
  obtain ⟨mk, methM, hnamed, hmethM, hstM, habM⟩ := Cond.instanceMethod_spec hinst
  obtain ⟨m8, methM', cM, hn8, hmethM', -, -, -, -, -, -, hsigM⟩ := Cond.codeWith_spec hcode
  cases Option.some.inj (hn8.symm.trans hnamed)
  cases hmethM.symm.trans hmethM'
  obtain ⟨c2, r2, m2, q1, q2, q3, q4, kP, hkP, hkPi⟩ := Cond.selects_spec hsel
  cases hcls.symm.trans q1
  cases (State.methodFound?_of_named hnamed hy).symm.trans q2
  cases hnamed.symm.trans q3
  have hselP : selectMethod e.platform s.vm cellB.cls mk = .method mk := by rw [Launch.admits_selectMethod X.admits]; exact q4
  obtain ⟨vm₁, X₁, hstep₁⟩ := X.invokevirtual hexec hown hlink hnamed hmethM hstM hkP hkPi hy (a := b) (cell := cellB) hcell
    (fun z h => by rw [h] at hobj; cases hobj) hselP hmethM habM hkP hkPi (g := g) hg (argsL := argsL) (rest := rest) (hlen _ hsigM) hstack hdg
  rcases hK m meth c ⟨T.setVm vm₁, locs, cells, slots⟩ { g with stack := rest } (.invokevirtual index) mk (Value.ref b :: argsL).toArray X₁ hg hsize hdg hW (X₁.named hnamed) (hpre vm₁ X₁.warmed) with ⟨v, B, X', hpost, hsteps⟩ | ⟨q, B, X', hpost, hsteps⟩
  · exact Or.inl ⟨v, vm₁, B, X₁.warmed, X', hpost, fun target h => hstep₁ _ fun acts => by rw [doInvoke_state]; exact hsteps.trans h⟩
  · exact Or.inr ⟨q, vm₁, B, X₁.warmed, X', hpost, hstep₁ _ fun acts => by rw [doInvoke_state]; exact hsteps⟩
theorem vx_callSX (X : Stand p l e R s m args below meth c T locs cells slots) (hexec : p.tables.exec = Jvm.exec) {own : String} {index : Nat} {y : MethodName} {bytes : ByteArray} {maxL : Nat} {ret : Option FieldType} {hh : List (Nat × Nat × Nat × Nat)}
    (hown : s.vm.findClass own = some m.cls) (hlink : (Cond.methodLink own index y).before args s = true) (hstat : (Cond.static y).before args s = true) (hinit : (Cond.initialized y.cls).before args s = true)
    (hcode : (Cond.codeWith y bytes maxL ret hh).before args s = true) (hy : y.cls ≠ "java/lang/invoke/MethodHandle" ∧ y.cls ≠ "java/lang/invoke/VarHandle")
    {W9 : Nat} {Pre : Pt → Array Value → Prop} {Post : Pt → Array Value → Option Value → Pt → Prop} {PostX : Pt → Array Value → Addr → Pt → Prop} (hK : vx_Back l R p e below s args y 3 W9 Pre Post PostX)
    {g : JFrame} (hg : g.method = m) (hsize : g.locals.size = c.maxLocals) {argsL rest : List Value} (hlen : ∀ sig, parseMethodDescriptor y.desc = some sig → argsL.length = sig.parameters.length)
    (hstack : g.stack = argsL.reverse ++ rest) (hW : 2 * g.monitorRoom + (rest.map fun v => v.category).sum ≤ W9) (hdg : decode c.code g.pc = .ok (.invokestatic index, 3))
    (hpre : ∀ vm₁, s.WarmedH vm₁ → Pre ⟨T.setVm vm₁, locs, cells, slots⟩ argsL.toArray) :
    (∃ (v : Option Value) (vm₁ : Vm) (B : Pt), s.WarmedH vm₁ ∧ Stand p l e R s m args below meth c B.U B.locs B.cells B.slots ∧ Post ⟨T.setVm vm₁, locs, cells, slots⟩ argsL.toArray v B ∧
      ∀ target, Steps p.tables e below (B.U.setTop { g with pc := g.pc + 3, stack := v.toList ++ rest }) target → Steps p.tables e below (T.setTop g) target) ∨
    (∃ (q : Addr) (vm₁ : Vm) (B : Pt), s.WarmedH vm₁ ∧ Stand p l e R s m args below meth c B.U B.locs B.cells B.slots ∧ PostX ⟨T.setVm vm₁, locs, cells, slots⟩ argsL.toArray q B ∧
      Steps p.tables e below (T.setTop g) ((B.U.setTop { g with stack := rest }).pushFrame (.throwing q))) := by
  obtain ⟨mk, methM, cM, hnamed, hmethM, -, -, -, -, -, -, hsigM⟩ := Cond.codeWith_spec hcode
  have hstatic : methM.isStatic = true := Cond.static_spec hnamed hmethM hstat
  obtain ⟨kP, hkP, -⟩ := className_of_methodNamed hnamed
  have hinitP : kP.init = .initialized := Cond.initialized_spec (findClass_of_methodNamed hnamed) hkP hinit
  obtain ⟨vm₁, X₁, hstep₁⟩ := X.invokestatic hexec hown hlink hnamed hmethM hstatic hkP hinitP hy (g := g) hg (argsL := argsL) (rest := rest) (hlen _ hsigM) hstack hdg
  rcases hK m meth c ⟨T.setVm vm₁, locs, cells, slots⟩ { g with stack := rest } (.invokestatic index) mk argsL.toArray X₁ hg hsize hdg hW (X₁.named hnamed) (hpre vm₁ X₁.warmed) with ⟨v, B, X', hpost, hsteps⟩ | ⟨q, B, X', hpost, hsteps⟩
  · exact Or.inl ⟨v, vm₁, B, X₁.warmed, X', hpost, fun target h => hstep₁ _ fun acts => by rw [doInvoke_state]; exact hsteps.trans h⟩
  · exact Or.inr ⟨q, vm₁, B, X₁.warmed, X', hpost, hstep₁ _ fun acts => by rw [doInvoke_state]; exact hsteps⟩
theorem vx_callVW (X : Stand p l e R s m args below meth c T locs cells slots) (hexec : p.tables.exec = Jvm.exec) {own C : String} {index : Nat} {y : MethodName} {bytes : ByteArray} {maxL : Nat} {ret : Option FieldType} {hh : List (Nat × Nat × Nat × Nat)}
    (hown : s.vm.findClass own = some m.cls) (hlink : (Cond.methodLink own index y).before args s = true) (hinst : (Cond.instanceMethod y).before args s = true) (hsel : (Cond.selects C y y).before args s = true)
    (hcode : (Cond.codeWith y bytes maxL ret hh).before args s = true) (hy : y.cls ≠ "java/lang/invoke/MethodHandle" ∧ y.cls ≠ "java/lang/invoke/VarHandle")
    {W9 : Nat} {Pre : Pt → Array Value → Prop} {Post : Pt → Array Value → Option Value → Pt → Prop} (hK : Back l R p e below s args y 3 W9 Pre Post)
    {b : Addr} {cellB : Cell} (hcell : T.heap[b]? = some cellB) (hobj : cellB.vm.isStatics = false) (hcls : s.vm.findClass C = some cellB.cls)
    {g : JFrame} (hg : g.method = m) (hsize : g.locals.size = c.maxLocals) {argsL rest : List Value} (hlen : ∀ sig, parseMethodDescriptor y.desc = some sig → argsL.length = sig.parameters.length)
    (hstack : g.stack = argsL.reverse ++ .ref b :: rest) (hW : 2 * g.monitorRoom + (rest.map fun v => v.category).sum ≤ W9) (hdg : decode c.code g.pc = .ok (.invokevirtual index, 3))
    (hpre : ∀ vm₁, s.WarmedH vm₁ → Pre ⟨T.setVm vm₁, locs, cells, slots⟩ (Value.ref b :: argsL).toArray) :
    ∃ (v : Option Value) (vm₁ : Vm) (B : Pt), s.WarmedH vm₁ ∧ Stand p l e R s m args below meth c B.U B.locs B.cells B.slots ∧ Post ⟨T.setVm vm₁, locs, cells, slots⟩ (Value.ref b :: argsL).toArray v B ∧
      ∀ target, Steps p.tables e below (B.U.setTop { g with pc := g.pc + 3, stack := v.toList ++ rest }) target → Steps p.tables e below (T.setTop g) target := by
  obtain ⟨mk, methM, hnamed, hmethM, hstM, habM⟩ := Cond.instanceMethod_spec hinst
  obtain ⟨m8, methM', cM, hn8, hmethM', -, -, -, -, -, -, hsigM⟩ := Cond.codeWith_spec hcode
  cases Option.some.inj (hn8.symm.trans hnamed)
  cases hmethM.symm.trans hmethM'
  obtain ⟨c2, r2, m2, q1, q2, q3, q4, kP, hkP, hkPi⟩ := Cond.selects_spec hsel
  cases hcls.symm.trans q1
  cases (State.methodFound?_of_named hnamed hy).symm.trans q2
  cases hnamed.symm.trans q3
  have hselP : selectMethod e.platform s.vm cellB.cls mk = .method mk := by rw [Launch.admits_selectMethod X.admits]; exact q4
  obtain ⟨vm₁, X₁, hstep₁⟩ := X.invokevirtual hexec hown hlink hnamed hmethM hstM hkP hkPi hy (a := b) (cell := cellB) hcell
    (fun z h => by rw [h] at hobj; cases hobj) hselP hmethM habM hkP hkPi (g := g) hg (argsL := argsL) (rest := rest) (hlen _ hsigM) hstack hdg
  obtain ⟨v, B, X', hpost, hsteps⟩ := hK m meth c ⟨T.setVm vm₁, locs, cells, slots⟩ { g with stack := rest } (.invokevirtual index) mk (Value.ref b :: argsL).toArray X₁ hg hsize hdg hW (X₁.named hnamed) (hpre vm₁ X₁.warmed)
  exact ⟨v, vm₁, B, X₁.warmed, X', hpost, fun target h => hstep₁ _ fun acts => by rw [doInvoke_state]; exact hsteps.trans h⟩
abbrev vx_CVW (R : Room) (s : State) (args : Array Value) (own C : String) (index : Nat) (y : MethodName) (bytes : ByteArray) (maxL : Nat) (ret : Option FieldType) (hh : List (Nat × Nat × Nat × Nat)) (ws : List Cond) (rm : Room) (mc ms n : Nat) : Prop :=
  (rm.cells = mc ∧ rm.slots = ms ∧ rm.frames + 1 ≤ R.frames ∧ 8 + (maxL + 11) + rm.locals ≤ R.locals ∧ (∀ w ∈ ws, ∀ (a' : Array Value) (U : State), s.WarmedH U.vm → w.before a' U = true) ∧ Cond.codeWith y bytes maxL ret hh ∈ ws) ∧
  (Cond.codeWith y bytes maxL ret hh).before args s = true ∧ (Cond.initialized y.cls).before args s = true ∧ (y.cls ≠ "java/lang/invoke/MethodHandle" ∧ y.cls ≠ "java/lang/invoke/VarHandle") ∧
  (∀ sig, parseMethodDescriptor y.desc = some sig → n = sig.parameters.length) ∧ (Cond.methodLink own index y).before args s = true ∧ (Cond.instanceMethod y).before args s = true ∧ (Cond.selects C y y).before args s = true
theorem vx_cwVW {own C : String} {index maxL mc ms : Nat} {y : MethodName} {bytes : ByteArray} {ret : Option FieldType} {hh : List (Nat × Nat × Nat × Nat)} {Ts ws ws' : List Cond} {rm : Room} (n : Nat) (ht : ∀ w ∈ Ts, w.before args s = true) (hT : GoodIn Ts (wsV own index C y ws)) (hw : ws = Cond.codeWith y bytes maxL ret hh :: ws') (hrc : rm.cells = mc) (hrs : rm.slots = ms)
    (hd : y.cls = C ∧ y.cls ≠ "java/lang/invoke/MethodHandle" ∧ y.cls ≠ "java/lang/invoke/VarHandle" ∧ (parseMethodDescriptor y.desc).map (fun d => d.parameters.length) = some n) (hR : rm.frames + 1 ≤ R.frames ∧ 8 + (maxL + 11) + rm.locals ≤ R.locals) :
    vx_CVW R s args own C index y bytes maxL ret hh ws rm mc ms n := by
  obtain ⟨hC, hd⟩ := hd
  subst hC
  have ok : ∀ w ∈ wsV own index y.cls y ws, w.before args s = true := fun w h => ht w (hT w h).1
  have hG : GoodIn Ts ws := fun w h => hT w (by unfold wsV; exact List.mem_append_right _ h)
  have hc : Cond.codeWith y bytes maxL ret hh ∈ ws := by rw [hw]; exact List.mem_cons_self
  refine ⟨⟨hrc, hrs, hR.1, hR.2, pay_in ht hG, hc⟩, ht _ (hG _ hc).1, ok _ (by simp [wsV]), ⟨hd.1, hd.2.1⟩, fun sig h => ?_, ok _ (by simp [wsV]), ok _ (by simp [wsV]), ok _ (by simp [wsV])⟩
  have h2 := hd.2.2
  rw [h] at h2
  exact (Option.some.inj h2).symm
theorem vx_runVW {y : MethodName} {bytes cc : ByteArray} {maxL nL mc ms n index : Nat} {ret : Option FieldType} {hh : List (Nat × Nat × Nat × Nat)} {ws : List Cond} {rm : Room} {Pc : Array Value → State → Prop} {Qc : Array Value → State → Outcome → State → Prop} {free : Addr → Prop} {Ts : List Cond} {own C : String} {b : Addr} {As rest : List Value} {g : JFrame}
    (S : CallFix p m c cc nL s args Ts own) (hM : Met l y ws rm Pc Qc mc ms free) (cw : vx_CVW R s args own C index y bytes maxL ret hh ws rm mc ms n) (hp : PreV s H C b Pc As)
    (hg : g.method = m) (hn : As.length = n) (hsize : g.locals.size = nL) (hstack : g.stack = As.reverse ++ .ref b :: rest) (hW : 2 * g.monitorRoom + (rest.map fun v => v.category).sum ≤ 8) (hdg : decode cc g.pc = .ok (.invokevirtual index, 3)) (hf : cells + mc ≤ R.cells ∧ slots + ms ≤ R.slots) :
    va_Run p l e R s m args below meth c H locs cells slots mc ms g rest (Qc (Value.ref b :: As).toArray) free := by
  obtain ⟨⟨hrc, hrs, hfr, hlo, hws, hcw⟩, hcode, hini, hy, hlen, hl, hin, hse⟩ := cw
  have hK : Back l R p e below s args y 3 8 (PreOf R mc ms Pc) (PostOf Qc mc ms free) := va_backW (hh := hh) (bytes := bytes) (maxL := maxL) (ret := ret) hM hp.1 hrc hrs hfr hlo hws hcw (fun a' U hW => word_at hW (Or.inl (by first | rfl | simp [Cond.onTables, Cond.keeps, Cond.steady])) hini)
  obtain ⟨hx, hb, hml, ho, -⟩ := S
  obtain ⟨-, ⟨cellB, hcB, hoB, hclB⟩, hPc⟩ := hp
  intro T hT X
  obtain ⟨v, vm₁, ⟨U', l2, c2, s2⟩, hW₁, X', ⟨g', mk, t, L, e1, e2, hq, h1, hL, h2, h3⟩, st⟩ := vx_callVW X hx (C := C) (hh := hh) (bytes := bytes) (maxL := maxL) (ret := ret) ho hl hin hse hcode hy hK (by rw [hT]; exact hcB) hoB hclB hg (hsize.trans hml.symm) (argsL := As) (rest := rest) (fun sig h => hn.trans (hlen sig h)) hstack hW (by rw [hb]; exact hdg)
    (fun vm₁ hW₁ => ⟨hf.1, hf.2, hPc (T.setVm vm₁) hT hW₁⟩)
  dsimp only [Pt.U, Pt.locs, Pt.cells, Pt.slots] at X' e1 e2 h1 h2 h3 st
  subst h1; subst h2; subst h3
  exact ⟨v, (T.setVm vm₁).calling g' mk (Value.ref b :: As).toArray, t, U', L, hT, X', hL, e1, e2, hq, st⟩
section
variable {y : MethodName} {bytes cc : ByteArray} {maxL nL mc ms n index : Nat} {ret : Option FieldType} {ws : List Cond} {rm : Room} {Pc : Array Value → State → Prop} {Qc : Array Value → State → Outcome → State → Prop} {XC : String → State → State → Prop} {free : Addr → Prop} {Ts : List Cond} {own C : String} {b : Addr} {As rest : List Value} {g : JFrame}
theorem vx_runVX {hh : List (Nat × Nat × Nat × Nat)} (S : CallFix p m c cc nL s args Ts own) (hM : vx_Met l y ws rm Pc Qc XC mc ms free) (cw : vx_CVW R s args own C index y bytes maxL ret hh ws rm mc ms n) (hp : PreV s H C b Pc As)
    (hg : g.method = m) (hn : As.length = n) (hsize : g.locals.size = nL) (hstack : g.stack = As.reverse ++ .ref b :: rest) (hW : 2 * g.monitorRoom + (rest.map fun v => v.category).sum ≤ 8) (hdg : decode cc g.pc = .ok (.invokevirtual index, 3)) (hf : cells + mc ≤ R.cells ∧ slots + ms ≤ R.slots) :
    vx_Run p l e R s m args below meth c H locs cells slots mc ms g rest (Qc (Value.ref b :: As).toArray) XC free := by
  obtain ⟨⟨hrc, hrs, hfr, hlo, hws, hcw⟩, hcode, hini, hy, hlen, hl, hin, hse⟩ := cw
  have hK : vx_Back l R p e below s args y 3 8 (PreOf R mc ms Pc) (PostOf Qc mc ms free) (vx_Post XC mc ms free) := vx_backW (hh := hh) (bytes := bytes) (maxL := maxL) (ret := ret) hM hp.1 hrc hrs hfr hlo hws hcw (fun a' U hW => word_at hW (Or.inl (by first | rfl | simp [Cond.onTables, Cond.keeps, Cond.steady])) hini)
  obtain ⟨hx, hb, hml, ho, -⟩ := S
  obtain ⟨-, ⟨cellB, hcB, hoB, hclB⟩, hPc⟩ := hp
  intro T hT X
  rcases vx_callVX X hx (C := C) (hh := hh) (bytes := bytes) (maxL := maxL) (ret := ret) ho hl hin hse hcode hy hK (by rw [hT]; exact hcB) hoB hclB hg (hsize.trans hml.symm) (argsL := As) (rest := rest) (fun sig h => hn.trans (hlen sig h)) hstack hW (by rw [hb]; exact hdg)
    (fun vm₁ hW₁ => ⟨hf.1, hf.2, hPc (T.setVm vm₁) hT hW₁⟩) with ⟨v, vm₁, ⟨U', l2, c2, s2⟩, hW₁, X', ⟨g', mk, t, L, e1, e2, hq, h1, hL, h2, h3⟩, st⟩ | ⟨q, vm₁, ⟨U', l2, c2, s2⟩, hW₁, X', ⟨g', mk, t, L, E, ce, e1, e2, hq, hce, hcv, hcl, h1, hL, h2, h3⟩, st⟩
  · dsimp only [Pt.U, Pt.locs, Pt.cells, Pt.slots] at X' e1 e2 h1 h2 h3 st
    subst h1; subst h2; subst h3
    exact Or.inl ⟨v, (T.setVm vm₁).calling g' mk (Value.ref b :: As).toArray, t, U', L, hT, X', hL, e1, e2, hq, st⟩
  · dsimp only [Pt.U, Pt.locs, Pt.cells, Pt.slots] at X' e1 e2 h1 h2 h3 st hcl
    subst h1; subst h2; subst h3
    exact Or.inr ⟨q, (T.setVm vm₁).calling g' mk (Value.ref b :: As).toArray, t, U', L, E, ce, hT, X', hL, e1, e2, hq, hce, hcv, vx_cls hW₁ hcl, st⟩
theorem vx_runSX {hh : List (Nat × Nat × Nat × Nat)} (S : CallFix p m c cc nL s args Ts own) (hM : vx_Met l y ws rm Pc Qc XC mc ms free) (cw : vx_CSW R s args own index y bytes maxL ret hh ws rm mc ms n) (hp : PreS s H Pc As)
    (hg : g.method = m) (hn : As.length = n) (hsize : g.locals.size = nL) (hstack : g.stack = As.reverse ++ rest) (hW : 2 * g.monitorRoom + (rest.map fun v => v.category).sum ≤ 8) (hdg : decode cc g.pc = .ok (.invokestatic index, 3)) (hf : cells + mc ≤ R.cells ∧ slots + ms ≤ R.slots) :
    vx_Run p l e R s m args below meth c H locs cells slots mc ms g rest (Qc As.toArray) XC free := by
  obtain ⟨⟨hrc, hrs, hfr, hlo, hws, hcw⟩, hcode, hini, hy, hlen, hl, hstt⟩ := cw
  have hK : vx_Back l R p e below s args y 3 8 (PreOf R mc ms Pc) (PostOf Qc mc ms free) (vx_Post XC mc ms free) := vx_backW (hh := hh) (bytes := bytes) (maxL := maxL) (ret := ret) hM hp.1 hrc hrs hfr hlo hws hcw (fun a' U hW => word_at hW (Or.inl (by first | rfl | simp [Cond.onTables, Cond.keeps, Cond.steady])) hini)
  obtain ⟨hx, hb, hml, ho, -⟩ := S
  intro T hT X
  rcases vx_callSX X hx (hh := hh) (bytes := bytes) (maxL := maxL) (ret := ret) ho hl hstt hini hcode hy hK hg (hsize.trans hml.symm) (argsL := As) (rest := rest) (fun sig h => hn.trans (hlen sig h)) hstack hW (by rw [hb]; exact hdg)
    (fun vm₁ hW₁ => ⟨hf.1, hf.2, hp.2 (T.setVm vm₁) hT hW₁⟩) with ⟨v, vm₁, ⟨U', l2, c2, s2⟩, hW₁, X', ⟨g', mk, t, L, e1, e2, hq, h1, hL, h2, h3⟩, st⟩ | ⟨q, vm₁, ⟨U', l2, c2, s2⟩, hW₁, X', ⟨g', mk, t, L, E, ce, e1, e2, hq, hce, hcv, hcl, h1, hL, h2, h3⟩, st⟩
  · dsimp only [Pt.U, Pt.locs, Pt.cells, Pt.slots] at X' e1 e2 h1 h2 h3 st
    subst h1; subst h2; subst h3
    exact Or.inl ⟨v, (T.setVm vm₁).calling g' mk As.toArray, t, U', L, hT, X', hL, e1, e2, hq, st⟩
  · dsimp only [Pt.U, Pt.locs, Pt.cells, Pt.slots] at X' e1 e2 h1 h2 h3 st hcl
    subst h1; subst h2; subst h3
    exact Or.inr ⟨q, (T.setVm vm₁).calling g' mk As.toArray, t, U', L, E, ce, hT, X', hL, e1, e2, hq, hce, hcv, vx_cls hW₁ hcl, st⟩
end
end VXH
theorem vx_ofWH {l : Launch} {y : MethodName} {ws ws' : List Cond} {rm : Room} {Pc : Array Value → State → Prop} {Qc : Array Value → State → Outcome → State → Prop} {XC : String → State → State → Prop} {mc ms : Nat} {free : Addr → Prop} {cc : ByteArray} {maxL : Nat} {ret : Option FieldType} {hh : List (Nat × Nat × Nat × Nat)}
    (hy : plainName y.cls = true) (hw : ws = Cond.codeWith y cc maxL ret hh :: ws')
    (body : ∀ p e s m args below meth c s₁, BodyLoose p l y (headSpec ws rm) cc maxL ret e s m args below meth c s₁ → c.maxLocals = maxL → Pc args s →
      W p l e (headSpec ws rm).room s m args below meth c s.heap [] 0 0 (vx_MQ below Qc XC args s mc ms free) (entryFrame m args maxL)) : vx_Met l y ws rm Pc Qc XC mc ms free := by
  refine MetFree.of_bodyS (code := cc) (maxLocals := maxL) (ret := ret) hy ?_ ?_
  · intro args s m h hn
    obtain ⟨m9, meth, c, hn9, h1, h2, h3, h4, -, h5, h6, -⟩ := Cond.codeWith_spec (atoms_spec (ws := ws) h _ (by rw [hw]; exact List.mem_cons_self))
    cases hn.symm.trans hn9
    exact ⟨meth, c, h1, h2, h3, h4, h5, h6⟩
  · intro p e s m args below meth c s₁ B hml hP _
    have hh0 : s₁.heap = s.heap := by rw [B.state]; rfl
    obtain ⟨t, a1, o, b1, b2, b3⟩ := body p e s m args below meth c s₁ B hml hP s₁ hh0 (Stand.of_body B)
    exact ⟨t, o, a1, b1, b2, b3⟩
/-! ===== END ===== -/

/-! ===== BEGIN a constructor that throws (launches without stack traces) ===== -/
section VXIA
variable {p : Program} {l : Launch} {e : Env} {R : Room} {s : State} {m : MethodId} {args : Array Value} {below : List Frame} {meth : Method} {c : Code} {T : State} {locs : List Loc} {cells slots : Nat}
theorem vx_callI (X : Stand p l e R s m args below meth c T locs cells slots) (hexec : p.tables.exec = Jvm.exec) {own : String} {index : Nat} {y : MethodName} {bytes : ByteArray} {maxL : Nat}
    (hown : s.vm.findClass own = some m.cls) (hy1 : y.name = "<init>") (hlink : (Cond.methodLink own index y).before args s = true) (hinst : (Cond.instanceMethod y).before args s = true)
    (hcode : (Cond.code y bytes maxL none).before args s = true) (hy : y.cls ≠ "java/lang/invoke/MethodHandle" ∧ y.cls ≠ "java/lang/invoke/VarHandle")
    {W9 : Nat} {Pre : Pt → Array Value → Prop} {Post : Pt → Array Value → Option Value → Pt → Prop} {PostX : Pt → Array Value → Addr → Pt → Prop} (hK : vx_Back l R p e below s args y 3 W9 Pre Post PostX)
    {g : JFrame} (hg : g.method = m) (hsize : g.locals.size = c.maxLocals) {a : Addr} {argsL rest : List Value} (hlen : ∀ sig, parseMethodDescriptor y.desc = some sig → argsL.length = sig.parameters.length)
    (hstack : g.stack = argsL.reverse ++ .ref a :: rest) (hW : 2 * g.monitorRoom + (rest.map fun v => v.category).sum ≤ W9) (hdg : decode c.code g.pc = .ok (.invokespecial index, 3))
    (hpre : ∀ vm₁, s.WarmedH vm₁ → Pre ⟨T.setVm vm₁, locs, cells, slots⟩ (Value.ref a :: argsL).toArray) :
    (∃ (v : Option Value) (vm₁ : Vm) (B : Pt), s.WarmedH vm₁ ∧ Stand p l e R s m args below meth c B.U B.locs B.cells B.slots ∧ Post ⟨T.setVm vm₁, locs, cells, slots⟩ (Value.ref a :: argsL).toArray v B ∧
      ∀ target, Steps p.tables e below (B.U.setTop { g with pc := g.pc + 3, stack := v.toList ++ rest }) target → Steps p.tables e below (T.setTop g) target) ∨
    (∃ (q : Addr) (vm₁ : Vm) (B : Pt), s.WarmedH vm₁ ∧ Stand p l e R s m args below meth c B.U B.locs B.cells B.slots ∧ PostX ⟨T.setVm vm₁, locs, cells, slots⟩ (Value.ref a :: argsL).toArray q B ∧
      Steps p.tables e below (T.setTop g) ((B.U.setTop { g with stack := rest }).pushFrame (.throwing q))) := by
  subst hg
  have hpl : e.platform.magicAccessors = ({} : Platform).magicAccessors := by rw [X.admits.platform]
  obtain ⟨mk, methM, cM, kP, vm₁, hnamed, hmethM, hcodeM, -, hlocalsM, -, hkP, -, hW₁, hstep₁⟩ := Steps.initColdArgs (e := e) X.here hexec X.warmed hpl hown hy1 hy hlink hinst hcode (f := g) rfl hlen hstack hdg
  have X₁ := X.noted hW₁
  rcases hK g.method meth c ⟨T.setVm vm₁, locs, cells, slots⟩ { g with stack := rest } (.invokespecial index) mk (Value.ref a :: argsL).toArray X₁ rfl hsize hdg hW (X₁.named hnamed) (hpre vm₁ X₁.warmed) with ⟨v, B, X', hpost, hsteps⟩ | ⟨q, B, X', hpost, hsteps⟩
  · exact Or.inl ⟨v, vm₁, B, X₁.warmed, X', hpost, fun target h => hstep₁ _ fun acts => by rw [doInvoke_state]; exact hsteps.trans h⟩
  · exact Or.inr ⟨q, vm₁, B, X₁.warmed, X', hpost, hstep₁ _ fun acts => by rw [doInvoke_state]; exact hsteps⟩
end VXIA
section VXIB
variable {p : Program} {l : Launch} {e : Env} {R : Room} {s : State} {m : MethodId} {args : Array Value} {below : List Frame} {meth : Method} {c : Code} {H : Heap} {locs : List Loc} {cells slots : Nat}
variable {y : MethodName} {bytes cc : ByteArray} {maxL nL mc ms n index : Nat} {ret : Option FieldType} {ws : List Cond} {rm : Room} {Pc : Array Value → State → Prop} {Qc : Array Value → State → Outcome → State → Prop} {XC : String → State → State → Prop} {free : Addr → Prop} {Ts : List Cond} {own C : String} {b : Addr} {As rest : List Value} {g : JFrame}
theorem vx_runI (S : CallFix p m c cc nL s args Ts own) (hM : vx_Met l y ws rm Pc Qc XC mc ms free) (cw : CallB R s args own index y bytes maxL none ws rm mc ms n ∧ y.name = "<init>" ∧ (Cond.instanceMethod y).before args s = true) (hp : PreS s H Pc (.ref b :: As))
    (hg : g.method = m) (hn : As.length = n) (hsize : g.locals.size = nL) (hstack : g.stack = As.reverse ++ .ref b :: rest) (hW : 2 * g.monitorRoom + (rest.map fun v => v.category).sum ≤ 8) (hdg : decode cc g.pc = .ok (.invokespecial index, 3)) (hf : cells + mc ≤ R.cells ∧ slots + ms ≤ R.slots) :
    vx_Run p l e R s m args below meth c H locs cells slots mc ms g rest (Qc (Value.ref b :: As).toArray) XC free := by
  have hK : vx_Back l R p e below s args y 3 8 (PreOf R mc ms Pc) (PostOf Qc mc ms free) (vx_Post XC mc ms free) := vx_callBack cw.1 hM hp.1
  obtain ⟨⟨-, -, -, -, -, -, hcode, -, hy, hlen, hl⟩, hy1, hin⟩ := cw
  obtain ⟨hx, hb, hml, ho, -⟩ := S
  have hPc := hp.2
  intro T hT X
  rcases vx_callI X hx (bytes := bytes) (maxL := maxL) ho hy1 hl hin hcode hy hK hg (hsize.trans hml.symm) (a := b) (argsL := As) (rest := rest) (fun sig h => hn.trans (hlen sig h)) hstack hW (by rw [hb]; exact hdg)
    (fun vm₁ hW₁ => ⟨hf.1, hf.2, hPc (T.setVm vm₁) hT hW₁⟩) with ⟨v, vm₁, ⟨U', l2, c2, s2⟩, hW₁, X', ⟨g', mk, t, L, e1, e2, hq, h1, hL, h2, h3⟩, st⟩ | ⟨q, vm₁, ⟨U', l2, c2, s2⟩, hW₁, X', ⟨g', mk, t, L, E, ce, e1, e2, hq, hce, hcv, hcl, h1, hL, h2, h3⟩, st⟩
  · dsimp only [Pt.U, Pt.locs, Pt.cells, Pt.slots] at X' e1 e2 h1 h2 h3 st
    subst h1; subst h2; subst h3
    exact Or.inl ⟨v, (T.setVm vm₁).calling g' mk (Value.ref b :: As).toArray, t, U', L, hT, X', hL, e1, e2, hq, st⟩
  · dsimp only [Pt.U, Pt.locs, Pt.cells, Pt.slots] at X' e1 e2 h1 h2 h3 st hcl
    subst h1; subst h2; subst h3
    exact Or.inr ⟨q, (T.setVm vm₁).calling g' mk (Value.ref b :: As).toArray, t, U', L, E, ce, hT, X', hL, e1, e2, hq, hce, hcv, vx_cls hW₁ hcl, st⟩
end VXIB
/-! ===== END ===== -/
/-! ===== BEGIN a private constructor of a nest mate that throws ===== -/
section VXIC
variable {p : Program} {l : Launch} {e : Env} {R : Room} {s : State} {m : MethodId} {args : Array Value} {below : List Frame} {meth : Method} {c : Code} {T : State} {locs : List Loc} {cells slots : Nat}
theorem vx_callIN (X : Stand p l e R s m args below meth c T locs cells slots) (hexec : p.tables.exec = Jvm.exec) {own : String} {index : Nat} {host : String} {y : MethodName} {bytes : ByteArray} {maxL : Nat}
    (hown : s.vm.findClass own = some m.cls) (hy1 : y.name = "<init>") (hlink : (Cond.methodLinkNest own index y host).before args s = true) (hinst : (Cond.instanceMethod y).before args s = true)
    (hcode : (Cond.code y bytes maxL none).before args s = true) (hy : y.cls ≠ "java/lang/invoke/MethodHandle" ∧ y.cls ≠ "java/lang/invoke/VarHandle")
    {W9 : Nat} {Pre : Pt → Array Value → Prop} {Post : Pt → Array Value → Option Value → Pt → Prop} {PostX : Pt → Array Value → Addr → Pt → Prop} (hK : vx_Back l R p e below s args y 3 W9 Pre Post PostX)
    {g : JFrame} (hg : g.method = m) (hsize : g.locals.size = c.maxLocals) {a : Addr} {argsL rest : List Value} (hlen : ∀ sig, parseMethodDescriptor y.desc = some sig → argsL.length = sig.parameters.length)
    (hstack : g.stack = argsL.reverse ++ .ref a :: rest) (hW : 2 * g.monitorRoom + (rest.map fun v => v.category).sum ≤ W9) (hdg : decode c.code g.pc = .ok (.invokespecial index, 3))
    (hpre : ∀ vm₁, s.WarmedH vm₁ → Pre ⟨T.setVm vm₁, locs, cells, slots⟩ (Value.ref a :: argsL).toArray) :
    (∃ (v : Option Value) (vm₁ : Vm) (B : Pt), s.WarmedH vm₁ ∧ Stand p l e R s m args below meth c B.U B.locs B.cells B.slots ∧ Post ⟨T.setVm vm₁, locs, cells, slots⟩ (Value.ref a :: argsL).toArray v B ∧
      ∀ target, Steps p.tables e below (B.U.setTop { g with pc := g.pc + 3, stack := v.toList ++ rest }) target → Steps p.tables e below (T.setTop g) target) ∨
    (∃ (q : Addr) (vm₁ : Vm) (B : Pt), s.WarmedH vm₁ ∧ Stand p l e R s m args below meth c B.U B.locs B.cells B.slots ∧ PostX ⟨T.setVm vm₁, locs, cells, slots⟩ (Value.ref a :: argsL).toArray q B ∧
      Steps p.tables e below (T.setTop g) ((B.U.setTop { g with stack := rest }).pushFrame (.throwing q))) := by
  subst hg
  have hpl : e.platform.magicAccessors = ({} : Platform).magicAccessors := by rw [X.admits.platform]
  obtain ⟨mk, methM, cM, kP, vm₁, hnamed, hmethM, hcodeM, -, hlocalsM, -, hkP, -, hW₁, hstep₁⟩ := Steps.initColdArgsNest (e := e) X.here hexec X.warmed hpl hown hy1 hy hlink hinst hcode (f := g) rfl hlen hstack hdg
  have X₁ := X.noted hW₁
  rcases hK g.method meth c ⟨T.setVm vm₁, locs, cells, slots⟩ { g with stack := rest } (.invokespecial index) mk (Value.ref a :: argsL).toArray X₁ rfl hsize hdg hW (X₁.named hnamed) (hpre vm₁ X₁.warmed) with ⟨v, B, X', hpost, hsteps⟩ | ⟨q, B, X', hpost, hsteps⟩
  · exact Or.inl ⟨v, vm₁, B, X₁.warmed, X', hpost, fun target h => hstep₁ _ fun acts => by rw [doInvoke_state]; exact hsteps.trans h⟩
  · exact Or.inr ⟨q, vm₁, B, X₁.warmed, X', hpost, hstep₁ _ fun acts => by rw [doInvoke_state]; exact hsteps⟩
end VXIC
section VXID
variable {p : Program} {l : Launch} {e : Env} {R : Room} {s : State} {m : MethodId} {args : Array Value} {below : List Frame} {meth : Method} {c : Code} {H : Heap} {locs : List Loc} {cells slots : Nat}
theorem vx_runIN {y : MethodName} {bytes cc : ByteArray} {maxL nL mc ms n index : Nat} {ws : List Cond} {rm : Room} {Pc : Array Value → State → Prop} {Qc : Array Value → State → Outcome → State → Prop} {XC : String → State → State → Prop} {free : Addr → Prop} {Ts : List Cond} {own host : String} {b : Addr} {As rest : List Value} {g : JFrame}
    (S : CallFix p m c cc nL s args Ts own) (hM : vx_Met l y ws rm Pc Qc XC mc ms free) (cw : va_CN R s args own index y host bytes maxL none ws rm mc ms n ∧ y.name = "<init>" ∧ (Cond.instanceMethod y).before args s = true) (hp : PreS s H Pc (.ref b :: As))
    (hg : g.method = m) (hn : As.length = n) (hsize : g.locals.size = nL) (hstack : g.stack = As.reverse ++ .ref b :: rest) (hW : 2 * g.monitorRoom + (rest.map fun v => v.category).sum ≤ 8) (hdg : decode cc g.pc = .ok (.invokespecial index, 3)) (hf : cells + mc ≤ R.cells ∧ slots + ms ≤ R.slots) :
    vx_Run p l e R s m args below meth c H locs cells slots mc ms g rest (Qc (Value.ref b :: As).toArray) XC free := by
  obtain ⟨⟨⟨hrc, hrs, hfr, hlo, hws, hcw⟩, hcode, hini, hy, hlen, hl⟩, hx1, hx2⟩ := cw
  have hK : vx_Back l R p e below s args y 3 8 (PreOf R mc ms Pc) (PostOf Qc mc ms free) (vx_Post XC mc ms free) := vx_back (bytes := bytes) (maxL := maxL) (ret := none) hM hp.1 hrc hrs hfr hlo hws hcw (fun a' U hW => word_at hW (Or.inl (by first | rfl | simp [Cond.onTables, Cond.keeps, Cond.steady])) hini)
  obtain ⟨hx, hb, hml, ho, -⟩ := S
  have hPc := hp.2
  intro T hT X
  rcases vx_callIN X hx (bytes := bytes) (maxL := maxL) ho hx1 hl hx2 hcode hy hK hg (hsize.trans hml.symm) (a := b) (argsL := As) (rest := rest) (fun sig h => hn.trans (hlen sig h)) hstack hW (by rw [hb]; exact hdg)
    (fun vm₁ hW₁ => ⟨hf.1, hf.2, hPc (T.setVm vm₁) hT hW₁⟩) with ⟨v, vm₁, ⟨U', l2, c2, s2⟩, hW₁, X', ⟨g', mk, t, L, e1, e2, hq, h1, hL, h2, h3⟩, st⟩ | ⟨q, vm₁, ⟨U', l2, c2, s2⟩, hW₁, X', ⟨g', mk, t, L, E, ce, e1, e2, hq, hce, hcv, hcl, h1, hL, h2, h3⟩, st⟩
  · dsimp only [Pt.U, Pt.locs, Pt.cells, Pt.slots] at X' e1 e2 h1 h2 h3 st
    subst h1; subst h2; subst h3
    exact Or.inl ⟨v, (T.setVm vm₁).calling g' mk (Value.ref b :: As).toArray, t, U', L, hT, X', hL, e1, e2, hq, st⟩
  · dsimp only [Pt.U, Pt.locs, Pt.cells, Pt.slots] at X' e1 e2 h1 h2 h3 st hcl
    subst h1; subst h2; subst h3
    exact Or.inr ⟨q, (T.setVm vm₁).calling g' mk (Value.ref b :: As).toArray, t, U', L, E, ce, hT, X', hL, e1, e2, hq, hce, hcv, vx_cls hW₁ hcl, st⟩
end VXID
/-! ===== END ===== -/
/-! ===== BEGIN a method of a class above, found by the receiver, that may throw (follows va_callVU, va_runU of this kit) ===== -/
section
variable {p : Program} {l : Launch} {e : Env} {R : Room} {s : State} {m : MethodId} {args : Array Value} {below : List Frame} {meth : Method} {c : Code} {H : Heap} {locs : List Loc} {cells slots : Nat}
theorem vx_callVU {T : State} {locs : List Loc} {cells slots : Nat} (X : Stand p l e R s m args below meth c T locs cells slots) (hexec : p.tables.exec = Jvm.exec) {own C owner : String} {index : Nat} {x y : MethodName} {bytes : ByteArray} {maxL : Nat} {ret : Option FieldType}
    (hown : s.vm.findClass own = some m.cls) (hlink : (Cond.methodLink own index x).before args s = true) (hsame : (Cond.sameMethod x.cls owner x.name x.desc).before args s = true)
    (hd0 : va_Decl s ⟨owner, x.name, x.desc⟩) (howner : owner ≠ "java/lang/invoke/MethodHandle" ∧ owner ≠ "java/lang/invoke/VarHandle")
    (hsel : (Cond.selects C x y).before args s = true) (hinst : (Cond.instanceMethod y).before args s = true) (hcode : (Cond.code y bytes maxL ret).before args s = true)
    {W : Nat} {Pre : Pt → Array Value → Prop} {Post : Pt → Array Value → Option Value → Pt → Prop} {PostX : Pt → Array Value → Addr → Pt → Prop} (hK : vx_Back l R p e below s args y 3 W Pre Post PostX)
    {b : Addr} {cellB : Cell} (hcell : T.heap[b]? = some cellB) (hobj : cellB.vm.isStatics = false) (hcls : s.vm.findClass C = some cellB.cls)
    {g : JFrame} (hg : g.method = m) (hsize : g.locals.size = c.maxLocals) {argsL rest : List Value} (hlen : ∀ sig, parseMethodDescriptor x.desc = some sig → argsL.length = sig.parameters.length)
    (hstack : g.stack = argsL.reverse ++ .ref b :: rest) (hW : 2 * g.monitorRoom + (rest.map fun v => v.category).sum ≤ W) (hdg : decode c.code g.pc = .ok (.invokevirtual index, 3))
    (hpre : ∀ vm₁, s.WarmedH vm₁ → Pre ⟨T.setVm vm₁, locs, cells, slots⟩ (Value.ref b :: argsL).toArray) :
    (∃ (v : Option Value) (vm₁ : Vm) (B : Pt), s.WarmedH vm₁ ∧ Stand p l e R s m args below meth c B.U B.locs B.cells B.slots ∧ Post ⟨T.setVm vm₁, locs, cells, slots⟩ (Value.ref b :: argsL).toArray v B ∧
      ∀ target, Steps p.tables e below (B.U.setTop { g with pc := g.pc + 3, stack := v.toList ++ rest }) target → Steps p.tables e below (T.setTop g) target) ∨
    (∃ (q : Addr) (vm₁ : Vm) (B : Pt), s.WarmedH vm₁ ∧ Stand p l e R s m args below meth c B.U B.locs B.cells B.slots ∧ PostX ⟨T.setVm vm₁, locs, cells, slots⟩ (Value.ref b :: argsL).toArray q B ∧
      Steps p.tables e below (T.setTop g) ((B.U.setTop { g with stack := rest }).pushFrame (.throwing q))) := by
  obtain ⟨r0, r, hn, hrm, hstR, hsigR⟩ := hd0
  obtain ⟨cn, ck, r1, hcn, hck, hni, hf, hn1⟩ := Cond.sameMethod_found hsame
  cases hn.symm.trans hn1
  obtain ⟨mk, methM, hnamed, hmethM, -, habM⟩ := Cond.instanceMethod_spec hinst
  obtain ⟨c2, r2, m2, q1, q2, q3, q4, kP, hkP, hkPi⟩ := Cond.selects_spec hsel
  cases hcls.symm.trans q1
  cases hf.symm.trans q2
  cases hnamed.symm.trans q3
  have hselP : selectMethod e.platform s.vm cellB.cls r0 = .method mk := by rw [Launch.admits_selectMethod X.admits]; exact q4
  obtain ⟨vm₁, X₁, hstep₁⟩ := X.invokevirtualUp hexec hown hlink hsame howner hn hrm hstR (a := b) (cell := cellB) hcell
    (fun z h => by rw [h] at hobj; cases hobj) hselP hmethM habM hkP hkPi (g := g) hg (argsL := argsL) (rest := rest) (hlen _ hsigR) hstack hdg
  rcases hK m meth c ⟨T.setVm vm₁, locs, cells, slots⟩ { g with stack := rest } (.invokevirtual index) mk (Value.ref b :: argsL).toArray X₁ hg hsize hdg hW (X₁.named hnamed) (hpre vm₁ X₁.warmed) with ⟨v, B, X', hpost, hsteps⟩ | ⟨q, B, X', hpost, hsteps⟩
  · exact Or.inl ⟨v, vm₁, B, X₁.warmed, X', hpost, fun target h => hstep₁ _ fun acts => by rw [doInvoke_state]; exact hsteps.trans h⟩
  · exact Or.inr ⟨q, vm₁, B, X₁.warmed, X', hpost, hstep₁ _ fun acts => by rw [doInvoke_state]; exact hsteps⟩
theorem vx_runU {x y : MethodName} {bytes cc : ByteArray} {maxL nL mc ms n index : Nat} {ret : Option FieldType} {ws : List Cond} {rm : Room} {Pc : Array Value → State → Prop} {Qc : Array Value → State → Outcome → State → Prop} {XC : String → State → State → Prop} {free : Addr → Prop} {Ts : List Cond} {own C owner : String} {b : Addr} {As rest : List Value} {g : JFrame}
    (S : CallFix p m c cc nL s args Ts own) (hM : vx_Met l y ws rm Pc Qc XC mc ms free) (cw : va_CU R s args own C owner index x y bytes maxL ret ws rm mc ms n) (hp : PreV s H C b Pc As)
    (hg : g.method = m) (hn : As.length = n) (hsize : g.locals.size = nL) (hstack : g.stack = As.reverse ++ .ref b :: rest) (hW : 2 * g.monitorRoom + (rest.map fun v => v.category).sum ≤ 8) (hdg : decode cc g.pc = .ok (.invokevirtual index, 3)) (hf : cells + mc ≤ R.cells ∧ slots + ms ≤ R.slots) :
    vx_Run p l e R s m args below meth c H locs cells slots mc ms g rest (Qc (Value.ref b :: As).toArray) XC free := by
  obtain ⟨hrc, hrs, hfr, hlo, hws, hcw⟩ := cw.back
  have hini := cw.init
  have hK : vx_Back l R p e below s args y 3 8 (PreOf R mc ms Pc) (PostOf Qc mc ms free) (vx_Post XC mc ms free) := vx_back (bytes := bytes) (maxL := maxL) (ret := ret) hM hp.1 hrc hrs hfr hlo hws hcw (fun a' U hW => word_at hW (Or.inl (by first | rfl | simp [Cond.onTables, Cond.keeps, Cond.steady])) hini)
  obtain ⟨hx, hb, hml, ho, -⟩ := S
  obtain ⟨-, ⟨cellB, hcB, hoB, hclB⟩, hPc⟩ := hp
  intro T hT X
  rcases vx_callVU X hx (C := C) (owner := owner) (bytes := bytes) (maxL := maxL) (ret := ret) ho cw.link cw.same cw.decl cw.notMH cw.sel cw.inst cw.code hK (by rw [hT]; exact hcB) hoB hclB hg (hsize.trans hml.symm) (argsL := As) (rest := rest) (fun sig h => hn.trans (cw.len sig h)) hstack hW (by rw [hb]; exact hdg)
    (fun vm₁ hW₁ => ⟨hf.1, hf.2, hPc (T.setVm vm₁) hT hW₁⟩) with ⟨v, vm₁, ⟨U', l2, c2, s2⟩, hW₁, X', ⟨g', mk, t, L, e1, e2, hq, h1, hL, h2, h3⟩, st⟩ | ⟨q, vm₁, ⟨U', l2, c2, s2⟩, hW₁, X', ⟨g', mk, t, L, E, ce, e1, e2, hq, hce, hcv, hcl, h1, hL, h2, h3⟩, st⟩
  · dsimp only [Pt.U, Pt.locs, Pt.cells, Pt.slots] at X' e1 e2 h1 h2 h3 st
    subst h1; subst h2; subst h3
    exact Or.inl ⟨v, (T.setVm vm₁).calling g' mk (Value.ref b :: As).toArray, t, U', L, hT, X', hL, e1, e2, hq, st⟩
  · dsimp only [Pt.U, Pt.locs, Pt.cells, Pt.slots] at X' e1 e2 h1 h2 h3 st hcl
    subst h1; subst h2; subst h3
    exact Or.inr ⟨q, (T.setVm vm₁).calling g' mk (Value.ref b :: As).toArray, t, U', L, E, ce, hT, X', hL, e1, e2, hq, hce, hcv, vx_cls hW₁ hcl, st⟩
end
/-! ===== END ===== -/
/-! ===== BEGIN super.m(..) that may throw (follows va_callSU, va_runSU) ===== -/
section
variable {p : Program} {l : Launch} {e : Env} {R : Room} {s : State} {m : MethodId} {args : Array Value} {below : List Frame} {meth : Method} {c : Code} {H : Heap} {locs : List Loc} {cells slots : Nat}
theorem vx_callSU {T : State} {locs : List Loc} {cells slots : Nat} (X : Stand p l e R s m args below meth c T locs cells slots) (hexec : p.tables.exec = Jvm.exec) {own : String} {index : Nat} {y : MethodName} {bytes : ByteArray} {maxL : Nat} {ret : Option FieldType}
    (hown : s.vm.findClass own = some m.cls) (hlink : (Cond.methodLink own index y).before args s = true) (hsame : (Cond.sameMethod y.cls y.cls y.name y.desc).before args s = true) (hsup : (Cond.superclass own y.cls).before args s = true)
    (hinst : (Cond.instanceMethod y).before args s = true) (hcode : (Cond.code y bytes maxL ret).before args s = true) (hno : y.name ≠ "<init>")
    {W : Nat} {Pre : Pt → Array Value → Prop} {Post : Pt → Array Value → Option Value → Pt → Prop} {PostX : Pt → Array Value → Addr → Pt → Prop} (hK : vx_Back l R p e below s args y 3 W Pre Post PostX)
    {b : Addr} {cellB : Cell} {kB : Class} (hcell : T.heap[b]? = some cellB) (hobj : cellB.vm.isStatics = false) (hkB : s.vm.classes[cellB.cls]? = some kB)
    {g : JFrame} (hg : g.method = m) (hsize : g.locals.size = c.maxLocals) {argsL rest : List Value} (hlen : ∀ sig, parseMethodDescriptor y.desc = some sig → argsL.length = sig.parameters.length)
    (hstack : g.stack = argsL.reverse ++ .ref b :: rest) (hW : 2 * g.monitorRoom + (rest.map fun v => v.category).sum ≤ W) (hdg : decode c.code g.pc = .ok (.invokespecial index, 3))
    (hpre : ∀ vm₁, s.WarmedH vm₁ → Pre ⟨T.setVm vm₁, locs, cells, slots⟩ (Value.ref b :: argsL).toArray) :
    (∃ (v : Option Value) (vm₁ : Vm) (B : Pt), s.WarmedH vm₁ ∧ Stand p l e R s m args below meth c B.U B.locs B.cells B.slots ∧ Post ⟨T.setVm vm₁, locs, cells, slots⟩ (Value.ref b :: argsL).toArray v B ∧
      ∀ target, Steps p.tables e below (B.U.setTop { g with pc := g.pc + 3, stack := v.toList ++ rest }) target → Steps p.tables e below (T.setTop g) target) ∨
    (∃ (q : Addr) (vm₁ : Vm) (B : Pt), s.WarmedH vm₁ ∧ Stand p l e R s m args below meth c B.U B.locs B.cells B.slots ∧ PostX ⟨T.setVm vm₁, locs, cells, slots⟩ (Value.ref b :: argsL).toArray q B ∧
      Steps p.tables e below (T.setTop g) ((B.U.setTop { g with stack := rest }).pushFrame (.throwing q))) := by
  obtain ⟨mk, methM, hnamed, hmethM, hstM, habM⟩ := Cond.instanceMethod_spec hinst
  obtain ⟨methM', cM, hmethM', -, -, -, -, -, -, hsigM⟩ := Cond.code_spec hnamed hcode
  cases hmethM.symm.trans hmethM'
  obtain ⟨ps, dk, kp, hps, hdk, hkp, hsuper, -, -, hnid⟩ := Cond.superclass_spec hown hsup
  have hn : s.methodNamed? ⟨y.cls, y.name, y.desc⟩ = some mk := hnamed
  have hpm : ps = mk.cls := Option.some.inj (hps.symm.trans (findClass_of_methodNamed hnamed))
  have hsub : s.vm.isSubclass ps mk.cls = true := by rw [hpm]; simp [Vm.isSubclass, Vm.isSubclassAux]
  obtain ⟨vm₁, X₁, hstep₁⟩ := X.invokespecialUp hexec hown hlink hsame hn hmethM hstM habM hno hdk hnid hps hsuper hsub (a := b) (cell := cellB) hcell
    (fun z h => by rw [h] at hobj; cases hobj) hkB (g := g) hg (argsL := argsL) (rest := rest) (hlen _ hsigM) hstack hdg
  rcases hK m meth c ⟨T.setVm vm₁, locs, cells, slots⟩ { g with stack := rest } (.invokespecial index) mk (Value.ref b :: argsL).toArray X₁ hg hsize hdg hW (X₁.named hnamed) (hpre vm₁ X₁.warmed) with ⟨v, B, X', hpost, hsteps⟩ | ⟨q, B, X', hpost, hsteps⟩
  · exact Or.inl ⟨v, vm₁, B, X₁.warmed, X', hpost, fun target h => hstep₁ _ (by rw [doInvoke_state]; exact hsteps.trans h)⟩
  · exact Or.inr ⟨q, vm₁, B, X₁.warmed, X', hpost, hstep₁ _ (by rw [doInvoke_state]; exact hsteps)⟩
theorem vx_runSU {y : MethodName} {bytes cc : ByteArray} {maxL nL mc ms n index : Nat} {ret : Option FieldType} {ws : List Cond} {rm : Room} {Pc : Array Value → State → Prop} {Qc : Array Value → State → Outcome → State → Prop} {XC : String → State → State → Prop} {free : Addr → Prop} {Ts : List Cond} {own C : String} {cC : ClassId} {b : Addr} {As rest : List Value} {g : JFrame}
    (hat : ClassAt s C cC) (S : CallFix p m c cc nL s args Ts own) (hM : vx_Met l y ws rm Pc Qc XC mc ms free) (cw : va_CS R s args own index y bytes maxL ret ws rm mc ms n) (hp : PreV s H C b Pc As)
    (hg : g.method = m) (hn : As.length = n) (hsize : g.locals.size = nL) (hstack : g.stack = As.reverse ++ .ref b :: rest) (hW : 2 * g.monitorRoom + (rest.map fun v => v.category).sum ≤ 8) (hdg : decode cc g.pc = .ok (.invokespecial index, 3)) (hf : cells + mc ≤ R.cells ∧ slots + ms ≤ R.slots) :
    vx_Run p l e R s m args below meth c H locs cells slots mc ms g rest (Qc (Value.ref b :: As).toArray) XC free := by
  obtain ⟨⟨hrc, hrs, hfr, hlo, hws, hcw⟩, hl1, hl2, hl3, hl4, hini, hcode, hno, hlen⟩ := cw
  have hK : vx_Back l R p e below s args y 3 8 (PreOf R mc ms Pc) (PostOf Qc mc ms free) (vx_Post XC mc ms free) := vx_back (bytes := bytes) (maxL := maxL) (ret := ret) hM hp.1 hrc hrs hfr hlo hws hcw (fun a' U hW => word_at hW (Or.inl (by first | rfl | simp [Cond.onTables, Cond.keeps, Cond.steady])) hini)
  obtain ⟨hx, hb, hml, ho, -⟩ := S
  obtain ⟨-, ⟨cellB, hcB, hoB, hclB⟩, hPc⟩ := hp
  obtain ⟨hfc, kB, hkB, -⟩ := hat
  cases hfc.symm.trans hclB
  intro T hT X
  rcases vx_callSU X hx (bytes := bytes) (maxL := maxL) (ret := ret) ho hl1 hl2 hl3 hl4 hcode hno hK (by rw [hT]; exact hcB) hoB hkB hg (hsize.trans hml.symm) (argsL := As) (rest := rest) (fun sig h => hn.trans (hlen sig h)) hstack hW (by rw [hb]; exact hdg)
    (fun vm₁ hW₁ => ⟨hf.1, hf.2, hPc (T.setVm vm₁) hT hW₁⟩) with ⟨v, vm₁, ⟨U', l2, c2, s2⟩, hW₁, X', ⟨g', mk, t, L, e1, e2, hq, h1, hL, h2, h3⟩, st⟩ | ⟨q, vm₁, ⟨U', l2, c2, s2⟩, hW₁, X', ⟨g', mk, t, L, E, ce, e1, e2, hq, hce, hcv, hcl, h1, hL, h2, h3⟩, st⟩
  · dsimp only [Pt.U, Pt.locs, Pt.cells, Pt.slots] at X' e1 e2 h1 h2 h3 st
    subst h1; subst h2; subst h3
    exact Or.inl ⟨v, (T.setVm vm₁).calling g' mk (Value.ref b :: As).toArray, t, U', L, hT, X', hL, e1, e2, hq, st⟩
  · dsimp only [Pt.U, Pt.locs, Pt.cells, Pt.slots] at X' e1 e2 h1 h2 h3 st hcl
    subst h1; subst h2; subst h3
    exact Or.inr ⟨q, (T.setVm vm₁).calling g' mk (Value.ref b :: As).toArray, t, U', L, E, ce, hT, X', hL, e1, e2, hq, hce, hcv, vx_cls hW₁ hcl, st⟩
end
/-! ===== END ===== -/
/-! ===== BEGIN a private method of a nest mate that may throw (follows va_callVN, va_callSN, va_runVN, va_runSN) ===== -/
section
variable {p : Program} {l : Launch} {e : Env} {R : Room} {s : State} {m : MethodId} {args : Array Value} {below : List Frame} {meth : Method} {c : Code} {H : Heap} {locs : List Loc} {cells slots : Nat}
variable {T : State}
theorem vx_callVN (X : Stand p l e R s m args below meth c T locs cells slots) (hexec : p.tables.exec = Jvm.exec) {own C : String} {index : Nat} {host : String} {y : MethodName} {bytes : ByteArray} {maxL : Nat} {ret : Option FieldType}
    (hown : s.vm.findClass own = some m.cls) (hlink : (Cond.methodLinkNest own index y host).before args s = true) (hinst : (Cond.instanceMethod y).before args s = true) (hsel : (Cond.selects C y y).before args s = true)
    (hcode : (Cond.code y bytes maxL ret).before args s = true) (hy : y.cls ≠ "java/lang/invoke/MethodHandle" ∧ y.cls ≠ "java/lang/invoke/VarHandle")
    {W : Nat} {Pre : Pt → Array Value → Prop} {Post : Pt → Array Value → Option Value → Pt → Prop} {PostX : Pt → Array Value → Addr → Pt → Prop} (hK : vx_Back l R p e below s args y 3 W Pre Post PostX)
    {b : Addr} {cellB : Cell} (hcell : T.heap[b]? = some cellB) (hobj : cellB.vm.isStatics = false) (hcls : s.vm.findClass C = some cellB.cls)
    {g : JFrame} (hg : g.method = m) (hsize : g.locals.size = c.maxLocals) {argsL rest : List Value} (hlen : ∀ sig, parseMethodDescriptor y.desc = some sig → argsL.length = sig.parameters.length)
    (hstack : g.stack = argsL.reverse ++ .ref b :: rest) (hW : 2 * g.monitorRoom + (rest.map fun v => v.category).sum ≤ W) (hdg : decode c.code g.pc = .ok (.invokevirtual index, 3))
    (hpre : ∀ vm₁, s.WarmedH vm₁ → Pre ⟨T.setVm vm₁, locs, cells, slots⟩ (Value.ref b :: argsL).toArray) :
    (∃ (v : Option Value) (vm₁ : Vm) (B : Pt), s.WarmedH vm₁ ∧ Stand p l e R s m args below meth c B.U B.locs B.cells B.slots ∧ Post ⟨T.setVm vm₁, locs, cells, slots⟩ (Value.ref b :: argsL).toArray v B ∧
      ∀ target, Steps p.tables e below (B.U.setTop { g with pc := g.pc + 3, stack := v.toList ++ rest }) target → Steps p.tables e below (T.setTop g) target) ∨
    (∃ (q : Addr) (vm₁ : Vm) (B : Pt), s.WarmedH vm₁ ∧ Stand p l e R s m args below meth c B.U B.locs B.cells B.slots ∧ PostX ⟨T.setVm vm₁, locs, cells, slots⟩ (Value.ref b :: argsL).toArray q B ∧
      Steps p.tables e below (T.setTop g) ((B.U.setTop { g with stack := rest }).pushFrame (.throwing q))) := by
  obtain ⟨mk, methM, hnamed, hmethM, hstM, habM⟩ := Cond.instanceMethod_spec hinst
  obtain ⟨methM', cM, hmethM', -, -, -, -, -, -, hsigM⟩ := Cond.code_spec hnamed hcode
  cases hmethM.symm.trans hmethM'
  obtain ⟨c2, r2, m2, q1, q2, q3, q4, kP, hkP, hkPi⟩ := Cond.selects_spec hsel
  cases hcls.symm.trans q1
  cases (State.methodFound?_of_named hnamed hy).symm.trans q2
  cases hnamed.symm.trans q3
  have hselP : selectMethod e.platform s.vm cellB.cls mk = .method mk := by rw [Launch.admits_selectMethod X.admits]; exact q4
  obtain ⟨vm₁, X₁, hstep₁⟩ := X.invokevirtualNest hexec hown hlink hnamed hmethM hstM hkP hkPi hy (a := b) (cell := cellB) hcell
    (fun z h => by rw [h] at hobj; cases hobj) hselP hmethM habM hkP hkPi (g := g) hg (argsL := argsL) (rest := rest) (hlen _ hsigM) hstack hdg
  rcases hK m meth c ⟨T.setVm vm₁, locs, cells, slots⟩ { g with stack := rest } (.invokevirtual index) mk (Value.ref b :: argsL).toArray X₁ hg hsize hdg hW (X₁.named hnamed) (hpre vm₁ X₁.warmed) with ⟨v, B, X', hpost, hsteps⟩ | ⟨q, B, X', hpost, hsteps⟩
  · exact Or.inl ⟨v, vm₁, B, X₁.warmed, X', hpost, fun target h => hstep₁ _ fun acts => by rw [doInvoke_state]; exact hsteps.trans h⟩
  · exact Or.inr ⟨q, vm₁, B, X₁.warmed, X', hpost, hstep₁ _ fun acts => by rw [doInvoke_state]; exact hsteps⟩
theorem vx_callSN (X : Stand p l e R s m args below meth c T locs cells slots) (hexec : p.tables.exec = Jvm.exec) {own : String} {index : Nat} {host : String} {y : MethodName} {bytes : ByteArray} {maxL : Nat} {ret : Option FieldType}
    (hown : s.vm.findClass own = some m.cls) (hlink : (Cond.methodLinkNest own index y host).before args s = true) (hstat : (Cond.static y).before args s = true) (hinit : (Cond.initialized y.cls).before args s = true)
    (hcode : (Cond.code y bytes maxL ret).before args s = true) (hy : y.cls ≠ "java/lang/invoke/MethodHandle" ∧ y.cls ≠ "java/lang/invoke/VarHandle")
    {W : Nat} {Pre : Pt → Array Value → Prop} {Post : Pt → Array Value → Option Value → Pt → Prop} {PostX : Pt → Array Value → Addr → Pt → Prop} (hK : vx_Back l R p e below s args y 3 W Pre Post PostX)
    {g : JFrame} (hg : g.method = m) (hsize : g.locals.size = c.maxLocals) {argsL rest : List Value} (hlen : ∀ sig, parseMethodDescriptor y.desc = some sig → argsL.length = sig.parameters.length)
    (hstack : g.stack = argsL.reverse ++ rest) (hW : 2 * g.monitorRoom + (rest.map fun v => v.category).sum ≤ W) (hdg : decode c.code g.pc = .ok (.invokestatic index, 3))
    (hpre : ∀ vm₁, s.WarmedH vm₁ → Pre ⟨T.setVm vm₁, locs, cells, slots⟩ argsL.toArray) :
    (∃ (v : Option Value) (vm₁ : Vm) (B : Pt), s.WarmedH vm₁ ∧ Stand p l e R s m args below meth c B.U B.locs B.cells B.slots ∧ Post ⟨T.setVm vm₁, locs, cells, slots⟩ argsL.toArray v B ∧
      ∀ target, Steps p.tables e below (B.U.setTop { g with pc := g.pc + 3, stack := v.toList ++ rest }) target → Steps p.tables e below (T.setTop g) target) ∨
    (∃ (q : Addr) (vm₁ : Vm) (B : Pt), s.WarmedH vm₁ ∧ Stand p l e R s m args below meth c B.U B.locs B.cells B.slots ∧ PostX ⟨T.setVm vm₁, locs, cells, slots⟩ argsL.toArray q B ∧
      Steps p.tables e below (T.setTop g) ((B.U.setTop { g with stack := rest }).pushFrame (.throwing q))) := by
  obtain ⟨mk, hnamed⟩ := Cond.code_named hcode
  obtain ⟨methM, cM, hmethM, -, -, -, -, -, -, hsigM⟩ := Cond.code_spec hnamed hcode
  have hstatic : methM.isStatic = true := Cond.static_spec hnamed hmethM hstat
  obtain ⟨kP, hkP, -⟩ := className_of_methodNamed hnamed
  have hinitP : kP.init = .initialized := Cond.initialized_spec (findClass_of_methodNamed hnamed) hkP hinit
  obtain ⟨vm₁, X₁, hstep₁⟩ := X.invokestaticNest hexec hown hlink hnamed hmethM hstatic hkP hinitP hy (g := g) hg (argsL := argsL) (rest := rest) (hlen _ hsigM) hstack hdg
  rcases hK m meth c ⟨T.setVm vm₁, locs, cells, slots⟩ { g with stack := rest } (.invokestatic index) mk argsL.toArray X₁ hg hsize hdg hW (X₁.named hnamed) (hpre vm₁ X₁.warmed) with ⟨v, B, X', hpost, hsteps⟩ | ⟨q, B, X', hpost, hsteps⟩
  · exact Or.inl ⟨v, vm₁, B, X₁.warmed, X', hpost, fun target h => hstep₁ _ fun acts => by rw [doInvoke_state]; exact hsteps.trans h⟩
  · exact Or.inr ⟨q, vm₁, B, X₁.warmed, X', hpost, hstep₁ _ fun acts => by rw [doInvoke_state]; exact hsteps⟩
theorem vx_runVN {y : MethodName} {bytes cc : ByteArray} {maxL nL mc ms n index : Nat} {ret : Option FieldType} {ws : List Cond} {rm : Room} {Pc : Array Value → State → Prop} {Qc : Array Value → State → Outcome → State → Prop} {XC : String → State → State → Prop} {free : Addr → Prop} {Ts : List Cond} {own C host : String} {b : Addr} {As rest : List Value} {g : JFrame}
    (S : CallFix p m c cc nL s args Ts own) (hM : vx_Met l y ws rm Pc Qc XC mc ms free) (cw : va_CN R s args own index y host bytes maxL ret ws rm mc ms n ∧ (Cond.instanceMethod y).before args s = true ∧ (Cond.selects C y y).before args s = true) (hp : PreV s H C b Pc As)
    (hg : g.method = m) (hn : As.length = n) (hsize : g.locals.size = nL) (hstack : g.stack = As.reverse ++ .ref b :: rest) (hW : 2 * g.monitorRoom + (rest.map fun v => v.category).sum ≤ 8) (hdg : decode cc g.pc = .ok (.invokevirtual index, 3)) (hf : cells + mc ≤ R.cells ∧ slots + ms ≤ R.slots) :
    vx_Run p l e R s m args below meth c H locs cells slots mc ms g rest (Qc (Value.ref b :: As).toArray) XC free := by
  obtain ⟨⟨⟨hrc, hrs, hfr, hlo, hws, hcw⟩, hcode, hini, hy, hlen, hl⟩, hx1, hx2⟩ := cw
  have hK : vx_Back l R p e below s args y 3 8 (PreOf R mc ms Pc) (PostOf Qc mc ms free) (vx_Post XC mc ms free) := vx_back (bytes := bytes) (maxL := maxL) (ret := ret) hM hp.1 hrc hrs hfr hlo hws hcw (fun a' U hW => word_at hW (Or.inl (by first | rfl | simp [Cond.onTables, Cond.keeps, Cond.steady])) hini)
  obtain ⟨hx, hb, hml, ho, -⟩ := S
  obtain ⟨-, ⟨cellB, hcB, hoB, hclB⟩, hPc⟩ := hp
  intro T hT X
  rcases vx_callVN X hx (C := C) (bytes := bytes) (maxL := maxL) (ret := ret) ho hl hx1 hx2 hcode hy hK (by rw [hT]; exact hcB) hoB hclB hg (hsize.trans hml.symm) (argsL := As) (rest := rest) (fun sig h => hn.trans (hlen sig h)) hstack hW (by rw [hb]; exact hdg)
    (fun vm₁ hW₁ => ⟨hf.1, hf.2, hPc (T.setVm vm₁) hT hW₁⟩) with ⟨v, vm₁, ⟨U', l2, c2, s2⟩, hW₁, X', ⟨g', mk, t, L, e1, e2, hq, h1, hL, h2, h3⟩, st⟩ | ⟨q, vm₁, ⟨U', l2, c2, s2⟩, hW₁, X', ⟨g', mk, t, L, E, ce, e1, e2, hq, hce, hcv, hcl, h1, hL, h2, h3⟩, st⟩
  · dsimp only [Pt.U, Pt.locs, Pt.cells, Pt.slots] at X' e1 e2 h1 h2 h3 st
    subst h1; subst h2; subst h3
    exact Or.inl ⟨v, (T.setVm vm₁).calling g' mk (Value.ref b :: As).toArray, t, U', L, hT, X', hL, e1, e2, hq, st⟩
  · dsimp only [Pt.U, Pt.locs, Pt.cells, Pt.slots] at X' e1 e2 h1 h2 h3 st hcl
    subst h1; subst h2; subst h3
    exact Or.inr ⟨q, (T.setVm vm₁).calling g' mk (Value.ref b :: As).toArray, t, U', L, E, ce, hT, X', hL, e1, e2, hq, hce, hcv, vx_cls hW₁ hcl, st⟩
theorem vx_runSN {y : MethodName} {bytes cc : ByteArray} {maxL nL mc ms n index : Nat} {ret : Option FieldType} {ws : List Cond} {rm : Room} {Pc : Array Value → State → Prop} {Qc : Array Value → State → Outcome → State → Prop} {XC : String → State → State → Prop} {free : Addr → Prop} {Ts : List Cond} {own host : String} {As rest : List Value} {g : JFrame}
    (S : CallFix p m c cc nL s args Ts own) (hM : vx_Met l y ws rm Pc Qc XC mc ms free) (cw : va_CN R s args own index y host bytes maxL ret ws rm mc ms n ∧ (Cond.static y).before args s = true ∧ True) (hp : PreS s H Pc As)
    (hg : g.method = m) (hn : As.length = n) (hsize : g.locals.size = nL) (hstack : g.stack = As.reverse ++ rest) (hW : 2 * g.monitorRoom + (rest.map fun v => v.category).sum ≤ 8) (hdg : decode cc g.pc = .ok (.invokestatic index, 3)) (hf : cells + mc ≤ R.cells ∧ slots + ms ≤ R.slots) :
    vx_Run p l e R s m args below meth c H locs cells slots mc ms g rest (Qc As.toArray) XC free := by
  obtain ⟨⟨⟨hrc, hrs, hfr, hlo, hws, hcw⟩, hcode, hini, hy, hlen, hl⟩, hx1, hx2⟩ := cw
  have hK : vx_Back l R p e below s args y 3 8 (PreOf R mc ms Pc) (PostOf Qc mc ms free) (vx_Post XC mc ms free) := vx_back (bytes := bytes) (maxL := maxL) (ret := ret) hM hp.1 hrc hrs hfr hlo hws hcw (fun a' U hW => word_at hW (Or.inl (by first | rfl | simp [Cond.onTables, Cond.keeps, Cond.steady])) hini)
  obtain ⟨hx, hb, hml, ho, -⟩ := S
  have hPc := hp.2
  intro T hT X
  rcases vx_callSN X hx (bytes := bytes) (maxL := maxL) (ret := ret) ho hl hx1 hini hcode hy hK hg (hsize.trans hml.symm) (argsL := As) (rest := rest) (fun sig h => hn.trans (hlen sig h)) hstack hW (by rw [hb]; exact hdg)
    (fun vm₁ hW₁ => ⟨hf.1, hf.2, hPc (T.setVm vm₁) hT hW₁⟩) with ⟨v, vm₁, ⟨U', l2, c2, s2⟩, hW₁, X', ⟨g', mk, t, L, e1, e2, hq, h1, hL, h2, h3⟩, st⟩ | ⟨q, vm₁, ⟨U', l2, c2, s2⟩, hW₁, X', ⟨g', mk, t, L, E, ce, e1, e2, hq, hce, hcv, hcl, h1, hL, h2, h3⟩, st⟩
  · dsimp only [Pt.U, Pt.locs, Pt.cells, Pt.slots] at X' e1 e2 h1 h2 h3 st
    subst h1; subst h2; subst h3
    exact Or.inl ⟨v, (T.setVm vm₁).calling g' mk As.toArray, t, U', L, hT, X', hL, e1, e2, hq, st⟩
  · dsimp only [Pt.U, Pt.locs, Pt.cells, Pt.slots] at X' e1 e2 h1 h2 h3 st hcl
    subst h1; subst h2; subst h3
    exact Or.inr ⟨q, (T.setVm vm₁).calling g' mk As.toArray, t, U', L, E, ce, hT, X', hL, e1, e2, hq, hce, hcv, vx_cls hW₁ hcl, st⟩
end
/-! ===== END ===== -/
end
section
def RX0 : String := "Platehall$Buffer"
def TX0 : u_T := fun k => match k with
  | 0 => ("Platehall$Buffer", "signs", "[C", true)
  | _ => ("Platehall$Buffer", "length", "I", false)
def tyX0 : Nat → FieldType := fun k => match k with
  | 0 => .array .char
  | _ => .int
theorem nmX0 : ∀ a, a < 2 → ∀ b, b < 2 → a ≠ b → (TX0 a).2.1 ≠ (TX0 b).2.1 := by decide +kernel
theorem tyX0_ok : ∀ k, k < 2 → parseFieldDescriptor (TX0 k).2.2.1 = some (tyX0 k) := by decide +kernel
abbrev cX0_init : ByteArray := prog_2_method_1_code
def yX0_init : MethodName := ⟨RX0, "<init>", "()V"⟩
abbrev cX0_append : ByteArray := prog_2_method_2_code
def yX0_append : MethodName := ⟨RX0, "append", "(C)Z"⟩
abbrev cX0_empty : ByteArray := prog_2_method_3_code
def yX0_empty : MethodName := ⟨RX0, "empty", "()I"⟩
abbrev cX0_isOfPlateSigns : ByteArray := prog_2_method_4_code
def yX0_isOfPlateSigns : MethodName := ⟨RX0, "isOfPlateSigns", "(Z)Z"⟩
abbrev cX0_plateInIt : ByteArray := prog_2_method_5_code
def yX0_plateInIt : MethodName := ⟨RX0, "plateInIt", "()I"⟩
abbrev cX0_spells : ByteArray := prog_2_method_6_code
def yX0_spells : MethodName := ⟨RX0, "spells", "(Ljava/lang/String;)Z"⟩
abbrev cX0_copyTo : ByteArray := prog_2_method_7_code
def yX0_copyTo : MethodName := ⟨RX0, "copyTo", "([C)V"⟩
def RX1 : String := "Platehall$Course"
def TX1 : u_T := fun k => match k with
  | 0 => ("Platehall$Course", "froms", "[I", false)
  | 1 => ("Platehall$Course", "values", "[I", false)
  | _ => ("Platehall$Course", "count", "I", false)
def tyX1 : Nat → FieldType := fun k => match k with
  | 0 => .array .int
  | 1 => .array .int
  | _ => .int
theorem nmX1 : ∀ a, a < 3 → ∀ b, b < 3 → a ≠ b → (TX1 a).2.1 ≠ (TX1 b).2.1 := by decide +kernel
theorem tyX1_ok : ∀ k, k < 3 → parseFieldDescriptor (TX1 k).2.2.1 = some (tyX1 k) := by decide +kernel
abbrev cX1_init : ByteArray := prog_3_method_1_code
def yX1_init : MethodName := ⟨RX1, "<init>", "()V"⟩
abbrev cX1_put : ByteArray := prog_3_method_2_code
def yX1_put : MethodName := ⟨RX1, "put", "(II)V"⟩
abbrev cX1_valueOn : ByteArray := prog_3_method_3_code
def yX1_valueOn : MethodName := ⟨RX1, "valueOn", "(II)I"⟩
abbrev cX1_daysReached : ByteArray := prog_3_method_4_code
def yX1_daysReached : MethodName := ⟨RX1, "daysReached", "(II)I"⟩
abbrev cX1_rowOn : ByteArray := prog_3_method_5_code
def yX1_rowOn : MethodName := ⟨RX1, "rowOn", "(I)I"⟩
abbrev cX1_makeRoomAt : ByteArray := prog_3_method_6_code
def yX1_makeRoomAt : MethodName := ⟨RX1, "makeRoomAt", "(I)V"⟩
def RX2 : String := "Platehall$Event"
def TX2 : u_T := fun k => match k with
  | 0 => ("Platehall$Event", "kind", "I", true)
  | 1 => ("Platehall$Event", "what", "I", true)
  | 2 => ("Platehall$Event", "day", "I", true)
  | _ => ("Platehall$Event", "behind", "LPlatehall$Standing;", true)
def tyX2 : Nat → FieldType := fun k => match k with
  | 0 => .int
  | 1 => .int
  | 2 => .int
  | _ => .object "Platehall$Standing"
theorem nmX2 : ∀ a, a < 4 → ∀ b, b < 4 → a ≠ b → (TX2 a).2.1 ≠ (TX2 b).2.1 := by decide +kernel
theorem tyX2_ok : ∀ k, k < 4 → parseFieldDescriptor (TX2 k).2.2.1 = some (tyX2 k) := by decide +kernel
abbrev cX2_init : ByteArray := prog_4_method_1_code
def yX2_init : MethodName := ⟨RX2, "<init>", "(III)V"⟩
def RX3 : String := "Platehall$Fine"
def TX3 : u_T := fun k => match k with
  | 0 => ("Platehall$Fine", "sighting", "LPlatehall$Sighting;", true)
  | 1 => ("Platehall$Fine", "amount", "I", true)
  | 2 => ("Platehall$Fine", "named", "I", false)
  | 3 => ("Platehall$Fine", "times", "I", false)
  | _ => ("Platehall$Fine", "since", "I", false)
def tyX3 : Nat → FieldType := fun k => match k with
  | 0 => .object "Platehall$Sighting"
  | 1 => .int
  | 2 => .int
  | 3 => .int
  | _ => .int
theorem nmX3 : ∀ a, a < 5 → ∀ b, b < 5 → a ≠ b → (TX3 a).2.1 ≠ (TX3 b).2.1 := by decide +kernel
theorem tyX3_ok : ∀ k, k < 5 → parseFieldDescriptor (TX3 k).2.2.1 = some (tyX3 k) := by decide +kernel
abbrev cX3_init : ByteArray := prog_5_method_1_code
def yX3_init : MethodName := ⟨RX3, "<init>", "(LPlatehall$Sighting;II)V"⟩
abbrev cX3_passTo : ByteArray := prog_5_method_2_code
def yX3_passTo : MethodName := ⟨RX3, "passTo", "(II)V"⟩
def RX4 : String := "Platehall$History"
def TX4 : u_T := fun k => match k with
  | 0 => ("Platehall$History", "itsAtFirst", "I", true)
  | 1 => ("Platehall$History", "atFirst", "LPlatehall$Standing;", true)
  | _ => ("Platehall$History", "events", "Ljava/util/ArrayList;", true)
def tyX4 : Nat → FieldType := fun k => match k with
  | 0 => .int
  | 1 => .object "Platehall$Standing"
  | _ => .object "java/util/ArrayList"
theorem nmX4 : ∀ a, a < 3 → ∀ b, b < 3 → a ≠ b → (TX4 a).2.1 ≠ (TX4 b).2.1 := by decide +kernel
theorem tyX4_ok : ∀ k, k < 3 → parseFieldDescriptor (TX4 k).2.2.1 = some (tyX4 k) := by decide +kernel
abbrev cX4_init : ByteArray := prog_6_method_1_code
def yX4_init : MethodName := ⟨RX4, "<init>", "(I)V"⟩
abbrev cX4_size : ByteArray := prog_6_method_2_code
def yX4_size : MethodName := ⟨RX4, "size", "()I"⟩
abbrev cX4_at : ByteArray := prog_6_method_3_code
def yX4_at : MethodName := ⟨RX4, "at", "(I)LPlatehall$Event;"⟩
abbrev cX4_insert : ByteArray := prog_6_method_4_code
def yX4_insert : MethodName := ⟨RX4, "insert", "(LPlatehall$Event;)I"⟩
abbrev cX4_followFrom : ByteArray := prog_6_method_5_code
def yX4_followFrom : MethodName := ⟨RX4, "followFrom", "(I)V"⟩
abbrev cX4_standingOn : ByteArray := prog_6_method_6_code
def yX4_standingOn : MethodName := ⟨RX4, "standingOn", "(I)LPlatehall$Standing;"⟩
abbrev cX4_replayedTo : ByteArray := prog_6_method_7_code
def yX4_replayedTo : MethodName := ⟨RX4, "replayedTo", "(I)LPlatehall$Standing;"⟩
abbrev cX4_endOf : ByteArray := prog_6_method_8_code
def yX4_endOf : MethodName := ⟨RX4, "endOf", "(II)I"⟩
def RX5 : String := "Platehall$Person"
def TX5 : u_T := fun k => match k with
  | 0 => ("Platehall$Person", "isProtected", "Z", false)
  | _ => ("Platehall$Person", "looks", "I", false)
def tyX5 : Nat → FieldType := fun k => match k with
  | 0 => .boolean
  | _ => .int
theorem nmX5 : ∀ a, a < 2 → ∀ b, b < 2 → a ≠ b → (TX5 a).2.1 ≠ (TX5 b).2.1 := by decide +kernel
theorem tyX5_ok : ∀ k, k < 2 → parseFieldDescriptor (TX5 k).2.2.1 = some (tyX5 k) := by decide +kernel
abbrev cX5_init : ByteArray := prog_7_method_1_code
def yX5_init : MethodName := ⟨RX5, "<init>", "()V"⟩
def RX6 : String := "Platehall$Series"
def TX6 : u_T := fun k => match k with
  | 0 => ("Platehall$Series", "barred", "[Z", true)
  | 1 => ("Platehall$Series", "given", "[J", true)
  | _ => ("Platehall$Series", "last", "I", false)
def tyX6 : Nat → FieldType := fun k => match k with
  | 0 => .array .boolean
  | 1 => .array .long
  | _ => .int
theorem nmX6 : ∀ a, a < 3 → ∀ b, b < 3 → a ≠ b → (TX6 a).2.1 ≠ (TX6 b).2.1 := by decide +kernel
theorem tyX6_ok : ∀ k, k < 3 → parseFieldDescriptor (TX6 k).2.2.1 = some (tyX6 k) := by decide +kernel
abbrev cX6_init : ByteArray := prog_8_method_1_code
def yX6_init : MethodName := ⟨RX6, "<init>", "()V"⟩
abbrev cX6_setBarred : ByteArray := prog_8_method_2_code
def yX6_setBarred : MethodName := ⟨RX6, "setBarred", "(IZ)Z"⟩
abbrev cX6_isFree : ByteArray := prog_8_method_3_code
def yX6_isFree : MethodName := ⟨RX6, "isFree", "(I)Z"⟩
abbrev cX6_markGiven : ByteArray := prog_8_method_4_code
def yX6_markGiven : MethodName := ⟨RX6, "markGiven", "(I)V"⟩
abbrev cX6_next : ByteArray := prog_8_method_5_code
def yX6_next : MethodName := ⟨RX6, "next", "()I"⟩
def RX7 : String := "Platehall$Sighting"
def TX7 : u_T := fun k => match k with
  | 0 => ("Platehall$Sighting", "signs", "[C", true)
  | 1 => ("Platehall$Sighting", "place", "I", true)
  | 2 => ("Platehall$Sighting", "day", "I", true)
  | _ => ("Platehall$Sighting", "moment", "I", true)
def tyX7 : Nat → FieldType := fun k => match k with
  | 0 => .array .char
  | 1 => .int
  | 2 => .int
  | _ => .int
theorem nmX7 : ∀ a, a < 4 → ∀ b, b < 4 → a ≠ b → (TX7 a).2.1 ≠ (TX7 b).2.1 := by decide +kernel
theorem tyX7_ok : ∀ k, k < 4 → parseFieldDescriptor (TX7 k).2.2.1 = some (tyX7 k) := by decide +kernel
abbrev cX7_init : ByteArray := prog_9_method_1_code
def yX7_init : MethodName := ⟨RX7, "<init>", "(III)V"⟩
abbrev cX7_agreesWith : ByteArray := prog_9_method_2_code
def yX7_agreesWith : MethodName := ⟨RX7, "agreesWith", "(I)Z"⟩
abbrev cX7_isTooSoonBehind : ByteArray := prog_9_method_3_code
def yX7_isTooSoonBehind : MethodName := ⟨RX7, "isTooSoonBehind", "(LPlatehall$Sighting;)Z"⟩
def RX8 : String := "Platehall$Standing"
def TX8 : u_T := fun k => match k with
  | 0 => ("Platehall$Standing", "state", "I", false)
  | 1 => ("Platehall$Standing", "stateAheadOfTheft", "I", false)
  | 2 => ("Platehall$Standing", "keeper", "I", false)
  | 3 => ("Platehall$Standing", "owner", "I", false)
  | _ => ("Platehall$Standing", "its", "I", false)
def tyX8 : Nat → FieldType := fun k => match k with
  | 0 => .int
  | 1 => .int
  | 2 => .int
  | 3 => .int
  | _ => .int
theorem nmX8 : ∀ a, a < 5 → ∀ b, b < 5 → a ≠ b → (TX8 a).2.1 ≠ (TX8 b).2.1 := by decide +kernel
theorem tyX8_ok : ∀ k, k < 5 → parseFieldDescriptor (TX8 k).2.2.1 = some (tyX8 k) := by decide +kernel
abbrev cX8_init : ByteArray := prog_10_method_1_code
def yX8_init : MethodName := ⟨RX8, "<init>", "(I)V"⟩
abbrev cX8_copyFrom : ByteArray := prog_10_method_2_code
def yX8_copyFrom : MethodName := ⟨RX8, "copyFrom", "(LPlatehall$Standing;)V"⟩
abbrev cX8_follow : ByteArray := prog_10_method_3_code
def yX8_follow : MethodName := ⟨RX8, "follow", "(LPlatehall$Event;)V"⟩
abbrev cX8_changeState : ByteArray := prog_10_method_4_code
def yX8_changeState : MethodName := ⟨RX8, "changeState", "(I)V"⟩
abbrev cX8_part : ByteArray := prog_10_method_5_code
def yX8_part : MethodName := ⟨RX8, "part", "(I)I"⟩
def RX9 : String := "Platehall$Tests"
def TX9 : u_T := fun k => match k with
  | 0 => ("Platehall$Tests", "count", "I", false)
  | 1 => ("Platehall$Tests", "latestDay", "I", false)
  | 2 => ("Platehall$Tests", "latestMileage", "I", false)
  | 3 => ("Platehall$Tests", "testedUntil", "I", false)
  | _ => ("Platehall$Tests", "turnedBack", "I", false)
def tyX9 : Nat → FieldType := fun k => match k with
  | 0 => .int
  | 1 => .int
  | 2 => .int
  | 3 => .int
  | _ => .int
theorem nmX9 : ∀ a, a < 5 → ∀ b, b < 5 → a ≠ b → (TX9 a).2.1 ≠ (TX9 b).2.1 := by decide +kernel
theorem tyX9_ok : ∀ k, k < 5 → parseFieldDescriptor (TX9 k).2.2.1 = some (tyX9 k) := by decide +kernel
abbrev cX9_init : ByteArray := prog_11_method_1_code
def yX9_init : MethodName := ⟨RX9, "<init>", "(I)V"⟩
abbrev cX9_take : ByteArray := prog_11_method_2_code
def yX9_take : MethodName := ⟨RX9, "take", "(III)V"⟩
def RX10 : String := "Platehall$Vehicle"
def TX10 : u_T := fun k => match k with
  | 0 => ("Platehall$Vehicle", "serial", "I", true)
  | 1 => ("Platehall$Vehicle", "built", "I", true)
  | 2 => ("Platehall$Vehicle", "history", "LPlatehall$History;", true)
  | 3 => ("Platehall$Vehicle", "tests", "LPlatehall$Tests;", true)
  | 4 => ("Platehall$Vehicle", "plates", "LPlatehall$Course;", true)
  | 5 => ("Platehall$Vehicle", "insuredUntil", "LPlatehall$Course;", true)
  | _ => ("Platehall$Vehicle", "paid", "J", false)
def tyX10 : Nat → FieldType := fun k => match k with
  | 0 => .int
  | 1 => .int
  | 2 => .object "Platehall$History"
  | 3 => .object "Platehall$Tests"
  | 4 => .object "Platehall$Course"
  | 5 => .object "Platehall$Course"
  | _ => .long
theorem nmX10 : ∀ a, a < 7 → ∀ b, b < 7 → a ≠ b → (TX10 a).2.1 ≠ (TX10 b).2.1 := by decide +kernel
theorem tyX10_ok : ∀ k, k < 7 → parseFieldDescriptor (TX10 k).2.2.1 = some (tyX10 k) := by decide +kernel
abbrev cX10_init : ByteArray := prog_12_method_1_code
def yX10_init : MethodName := ⟨RX10, "<init>", "(III)V"⟩
def RX11 : String := "Platehall"
def TX11 : u_T := fun k => match k with
  | 0 => ("Platehall", "today", "I", false)
  | 1 => ("Platehall", "buffer", "LPlatehall$Buffer;", true)
  | 2 => ("Platehall", "series", "LPlatehall$Series;", true)
  | 3 => ("Platehall", "vehicles", "Ljava/util/ArrayList;", true)
  | 4 => ("Platehall", "people", "Ljava/util/ArrayList;", true)
  | 5 => ("Platehall", "rates", "[LPlatehall$Course;", true)
  | 6 => ("Platehall", "ratesTold", "I", false)
  | 7 => ("Platehall", "sightings", "Ljava/util/ArrayList;", true)
  | 8 => ("Platehall", "sightingsByTime", "Ljava/util/ArrayList;", true)
  | _ => ("Platehall", "finesMade", "Ljava/util/ArrayList;", true)
def tyX11 : Nat → FieldType := fun k => match k with
  | 0 => .int
  | 1 => .object "Platehall$Buffer"
  | 2 => .object "Platehall$Series"
  | 3 => .object "java/util/ArrayList"
  | 4 => .object "java/util/ArrayList"
  | 5 => .array (.object "Platehall$Course")
  | 6 => .int
  | 7 => .object "java/util/ArrayList"
  | 8 => .object "java/util/ArrayList"
  | _ => .object "java/util/ArrayList"
theorem nmX11 : ∀ a, a < 10 → ∀ b, b < 10 → a ≠ b → (TX11 a).2.1 ≠ (TX11 b).2.1 := by decide +kernel
theorem tyX11_ok : ∀ k, k < 10 → parseFieldDescriptor (TX11 k).2.2.1 = some (tyX11 k) := by decide +kernel
abbrev cX11_init : ByteArray := prog_1_method_1_code
def yX11_init : MethodName := ⟨RX11, "<init>", "()V"⟩
abbrev cX11_type : ByteArray := prog_1_method_2_code
def yX11_type : MethodName := ⟨RX11, "type", "(C)I"⟩
abbrev cX11_clear : ByteArray := prog_1_method_3_code
def yX11_clear : MethodName := ⟨RX11, "clear", "()I"⟩
abbrev cX11_vehicle : ByteArray := prog_1_method_4_code
def yX11_vehicle : MethodName := ⟨RX11, "vehicle", "(III)I"⟩
abbrev cX11_stamped : ByteArray := prog_1_method_5_code
def yX11_stamped : MethodName := ⟨RX11, "stamped", "(I)I"⟩
abbrev cX11_person : ByteArray := prog_1_method_6_code
def yX11_person : MethodName := ⟨RX11, "person", "()I"⟩
abbrev cX11_protect : ByteArray := prog_1_method_7_code
def yX11_protect : MethodName := ⟨RX11, "protect", "(IZ)Z"⟩
abbrev cX11_vehicleAt : ByteArray := prog_1_method_8_code
def yX11_vehicleAt : MethodName := ⟨RX11, "vehicleAt", "(I)LPlatehall$Vehicle;"⟩
abbrev cX11_personAt : ByteArray := prog_1_method_9_code
def yX11_personAt : MethodName := ⟨RX11, "personAt", "(I)LPlatehall$Person;"⟩
abbrev cX11_vehicleOfSerial : ByteArray := prog_1_method_10_code
def yX11_vehicleOfSerial : MethodName := ⟨RX11, "vehicleOfSerial", "(I)I"⟩
abbrev cX11_checkDigit : ByteArray := prog_1_method_11_code
def yX11_checkDigit : MethodName := ⟨RX11, "checkDigit", "(I)I"⟩
abbrev cX11_stampedNumber : ByteArray := prog_1_method_12_code
def yX11_stampedNumber : MethodName := ⟨RX11, "stampedNumber", "(I)I"⟩
abbrev cX11_isWithin : ByteArray := prog_1_method_13_code
def yX11_isWithin : MethodName := ⟨RX11, "isWithin", "(III)Z"⟩
abbrev cX11_isClass : ByteArray := prog_1_method_14_code
def yX11_isClass : MethodName := ⟨RX11, "isClass", "(I)Z"⟩
abbrev cX11_tell : ByteArray := prog_1_method_15_code
def yX11_tell : MethodName := ⟨RX11, "tell", "(IIII)I"⟩
abbrev cX11_on : ByteArray := prog_1_method_16_code
def yX11_on : MethodName := ⟨RX11, "on", "(III)I"⟩
abbrev cX11_onAnew : ByteArray := prog_1_method_17_code
def yX11_onAnew : MethodName := ⟨RX11, "onAnew", "(III)I"⟩
abbrev cX11_fitsKind : ByteArray := prog_1_method_18_code
def yX11_fitsKind : MethodName := ⟨RX11, "fitsKind", "(II)Z"⟩
abbrev cX11_refuseStandingAsked : ByteArray := prog_1_method_19_code
def yX11_refuseStandingAsked : MethodName := ⟨RX11, "refuseStandingAsked", "(II)V"⟩
abbrev cX11_bar : ByteArray := prog_1_method_20_code
def yX11_bar : MethodName := ⟨RX11, "bar", "(CCZ)Z"⟩
abbrev cX11_allot : ByteArray := prog_1_method_21_code
def yX11_allot : MethodName := ⟨RX11, "allot", "(I)I"⟩
abbrev cX11_wish : ByteArray := prog_1_method_22_code
def yX11_wish : MethodName := ⟨RX11, "wish", "(I)I"⟩
abbrev cX11_plate : ByteArray := prog_1_method_23_code
def yX11_plate : MethodName := ⟨RX11, "plate", "(III)C"⟩
abbrev cX11_give : ByteArray := prog_1_method_24_code
def yX11_give : MethodName := ⟨RX11, "give", "(ILPlatehall$Vehicle;)V"⟩
abbrev cX11_isGoneToday : ByteArray := prog_1_method_25_code
def yX11_isGoneToday : MethodName := ⟨RX11, "isGoneToday", "(LPlatehall$Vehicle;)Z"⟩
abbrev cX11_isLetter : ByteArray := prog_1_method_26_code
def yX11_isLetter : MethodName := ⟨RX11, "isLetter", "(C)Z"⟩
abbrev cX11_isDigit : ByteArray := prog_1_method_27_code
def yX11_isDigit : MethodName := ⟨RX11, "isDigit", "(C)Z"⟩
abbrev cX11_fitsPlate : ByteArray := prog_1_method_28_code
def yX11_fitsPlate : MethodName := ⟨RX11, "fitsPlate", "(CI)Z"⟩
abbrev cX11_signOf : ByteArray := prog_1_method_29_code
def yX11_signOf : MethodName := ⟨RX11, "signOf", "(II)C"⟩
abbrev cX11_rate : ByteArray := prog_1_method_30_code
def yX11_rate : MethodName := ⟨RX11, "rate", "(III)I"⟩
abbrev cX11_pay : ByteArray := prog_1_method_31_code
def yX11_pay : MethodName := ⟨RX11, "pay", "(II)J"⟩
abbrev cX11_owes : ByteArray := prog_1_method_32_code
def yX11_owes : MethodName := ⟨RX11, "owes", "(I)J"⟩
abbrev cX11_taxOf : ByteArray := prog_1_method_33_code
def yX11_taxOf : MethodName := ⟨RX11, "taxOf", "(LPlatehall$History;)J"⟩
abbrev cX11_taxBetween : ByteArray := prog_1_method_34_code
def yX11_taxBetween : MethodName := ⟨RX11, "taxBetween", "(III)J"⟩
abbrev cX11_test : ByteArray := prog_1_method_35_code
def yX11_test : MethodName := ⟨RX11, "test", "(IIII)I"⟩
abbrev cX11_insure : ByteArray := prog_1_method_36_code
def yX11_insure : MethodName := ⟨RX11, "insure", "(II)Z"⟩
abbrev cX11_ofVehicle : ByteArray := prog_1_method_37_code
def yX11_ofVehicle : MethodName := ⟨RX11, "ofVehicle", "(II)I"⟩
abbrev cX11_gapOf : ByteArray := prog_1_method_38_code
def yX11_gapOf : MethodName := ⟨RX11, "gapOf", "(LPlatehall$Vehicle;)I"⟩
abbrev cX11_sight : ByteArray := prog_1_method_39_code
def yX11_sight : MethodName := ⟨RX11, "sight", "(II)I"⟩
abbrev cX11_seen : ByteArray := prog_1_method_40_code
def yX11_seen : MethodName := ⟨RX11, "seen", "(I)I"⟩
abbrev cX11_sightingAt : ByteArray := prog_1_method_41_code
def yX11_sightingAt : MethodName := ⟨RX11, "sightingAt", "(I)LPlatehall$Sighting;"⟩
abbrev cX11_fileByTime : ByteArray := prog_1_method_42_code
def yX11_fileByTime : MethodName := ⟨RX11, "fileByTime", "(LPlatehall$Sighting;)V"⟩
abbrev cX11_vehicleSeen : ByteArray := prog_1_method_43_code
def yX11_vehicleSeen : MethodName := ⟨RX11, "vehicleSeen", "(LPlatehall$Sighting;)I"⟩
abbrev cX11_clonesOf : ByteArray := prog_1_method_44_code
def yX11_clonesOf : MethodName := ⟨RX11, "clonesOf", "(I)I"⟩
abbrev cX11_fine : ByteArray := prog_1_method_45_code
def yX11_fine : MethodName := ⟨RX11, "fine", "(II)I"⟩
abbrev cX11_name : ByteArray := prog_1_method_46_code
def yX11_name : MethodName := ⟨RX11, "name", "(II)I"⟩
abbrev cX11_whose : ByteArray := prog_1_method_47_code
def yX11_whose : MethodName := ⟨RX11, "whose", "(I)I"⟩
abbrev cX11_fines : ByteArray := prog_1_method_48_code
def yX11_fines : MethodName := ⟨RX11, "fines", "(I)I"⟩
abbrev cX11_fineAt : ByteArray := prog_1_method_49_code
def yX11_fineAt : MethodName := ⟨RX11, "fineAt", "(I)LPlatehall$Fine;"⟩
abbrev cX11_payerOf : ByteArray := prog_1_method_50_code
def yX11_payerOf : MethodName := ⟨RX11, "payerOf", "(LPlatehall$Fine;)I"⟩
abbrev cX11_look : ByteArray := prog_1_method_51_code
def yX11_look : MethodName := ⟨RX11, "look", "(I)I"⟩
abbrev cX11_looked : ByteArray := prog_1_method_52_code
def yX11_looked : MethodName := ⟨RX11, "looked", "(I)I"⟩
abbrev cX11_isAllowedByState : ByteArray := prog_1_method_53_code
def yX11_isAllowedByState : MethodName := ⟨RX11, "isAllowedByState", "(I)Z"⟩
abbrev cX11_pass : ByteArray := prog_1_method_54_code
def yX11_pass : MethodName := ⟨RX11, "pass", "(I)I"⟩
def RX12 : String := "PlatehallModel"
def TX12 : u_T := fun k => match k with
  | 0 => ("PlatehallModel", "thrown", "I", false)
  | 1 => ("PlatehallModel", "today", "I", false)
  | 2 => ("PlatehallModel", "signs", "I", false)
  | 3 => ("PlatehallModel", "buffer", "[C", true)
  | 4 => ("PlatehallModel", "vehicles", "I", false)
  | 5 => ("PlatehallModel", "serial", "[I", true)
  | 6 => ("PlatehallModel", "built", "[I", true)
  | 7 => ("PlatehallModel", "ofClass", "[I", true)
  | 8 => ("PlatehallModel", "events", "[I", true)
  | 9 => ("PlatehallModel", "kind", "[I", true)
  | 10 => ("PlatehallModel", "about", "[I", true)
  | 11 => ("PlatehallModel", "day", "[I", true)
  | 12 => ("PlatehallModel", "people", "I", false)
  | 13 => ("PlatehallModel", "isProtected", "[Z", true)
  | 14 => ("PlatehallModel", "looked", "[I", true)
  | 15 => ("PlatehallModel", "isBarred", "[Z", true)
  | 16 => ("PlatehallModel", "series", "I", false)
  | 17 => ("PlatehallModel", "given", "[J", true)
  | 18 => ("PlatehallModel", "allotted", "I", false)
  | 19 => ("PlatehallModel", "plate", "[J", true)
  | 20 => ("PlatehallModel", "rates", "I", false)
  | 21 => ("PlatehallModel", "rateClass", "[I", true)
  | 22 => ("PlatehallModel", "rateFrom", "[I", true)
  | 23 => ("PlatehallModel", "rateIs", "[I", true)
  | 24 => ("PlatehallModel", "paid", "[J", true)
  | 25 => ("PlatehallModel", "tests", "[I", true)
  | 26 => ("PlatehallModel", "testDay", "[I", true)
  | 27 => ("PlatehallModel", "mileage", "[I", true)
  | 28 => ("PlatehallModel", "back", "[I", true)
  | 29 => ("PlatehallModel", "until", "[I", true)
  | 30 => ("PlatehallModel", "insured", "[J", true)
  | 31 => ("PlatehallModel", "sightings", "I", false)
  | 32 => ("PlatehallModel", "seenSigns", "[C", true)
  | 33 => ("PlatehallModel", "place", "[I", true)
  | 34 => ("PlatehallModel", "sightDay", "[I", true)
  | 35 => ("PlatehallModel", "minute", "[I", true)
  | 36 => ("PlatehallModel", "fines", "I", false)
  | 37 => ("PlatehallModel", "fineSight", "[I", true)
  | 38 => ("PlatehallModel", "amount", "[I", true)
  | 39 => ("PlatehallModel", "since", "[I", true)
  | 40 => ("PlatehallModel", "names", "[I", true)
  | 41 => ("PlatehallModel", "named", "[I", true)
  | 42 => ("PlatehallModel", "state", "I", false)
  | _ => ("PlatehallModel", "ahead", "I", false)
def tyX12 : Nat → FieldType := fun k => match k with
  | 0 => .int
  | 1 => .int
  | 2 => .int
  | 3 => .array .char
  | 4 => .int
  | 5 => .array .int
  | 6 => .array .int
  | 7 => .array .int
  | 8 => .array .int
  | 9 => .array .int
  | 10 => .array .int
  | 11 => .array .int
  | 12 => .int
  | 13 => .array .boolean
  | 14 => .array .int
  | 15 => .array .boolean
  | 16 => .int
  | 17 => .array .long
  | 18 => .int
  | 19 => .array .long
  | 20 => .int
  | 21 => .array .int
  | 22 => .array .int
  | 23 => .array .int
  | 24 => .array .long
  | 25 => .array .int
  | 26 => .array .int
  | 27 => .array .int
  | 28 => .array .int
  | 29 => .array .int
  | 30 => .array .long
  | 31 => .int
  | 32 => .array .char
  | 33 => .array .int
  | 34 => .array .int
  | 35 => .array .int
  | 36 => .int
  | 37 => .array .int
  | 38 => .array .int
  | 39 => .array .int
  | 40 => .array .int
  | 41 => .array .int
  | 42 => .int
  | _ => .int
theorem nmX12 : ∀ a, a < 44 → ∀ b, b < 44 → a ≠ b → (TX12 a).2.1 ≠ (TX12 b).2.1 := by decide +kernel
theorem tyX12_ok : ∀ k, k < 44 → parseFieldDescriptor (TX12 k).2.2.1 = some (tyX12 k) := by decide +kernel
abbrev cX12_init : ByteArray := prog_14_method_1_code
def yX12_init : MethodName := ⟨RX12, "<init>", "()V"⟩
abbrev cX12_thrown : ByteArray := prog_14_method_2_code
def yX12_thrown : MethodName := ⟨RX12, "thrown", "()I"⟩
abbrev cX12_goesWell : ByteArray := prog_14_method_3_code
def yX12_goesWell : MethodName := ⟨RX12, "goesWell", "(I)Z"⟩
abbrev cX12_in : ByteArray := prog_14_method_4_code
def yX12_in : MethodName := ⟨RX12, "in", "(III)Z"⟩
abbrev cX12_isVehicle : ByteArray := prog_14_method_5_code
def yX12_isVehicle : MethodName := ⟨RX12, "isVehicle", "(I)Z"⟩
abbrev cX12_isPerson : ByteArray := prog_14_method_6_code
def yX12_isPerson : MethodName := ⟨RX12, "isPerson", "(I)Z"⟩
abbrev cX12_type : ByteArray := prog_14_method_7_code
def yX12_type : MethodName := ⟨RX12, "type", "(C)I"⟩
abbrev cX12_clear : ByteArray := prog_14_method_8_code
def yX12_clear : MethodName := ⟨RX12, "clear", "()I"⟩
abbrev cX12_check : ByteArray := prog_14_method_9_code
def yX12_check : MethodName := ⟨RX12, "check", "(I)I"⟩
abbrev cX12_vehicleOf : ByteArray := prog_14_method_10_code
def yX12_vehicleOf : MethodName := ⟨RX12, "vehicleOf", "(I)I"⟩
abbrev cX12_vehicle : ByteArray := prog_14_method_11_code
def yX12_vehicle : MethodName := ⟨RX12, "vehicle", "(III)I"⟩
abbrev cX12_stamped : ByteArray := prog_14_method_12_code
def yX12_stamped : MethodName := ⟨RX12, "stamped", "(I)I"⟩
abbrev cX12_person : ByteArray := prog_14_method_13_code
def yX12_person : MethodName := ⟨RX12, "person", "()I"⟩
abbrev cX12_protect : ByteArray := prog_14_method_14_code
def yX12_protect : MethodName := ⟨RX12, "protect", "(IZ)Z"⟩
abbrev cX12_isAbout : ByteArray := prog_14_method_15_code
def yX12_isAbout : MethodName := ⟨RX12, "isAbout", "(II)Z"⟩
abbrev cX12_tell : ByteArray := prog_14_method_16_code
def yX12_tell : MethodName := ⟨RX12, "tell", "(IIII)I"⟩
abbrev cX12_change : ByteArray := prog_14_method_17_code
def yX12_change : MethodName := ⟨RX12, "change", "(I)V"⟩
abbrev cX12_stateOn : ByteArray := prog_14_method_18_code
def yX12_stateOn : MethodName := ⟨RX12, "stateOn", "(II)I"⟩
abbrev cX12_latest : ByteArray := prog_14_method_19_code
def yX12_latest : MethodName := ⟨RX12, "latest", "(IIII)I"⟩
abbrev cX12_isOn : ByteArray := prog_14_method_20_code
def yX12_isOn : MethodName := ⟨RX12, "isOn", "(III)I"⟩
abbrev cX12_on : ByteArray := prog_14_method_21_code
def yX12_on : MethodName := ⟨RX12, "on", "(III)I"⟩
abbrev cX12_onAnew : ByteArray := prog_14_method_22_code
def yX12_onAnew : MethodName := ⟨RX12, "onAnew", "(III)I"⟩
abbrev cX12_isLetter : ByteArray := prog_14_method_23_code
def yX12_isLetter : MethodName := ⟨RX12, "isLetter", "(I)Z"⟩
abbrev cX12_bar : ByteArray := prog_14_method_24_code
def yX12_bar : MethodName := ⟨RX12, "bar", "(CCZ)Z"⟩
abbrev cX12_isFree : ByteArray := prog_14_method_25_code
def yX12_isFree : MethodName := ⟨RX12, "isFree", "(I)Z"⟩
abbrev cX12_give : ByteArray := prog_14_method_26_code
def yX12_give : MethodName := ⟨RX12, "give", "(II)I"⟩
abbrev cX12_allot : ByteArray := prog_14_method_27_code
def yX12_allot : MethodName := ⟨RX12, "allot", "(I)I"⟩
abbrev cX12_plateIn : ByteArray := prog_14_method_28_code
def yX12_plateIn : MethodName := ⟨RX12, "plateIn", "()I"⟩
abbrev cX12_wish : ByteArray := prog_14_method_29_code
def yX12_wish : MethodName := ⟨RX12, "wish", "(I)I"⟩
abbrev cX12_plateOn : ByteArray := prog_14_method_30_code
def yX12_plateOn : MethodName := ⟨RX12, "plateOn", "(II)I"⟩
abbrev cX12_signOf : ByteArray := prog_14_method_31_code
def yX12_signOf : MethodName := ⟨RX12, "signOf", "(II)C"⟩
abbrev cX12_plate : ByteArray := prog_14_method_32_code
def yX12_plate : MethodName := ⟨RX12, "plate", "(III)C"⟩
abbrev cX12_rate : ByteArray := prog_14_method_33_code
def yX12_rate : MethodName := ⟨RX12, "rate", "(III)I"⟩
abbrev cX12_rateOn : ByteArray := prog_14_method_34_code
def yX12_rateOn : MethodName := ⟨RX12, "rateOn", "(II)I"⟩
abbrev cX12_owed : ByteArray := prog_14_method_35_code
def yX12_owed : MethodName := ⟨RX12, "owed", "(I)J"⟩
abbrev cX12_pay : ByteArray := prog_14_method_36_code
def yX12_pay : MethodName := ⟨RX12, "pay", "(II)J"⟩
abbrev cX12_owes : ByteArray := prog_14_method_37_code
def yX12_owes : MethodName := ⟨RX12, "owes", "(I)J"⟩
abbrev cX12_test : ByteArray := prog_14_method_38_code
def yX12_test : MethodName := ⟨RX12, "test", "(IIII)I"⟩
abbrev cX12_isInsured : ByteArray := prog_14_method_39_code
def yX12_isInsured : MethodName := ⟨RX12, "isInsured", "(II)Z"⟩
abbrev cX12_insure : ByteArray := prog_14_method_40_code
def yX12_insure : MethodName := ⟨RX12, "insure", "(II)Z"⟩
abbrev cX12_gap : ByteArray := prog_14_method_41_code
def yX12_gap : MethodName := ⟨RX12, "gap", "(I)I"⟩
abbrev cX12_ofVehicle : ByteArray := prog_14_method_42_code
def yX12_ofVehicle : MethodName := ⟨RX12, "ofVehicle", "(II)I"⟩
abbrev cX12_isSight : ByteArray := prog_14_method_43_code
def yX12_isSight : MethodName := ⟨RX12, "isSight", "()Z"⟩
abbrev cX12_sight : ByteArray := prog_14_method_44_code
def yX12_sight : MethodName := ⟨RX12, "sight", "(II)I"⟩
abbrev cX12_agrees : ByteArray := prog_14_method_45_code
def yX12_agrees : MethodName := ⟨RX12, "agrees", "(II)Z"⟩
abbrev cX12_seenBy : ByteArray := prog_14_method_46_code
def yX12_seenBy : MethodName := ⟨RX12, "seenBy", "(I)I"⟩
abbrev cX12_isSighting : ByteArray := prog_14_method_47_code
def yX12_isSighting : MethodName := ⟨RX12, "isSighting", "(I)Z"⟩
abbrev cX12_seen : ByteArray := prog_14_method_48_code
def yX12_seen : MethodName := ⟨RX12, "seen", "(I)I"⟩
abbrev cX12_minutes : ByteArray := prog_14_method_49_code
def yX12_minutes : MethodName := ⟨RX12, "minutes", "(I)I"⟩
abbrev cX12_isBehind : ByteArray := prog_14_method_50_code
def yX12_isBehind : MethodName := ⟨RX12, "isBehind", "(II)Z"⟩
abbrev cX12_clones : ByteArray := prog_14_method_51_code
def yX12_clones : MethodName := ⟨RX12, "clones", "(I)I"⟩
abbrev cX12_fine : ByteArray := prog_14_method_52_code
def yX12_fine : MethodName := ⟨RX12, "fine", "(II)I"⟩
abbrev cX12_whoseIs : ByteArray := prog_14_method_53_code
def yX12_whoseIs : MethodName := ⟨RX12, "whoseIs", "(I)I"⟩
abbrev cX12_isFine : ByteArray := prog_14_method_54_code
def yX12_isFine : MethodName := ⟨RX12, "isFine", "(I)Z"⟩
abbrev cX12_name : ByteArray := prog_14_method_55_code
def yX12_name : MethodName := ⟨RX12, "name", "(II)I"⟩
abbrev cX12_whose : ByteArray := prog_14_method_56_code
def yX12_whose : MethodName := ⟨RX12, "whose", "(I)I"⟩
abbrev cX12_fines : ByteArray := prog_14_method_57_code
def yX12_fines : MethodName := ⟨RX12, "fines", "(I)I"⟩
abbrev cX12_isWord : ByteArray := prog_14_method_58_code
def yX12_isWord : MethodName := ⟨RX12, "isWord", "(JI)Z"⟩
abbrev cX12_word : ByteArray := prog_14_method_59_code
def yX12_word : MethodName := ⟨RX12, "word", "(IIIIIII)J"⟩
abbrev cX12_look : ByteArray := prog_14_method_60_code
def yX12_look : MethodName := ⟨RX12, "look", "(I)I"⟩
abbrev cX12_looked : ByteArray := prog_14_method_61_code
def yX12_looked : MethodName := ⟨RX12, "looked", "(I)I"⟩
abbrev cX12_pass : ByteArray := prog_14_method_62_code
def yX12_pass : MethodName := ⟨RX12, "pass", "(I)I"⟩
def RJx145de : String := "java/io/Serializable"
def TJx145de : u_T := fun k => match k with
  | _ => ("", "", "", false)
def tyJx145de : Nat → FieldType := fun k => match k with
  | _ => .int
theorem nmJx145de : ∀ a, a < 0 → ∀ b, b < 0 → a ≠ b → (TJx145de a).2.1 ≠ (TJx145de b).2.1 := by decide +kernel
theorem tyJx145de_ok : ∀ k, k < 0 → parseFieldDescriptor (TJx145de k).2.2.1 = some (tyJx145de k) := by decide +kernel
def RJ5 : String := "java/lang/AbstractStringBuilder"
def TJ5 : u_T := fun k => match k with
  | _ => ("", "", "", false)
def tyJ5 : Nat → FieldType := fun k => match k with
  | _ => .int
theorem nmJ5 : ∀ a, a < 0 → ∀ b, b < 0 → a ≠ b → (TJ5 a).2.1 ≠ (TJ5 b).2.1 := by decide +kernel
theorem tyJ5_ok : ∀ k, k < 0 → parseFieldDescriptor (TJ5 k).2.2.1 = some (tyJ5 k) := by decide +kernel
abbrev cJ5_init_d00df : ByteArray := prog_16_method_2_code
def yJ5_init_d00df : MethodName := ⟨RJ5, "<init>", "(I)V"⟩
abbrev cJ5_length_8abf5 : ByteArray := prog_16_method_6_code
def yJ5_length_8abf5 : MethodName := ⟨RJ5, "length", "()I"⟩
abbrev cJ5_ensureCapacityInternal_d00df : ByteArray := prog_16_method_9_code
def yJ5_ensureCapacityInternal_d00df : MethodName := ⟨RJ5, "ensureCapacityInternal", "(I)V"⟩
abbrev cJ5_newCapacity_0f7a4 : ByteArray := prog_16_method_10_code
def yJ5_newCapacity_0f7a4 : MethodName := ⟨RJ5, "newCapacity", "(I)I"⟩
abbrev cJ5_inflate_da8c8 : ByteArray := prog_16_method_11_code
def yJ5_inflate_da8c8 : MethodName := ⟨RJ5, "inflate", "()V"⟩
abbrev cJ5_append_cf1ce : ByteArray := prog_16_method_22_code
def yJ5_append_cf1ce : MethodName := ⟨RJ5, "append", "(Ljava/lang/String;)Ljava/lang/AbstractStringBuilder;"⟩
abbrev cJ5_appendNull_278bc : ByteArray := prog_16_method_26_code
def yJ5_appendNull_278bc : MethodName := ⟨RJ5, "appendNull", "()Ljava/lang/AbstractStringBuilder;"⟩
abbrev cJ5_append_c97b9 : ByteArray := prog_16_method_32_code
def yJ5_append_c97b9 : MethodName := ⟨RJ5, "append", "(I)Ljava/lang/AbstractStringBuilder;"⟩
abbrev cJ5_getValue_6d5f1 : ByteArray := prog_16_method_64_code
def yJ5_getValue_6d5f1 : MethodName := ⟨RJ5, "getValue", "()[B"⟩
abbrev cJ5_isLatin1_aae02 : ByteArray := prog_16_method_68_code
def yJ5_isLatin1_aae02 : MethodName := ⟨RJ5, "isLatin1", "()Z"⟩
abbrev cJ5_inflateIfNeededFor_a7421 : ByteArray := prog_16_method_71_code
def yJ5_inflateIfNeededFor_a7421 : MethodName := ⟨RJ5, "inflateIfNeededFor", "(Ljava/lang/String;)V"⟩
abbrev cJ5_putStringAt_47b60 : ByteArray := prog_16_method_73_code
def yJ5_putStringAt_47b60 : MethodName := ⟨RJ5, "putStringAt", "(ILjava/lang/String;)V"⟩
def RJx2cfe8 : String := "java/lang/Appendable"
def TJx2cfe8 : u_T := fun k => match k with
  | _ => ("", "", "", false)
def tyJx2cfe8 : Nat → FieldType := fun k => match k with
  | _ => .int
theorem nmJx2cfe8 : ∀ a, a < 0 → ∀ b, b < 0 → a ≠ b → (TJx2cfe8 a).2.1 ≠ (TJx2cfe8 b).2.1 := by decide +kernel
theorem tyJx2cfe8_ok : ∀ k, k < 0 → parseFieldDescriptor (TJx2cfe8 k).2.2.1 = some (tyJx2cfe8 k) := by decide +kernel
def RJx9f9b0 : String := "java/lang/CharSequence"
def TJx9f9b0 : u_T := fun k => match k with
  | _ => ("", "", "", false)
def tyJx9f9b0 : Nat → FieldType := fun k => match k with
  | _ => .int
theorem nmJx9f9b0 : ∀ a, a < 0 → ∀ b, b < 0 → a ≠ b → (TJx9f9b0 a).2.1 ≠ (TJx9f9b0 b).2.1 := by decide +kernel
theorem tyJx9f9b0_ok : ∀ k, k < 0 → parseFieldDescriptor (TJx9f9b0 k).2.2.1 = some (tyJx9f9b0 k) := by decide +kernel
def RJx8e188 : String := "java/lang/Cloneable"
def TJx8e188 : u_T := fun k => match k with
  | _ => ("", "", "", false)
def tyJx8e188 : Nat → FieldType := fun k => match k with
  | _ => .int
theorem nmJx8e188 : ∀ a, a < 0 → ∀ b, b < 0 → a ≠ b → (TJx8e188 a).2.1 ≠ (TJx8e188 b).2.1 := by decide +kernel
theorem tyJx8e188_ok : ∀ k, k < 0 → parseFieldDescriptor (TJx8e188 k).2.2.1 = some (tyJx8e188 k) := by decide +kernel
def RJxb160c : String := "java/lang/Comparable"
def TJxb160c : u_T := fun k => match k with
  | _ => ("", "", "", false)
def tyJxb160c : Nat → FieldType := fun k => match k with
  | _ => .int
theorem nmJxb160c : ∀ a, a < 0 → ∀ b, b < 0 → a ≠ b → (TJxb160c a).2.1 ≠ (TJxb160c b).2.1 := by decide +kernel
theorem tyJxb160c_ok : ∀ k, k < 0 → parseFieldDescriptor (TJxb160c k).2.2.1 = some (tyJxb160c k) := by decide +kernel
def RJ6 : String := "java/lang/Integer"
def TJ6 : u_T := fun k => match k with
  | _ => ("", "", "", false)
def tyJ6 : Nat → FieldType := fun k => match k with
  | _ => .int
theorem nmJ6 : ∀ a, a < 0 → ∀ b, b < 0 → a ≠ b → (TJ6 a).2.1 ≠ (TJ6 b).2.1 := by decide +kernel
theorem tyJ6_ok : ∀ k, k < 0 → parseFieldDescriptor (TJ6 k).2.2.1 = some (tyJ6 k) := by decide +kernel
abbrev cJ6_getChars_ba4f3 : ByteArray := prog_25_method_12_code
def yJ6_getChars_ba4f3 : MethodName := ⟨RJ6, "getChars", "(II[B)I"⟩
abbrev cJ6_stringSize_0f7a4 : ByteArray := prog_25_method_13_code
def yJ6_stringSize_0f7a4 : MethodName := ⟨RJ6, "stringSize", "(I)I"⟩
def RJxab1ab : String := "java/lang/Iterable"
def TJxab1ab : u_T := fun k => match k with
  | _ => ("", "", "", false)
def tyJxab1ab : Nat → FieldType := fun k => match k with
  | _ => .int
theorem nmJxab1ab : ∀ a, a < 0 → ∀ b, b < 0 → a ≠ b → (TJxab1ab a).2.1 ≠ (TJxab1ab b).2.1 := by decide +kernel
theorem tyJxab1ab_ok : ∀ k, k < 0 → parseFieldDescriptor (TJxab1ab k).2.2.1 = some (tyJxab1ab k) := by decide +kernel
def RJ9 : String := "java/lang/Math"
def TJ9 : u_T := fun k => match k with
  | _ => ("", "", "", false)
def tyJ9 : Nat → FieldType := fun k => match k with
  | _ => .int
theorem nmJ9 : ∀ a, a < 0 → ∀ b, b < 0 → a ≠ b → (TJ9 a).2.1 ≠ (TJ9 b).2.1 := by decide +kernel
theorem tyJ9_ok : ∀ k, k < 0 → parseFieldDescriptor (TJ9 k).2.2.1 = some (tyJ9 k) := by decide +kernel
abbrev cJ9_abs_0f7a4 : ByteArray := prog_27_method_59_code
def yJ9_abs_0f7a4 : MethodName := ⟨RJ9, "abs", "(I)I"⟩
abbrev cJ9_max_7cf53 : ByteArray := prog_27_method_65_code
def yJ9_max_7cf53 : MethodName := ⟨RJ9, "max", "(II)I"⟩
abbrev cJ9_min_7cf53 : ByteArray := prog_27_method_69_code
def yJ9_min_7cf53 : MethodName := ⟨RJ9, "min", "(II)I"⟩
def RJxd2413 : String := "java/lang/Number"
def TJxd2413 : u_T := fun k => match k with
  | _ => ("", "", "", false)
def tyJxd2413 : Nat → FieldType := fun k => match k with
  | _ => .int
theorem nmJxd2413 : ∀ a, a < 0 → ∀ b, b < 0 → a ≠ b → (TJxd2413 a).2.1 ≠ (TJxd2413 b).2.1 := by decide +kernel
theorem tyJxd2413_ok : ∀ k, k < 0 → parseFieldDescriptor (TJxd2413 k).2.2.1 = some (tyJxd2413 k) := by decide +kernel
def RJ0 : String := "java/lang/String"
def TJ0 : u_T := fun k => match k with
  | 0 => ("java/lang/String", "value", "[B", true)
  | 1 => ("java/lang/String", "coder", "B", true)
  | 2 => ("java/lang/String", "hash", "I", false)
  | _ => ("java/lang/String", "hashIsZero", "Z", false)
def tyJ0 : Nat → FieldType := fun k => match k with
  | 0 => .array .byte
  | 1 => .byte
  | 2 => .int
  | _ => .boolean
theorem nmJ0 : ∀ a, a < 4 → ∀ b, b < 4 → a ≠ b → (TJ0 a).2.1 ≠ (TJ0 b).2.1 := by decide +kernel
theorem tyJ0_ok : ∀ k, k < 4 → parseFieldDescriptor (TJ0 k).2.2.1 = some (tyJ0 k) := by decide +kernel
abbrev cJ0_init_81219 : ByteArray := prog_30_method_53_code
def yJ0_init_81219 : MethodName := ⟨RJ0, "<init>", "(Ljava/lang/StringBuilder;)V"⟩
abbrev cJ0_length_8abf5 : ByteArray := prog_30_method_54_code
def yJ0_length_8abf5 : MethodName := ⟨RJ0, "length", "()I"⟩
abbrev cJ0_charAt_5068e : ByteArray := prog_30_method_56_code
def yJ0_charAt_5068e : MethodName := ⟨RJ0, "charAt", "(I)C"⟩
abbrev cJ0_getBytes_840e7 : ByteArray := prog_30_method_147_code
def yJ0_getBytes_840e7 : MethodName := ⟨RJ0, "getBytes", "([BIB)V"⟩
abbrev cJ0_init_db425 : ByteArray := prog_30_method_150_code
def yJ0_init_db425 : MethodName := ⟨RJ0, "<init>", "(Ljava/lang/AbstractStringBuilder;Ljava/lang/Void;)V"⟩
abbrev cJ0_coder_7d493 : ByteArray := prog_30_method_152_code
def yJ0_coder_7d493 : MethodName := ⟨RJ0, "coder", "()B"⟩
abbrev cJ0_isLatin1_aae02 : ByteArray := prog_30_method_154_code
def yJ0_isLatin1_aae02 : MethodName := ⟨RJ0, "isLatin1", "()Z"⟩
abbrev cJ0_checkIndex_df160 : ByteArray := prog_30_method_155_code
def yJ0_checkIndex_df160 : MethodName := ⟨RJ0, "checkIndex", "(II)V"⟩
abbrev cJ0_checkBoundsOffCount_cabcc : ByteArray := prog_30_method_157_code
def yJ0_checkBoundsOffCount_cabcc : MethodName := ⟨RJ0, "checkBoundsOffCount", "(III)I"⟩
abbrev cJ0_checkBoundsBeginEnd_23922 : ByteArray := prog_30_method_158_code
def yJ0_checkBoundsBeginEnd_23922 : MethodName := ⟨RJ0, "checkBoundsBeginEnd", "(III)V"⟩
def RJ4 : String := "java/lang/StringBuilder"
def TJ4 : u_T := fun k => match k with
  | 0 => ("java/lang/AbstractStringBuilder", "value", "[B", false)
  | 1 => ("java/lang/AbstractStringBuilder", "coder", "B", false)
  | 2 => ("java/lang/AbstractStringBuilder", "maybeLatin1", "Z", false)
  | _ => ("java/lang/AbstractStringBuilder", "count", "I", false)
def tyJ4 : Nat → FieldType := fun k => match k with
  | 0 => .array .byte
  | 1 => .byte
  | 2 => .boolean
  | _ => .int
theorem nmJ4 : ∀ a, a < 4 → ∀ b, b < 4 → a ≠ b → (TJ4 a).2.1 ≠ (TJ4 b).2.1 := by decide +kernel
theorem tyJ4_ok : ∀ k, k < 4 → parseFieldDescriptor (TJ4 k).2.2.1 = some (tyJ4 k) := by decide +kernel
abbrev cJ4_init_da8c8 : ByteArray := prog_31_method_1_code
def yJ4_init_da8c8 : MethodName := ⟨RJ4, "<init>", "()V"⟩
abbrev cJ4_append_15ec4 : ByteArray := prog_31_method_7_code
def yJ4_append_15ec4 : MethodName := ⟨RJ4, "append", "(Ljava/lang/String;)Ljava/lang/StringBuilder;"⟩
abbrev cJ4_append_bf812 : ByteArray := prog_31_method_15_code
def yJ4_append_bf812 : MethodName := ⟨RJ4, "append", "(I)Ljava/lang/StringBuilder;"⟩
abbrev cJ4_toString_0e30d : ByteArray := prog_31_method_42_code
def yJ4_toString_0e30d : MethodName := ⟨RJ4, "toString", "()Ljava/lang/String;"⟩
abbrev cJ4_length_8abf5 : ByteArray := prog_31_method_93_code
def yJ4_length_8abf5 : MethodName := ⟨RJ4, "length", "()I"⟩
def RJ1 : String := "java/lang/StringLatin1"
def TJ1 : u_T := fun k => match k with
  | _ => ("", "", "", false)
def tyJ1 : Nat → FieldType := fun k => match k with
  | _ => .int
theorem nmJ1 : ∀ a, a < 0 → ∀ b, b < 0 → a ≠ b → (TJ1 a).2.1 ≠ (TJ1 b).2.1 := by decide +kernel
theorem tyJ1_ok : ∀ k, k < 0 → parseFieldDescriptor (TJ1 k).2.2.1 = some (tyJ1 k) := by decide +kernel
abbrev cJ1_charAt_3b067 : ByteArray := prog_32_method_2_code
def yJ1_charAt_3b067 : MethodName := ⟨RJ1, "charAt", "([BI)C"⟩
abbrev cJ1_inflate_0e8fd : ByteArray := prog_32_method_50_code
def yJ1_inflate_0e8fd : MethodName := ⟨RJ1, "inflate", "([BI[BII)V"⟩
def RJ2 : String := "java/lang/StringUTF16"
def TJ2 : u_T := fun k => match k with
  | _ => ("", "", "", false)
def tyJ2 : Nat → FieldType := fun k => match k with
  | _ => .int
theorem nmJ2 : ∀ a, a < 0 → ∀ b, b < 0 → a ≠ b → (TJ2 a).2.1 ≠ (TJ2 b).2.1 := by decide +kernel
theorem tyJ2_ok : ∀ k, k < 0 → parseFieldDescriptor (TJ2 k).2.2.1 = some (tyJ2 k) := by decide +kernel
abbrev cJ2_newBytesFor_77867 : ByteArray := prog_33_method_2_code
def yJ2_newBytesFor_77867 : MethodName := ⟨RJ2, "newBytesFor", "(I)[B"⟩
abbrev cJ2_newBytesLength_0f7a4 : ByteArray := prog_33_method_3_code
def yJ2_newBytesLength_0f7a4 : MethodName := ⟨RJ2, "newBytesLength", "(I)I"⟩
abbrev cJ2_putChar_b72d1 : ByteArray := prog_33_method_4_code
def yJ2_putChar_b72d1 : MethodName := ⟨RJ2, "putChar", "([BII)V"⟩
abbrev cJ2_getChar_3b067 : ByteArray := prog_33_method_5_code
def yJ2_getChar_3b067 : MethodName := ⟨RJ2, "getChar", "([BI)C"⟩
abbrev cJ2_length_9d52b : ByteArray := prog_33_method_6_code
def yJ2_length_9d52b : MethodName := ⟨RJ2, "length", "([B)I"⟩
abbrev cJ2_coderFromArrayLen_85cad : ByteArray := prog_33_method_15_code
def yJ2_coderFromArrayLen_85cad : MethodName := ⟨RJ2, "coderFromArrayLen", "([BI)B"⟩
abbrev cJ2_compress_39247 : ByteArray := prog_33_method_17_code
def yJ2_compress_39247 : MethodName := ⟨RJ2, "compress", "([BII)[B"⟩
abbrev cJ2_compress_5af95 : ByteArray := prog_33_method_22_code
def yJ2_compress_5af95 : MethodName := ⟨RJ2, "compress", "([BI[BII)I"⟩
abbrev cJ2_getChars_46870 : ByteArray := prog_33_method_77_code
def yJ2_getChars_46870 : MethodName := ⟨RJ2, "getChars", "(III[B)I"⟩
abbrev cJ2_putCharsAt_cd4e5 : ByteArray := prog_33_method_81_code
def yJ2_putCharsAt_cd4e5 : MethodName := ⟨RJ2, "putCharsAt", "([BICCCC)I"⟩
abbrev cJ2_charAt_3b067 : ByteArray := prog_33_method_83_code
def yJ2_charAt_3b067 : MethodName := ⟨RJ2, "charAt", "([BI)C"⟩
abbrev cJ2_inflate_0e8fd : ByteArray := prog_33_method_86_code
def yJ2_inflate_0e8fd : MethodName := ⟨RJ2, "inflate", "([BI[BII)V"⟩
abbrev cJ2_getChars_ba4f3 : ByteArray := prog_33_method_89_code
def yJ2_getChars_ba4f3 : MethodName := ⟨RJ2, "getChars", "(II[B)I"⟩
abbrev cJ2_checkIndex_2214a : ByteArray := prog_33_method_91_code
def yJ2_checkIndex_2214a : MethodName := ⟨RJ2, "checkIndex", "(I[B)V"⟩
abbrev cJ2_checkBoundsBeginEnd_d044e : ByteArray := prog_33_method_93_code
def yJ2_checkBoundsBeginEnd_d044e : MethodName := ⟨RJ2, "checkBoundsBeginEnd", "(II[B)V"⟩
abbrev cJ2_checkBoundsOffCount_d044e : ByteArray := prog_33_method_94_code
def yJ2_checkBoundsOffCount_d044e : MethodName := ⟨RJ2, "checkBoundsOffCount", "(II[B)V"⟩
def RJ10 : String := "java/lang/System"
def TJ10 : u_T := fun k => match k with
  | _ => ("", "", "", false)
def tyJ10 : Nat → FieldType := fun k => match k with
  | _ => .int
theorem nmJ10 : ∀ a, a < 0 → ∀ b, b < 0 → a ≠ b → (TJ10 a).2.1 ≠ (TJ10 b).2.1 := by decide +kernel
theorem tyJ10_ok : ∀ k, k < 0 → parseFieldDescriptor (TJ10 k).2.2.1 = some (tyJ10 k) := by decide +kernel
def RJxfd54e : String := "java/lang/constant/Constable"
def TJxfd54e : u_T := fun k => match k with
  | _ => ("", "", "", false)
def tyJxfd54e : Nat → FieldType := fun k => match k with
  | _ => .int
theorem nmJxfd54e : ∀ a, a < 0 → ∀ b, b < 0 → a ≠ b → (TJxfd54e a).2.1 ≠ (TJxfd54e b).2.1 := by decide +kernel
theorem tyJxfd54e_ok : ∀ k, k < 0 → parseFieldDescriptor (TJxfd54e k).2.2.1 = some (tyJxfd54e k) := by decide +kernel
def RJx3cf43 : String := "java/lang/constant/ConstantDesc"
def TJx3cf43 : u_T := fun k => match k with
  | _ => ("", "", "", false)
def tyJx3cf43 : Nat → FieldType := fun k => match k with
  | _ => .int
theorem nmJx3cf43 : ∀ a, a < 0 → ∀ b, b < 0 → a ≠ b → (TJx3cf43 a).2.1 ≠ (TJx3cf43 b).2.1 := by decide +kernel
theorem tyJx3cf43_ok : ∀ k, k < 0 → parseFieldDescriptor (TJx3cf43 k).2.2.1 = some (tyJx3cf43 k) := by decide +kernel
def RJxa1e45 : String := "java/util/AbstractCollection"
def TJxa1e45 : u_T := fun k => match k with
  | _ => ("", "", "", false)
def tyJxa1e45 : Nat → FieldType := fun k => match k with
  | _ => .int
theorem nmJxa1e45 : ∀ a, a < 0 → ∀ b, b < 0 → a ≠ b → (TJxa1e45 a).2.1 ≠ (TJxa1e45 b).2.1 := by decide +kernel
theorem tyJxa1e45_ok : ∀ k, k < 0 → parseFieldDescriptor (TJxa1e45 k).2.2.1 = some (tyJxa1e45 k) := by decide +kernel
abbrev cJxa1e45_init_da8c8 : ByteArray := prog_38_method_1_code
def yJxa1e45_init_da8c8 : MethodName := ⟨RJxa1e45, "<init>", "()V"⟩
def RJxc12de : String := "java/util/AbstractList"
def TJxc12de : u_T := fun k => match k with
  | _ => ("", "", "", false)
def tyJxc12de : Nat → FieldType := fun k => match k with
  | _ => .int
theorem nmJxc12de : ∀ a, a < 0 → ∀ b, b < 0 → a ≠ b → (TJxc12de a).2.1 ≠ (TJxc12de b).2.1 := by decide +kernel
theorem tyJxc12de_ok : ∀ k, k < 0 → parseFieldDescriptor (TJxc12de k).2.2.1 = some (tyJxc12de k) := by decide +kernel
abbrev cJxc12de_init_da8c8 : ByteArray := prog_39_method_1_code
def yJxc12de_init_da8c8 : MethodName := ⟨RJxc12de, "<init>", "()V"⟩
def RJx4a65c : String := "java/util/ArrayList"
def TJx4a65c : u_T := fun k => match k with
  | 0 => ("java/util/AbstractList", "modCount", "I", false)
  | 1 => ("java/util/ArrayList", "elementData", "[Ljava/lang/Object;", false)
  | _ => ("java/util/ArrayList", "size", "I", false)
def tyJx4a65c : Nat → FieldType := fun k => match k with
  | 0 => .int
  | 1 => .array (.object "java/lang/Object")
  | _ => .int
theorem nmJx4a65c : ∀ a, a < 3 → ∀ b, b < 3 → a ≠ b → (TJx4a65c a).2.1 ≠ (TJx4a65c b).2.1 := by decide +kernel
theorem tyJx4a65c_ok : ∀ k, k < 3 → parseFieldDescriptor (TJx4a65c k).2.2.1 = some (tyJx4a65c k) := by decide +kernel
abbrev cJx4a65c_init_da8c8 : ByteArray := prog_40_method_2_code
def yJx4a65c_init_da8c8 : MethodName := ⟨RJx4a65c, "<init>", "()V"⟩
abbrev cJx4a65c_grow_92f84 : ByteArray := prog_40_method_6_code
def yJx4a65c_grow_92f84 : MethodName := ⟨RJx4a65c, "grow", "(I)[Ljava/lang/Object;"⟩
abbrev cJx4a65c_grow_d5877 : ByteArray := prog_40_method_7_code
def yJx4a65c_grow_d5877 : MethodName := ⟨RJx4a65c, "grow", "()[Ljava/lang/Object;"⟩
abbrev cJx4a65c_size_8abf5 : ByteArray := prog_40_method_8_code
def yJx4a65c_size_8abf5 : MethodName := ⟨RJx4a65c, "size", "()I"⟩
abbrev cJx4a65c_elementData_915e3 : ByteArray := prog_40_method_18_code
def yJx4a65c_elementData_915e3 : MethodName := ⟨RJx4a65c, "elementData", "(I)Ljava/lang/Object;"⟩
abbrev cJx4a65c_get_915e3 : ByteArray := prog_40_method_20_code
def yJx4a65c_get_915e3 : MethodName := ⟨RJx4a65c, "get", "(I)Ljava/lang/Object;"⟩
abbrev cJx4a65c_add_72be8 : ByteArray := prog_40_method_24_code
def yJx4a65c_add_72be8 : MethodName := ⟨RJx4a65c, "add", "(Ljava/lang/Object;[Ljava/lang/Object;I)V"⟩
abbrev cJx4a65c_add_9ea2d : ByteArray := prog_40_method_25_code
def yJx4a65c_add_9ea2d : MethodName := ⟨RJx4a65c, "add", "(Ljava/lang/Object;)Z"⟩
abbrev cJx4a65c_add_7a177 : ByteArray := prog_40_method_26_code
def yJx4a65c_add_7a177 : MethodName := ⟨RJx4a65c, "add", "(ILjava/lang/Object;)V"⟩
abbrev cJx4a65c_rangeCheckForAdd_d00df : ByteArray := prog_40_method_45_code
def yJx4a65c_rangeCheckForAdd_d00df : MethodName := ⟨RJx4a65c, "rangeCheckForAdd", "(I)V"⟩
abbrev cJx4a65c_outOfBoundsMsg_b52d3 : ByteArray := prog_40_method_46_code
def yJx4a65c_outOfBoundsMsg_b52d3 : MethodName := ⟨RJx4a65c, "outOfBoundsMsg", "(I)Ljava/lang/String;"⟩
def RJ7 : String := "java/util/Arrays"
def TJ7 : u_T := fun k => match k with
  | _ => ("", "", "", false)
def tyJ7 : Nat → FieldType := fun k => match k with
  | _ => .int
theorem nmJ7 : ∀ a, a < 0 → ∀ b, b < 0 → a ≠ b → (TJ7 a).2.1 ≠ (TJ7 b).2.1 := by decide +kernel
theorem tyJ7_ok : ∀ k, k < 0 → parseFieldDescriptor (TJ7 k).2.2.1 = some (tyJ7 k) := by decide +kernel
abbrev cJ7_copyOf_1904c : ByteArray := prog_41_method_119_code
def yJ7_copyOf_1904c : MethodName := ⟨RJ7, "copyOf", "([Ljava/lang/Object;I)[Ljava/lang/Object;"⟩
abbrev cJ7_copyOf_6403c : ByteArray := prog_41_method_120_code
def yJ7_copyOf_6403c : MethodName := ⟨RJ7, "copyOf", "([Ljava/lang/Object;ILjava/lang/Class;)[Ljava/lang/Object;"⟩
abbrev cJ7_copyOf_9075b : ByteArray := prog_41_method_121_code
def yJ7_copyOf_9075b : MethodName := ⟨RJ7, "copyOf", "([BI)[B"⟩
abbrev cJ7_copyOf_59c91 : ByteArray := prog_41_method_123_code
def yJ7_copyOf_59c91 : MethodName := ⟨RJ7, "copyOf", "([II)[I"⟩
abbrev cJ7_checkLength_df160 : ByteArray := prog_41_method_131_code
def yJ7_checkLength_df160 : MethodName := ⟨RJ7, "checkLength", "(II)V"⟩
abbrev cJ7_copyOfRange_39247 : ByteArray := prog_41_method_132_code
def yJ7_copyOfRange_39247 : MethodName := ⟨RJ7, "copyOfRange", "([BII)[B"⟩
abbrev cJ7_copyOfRangeByte_39247 : ByteArray := prog_41_method_133_code
def yJ7_copyOfRangeByte_39247 : MethodName := ⟨RJ7, "copyOfRangeByte", "([BII)[B"⟩
def RJx5ef63 : String := "java/util/Collection"
def TJx5ef63 : u_T := fun k => match k with
  | _ => ("", "", "", false)
def tyJx5ef63 : Nat → FieldType := fun k => match k with
  | _ => .int
theorem nmJx5ef63 : ∀ a, a < 0 → ∀ b, b < 0 → a ≠ b → (TJx5ef63 a).2.1 ≠ (TJx5ef63 b).2.1 := by decide +kernel
theorem tyJx5ef63_ok : ∀ k, k < 0 → parseFieldDescriptor (TJx5ef63 k).2.2.1 = some (tyJx5ef63 k) := by decide +kernel
def RJxbd725 : String := "java/util/List"
def TJxbd725 : u_T := fun k => match k with
  | _ => ("", "", "", false)
def tyJxbd725 : Nat → FieldType := fun k => match k with
  | _ => .int
theorem nmJxbd725 : ∀ a, a < 0 → ∀ b, b < 0 → a ≠ b → (TJxbd725 a).2.1 ≠ (TJxbd725 b).2.1 := by decide +kernel
theorem tyJxbd725_ok : ∀ k, k < 0 → parseFieldDescriptor (TJxbd725 k).2.2.1 = some (tyJxbd725 k) := by decide +kernel
def RJ15 : String := "java/util/Objects"
def TJ15 : u_T := fun k => match k with
  | _ => ("", "", "", false)
def tyJ15 : Nat → FieldType := fun k => match k with
  | _ => .int
theorem nmJ15 : ∀ a, a < 0 → ∀ b, b < 0 → a ≠ b → (TJ15 a).2.1 ≠ (TJ15 b).2.1 := by decide +kernel
theorem tyJ15_ok : ∀ k, k < 0 → parseFieldDescriptor (TJ15 k).2.2.1 = some (tyJ15 k) := by decide +kernel
abbrev cJ15_checkIndex_7cf53 : ByteArray := prog_44_method_17_code
def yJ15_checkIndex_7cf53 : MethodName := ⟨RJ15, "checkIndex", "(II)I"⟩
def RJxf0a74 : String := "java/util/RandomAccess"
def TJxf0a74 : u_T := fun k => match k with
  | _ => ("", "", "", false)
def tyJxf0a74 : Nat → FieldType := fun k => match k with
  | _ => .int
theorem nmJxf0a74 : ∀ a, a < 0 → ∀ b, b < 0 → a ≠ b → (TJxf0a74 a).2.1 ≠ (TJxf0a74 b).2.1 := by decide +kernel
theorem tyJxf0a74_ok : ∀ k, k < 0 → parseFieldDescriptor (TJxf0a74 k).2.2.1 = some (tyJxf0a74 k) := by decide +kernel
def RJxa66e6 : String := "java/util/SequencedCollection"
def TJxa66e6 : u_T := fun k => match k with
  | _ => ("", "", "", false)
def tyJxa66e6 : Nat → FieldType := fun k => match k with
  | _ => .int
theorem nmJxa66e6 : ∀ a, a < 0 → ∀ b, b < 0 → a ≠ b → (TJxa66e6 a).2.1 ≠ (TJxa66e6 b).2.1 := by decide +kernel
theorem tyJxa66e6_ok : ∀ k, k < 0 → parseFieldDescriptor (TJxa66e6 k).2.2.1 = some (tyJxa66e6 k) := by decide +kernel
def RJ8 : String := "jdk/internal/util/ArraysSupport"
def TJ8 : u_T := fun k => match k with
  | _ => ("", "", "", false)
def tyJ8 : Nat → FieldType := fun k => match k with
  | _ => .int
theorem nmJ8 : ∀ a, a < 0 → ∀ b, b < 0 → a ≠ b → (TJ8 a).2.1 ≠ (TJ8 b).2.1 := by decide +kernel
theorem tyJ8_ok : ∀ k, k < 0 → parseFieldDescriptor (TJ8 k).2.2.1 = some (tyJ8 k) := by decide +kernel
abbrev cJ8_newLength_cabcc : ByteArray := prog_47_method_27_code
def yJ8_newLength_cabcc : MethodName := ⟨RJ8, "newLength", "(III)I"⟩
abbrev cJ8_hugeLength_7cf53 : ByteArray := prog_47_method_28_code
def yJ8_hugeLength_7cf53 : MethodName := ⟨RJ8, "hugeLength", "(II)I"⟩
def RJ3 : String := "jdk/internal/util/Preconditions"
def TJ3 : u_T := fun k => match k with
  | _ => ("", "", "", false)
def tyJ3 : Nat → FieldType := fun k => match k with
  | _ => .int
theorem nmJ3 : ∀ a, a < 0 → ∀ b, b < 0 → a ≠ b → (TJ3 a).2.1 ≠ (TJ3 b).2.1 := by decide +kernel
theorem tyJ3_ok : ∀ k, k < 0 → parseFieldDescriptor (TJ3 k).2.2.1 = some (tyJ3 k) := by decide +kernel
abbrev cJ3_checkIndex_8e157 : ByteArray := prog_48_method_11_code
def yJ3_checkIndex_8e157 : MethodName := ⟨RJ3, "checkIndex", "(IILjava/util/function/BiFunction;)I"⟩
abbrev cJ3_checkFromToIndex_8c36e : ByteArray := prog_48_method_12_code
def yJ3_checkFromToIndex_8c36e : MethodName := ⟨RJ3, "checkFromToIndex", "(IIILjava/util/function/BiFunction;)I"⟩
abbrev cJ3_checkFromIndexSize_8c36e : ByteArray := prog_48_method_13_code
def yJ3_checkFromIndexSize_8c36e : MethodName := ⟨RJ3, "checkFromIndexSize", "(IIILjava/util/function/BiFunction;)I"⟩
def RL : String := "PlatehallLaw"
abbrev cL_type : ByteArray := method_3_code
def yL_type : MethodName := ⟨RL, "type", "(LPlatehall;C[J)I"⟩
abbrev cL_vehicle : ByteArray := method_4_code
def yL_vehicle : MethodName := ⟨RL, "vehicle", "(LPlatehall;III[J)I"⟩
abbrev cL_stamped : ByteArray := method_5_code
def yL_stamped : MethodName := ⟨RL, "stamped", "(LPlatehall;I[J)I"⟩
abbrev cL_person : ByteArray := method_6_code
def yL_person : MethodName := ⟨RL, "person", "(LPlatehall;[J)I"⟩
abbrev cL_protect : ByteArray := method_7_code
def yL_protect : MethodName := ⟨RL, "protect", "(LPlatehall;IZ[J)I"⟩
abbrev cL_tell : ByteArray := method_8_code
def yL_tell : MethodName := ⟨RL, "tell", "(LPlatehall;IIII[J)I"⟩
abbrev cL_on : ByteArray := method_9_code
def yL_on : MethodName := ⟨RL, "on", "(LPlatehall;III[J)I"⟩
abbrev cL_onAnew : ByteArray := method_10_code
def yL_onAnew : MethodName := ⟨RL, "onAnew", "(LPlatehall;III[J)I"⟩
abbrev cL_bar : ByteArray := method_11_code
def yL_bar : MethodName := ⟨RL, "bar", "(LPlatehall;CCZ[J)I"⟩
abbrev cL_allot : ByteArray := method_12_code
def yL_allot : MethodName := ⟨RL, "allot", "(LPlatehall;I[J)I"⟩
abbrev cL_wish : ByteArray := method_13_code
def yL_wish : MethodName := ⟨RL, "wish", "(LPlatehall;I[J)I"⟩
abbrev cL_plate : ByteArray := method_14_code
def yL_plate : MethodName := ⟨RL, "plate", "(LPlatehall;III[J)I"⟩
abbrev cL_rate : ByteArray := method_15_code
def yL_rate : MethodName := ⟨RL, "rate", "(LPlatehall;III[J)I"⟩
abbrev cL_pay : ByteArray := method_16_code
def yL_pay : MethodName := ⟨RL, "pay", "(LPlatehall;II[J)I"⟩
abbrev cL_owes : ByteArray := method_17_code
def yL_owes : MethodName := ⟨RL, "owes", "(LPlatehall;I[J)I"⟩
abbrev cL_test : ByteArray := method_18_code
def yL_test : MethodName := ⟨RL, "test", "(LPlatehall;IIII[J)I"⟩
abbrev cL_insure : ByteArray := method_19_code
def yL_insure : MethodName := ⟨RL, "insure", "(LPlatehall;II[J)I"⟩
abbrev cL_ofVehicle : ByteArray := method_20_code
def yL_ofVehicle : MethodName := ⟨RL, "ofVehicle", "(LPlatehall;II[J)I"⟩
abbrev cL_sight : ByteArray := method_21_code
def yL_sight : MethodName := ⟨RL, "sight", "(LPlatehall;II[J)I"⟩
abbrev cL_seen : ByteArray := method_22_code
def yL_seen : MethodName := ⟨RL, "seen", "(LPlatehall;I[J)I"⟩
abbrev cL_fine : ByteArray := method_23_code
def yL_fine : MethodName := ⟨RL, "fine", "(LPlatehall;II[J)I"⟩
abbrev cL_name : ByteArray := method_24_code
def yL_name : MethodName := ⟨RL, "name", "(LPlatehall;II[J)I"⟩
abbrev cL_whose : ByteArray := method_25_code
def yL_whose : MethodName := ⟨RL, "whose", "(LPlatehall;I[J)I"⟩
abbrev cL_fines : ByteArray := method_26_code
def yL_fines : MethodName := ⟨RL, "fines", "(LPlatehall;I[J)I"⟩
abbrev cL_look : ByteArray := method_27_code
def yL_look : MethodName := ⟨RL, "look", "(LPlatehall;I[J)I"⟩
abbrev cL_looked : ByteArray := method_28_code
def yL_looked : MethodName := ⟨RL, "looked", "(LPlatehall;I[J)I"⟩
abbrev cL_pass : ByteArray := method_29_code
def yL_pass : MethodName := ⟨RL, "pass", "(LPlatehall;I[J)I"⟩
abbrev cL_law : ByteArray := code
def yL_law : MethodName := ⟨RL, "law", "([I)Z"⟩
abbrev vwCl : List vw_C := [(RJ0, TJ0, 4), (RJ4, TJ4, 4), (RJx4a65c, TJx4a65c, 3), (RX0, TX0, 2), (RX1, TX1, 3), (RX2, TX2, 4), (RX3, TX3, 5), (RX4, TX4, 3), (RX5, TX5, 2), (RX6, TX6, 3), (RX7, TX7, 4), (RX8, TX8, 5), (RX9, TX9, 5), (RX10, TX10, 7), (RX11, TX11, 10), (RX12, TX12, 44)]
end
section
def dd_ok (c : ByteArray) (t : List (Nat × Instr × Nat)) : Bool := t.all fun q => decide (decode c q.1 = .ok q.2)
theorem dd_of {c : ByteArray} {t : List (Nat × Instr × Nat)} (h : dd_ok c t = true) : ∀ (k pc : Nat) (ins : Instr) (n : Nat), t[k]? = some (pc, ins, n) → decode c pc = .ok (ins, n) := by
  intro k pc ins n hk
  unfold dd_ok at h
  have h1 := List.all_eq_true.mp h (pc, ins, n) (List.mem_of_getElem? hk)
  simp only [decide_eq_true_eq] at h1
  exact h1
def tb_X0_init : List (Nat × Instr × Nat) := [(0, .aload_n 0, 1), (1, .invokespecial 3, 3), (4, .aload_n 0, 1), (5, .bipush 8, 2), (7, .newarray .char, 2), (9, .putfield 11, 3), (12, .aload_n 0, 1), (13, .iconst 0, 1), (14, .putfield 15, 3), (17, .return_, 1)]
theorem dd_X0_init : ∀ (k pc : Nat) (ins : Instr) (n : Nat), tb_X0_init[k]? = some (pc, ins, n) → decode cX0_init pc = .ok (ins, n) := dd_of (by decide +kernel)
def tb_X0_append : List (Nat × Instr × Nat) := [(0, .aload_n 0, 1), (1, .getfield 15, 3), (4, .ifCond .lt 15, 3), (7, .aload_n 0, 1), (8, .getfield 15, 3), (11, .aload_n 0, 1), (12, .getfield 11, 3), (15, .arraylength, 1), (16, .if_icmp .lt 5, 3), (19, .iconst 0, 1), (20, .ireturn, 1), (21, .aload_n 0, 1), (22, .getfield 11, 3), (25, .aload_n 0, 1), (26, .getfield 15, 3), (29, .iload_n 1, 1), (30, .castore, 1), (31, .aload_n 0, 1), (32, .dup, 1), (33, .getfield 15, 3), (36, .iconst 1, 1), (37, .iadd, 1), (38, .putfield 15, 3), (41, .iconst 1, 1), (42, .ireturn, 1)]
theorem dd_X0_append : ∀ (k pc : Nat) (ins : Instr) (n : Nat), tb_X0_append[k]? = some (pc, ins, n) → decode cX0_append pc = .ok (ins, n) := dd_of (by decide +kernel)
def tb_X0_empty : List (Nat × Instr × Nat) := [(0, .aload_n 0, 1), (1, .getfield 15, 3), (4, .istore_n 1, 1), (5, .aload_n 0, 1), (6, .iconst 0, 1), (7, .putfield 15, 3), (10, .iload_n 1, 1), (11, .ireturn, 1)]
theorem dd_X0_empty : ∀ (k pc : Nat) (ins : Instr) (n : Nat), tb_X0_empty[k]? = some (pc, ins, n) → decode cX0_empty pc = .ok (ins, n) := dd_of (by decide +kernel)
def tb_X0_isOfPlateSigns : List (Nat × Instr × Nat) := [(0, .aload_n 0, 1), (1, .getfield 15, 3), (4, .iconst 4, 1), (5, .if_icmp .eq 5, 3), (8, .iconst 0, 1), (9, .ireturn, 1), (10, .iconst 0, 1), (11, .istore_n 2, 1), (12, .iload_n 2, 1), (13, .iconst 4, 1), (14, .if_icmp .ge 49, 3), (17, .iload_n 1, 1), (18, .ifCond .eq 18, 3), (21, .aload_n 0, 1), (22, .getfield 11, 3), (25, .iload_n 2, 1), (26, .caload, 1), (27, .bipush 63, 2), (29, .if_icmp .ne 7, 3), (32, .iconst 1, 1), (33, .goto 4, 3), (36, .iconst 0, 1), (37, .istore_n 3, 1), (38, .iload_n 3, 1), (39, .ifCond .ne 18, 3), (42, .aload_n 0, 1), (43, .getfield 11, 3), (46, .iload_n 2, 1), (47, .caload, 1), (48, .iload_n 2, 1), (49, .invokestatic 19, 3), (52, .ifCond .ne 5, 3), (55, .iconst 0, 1), (56, .ireturn, 1), (57, .iinc 2 1, 3), (60, .goto (-48), 3), (63, .iconst 1, 1), (64, .ireturn, 1)]
theorem dd_X0_isOfPlateSigns : ∀ (k pc : Nat) (ins : Instr) (n : Nat), tb_X0_isOfPlateSigns[k]? = some (pc, ins, n) → decode cX0_isOfPlateSigns pc = .ok (ins, n) := dd_of (by decide +kernel)
def tb_X0_plateInIt : List (Nat × Instr × Nat) := [(0, .aload_n 0, 1), (1, .iconst 0, 1), (2, .invokevirtual 23, 3), (5, .ifCond .ne 5, 3), (8, .iconst (-1), 1), (9, .ireturn, 1), (10, .aload_n 0, 1), (11, .getfield 11, 3), (14, .iconst 0, 1), (15, .caload, 1), (16, .bipush 65, 2), (18, .isub, 1), (19, .bipush 26, 2), (21, .imul, 1), (22, .aload_n 0, 1), (23, .getfield 11, 3), (26, .iconst 1, 1), (27, .caload, 1), (28, .bipush 65, 2), (30, .isub, 1), (31, .iadd, 1), (32, .istore_n 1, 1), (33, .iload_n 1, 1), (34, .bipush 100, 2), (36, .imul, 1), (37, .aload_n 0, 1), (38, .getfield 11, 3), (41, .iconst 2, 1), (42, .caload, 1), (43, .bipush 48, 2), (45, .isub, 1), (46, .bipush 10, 2), (48, .imul, 1), (49, .iadd, 1), (50, .aload_n 0, 1), (51, .getfield 11, 3), (54, .iconst 3, 1), (55, .caload, 1), (56, .bipush 48, 2), (58, .isub, 1), (59, .iadd, 1), (60, .ireturn, 1)]
theorem dd_X0_plateInIt : ∀ (k pc : Nat) (ins : Instr) (n : Nat), tb_X0_plateInIt[k]? = some (pc, ins, n) → decode cX0_plateInIt pc = .ok (ins, n) := dd_of (by decide +kernel)
def tb_X0_spells : List (Nat × Instr × Nat) := [(0, .aload_n 1, 1), (1, .invokevirtual 27, 3), (4, .aload_n 0, 1), (5, .getfield 15, 3), (8, .if_icmp .eq 5, 3), (11, .iconst 0, 1), (12, .ireturn, 1), (13, .iconst 0, 1), (14, .istore_n 2, 1), (15, .iload_n 2, 1), (16, .aload_n 0, 1), (17, .getfield 15, 3), (20, .if_icmp .ge 34, 3), (23, .iload_n 2, 1), (24, .aload_n 0, 1), (25, .getfield 11, 3), (28, .arraylength, 1), (29, .if_icmp .ge 25, 3), (32, .aload_n 1, 1), (33, .iload_n 2, 1), (34, .invokevirtual 32, 3), (37, .aload_n 0, 1), (38, .getfield 11, 3), (41, .iload_n 2, 1), (42, .caload, 1), (43, .if_icmp .eq 5, 3), (46, .iconst 0, 1), (47, .ireturn, 1), (48, .iinc 2 1, 3), (51, .goto (-36), 3), (54, .iconst 1, 1), (55, .ireturn, 1)]
theorem dd_X0_spells : ∀ (k pc : Nat) (ins : Instr) (n : Nat), tb_X0_spells[k]? = some (pc, ins, n) → decode cX0_spells pc = .ok (ins, n) := dd_of (by decide +kernel)
def tb_X0_copyTo : List (Nat × Instr × Nat) := [(0, .iconst 0, 1), (1, .istore_n 2, 1), (2, .iload_n 2, 1), (3, .aload_n 1, 1), (4, .arraylength, 1), (5, .if_icmp .ge 27, 3), (8, .iload_n 2, 1), (9, .aload_n 0, 1), (10, .getfield 11, 3), (13, .arraylength, 1), (14, .if_icmp .ge 18, 3), (17, .aload_n 1, 1), (18, .iload_n 2, 1), (19, .aload_n 0, 1), (20, .getfield 11, 3), (23, .iload_n 2, 1), (24, .caload, 1), (25, .castore, 1), (26, .iinc 2 1, 3), (29, .goto (-27), 3), (32, .return_, 1)]
theorem dd_X0_copyTo : ∀ (k pc : Nat) (ins : Instr) (n : Nat), tb_X0_copyTo[k]? = some (pc, ins, n) → decode cX0_copyTo pc = .ok (ins, n) := dd_of (by decide +kernel)
def tb_X1_init : List (Nat × Instr × Nat) := [(0, .aload_n 0, 1), (1, .invokespecial 3, 3), (4, .aload_n 0, 1), (5, .iconst 4, 1), (6, .newarray .int, 2), (8, .putfield 9, 3), (11, .aload_n 0, 1), (12, .iconst 4, 1), (13, .newarray .int, 2), (15, .putfield 15, 3), (18, .aload_n 0, 1), (19, .iconst 0, 1), (20, .putfield 18, 3), (23, .return_, 1)]
theorem dd_X1_init : ∀ (k pc : Nat) (ins : Instr) (n : Nat), tb_X1_init[k]? = some (pc, ins, n) → decode cX1_init pc = .ok (ins, n) := dd_of (by decide +kernel)
def tb_X1_put : List (Nat × Instr × Nat) := [(0, .aload_n 0, 1), (1, .iload_n 1, 1), (2, .invokevirtual 22, 3), (5, .istore_n 3, 1), (6, .iload_n 3, 1), (7, .ifCond .lt 13, 3), (10, .aload_n 0, 1), (11, .getfield 9, 3), (14, .iload_n 3, 1), (15, .iaload, 1), (16, .iload_n 1, 1), (17, .if_icmp .eq 18, 3), (20, .iinc 3 1, 3), (23, .aload_n 0, 1), (24, .iload_n 3, 1), (25, .invokevirtual 26, 3), (28, .aload_n 0, 1), (29, .getfield 9, 3), (32, .iload_n 3, 1), (33, .iload_n 1, 1), (34, .iastore, 1), (35, .aload_n 0, 1), (36, .getfield 15, 3), (39, .iload_n 3, 1), (40, .iload_n 2, 1), (41, .iastore, 1), (42, .return_, 1)]
theorem dd_X1_put : ∀ (k pc : Nat) (ins : Instr) (n : Nat), tb_X1_put[k]? = some (pc, ins, n) → decode cX1_put pc = .ok (ins, n) := dd_of (by decide +kernel)
def tb_X1_valueOn : List (Nat × Instr × Nat) := [(0, .aload_n 0, 1), (1, .iload_n 1, 1), (2, .invokevirtual 22, 3), (5, .istore_n 3, 1), (6, .iload_n 3, 1), (7, .ifCond .ge 7, 3), (10, .iload_n 2, 1), (11, .goto 9, 3), (14, .aload_n 0, 1), (15, .getfield 15, 3), (18, .iload_n 3, 1), (19, .iaload, 1), (20, .ireturn, 1)]
theorem dd_X1_valueOn : ∀ (k pc : Nat) (ins : Instr) (n : Nat), tb_X1_valueOn[k]? = some (pc, ins, n) → decode cX1_valueOn pc = .ok (ins, n) := dd_of (by decide +kernel)
def tb_X1_daysReached : List (Nat × Instr × Nat) := [(0, .iconst 0, 1), (1, .istore_n 3, 1), (2, .iconst 0, 1), (3, .istore 4, 2), (5, .iload 4, 2), (7, .aload_n 0, 1), (8, .getfield 18, 3), (11, .if_icmp .ge 74, 3), (14, .aload_n 0, 1), (15, .getfield 15, 3), (18, .iload 4, 2), (20, .iaload, 1), (21, .iload 4, 2), (23, .iconst 1, 1), (24, .iadd, 1), (25, .aload_n 0, 1), (26, .getfield 18, 3), (29, .if_icmp .ge 17, 3), (32, .aload_n 0, 1), (33, .getfield 9, 3), (36, .iload 4, 2), (38, .iconst 1, 1), (39, .iadd, 1), (40, .iaload, 1), (41, .iconst 1, 1), (42, .isub, 1), (43, .goto 4, 3), (46, .iload_n 2, 1), (47, .invokestatic 30, 3), (50, .istore 5, 2), (52, .iload_n 3, 1), (53, .iconst 0, 1), (54, .iload 5, 2), (56, .iload_n 2, 1), (57, .invokestatic 30, 3), (60, .aload_n 0, 1), (61, .getfield 9, 3), (64, .iload 4, 2), (66, .iaload, 1), (67, .iload_n 1, 1), (68, .invokestatic 36, 3), (71, .isub, 1), (72, .iconst 1, 1), (73, .iadd, 1), (74, .invokestatic 36, 3), (77, .iadd, 1), (78, .istore_n 3, 1), (79, .iinc 4 1, 3), (82, .goto (-77), 3), (85, .iload_n 3, 1), (86, .ireturn, 1)]
theorem dd_X1_daysReached : ∀ (k pc : Nat) (ins : Instr) (n : Nat), tb_X1_daysReached[k]? = some (pc, ins, n) → decode cX1_daysReached pc = .ok (ins, n) := dd_of (by decide +kernel)
def tb_X1_rowOn : List (Nat × Instr × Nat) := [(0, .aload_n 0, 1), (1, .getfield 18, 3), (4, .iconst 1, 1), (5, .isub, 1), (6, .istore_n 2, 1), (7, .iload_n 2, 1), (8, .ifCond .lt 21, 3), (11, .aload_n 0, 1), (12, .getfield 9, 3), (15, .iload_n 2, 1), (16, .iaload, 1), (17, .iload_n 1, 1), (18, .if_icmp .gt 5, 3), (21, .iload_n 2, 1), (22, .ireturn, 1), (23, .iinc 2 (-1), 3), (26, .goto (-19), 3), (29, .iconst (-1), 1), (30, .ireturn, 1)]
theorem dd_X1_rowOn : ∀ (k pc : Nat) (ins : Instr) (n : Nat), tb_X1_rowOn[k]? = some (pc, ins, n) → decode cX1_rowOn pc = .ok (ins, n) := dd_of (by decide +kernel)
def tb_X1_makeRoomAt : List (Nat × Instr × Nat) := [(0, .aload_n 0, 1), (1, .getfield 18, 3), (4, .aload_n 0, 1), (5, .getfield 9, 3), (8, .arraylength, 1), (9, .if_icmp .lt 37, 3), (12, .aload_n 0, 1), (13, .aload_n 0, 1), (14, .getfield 9, 3), (17, .aload_n 0, 1), (18, .getfield 18, 3), (21, .iconst 2, 1), (22, .imul, 1), (23, .invokestatic 39, 3), (26, .putfield 9, 3), (29, .aload_n 0, 1), (30, .aload_n 0, 1), (31, .getfield 15, 3), (34, .aload_n 0, 1), (35, .getfield 18, 3), (38, .iconst 2, 1), (39, .imul, 1), (40, .invokestatic 39, 3), (43, .putfield 15, 3), (46, .aload_n 0, 1), (47, .getfield 18, 3), (50, .istore_n 2, 1), (51, .iload_n 2, 1), (52, .iload_n 1, 1), (53, .if_icmp .le 37, 3), (56, .aload_n 0, 1), (57, .getfield 9, 3), (60, .iload_n 2, 1), (61, .aload_n 0, 1), (62, .getfield 9, 3), (65, .iload_n 2, 1), (66, .iconst 1, 1), (67, .isub, 1), (68, .iaload, 1), (69, .iastore, 1), (70, .aload_n 0, 1), (71, .getfield 15, 3), (74, .iload_n 2, 1), (75, .aload_n 0, 1), (76, .getfield 15, 3), (79, .iload_n 2, 1), (80, .iconst 1, 1), (81, .isub, 1), (82, .iaload, 1), (83, .iastore, 1), (84, .iinc 2 (-1), 3), (87, .goto (-36), 3), (90, .aload_n 0, 1), (91, .dup, 1), (92, .getfield 18, 3), (95, .iconst 1, 1), (96, .iadd, 1), (97, .putfield 18, 3), (100, .return_, 1)]
theorem dd_X1_makeRoomAt : ∀ (k pc : Nat) (ins : Instr) (n : Nat), tb_X1_makeRoomAt[k]? = some (pc, ins, n) → decode cX1_makeRoomAt pc = .ok (ins, n) := dd_of (by decide +kernel)
def tb_X2_init : List (Nat × Instr × Nat) := [(0, .aload_n 0, 1), (1, .invokespecial 1, 3), (4, .aload_n 0, 1), (5, .new 7, 3), (8, .dup, 1), (9, .iconst 0, 1), (10, .invokespecial 9, 3), (13, .putfield 12, 3), (16, .aload_n 0, 1), (17, .iload_n 1, 1), (18, .putfield 18, 3), (21, .aload_n 0, 1), (22, .iload_n 2, 1), (23, .putfield 22, 3), (26, .aload_n 0, 1), (27, .iload_n 3, 1), (28, .putfield 25, 3), (31, .return_, 1)]
theorem dd_X2_init : ∀ (k pc : Nat) (ins : Instr) (n : Nat), tb_X2_init[k]? = some (pc, ins, n) → decode cX2_init pc = .ok (ins, n) := dd_of (by decide +kernel)
def tb_X3_init : List (Nat × Instr × Nat) := [(0, .aload_n 0, 1), (1, .invokespecial 3, 3), (4, .aload_n 0, 1), (5, .iconst (-1), 1), (6, .putfield 9, 3), (9, .aload_n 0, 1), (10, .iconst 0, 1), (11, .putfield 15, 3), (14, .aload_n 0, 1), (15, .aload_n 1, 1), (16, .putfield 18, 3), (19, .aload_n 0, 1), (20, .iload_n 2, 1), (21, .putfield 22, 3), (24, .aload_n 0, 1), (25, .iload_n 3, 1), (26, .putfield 25, 3), (29, .return_, 1)]
theorem dd_X3_init : ∀ (k pc : Nat) (ins : Instr) (n : Nat), tb_X3_init[k]? = some (pc, ins, n) → decode cX3_init pc = .ok (ins, n) := dd_of (by decide +kernel)
def tb_X3_passTo : List (Nat × Instr × Nat) := [(0, .aload_n 0, 1), (1, .iload_n 1, 1), (2, .putfield 9, 3), (5, .aload_n 0, 1), (6, .dup, 1), (7, .getfield 15, 3), (10, .iconst 1, 1), (11, .iadd, 1), (12, .putfield 15, 3), (15, .aload_n 0, 1), (16, .iload_n 2, 1), (17, .putfield 25, 3), (20, .return_, 1)]
theorem dd_X3_passTo : ∀ (k pc : Nat) (ins : Instr) (n : Nat), tb_X3_passTo[k]? = some (pc, ins, n) → decode cX3_passTo pc = .ok (ins, n) := dd_of (by decide +kernel)
def tb_X4_init : List (Nat × Instr × Nat) := [(0, .aload_n 0, 1), (1, .invokespecial 1, 3), (4, .aload_n 0, 1), (5, .new 7, 3), (8, .dup, 1), (9, .invokespecial 9, 3), (12, .putfield 10, 3), (15, .aload_n 0, 1), (16, .iload_n 1, 1), (17, .putfield 16, 3), (20, .aload_n 0, 1), (21, .new 20, 3), (24, .dup, 1), (25, .iload_n 1, 1), (26, .invokespecial 22, 3), (29, .putfield 25, 3), (32, .return_, 1)]
theorem dd_X4_init : ∀ (k pc : Nat) (ins : Instr) (n : Nat), tb_X4_init[k]? = some (pc, ins, n) → decode cX4_init pc = .ok (ins, n) := dd_of (by decide +kernel)
def tb_X4_size : List (Nat × Instr × Nat) := [(0, .aload_n 0, 1), (1, .getfield 10, 3), (4, .invokevirtual 29, 3), (7, .ireturn, 1)]
theorem dd_X4_size : ∀ (k pc : Nat) (ins : Instr) (n : Nat), tb_X4_size[k]? = some (pc, ins, n) → decode cX4_size pc = .ok (ins, n) := dd_of (by decide +kernel)
def tb_X4_at : List (Nat × Instr × Nat) := [(0, .aload_n 0, 1), (1, .getfield 10, 3), (4, .iload_n 1, 1), (5, .invokevirtual 33, 3), (8, .checkcast 37, 3), (11, .areturn, 1)]
theorem dd_X4_at : ∀ (k pc : Nat) (ins : Instr) (n : Nat), tb_X4_at[k]? = some (pc, ins, n) → decode cX4_at pc = .ok (ins, n) := dd_of (by decide +kernel)
def tb_X4_insert : List (Nat × Instr × Nat) := [(0, .aload_n 0, 1), (1, .getfield 10, 3), (4, .invokevirtual 29, 3), (7, .istore_n 2, 1), (8, .iload_n 2, 1), (9, .ifCond .le 32, 3), (12, .aload_n 0, 1), (13, .getfield 10, 3), (16, .iload_n 2, 1), (17, .iconst 1, 1), (18, .isub, 1), (19, .invokevirtual 33, 3), (22, .checkcast 37, 3), (25, .getfield 39, 3), (28, .aload_n 1, 1), (29, .getfield 39, 3), (32, .if_icmp .le 9, 3), (35, .iinc 2 (-1), 3), (38, .goto (-30), 3), (41, .aload_n 0, 1), (42, .getfield 10, 3), (45, .iload_n 2, 1), (46, .aload_n 1, 1), (47, .invokevirtual 42, 3), (50, .aload_n 0, 1), (51, .iload_n 2, 1), (52, .invokevirtual 46, 3), (55, .aload_n 0, 1), (56, .getfield 10, 3), (59, .invokevirtual 29, 3), (62, .iconst 1, 1), (63, .isub, 1), (64, .iload_n 2, 1), (65, .isub, 1), (66, .ireturn, 1)]
theorem dd_X4_insert : ∀ (k pc : Nat) (ins : Instr) (n : Nat), tb_X4_insert[k]? = some (pc, ins, n) → decode cX4_insert pc = .ok (ins, n) := dd_of (by decide +kernel)
def tb_X4_followFrom : List (Nat × Instr × Nat) := [(0, .iload_n 1, 1), (1, .ifCond .le 22, 3), (4, .aload_n 0, 1), (5, .getfield 10, 3), (8, .iload_n 1, 1), (9, .iconst 1, 1), (10, .isub, 1), (11, .invokevirtual 33, 3), (14, .checkcast 37, 3), (17, .getfield 49, 3), (20, .goto 7, 3), (23, .aload_n 0, 1), (24, .getfield 25, 3), (27, .astore_n 2, 1), (28, .iload_n 1, 1), (29, .istore_n 3, 1), (30, .iload_n 3, 1), (31, .aload_n 0, 1), (32, .getfield 10, 3), (35, .invokevirtual 29, 3), (38, .if_icmp .ge 47, 3), (41, .aload_n 0, 1), (42, .getfield 10, 3), (45, .iload_n 3, 1), (46, .invokevirtual 33, 3), (49, .checkcast 37, 3), (52, .astore 4, 2), (54, .aload 4, 2), (56, .getfield 49, 3), (59, .aload_n 2, 1), (60, .invokevirtual 52, 3), (63, .aload 4, 2), (65, .getfield 49, 3), (68, .aload 4, 2), (70, .invokevirtual 56, 3), (73, .aload 4, 2), (75, .getfield 49, 3), (78, .astore_n 2, 1), (79, .iinc 3 1, 3), (82, .goto (-52), 3), (85, .return_, 1)]
theorem dd_X4_followFrom : ∀ (k pc : Nat) (ins : Instr) (n : Nat), tb_X4_followFrom[k]? = some (pc, ins, n) → decode cX4_followFrom pc = .ok (ins, n) := dd_of (by decide +kernel)
def tb_X4_standingOn : List (Nat × Instr × Nat) := [(0, .aload_n 0, 1), (1, .getfield 10, 3), (4, .invokevirtual 29, 3), (7, .iconst 1, 1), (8, .isub, 1), (9, .istore_n 2, 1), (10, .iload_n 2, 1), (11, .ifCond .lt 42, 3), (14, .aload_n 0, 1), (15, .getfield 10, 3), (18, .iload_n 2, 1), (19, .invokevirtual 33, 3), (22, .checkcast 37, 3), (25, .getfield 39, 3), (28, .iload_n 1, 1), (29, .if_icmp .gt 18, 3), (32, .aload_n 0, 1), (33, .getfield 10, 3), (36, .iload_n 2, 1), (37, .invokevirtual 33, 3), (40, .checkcast 37, 3), (43, .getfield 49, 3), (46, .areturn, 1), (47, .iinc 2 (-1), 3), (50, .goto (-40), 3), (53, .aload_n 0, 1), (54, .getfield 25, 3), (57, .areturn, 1)]
theorem dd_X4_standingOn : ∀ (k pc : Nat) (ins : Instr) (n : Nat), tb_X4_standingOn[k]? = some (pc, ins, n) → decode cX4_standingOn pc = .ok (ins, n) := dd_of (by decide +kernel)
def tb_X4_replayedTo : List (Nat × Instr × Nat) := [(0, .new 20, 3), (3, .dup, 1), (4, .aload_n 0, 1), (5, .getfield 16, 3), (8, .invokespecial 22, 3), (11, .astore_n 2, 1), (12, .iconst 0, 1), (13, .istore_n 3, 1), (14, .iload_n 3, 1), (15, .aload_n 0, 1), (16, .getfield 10, 3), (19, .invokevirtual 29, 3), (22, .if_icmp .ge 42, 3), (25, .aload_n 0, 1), (26, .getfield 10, 3), (29, .iload_n 3, 1), (30, .invokevirtual 33, 3), (33, .checkcast 37, 3), (36, .getfield 39, 3), (39, .iload_n 1, 1), (40, .if_icmp .gt 24, 3), (43, .aload_n 2, 1), (44, .aload_n 0, 1), (45, .getfield 10, 3), (48, .iload_n 3, 1), (49, .invokevirtual 33, 3), (52, .checkcast 37, 3), (55, .invokevirtual 56, 3), (58, .iinc 3 1, 3), (61, .goto (-47), 3), (64, .aload_n 2, 1), (65, .areturn, 1)]
theorem dd_X4_replayedTo : ∀ (k pc : Nat) (ins : Instr) (n : Nat), tb_X4_replayedTo[k]? = some (pc, ins, n) → decode cX4_replayedTo pc = .ok (ins, n) := dd_of (by decide +kernel)
def tb_X4_endOf : List (Nat × Instr × Nat) := [(0, .iload_n 1, 1), (1, .iconst 1, 1), (2, .iadd, 1), (3, .aload_n 0, 1), (4, .getfield 10, 3), (7, .invokevirtual 29, 3), (10, .if_icmp .ge 24, 3), (13, .aload_n 0, 1), (14, .getfield 10, 3), (17, .iload_n 1, 1), (18, .iconst 1, 1), (19, .iadd, 1), (20, .invokevirtual 33, 3), (23, .checkcast 37, 3), (26, .getfield 39, 3), (29, .iconst 1, 1), (30, .isub, 1), (31, .goto 4, 3), (34, .iload_n 2, 1), (35, .ireturn, 1)]
theorem dd_X4_endOf : ∀ (k pc : Nat) (ins : Instr) (n : Nat), tb_X4_endOf[k]? = some (pc, ins, n) → decode cX4_endOf pc = .ok (ins, n) := dd_of (by decide +kernel)
def tb_X5_init : List (Nat × Instr × Nat) := [(0, .aload_n 0, 1), (1, .invokespecial 1, 3), (4, .aload_n 0, 1), (5, .iconst 0, 1), (6, .putfield 7, 3), (9, .aload_n 0, 1), (10, .iconst 0, 1), (11, .putfield 13, 3), (14, .return_, 1)]
theorem dd_X5_init : ∀ (k pc : Nat) (ins : Instr) (n : Nat), tb_X5_init[k]? = some (pc, ins, n) → decode cX5_init pc = .ok (ins, n) := dd_of (by decide +kernel)
def tb_X6_init : List (Nat × Instr × Nat) := [(0, .aload_n 0, 1), (1, .invokespecial 3, 3), (4, .aload_n 0, 1), (5, .sipush 676, 3), (8, .newarray .boolean, 2), (10, .putfield 9, 3), (13, .aload_n 0, 1), (14, .sipush 1057, 3), (17, .newarray .long, 2), (19, .putfield 15, 3), (22, .aload_n 0, 1), (23, .iconst (-1), 1), (24, .putfield 19, 3), (27, .return_, 1)]
theorem dd_X6_init : ∀ (k pc : Nat) (ins : Instr) (n : Nat), tb_X6_init[k]? = some (pc, ins, n) → decode cX6_init pc = .ok (ins, n) := dd_of (by decide +kernel)
def tb_X6_setBarred : List (Nat × Instr × Nat) := [(0, .iload_n 1, 1), (1, .ifCond .lt 12, 3), (4, .iload_n 1, 1), (5, .aload_n 0, 1), (6, .getfield 9, 3), (9, .arraylength, 1), (10, .if_icmp .lt 5, 3), (13, .iconst 0, 1), (14, .ireturn, 1), (15, .aload_n 0, 1), (16, .getfield 9, 3), (19, .iload_n 1, 1), (20, .baload, 1), (21, .istore_n 3, 1), (22, .aload_n 0, 1), (23, .getfield 9, 3), (26, .iload_n 1, 1), (27, .iload_n 2, 1), (28, .bastore, 1), (29, .iload_n 3, 1), (30, .ireturn, 1)]
theorem dd_X6_setBarred : ∀ (k pc : Nat) (ins : Instr) (n : Nat), tb_X6_setBarred[k]? = some (pc, ins, n) → decode cX6_setBarred pc = .ok (ins, n) := dd_of (by decide +kernel)
def tb_X6_isFree : List (Nat × Instr × Nat) := [(0, .iload_n 1, 1), (1, .ifCond .lt 9, 3), (4, .iload_n 1, 1), (5, .ldc 23, 2), (7, .if_icmp .lt 5, 3), (10, .iconst 0, 1), (11, .ireturn, 1), (12, .aload_n 0, 1), (13, .getfield 9, 3), (16, .iload_n 1, 1), (17, .bipush 100, 2), (19, .idiv, 1), (20, .baload, 1), (21, .ifCond .ne 28, 3), (24, .aload_n 0, 1), (25, .getfield 15, 3), (28, .iload_n 1, 1), (29, .bipush 64, 2), (31, .idiv, 1), (32, .laload, 1), (33, .iload_n 1, 1), (34, .bipush 64, 2), (36, .irem, 1), (37, .lushr, 1), (38, .lconst 1, 1), (39, .land, 1), (40, .lconst 0, 1), (41, .lcmp, 1), (42, .ifCond .ne 7, 3), (45, .iconst 1, 1), (46, .goto 4, 3), (49, .iconst 0, 1), (50, .ireturn, 1)]
theorem dd_X6_isFree : ∀ (k pc : Nat) (ins : Instr) (n : Nat), tb_X6_isFree[k]? = some (pc, ins, n) → decode cX6_isFree pc = .ok (ins, n) := dd_of (by decide +kernel)
def tb_X6_markGiven : List (Nat × Instr × Nat) := [(0, .iload_n 1, 1), (1, .ifCond .lt 27, 3), (4, .iload_n 1, 1), (5, .ldc 23, 2), (7, .if_icmp .ge 21, 3), (10, .aload_n 0, 1), (11, .getfield 15, 3), (14, .iload_n 1, 1), (15, .bipush 64, 2), (17, .idiv, 1), (18, .dup2, 1), (19, .laload, 1), (20, .lconst 1, 1), (21, .iload_n 1, 1), (22, .bipush 64, 2), (24, .irem, 1), (25, .lshl, 1), (26, .lor, 1), (27, .lastore, 1), (28, .return_, 1)]
theorem dd_X6_markGiven : ∀ (k pc : Nat) (ins : Instr) (n : Nat), tb_X6_markGiven[k]? = some (pc, ins, n) → decode cX6_markGiven pc = .ok (ins, n) := dd_of (by decide +kernel)
def tb_X6_next : List (Nat × Instr × Nat) := [(0, .aload_n 0, 1), (1, .getfield 19, 3), (4, .iconst 1, 1), (5, .iadd, 1), (6, .istore_n 1, 1), (7, .iload_n 1, 1), (8, .ldc 23, 2), (10, .if_icmp .ge 19, 3), (13, .aload_n 0, 1), (14, .iload_n 1, 1), (15, .invokevirtual 24, 3), (18, .ifCond .eq 5, 3), (21, .iload_n 1, 1), (22, .ireturn, 1), (23, .iinc 1 1, 3), (26, .goto (-19), 3), (29, .iconst (-1), 1), (30, .ireturn, 1)]
theorem dd_X6_next : ∀ (k pc : Nat) (ins : Instr) (n : Nat), tb_X6_next[k]? = some (pc, ins, n) → decode cX6_next pc = .ok (ins, n) := dd_of (by decide +kernel)
def tb_X7_init : List (Nat × Instr × Nat) := [(0, .aload_n 0, 1), (1, .invokespecial 3, 3), (4, .aload_n 0, 1), (5, .iconst 4, 1), (6, .newarray .char, 2), (8, .putfield 9, 3), (11, .aload_n 0, 1), (12, .iload_n 1, 1), (13, .putfield 15, 3), (16, .aload_n 0, 1), (17, .iload_n 2, 1), (18, .putfield 19, 3), (21, .aload_n 0, 1), (22, .iload_n 2, 1), (23, .sipush 1440, 3), (26, .imul, 1), (27, .iload_n 3, 1), (28, .iadd, 1), (29, .putfield 22, 3), (32, .return_, 1)]
theorem dd_X7_init : ∀ (k pc : Nat) (ins : Instr) (n : Nat), tb_X7_init[k]? = some (pc, ins, n) → decode cX7_init pc = .ok (ins, n) := dd_of (by decide +kernel)
def tb_X7_agreesWith : List (Nat × Instr × Nat) := [(0, .iconst 0, 1), (1, .istore_n 2, 1), (2, .iload_n 2, 1), (3, .aload_n 0, 1), (4, .getfield 9, 3), (7, .arraylength, 1), (8, .if_icmp .ge 36, 3), (11, .aload_n 0, 1), (12, .getfield 9, 3), (15, .iload_n 2, 1), (16, .caload, 1), (17, .bipush 63, 2), (19, .if_icmp .eq 19, 3), (22, .aload_n 0, 1), (23, .getfield 9, 3), (26, .iload_n 2, 1), (27, .caload, 1), (28, .iload_n 1, 1), (29, .iload_n 2, 1), (30, .invokestatic 25, 3), (33, .if_icmp .eq 5, 3), (36, .iconst 0, 1), (37, .ireturn, 1), (38, .iinc 2 1, 3), (41, .goto (-39), 3), (44, .iconst 1, 1), (45, .ireturn, 1)]
theorem dd_X7_agreesWith : ∀ (k pc : Nat) (ins : Instr) (n : Nat), tb_X7_agreesWith[k]? = some (pc, ins, n) → decode cX7_agreesWith pc = .ok (ins, n) := dd_of (by decide +kernel)
def tb_X7_isTooSoonBehind : List (Nat × Instr × Nat) := [(0, .aload_n 0, 1), (1, .getfield 22, 3), (4, .aload_n 1, 1), (5, .getfield 22, 3), (8, .isub, 1), (9, .bipush 10, 2), (11, .aload_n 0, 1), (12, .getfield 15, 3), (15, .aload_n 1, 1), (16, .getfield 15, 3), (19, .isub, 1), (20, .invokestatic 29, 3), (23, .imul, 1), (24, .if_icmp .ge 7, 3), (27, .iconst 1, 1), (28, .goto 4, 3), (31, .iconst 0, 1), (32, .ireturn, 1)]
theorem dd_X7_isTooSoonBehind : ∀ (k pc : Nat) (ins : Instr) (n : Nat), tb_X7_isTooSoonBehind[k]? = some (pc, ins, n) → decode cX7_isTooSoonBehind pc = .ok (ins, n) := dd_of (by decide +kernel)
def tb_X8_init : List (Nat × Instr × Nat) := [(0, .aload_n 0, 1), (1, .invokespecial 3, 3), (4, .aload_n 0, 1), (5, .iconst 0, 1), (6, .putfield 9, 3), (9, .aload_n 0, 1), (10, .iconst 0, 1), (11, .putfield 15, 3), (14, .aload_n 0, 1), (15, .iconst (-1), 1), (16, .putfield 18, 3), (19, .aload_n 0, 1), (20, .iconst (-1), 1), (21, .putfield 21, 3), (24, .aload_n 0, 1), (25, .iload_n 1, 1), (26, .putfield 24, 3), (29, .return_, 1)]
theorem dd_X8_init : ∀ (k pc : Nat) (ins : Instr) (n : Nat), tb_X8_init[k]? = some (pc, ins, n) → decode cX8_init pc = .ok (ins, n) := dd_of (by decide +kernel)
def tb_X8_copyFrom : List (Nat × Instr × Nat) := [(0, .aload_n 0, 1), (1, .aload_n 1, 1), (2, .getfield 9, 3), (5, .putfield 9, 3), (8, .aload_n 0, 1), (9, .aload_n 1, 1), (10, .getfield 15, 3), (13, .putfield 15, 3), (16, .aload_n 0, 1), (17, .aload_n 1, 1), (18, .getfield 18, 3), (21, .putfield 18, 3), (24, .aload_n 0, 1), (25, .aload_n 1, 1), (26, .getfield 21, 3), (29, .putfield 21, 3), (32, .aload_n 0, 1), (33, .aload_n 1, 1), (34, .getfield 24, 3), (37, .putfield 24, 3), (40, .return_, 1)]
theorem dd_X8_copyFrom : ∀ (k pc : Nat) (ins : Instr) (n : Nat), tb_X8_copyFrom[k]? = some (pc, ins, n) → decode cX8_copyFrom pc = .ok (ins, n) := dd_of (by decide +kernel)
def tb_X8_follow : List (Nat × Instr × Nat) := [(0, .aload_n 1, 1), (1, .getfield 27, 3), (4, .ifCond .ne 14, 3), (7, .aload_n 0, 1), (8, .aload_n 1, 1), (9, .getfield 32, 3), (12, .putfield 18, 3), (15, .goto 58, 3), (18, .aload_n 1, 1), (19, .getfield 27, 3), (22, .iconst 1, 1), (23, .if_icmp .ne 14, 3), (26, .aload_n 0, 1), (27, .aload_n 1, 1), (28, .getfield 32, 3), (31, .putfield 21, 3), (34, .goto 39, 3), (37, .aload_n 1, 1), (38, .getfield 27, 3), (41, .bipush 7, 2), (43, .if_icmp .ne 14, 3), (46, .aload_n 0, 1), (47, .aload_n 1, 1), (48, .getfield 32, 3), (51, .putfield 24, 3), (54, .goto 19, 3), (57, .aload_n 0, 1), (58, .getfield 9, 3), (61, .iconst 4, 1), (62, .if_icmp .eq 11, 3), (65, .aload_n 0, 1), (66, .aload_n 1, 1), (67, .getfield 27, 3), (70, .invokevirtual 35, 3), (73, .return_, 1)]
theorem dd_X8_follow : ∀ (k pc : Nat) (ins : Instr) (n : Nat), tb_X8_follow[k]? = some (pc, ins, n) → decode cX8_follow pc = .ok (ins, n) := dd_of (by decide +kernel)
def tb_X8_changeState : List (Nat × Instr × Nat) := [(0, .iload_n 1, 1), (1, .bipush 6, 2), (3, .if_icmp .ne 11, 3), (6, .aload_n 0, 1), (7, .iconst 4, 1), (8, .putfield 9, 3), (11, .goto 75, 3), (14, .aload_n 0, 1), (15, .getfield 9, 3), (18, .iconst 3, 1), (19, .if_icmp .ne 23, 3), (22, .aload_n 0, 1), (23, .iload_n 1, 1), (24, .iconst 5, 1), (25, .if_icmp .ne 10, 3), (28, .aload_n 0, 1), (29, .getfield 15, 3), (32, .goto 4, 3), (35, .iconst 3, 1), (36, .putfield 9, 3), (39, .goto 47, 3), (42, .iload_n 1, 1), (43, .iconst 4, 1), (44, .if_icmp .ne 19, 3), (47, .aload_n 0, 1), (48, .aload_n 0, 1), (49, .getfield 9, 3), (52, .putfield 15, 3), (55, .aload_n 0, 1), (56, .iconst 3, 1), (57, .putfield 9, 3), (60, .goto 26, 3), (63, .iload_n 1, 1), (64, .iconst 2, 1), (65, .if_icmp .ne 11, 3), (68, .aload_n 0, 1), (69, .iconst 1, 1), (70, .putfield 9, 3), (73, .goto 13, 3), (76, .iload_n 1, 1), (77, .iconst 3, 1), (78, .if_icmp .ne 8, 3), (81, .aload_n 0, 1), (82, .iconst 2, 1), (83, .putfield 9, 3), (86, .return_, 1)]
theorem dd_X8_changeState : ∀ (k pc : Nat) (ins : Instr) (n : Nat), tb_X8_changeState[k]? = some (pc, ins, n) → decode cX8_changeState pc = .ok (ins, n) := dd_of (by decide +kernel)
def tb_X8_part : List (Nat × Instr × Nat) := [(0, .iload_n 1, 1), (1, .ifCond .ne 8, 3), (4, .aload_n 0, 1), (5, .getfield 9, 3), (8, .ireturn, 1), (9, .iload_n 1, 1), (10, .iconst 1, 1), (11, .if_icmp .ne 8, 3), (14, .aload_n 0, 1), (15, .getfield 18, 3), (18, .ireturn, 1), (19, .iload_n 1, 1), (20, .iconst 2, 1), (21, .if_icmp .ne 10, 3), (24, .aload_n 0, 1), (25, .getfield 21, 3), (28, .goto 7, 3), (31, .aload_n 0, 1), (32, .getfield 24, 3), (35, .ireturn, 1)]
theorem dd_X8_part : ∀ (k pc : Nat) (ins : Instr) (n : Nat), tb_X8_part[k]? = some (pc, ins, n) → decode cX8_part pc = .ok (ins, n) := dd_of (by decide +kernel)
def tb_X9_init : List (Nat × Instr × Nat) := [(0, .aload_n 0, 1), (1, .invokespecial 1, 3), (4, .aload_n 0, 1), (5, .iconst 0, 1), (6, .putfield 7, 3), (9, .aload_n 0, 1), (10, .iconst 0, 1), (11, .putfield 13, 3), (14, .aload_n 0, 1), (15, .iconst 0, 1), (16, .putfield 16, 3), (19, .aload_n 0, 1), (20, .iload_n 1, 1), (21, .putfield 19, 3), (24, .aload_n 0, 1), (25, .iload_n 1, 1), (26, .sipush 1080, 3), (29, .iadd, 1), (30, .putfield 22, 3), (33, .return_, 1)]
theorem dd_X9_init : ∀ (k pc : Nat) (ins : Instr) (n : Nat), tb_X9_init[k]? = some (pc, ins, n) → decode cX9_init pc = .ok (ins, n) := dd_of (by decide +kernel)
def tb_X9_take : List (Nat × Instr × Nat) := [(0, .iload_n 3, 1), (1, .aload_n 0, 1), (2, .getfield 13, 3), (5, .if_icmp .ge 13, 3), (8, .aload_n 0, 1), (9, .dup, 1), (10, .getfield 16, 3), (13, .iconst 1, 1), (14, .iadd, 1), (15, .putfield 16, 3), (18, .iload_n 2, 1), (19, .iconst 2, 1), (20, .if_icmp .ne 18, 3), (23, .aload_n 0, 1), (24, .aload_n 0, 1), (25, .getfield 22, 3), (28, .iload_n 1, 1), (29, .invokestatic 25, 3), (32, .putfield 22, 3), (35, .goto 19, 3), (38, .aload_n 0, 1), (39, .aload_n 0, 1), (40, .getfield 22, 3), (43, .iload_n 1, 1), (44, .sipush 360, 3), (47, .iadd, 1), (48, .invokestatic 31, 3), (51, .putfield 22, 3), (54, .aload_n 0, 1), (55, .iload_n 3, 1), (56, .putfield 13, 3), (59, .aload_n 0, 1), (60, .iload_n 1, 1), (61, .putfield 19, 3), (64, .aload_n 0, 1), (65, .dup, 1), (66, .getfield 7, 3), (69, .iconst 1, 1), (70, .iadd, 1), (71, .putfield 7, 3), (74, .return_, 1)]
theorem dd_X9_take : ∀ (k pc : Nat) (ins : Instr) (n : Nat), tb_X9_take[k]? = some (pc, ins, n) → decode cX9_take pc = .ok (ins, n) := dd_of (by decide +kernel)
def tb_X10_init : List (Nat × Instr × Nat) := [(0, .aload_n 0, 1), (1, .invokespecial 1, 3), (4, .aload_n 0, 1), (5, .new 7, 3), (8, .dup, 1), (9, .invokespecial 9, 3), (12, .putfield 10, 3), (15, .aload_n 0, 1), (16, .new 7, 3), (19, .dup, 1), (20, .invokespecial 9, 3), (23, .putfield 16, 3), (26, .aload_n 0, 1), (27, .lconst 0, 1), (28, .putfield 19, 3), (31, .aload_n 0, 1), (32, .iload_n 1, 1), (33, .putfield 23, 3), (36, .aload_n 0, 1), (37, .iload_n 2, 1), (38, .putfield 27, 3), (41, .aload_n 0, 1), (42, .new 30, 3), (45, .dup, 1), (46, .iload_n 3, 1), (47, .invokespecial 32, 3), (50, .putfield 35, 3), (53, .aload_n 0, 1), (54, .new 39, 3), (57, .dup, 1), (58, .iload_n 2, 1), (59, .invokespecial 41, 3), (62, .putfield 42, 3), (65, .return_, 1)]
theorem dd_X10_init : ∀ (k pc : Nat) (ins : Instr) (n : Nat), tb_X10_init[k]? = some (pc, ins, n) → decode cX10_init pc = .ok (ins, n) := dd_of (by decide +kernel)
def tb_X11_init_0 : List (Nat × Instr × Nat) := [(0, .aload_n 0, 1), (1, .invokespecial 3, 3), (4, .aload_n 0, 1), (5, .iconst 0, 1), (6, .putfield 9, 3), (9, .aload_n 0, 1), (10, .new 13, 3), (13, .dup, 1), (14, .invokespecial 15, 3), (17, .putfield 16, 3), (20, .aload_n 0, 1), (21, .new 20, 3), (24, .dup, 1), (25, .invokespecial 22, 3), (28, .putfield 23, 3), (31, .aload_n 0, 1), (32, .new 27, 3), (35, .dup, 1), (36, .invokespecial 29, 3), (39, .putfield 30, 3), (42, .aload_n 0, 1), (43, .new 27, 3), (46, .dup, 1), (47, .invokespecial 29, 3), (50, .putfield 34, 3), (53, .aload_n 0, 1), (54, .iconst 4, 1), (55, .anewarray 37, 3), (58, .putfield 39, 3), (61, .aload_n 0, 1), (62, .iconst 0, 1), (63, .putfield 43, 3), (66, .aload_n 0, 1), (67, .new 27, 3), (70, .dup, 1), (71, .invokespecial 29, 3), (74, .putfield 46, 3), (77, .aload_n 0, 1), (78, .new 27, 3), (81, .dup, 1), (82, .invokespecial 29, 3), (85, .putfield 49, 3), (88, .aload_n 0, 1), (89, .new 27, 3), (92, .dup, 1), (93, .invokespecial 29, 3), (96, .putfield 52, 3), (99, .iconst 0, 1), (100, .istore_n 1, 1), (101, .iload_n 1, 1), (102, .iconst 4, 1), (103, .if_icmp .ge 22, 3), (106, .aload_n 0, 1), (107, .getfield 39, 3), (110, .iload_n 1, 1), (111, .new 37, 3), (114, .dup, 1), (115, .invokespecial 55, 3), (118, .aastore, 1), (119, .iinc 1 1, 3)]
def tb_X11_init_1 : List (Nat × Instr × Nat) := [(122, .goto (-21), 3), (125, .return_, 1)]
theorem dd_X11_init_0 : ∀ (k pc : Nat) (ins : Instr) (n : Nat), tb_X11_init_0[k]? = some (pc, ins, n) → decode cX11_init pc = .ok (ins, n) := dd_of (by decide +kernel)
theorem dd_X11_init_1 : ∀ (k pc : Nat) (ins : Instr) (n : Nat), tb_X11_init_1[k]? = some (pc, ins, n) → decode cX11_init pc = .ok (ins, n) := dd_of (by decide +kernel)
def tb_X11_type : List (Nat × Instr × Nat) := [(0, .aload_n 0, 1), (1, .getfield 16, 3), (4, .iload_n 1, 1), (5, .invokevirtual 56, 3), (8, .ifCond .ne 11, 3), (11, .new 60, 3), (14, .dup, 1), (15, .invokespecial 62, 3), (18, .athrow, 1), (19, .aload_n 0, 1), (20, .getfield 16, 3), (23, .getfield 63, 3), (26, .ireturn, 1)]
theorem dd_X11_type : ∀ (k pc : Nat) (ins : Instr) (n : Nat), tb_X11_type[k]? = some (pc, ins, n) → decode cX11_type pc = .ok (ins, n) := dd_of (by decide +kernel)
def tb_X11_clear : List (Nat × Instr × Nat) := [(0, .aload_n 0, 1), (1, .getfield 16, 3), (4, .invokevirtual 66, 3), (7, .ireturn, 1)]
theorem dd_X11_clear : ∀ (k pc : Nat) (ins : Instr) (n : Nat), tb_X11_clear[k]? = some (pc, ins, n) → decode cX11_clear pc = .ok (ins, n) := dd_of (by decide +kernel)
def tb_X11_vehicle : List (Nat × Instr × Nat) := [(0, .iload_n 1, 1), (1, .iconst 0, 1), (2, .sipush 9999, 3), (5, .invokestatic 70, 3), (8, .ifCond .eq 31, 3), (11, .iload_n 2, 1), (12, .iconst 0, 1), (13, .aload_n 0, 1), (14, .getfield 9, 3), (17, .invokestatic 70, 3), (20, .ifCond .eq 19, 3), (23, .iload_n 3, 1), (24, .invokestatic 74, 3), (27, .ifCond .eq 12, 3), (30, .iload_n 1, 1), (31, .invokestatic 78, 3), (34, .bipush 10, 2), (36, .if_icmp .ne 11, 3), (39, .new 82, 3), (42, .dup, 1), (43, .invokespecial 84, 3), (46, .athrow, 1), (47, .aload_n 0, 1), (48, .iload_n 1, 1), (49, .invokevirtual 85, 3), (52, .iconst (-1), 1), (53, .if_icmp .ne 15, 3), (56, .aload_n 0, 1), (57, .getfield 30, 3), (60, .invokevirtual 88, 3), (63, .bipush 12, 2), (65, .if_icmp .lt 11, 3), (68, .new 60, 3), (71, .dup, 1), (72, .invokespecial 62, 3), (75, .athrow, 1), (76, .aload_n 0, 1), (77, .getfield 30, 3), (80, .new 91, 3), (83, .dup, 1), (84, .iload_n 1, 1), (85, .iload_n 2, 1), (86, .iload_n 3, 1), (87, .invokespecial 93, 3), (90, .invokevirtual 96, 3), (93, .pop, 1), (94, .aload_n 0, 1), (95, .getfield 30, 3), (98, .invokevirtual 88, 3), (101, .iconst 1, 1), (102, .isub, 1), (103, .ireturn, 1)]
theorem dd_X11_vehicle : ∀ (k pc : Nat) (ins : Instr) (n : Nat), tb_X11_vehicle[k]? = some (pc, ins, n) → decode cX11_vehicle pc = .ok (ins, n) := dd_of (by decide +kernel)
def tb_X11_stamped : List (Nat × Instr × Nat) := [(0, .iload_n 1, 1), (1, .iconst 0, 1), (2, .ldc 100, 2), (4, .invokestatic 70, 3), (7, .ifCond .eq 14, 3), (10, .iload_n 1, 1), (11, .bipush 10, 2), (13, .idiv, 1), (14, .invokestatic 101, 3), (17, .iload_n 1, 1), (18, .if_icmp .eq 11, 3), (21, .new 82, 3), (24, .dup, 1), (25, .invokespecial 84, 3), (28, .athrow, 1), (29, .aload_n 0, 1), (30, .iload_n 1, 1), (31, .bipush 10, 2), (33, .idiv, 1), (34, .invokevirtual 85, 3), (37, .ireturn, 1)]
theorem dd_X11_stamped : ∀ (k pc : Nat) (ins : Instr) (n : Nat), tb_X11_stamped[k]? = some (pc, ins, n) → decode cX11_stamped pc = .ok (ins, n) := dd_of (by decide +kernel)
def tb_X11_person : List (Nat × Instr × Nat) := [(0, .aload_n 0, 1), (1, .getfield 34, 3), (4, .invokevirtual 88, 3), (7, .bipush 10, 2), (9, .if_icmp .lt 11, 3), (12, .new 60, 3), (15, .dup, 1), (16, .invokespecial 62, 3), (19, .athrow, 1), (20, .aload_n 0, 1), (21, .getfield 34, 3), (24, .new 104, 3), (27, .dup, 1), (28, .invokespecial 106, 3), (31, .invokevirtual 96, 3), (34, .pop, 1), (35, .aload_n 0, 1), (36, .getfield 34, 3), (39, .invokevirtual 88, 3), (42, .iconst 1, 1), (43, .isub, 1), (44, .ireturn, 1)]
theorem dd_X11_person : ∀ (k pc : Nat) (ins : Instr) (n : Nat), tb_X11_person[k]? = some (pc, ins, n) → decode cX11_person pc = .ok (ins, n) := dd_of (by decide +kernel)
def tb_X11_protect : List (Nat × Instr × Nat) := [(0, .aload_n 0, 1), (1, .iload_n 1, 1), (2, .invokevirtual 107, 3), (5, .astore_n 3, 1), (6, .aload_n 3, 1), (7, .getfield 111, 3), (10, .istore 4, 2), (12, .aload_n 3, 1), (13, .iload_n 2, 1), (14, .putfield 111, 3), (17, .iload 4, 2), (19, .ireturn, 1)]
theorem dd_X11_protect : ∀ (k pc : Nat) (ins : Instr) (n : Nat), tb_X11_protect[k]? = some (pc, ins, n) → decode cX11_protect pc = .ok (ins, n) := dd_of (by decide +kernel)
def tb_X11_vehicleAt : List (Nat × Instr × Nat) := [(0, .iload_n 1, 1), (1, .ifCond .lt 14, 3), (4, .iload_n 1, 1), (5, .aload_n 0, 1), (6, .getfield 30, 3), (9, .invokevirtual 88, 3), (12, .if_icmp .lt 11, 3), (15, .new 115, 3), (18, .dup, 1), (19, .invokespecial 117, 3), (22, .athrow, 1), (23, .aload_n 0, 1), (24, .getfield 30, 3), (27, .iload_n 1, 1), (28, .invokevirtual 118, 3), (31, .checkcast 91, 3), (34, .areturn, 1)]
theorem dd_X11_vehicleAt : ∀ (k pc : Nat) (ins : Instr) (n : Nat), tb_X11_vehicleAt[k]? = some (pc, ins, n) → decode cX11_vehicleAt pc = .ok (ins, n) := dd_of (by decide +kernel)
def tb_X11_personAt : List (Nat × Instr × Nat) := [(0, .iload_n 1, 1), (1, .ifCond .lt 14, 3), (4, .iload_n 1, 1), (5, .aload_n 0, 1), (6, .getfield 34, 3), (9, .invokevirtual 88, 3), (12, .if_icmp .lt 11, 3), (15, .new 115, 3), (18, .dup, 1), (19, .invokespecial 117, 3), (22, .athrow, 1), (23, .aload_n 0, 1), (24, .getfield 34, 3), (27, .iload_n 1, 1), (28, .invokevirtual 118, 3), (31, .checkcast 104, 3), (34, .areturn, 1)]
theorem dd_X11_personAt : ∀ (k pc : Nat) (ins : Instr) (n : Nat), tb_X11_personAt[k]? = some (pc, ins, n) → decode cX11_personAt pc = .ok (ins, n) := dd_of (by decide +kernel)
def tb_X11_vehicleOfSerial : List (Nat × Instr × Nat) := [(0, .iconst 0, 1), (1, .istore_n 2, 1), (2, .iload_n 2, 1), (3, .aload_n 0, 1), (4, .getfield 30, 3), (7, .invokevirtual 88, 3), (10, .if_icmp .ge 29, 3), (13, .aload_n 0, 1), (14, .getfield 30, 3), (17, .iload_n 2, 1), (18, .invokevirtual 118, 3), (21, .checkcast 91, 3), (24, .getfield 122, 3), (27, .iload_n 1, 1), (28, .if_icmp .ne 5, 3), (31, .iload_n 2, 1), (32, .ireturn, 1), (33, .iinc 2 1, 3), (36, .goto (-34), 3), (39, .iconst (-1), 1), (40, .ireturn, 1)]
theorem dd_X11_vehicleOfSerial : ∀ (k pc : Nat) (ins : Instr) (n : Nat), tb_X11_vehicleOfSerial[k]? = some (pc, ins, n) → decode cX11_vehicleOfSerial pc = .ok (ins, n) := dd_of (by decide +kernel)
def tb_X11_checkDigit : List (Nat × Instr × Nat) := [(0, .iload_n 0, 1), (1, .sipush 1000, 3), (4, .idiv, 1), (5, .iconst 2, 1), (6, .imul, 1), (7, .iload_n 0, 1), (8, .bipush 100, 2), (10, .idiv, 1), (11, .bipush 10, 2), (13, .irem, 1), (14, .iconst 3, 1), (15, .imul, 1), (16, .iadd, 1), (17, .iload_n 0, 1), (18, .bipush 10, 2), (20, .idiv, 1), (21, .bipush 10, 2), (23, .irem, 1), (24, .iconst 4, 1), (25, .imul, 1), (26, .iadd, 1), (27, .iload_n 0, 1), (28, .bipush 10, 2), (30, .irem, 1), (31, .iconst 5, 1), (32, .imul, 1), (33, .iadd, 1), (34, .istore_n 1, 1), (35, .iload_n 1, 1), (36, .bipush 11, 2), (38, .irem, 1), (39, .ireturn, 1)]
theorem dd_X11_checkDigit : ∀ (k pc : Nat) (ins : Instr) (n : Nat), tb_X11_checkDigit[k]? = some (pc, ins, n) → decode cX11_checkDigit pc = .ok (ins, n) := dd_of (by decide +kernel)
def tb_X11_stampedNumber : List (Nat × Instr × Nat) := [(0, .iload_n 0, 1), (1, .invokestatic 78, 3), (4, .istore_n 1, 1), (5, .iload_n 1, 1), (6, .bipush 10, 2), (8, .if_icmp .ne 7, 3), (11, .iconst (-1), 1), (12, .goto 9, 3), (15, .iload_n 0, 1), (16, .bipush 10, 2), (18, .imul, 1), (19, .iload_n 1, 1), (20, .iadd, 1), (21, .ireturn, 1)]
theorem dd_X11_stampedNumber : ∀ (k pc : Nat) (ins : Instr) (n : Nat), tb_X11_stampedNumber[k]? = some (pc, ins, n) → decode cX11_stampedNumber pc = .ok (ins, n) := dd_of (by decide +kernel)
def tb_X11_isWithin : List (Nat × Instr × Nat) := [(0, .iload_n 0, 1), (1, .iload_n 1, 1), (2, .if_icmp .lt 12, 3), (5, .iload_n 0, 1), (6, .iload_n 2, 1), (7, .if_icmp .gt 7, 3), (10, .iconst 1, 1), (11, .goto 4, 3), (14, .iconst 0, 1), (15, .ireturn, 1)]
theorem dd_X11_isWithin : ∀ (k pc : Nat) (ins : Instr) (n : Nat), tb_X11_isWithin[k]? = some (pc, ins, n) → decode cX11_isWithin pc = .ok (ins, n) := dd_of (by decide +kernel)
def tb_X11_isClass : List (Nat × Instr × Nat) := [(0, .iload_n 0, 1), (1, .iconst 0, 1), (2, .iconst 3, 1), (3, .invokestatic 70, 3), (6, .ireturn, 1)]
theorem dd_X11_isClass : ∀ (k pc : Nat) (ins : Instr) (n : Nat), tb_X11_isClass[k]? = some (pc, ins, n) → decode cX11_isClass pc = .ok (ins, n) := dd_of (by decide +kernel)
def tb_X11_tell : List (Nat × Instr × Nat) := [(0, .aload_n 0, 1), (1, .iload_n 1, 1), (2, .invokevirtual 125, 3), (5, .astore 5, 2), (7, .iload_n 2, 1), (8, .ifCond .eq 8, 3), (11, .iload_n 2, 1), (12, .iconst 1, 1), (13, .if_icmp .ne 9, 3), (16, .aload_n 0, 1), (17, .iload_n 3, 1), (18, .invokevirtual 107, 3), (21, .pop, 1), (22, .iload_n 2, 1), (23, .iconst 0, 1), (24, .bipush 7, 2), (26, .invokestatic 70, 3), (29, .ifCond .eq 28, 3), (32, .iload_n 2, 1), (33, .iload_n 3, 1), (34, .invokestatic 129, 3), (37, .ifCond .eq 20, 3), (40, .iload 4, 2), (42, .aload 5, 2), (44, .getfield 133, 3), (47, .aload_n 0, 1), (48, .getfield 9, 3), (51, .invokestatic 70, 3), (54, .ifCond .ne 11, 3), (57, .new 82, 3), (60, .dup, 1), (61, .invokespecial 84, 3), (64, .athrow, 1), (65, .aload 5, 2), (67, .getfield 136, 3), (70, .invokevirtual 140, 3), (73, .bipush 30, 2), (75, .if_icmp .lt 11, 3), (78, .new 60, 3), (81, .dup, 1), (82, .invokespecial 62, 3), (85, .athrow, 1), (86, .aload 5, 2), (88, .getfield 136, 3), (91, .new 143, 3), (94, .dup, 1), (95, .iload_n 2, 1), (96, .iload_n 3, 1), (97, .iload 4, 2), (99, .invokespecial 145, 3), (102, .invokevirtual 146, 3), (105, .ireturn, 1)]
theorem dd_X11_tell : ∀ (k pc : Nat) (ins : Instr) (n : Nat), tb_X11_tell[k]? = some (pc, ins, n) → decode cX11_tell pc = .ok (ins, n) := dd_of (by decide +kernel)
def tb_X11_on : List (Nat × Instr × Nat) := [(0, .aload_n 0, 1), (1, .iload_n 1, 1), (2, .invokevirtual 125, 3), (5, .astore 4, 2), (7, .aload_n 0, 1), (8, .iload_n 2, 1), (9, .iload_n 3, 1), (10, .invokevirtual 150, 3), (13, .aload 4, 2), (15, .getfield 136, 3), (18, .iload_n 2, 1), (19, .invokevirtual 154, 3), (22, .iload_n 3, 1), (23, .invokevirtual 158, 3), (26, .ireturn, 1)]
theorem dd_X11_on : ∀ (k pc : Nat) (ins : Instr) (n : Nat), tb_X11_on[k]? = some (pc, ins, n) → decode cX11_on pc = .ok (ins, n) := dd_of (by decide +kernel)
def tb_X11_onAnew : List (Nat × Instr × Nat) := [(0, .aload_n 0, 1), (1, .iload_n 1, 1), (2, .invokevirtual 125, 3), (5, .astore 4, 2), (7, .aload_n 0, 1), (8, .iload_n 2, 1), (9, .iload_n 3, 1), (10, .invokevirtual 150, 3), (13, .aload 4, 2), (15, .getfield 136, 3), (18, .iload_n 2, 1), (19, .invokevirtual 163, 3), (22, .iload_n 3, 1), (23, .invokevirtual 158, 3), (26, .ireturn, 1)]
theorem dd_X11_onAnew : ∀ (k pc : Nat) (ins : Instr) (n : Nat), tb_X11_onAnew[k]? = some (pc, ins, n) → decode cX11_onAnew pc = .ok (ins, n) := dd_of (by decide +kernel)
def tb_X11_fitsKind : List (Nat × Instr × Nat) := [(0, .iload_n 0, 1), (1, .ifCond .eq 8, 3), (4, .iload_n 0, 1), (5, .iconst 1, 1), (6, .if_icmp .ne 5, 3), (9, .iconst 1, 1), (10, .ireturn, 1), (11, .iload_n 0, 1), (12, .bipush 7, 2), (14, .if_icmp .ne 10, 3), (17, .iload_n 1, 1), (18, .invokestatic 74, 3), (21, .goto 12, 3), (24, .iload_n 1, 1), (25, .ifCond .ne 7, 3), (28, .iconst 1, 1), (29, .goto 4, 3), (32, .iconst 0, 1), (33, .ireturn, 1)]
theorem dd_X11_fitsKind : ∀ (k pc : Nat) (ins : Instr) (n : Nat), tb_X11_fitsKind[k]? = some (pc, ins, n) → decode cX11_fitsKind pc = .ok (ins, n) := dd_of (by decide +kernel)
def tb_X11_refuseStandingAsked : List (Nat × Instr × Nat) := [(0, .iload_n 1, 1), (1, .iconst 0, 1), (2, .aload_n 0, 1), (3, .getfield 9, 3), (6, .invokestatic 70, 3), (9, .ifCond .eq 12, 3), (12, .iload_n 2, 1), (13, .iconst 0, 1), (14, .iconst 3, 1), (15, .invokestatic 70, 3), (18, .ifCond .ne 11, 3), (21, .new 82, 3), (24, .dup, 1), (25, .invokespecial 84, 3), (28, .athrow, 1), (29, .return_, 1)]
theorem dd_X11_refuseStandingAsked : ∀ (k pc : Nat) (ins : Instr) (n : Nat), tb_X11_refuseStandingAsked[k]? = some (pc, ins, n) → decode cX11_refuseStandingAsked pc = .ok (ins, n) := dd_of (by decide +kernel)
def tb_X11_bar : List (Nat × Instr × Nat) := [(0, .iload_n 1, 1), (1, .invokestatic 166, 3), (4, .ifCond .eq 10, 3), (7, .iload_n 2, 1), (8, .invokestatic 166, 3), (11, .ifCond .ne 11, 3), (14, .new 82, 3), (17, .dup, 1), (18, .invokespecial 84, 3), (21, .athrow, 1), (22, .aload_n 0, 1), (23, .getfield 23, 3), (26, .iload_n 1, 1), (27, .bipush 65, 2), (29, .isub, 1), (30, .bipush 26, 2), (32, .imul, 1), (33, .iload_n 2, 1), (34, .bipush 65, 2), (36, .isub, 1), (37, .iadd, 1), (38, .iload_n 3, 1), (39, .invokevirtual 169, 3), (42, .ireturn, 1)]
theorem dd_X11_bar : ∀ (k pc : Nat) (ins : Instr) (n : Nat), tb_X11_bar[k]? = some (pc, ins, n) → decode cX11_bar pc = .ok (ins, n) := dd_of (by decide +kernel)
def tb_X11_allot : List (Nat × Instr × Nat) := [(0, .aload_n 0, 1), (1, .iload_n 1, 1), (2, .invokevirtual 125, 3), (5, .astore_n 2, 1), (6, .aload_n 0, 1), (7, .getfield 23, 3), (10, .invokevirtual 173, 3), (13, .istore_n 3, 1), (14, .aload_n 0, 1), (15, .aload_n 2, 1), (16, .invokevirtual 176, 3), (19, .ifCond .ne 8, 3), (22, .iload_n 3, 1), (23, .iconst (-1), 1), (24, .if_icmp .ne 11, 3), (27, .new 60, 3), (30, .dup, 1), (31, .invokespecial 62, 3), (34, .athrow, 1), (35, .aload_n 0, 1), (36, .getfield 23, 3), (39, .iload_n 3, 1), (40, .putfield 180, 3), (43, .aload_n 0, 1), (44, .iload_n 3, 1), (45, .aload_n 2, 1), (46, .invokevirtual 183, 3), (49, .iload_n 3, 1), (50, .ireturn, 1)]
theorem dd_X11_allot : ∀ (k pc : Nat) (ins : Instr) (n : Nat), tb_X11_allot[k]? = some (pc, ins, n) → decode cX11_allot pc = .ok (ins, n) := dd_of (by decide +kernel)
def tb_X11_wish : List (Nat × Instr × Nat) := [(0, .aload_n 0, 1), (1, .iload_n 1, 1), (2, .invokevirtual 125, 3), (5, .astore_n 2, 1), (6, .aload_n 0, 1), (7, .getfield 16, 3), (10, .invokevirtual 187, 3), (13, .istore_n 3, 1), (14, .aload_n 0, 1), (15, .aload_n 2, 1), (16, .invokevirtual 176, 3), (19, .ifCond .ne 19, 3), (22, .iload_n 3, 1), (23, .iconst (-1), 1), (24, .if_icmp .eq 14, 3), (27, .aload_n 0, 1), (28, .getfield 23, 3), (31, .iload_n 3, 1), (32, .invokevirtual 190, 3), (35, .ifCond .ne 11, 3), (38, .new 60, 3), (41, .dup, 1), (42, .invokespecial 62, 3), (45, .athrow, 1), (46, .aload_n 0, 1), (47, .getfield 16, 3), (50, .invokevirtual 66, 3), (53, .pop, 1), (54, .aload_n 0, 1), (55, .iload_n 3, 1), (56, .aload_n 2, 1), (57, .invokevirtual 183, 3), (60, .iload_n 3, 1), (61, .ireturn, 1)]
theorem dd_X11_wish : ∀ (k pc : Nat) (ins : Instr) (n : Nat), tb_X11_wish[k]? = some (pc, ins, n) → decode cX11_wish pc = .ok (ins, n) := dd_of (by decide +kernel)
def tb_X11_plate : List (Nat × Instr × Nat) := [(0, .aload_n 0, 1), (1, .iload_n 1, 1), (2, .invokevirtual 125, 3), (5, .astore 4, 2), (7, .iload_n 3, 1), (8, .iconst 0, 1), (9, .iconst 3, 1), (10, .invokestatic 70, 3), (13, .ifCond .ne 11, 3), (16, .new 115, 3), (19, .dup, 1), (20, .invokespecial 117, 3), (23, .athrow, 1), (24, .iload_n 2, 1), (25, .iconst 0, 1), (26, .aload_n 0, 1), (27, .getfield 9, 3), (30, .invokestatic 70, 3), (33, .ifCond .ne 11, 3), (36, .new 82, 3), (39, .dup, 1), (40, .invokespecial 84, 3), (43, .athrow, 1), (44, .aload 4, 2), (46, .getfield 193, 3), (49, .iload_n 2, 1), (50, .iconst (-1), 1), (51, .invokevirtual 197, 3), (54, .istore 5, 2), (56, .iload 5, 2), (58, .iconst (-1), 1), (59, .if_icmp .ne 7, 3), (62, .iconst 0, 1), (63, .goto 9, 3), (66, .iload 5, 2), (68, .iload_n 3, 1), (69, .invokestatic 201, 3), (72, .ireturn, 1)]
theorem dd_X11_plate : ∀ (k pc : Nat) (ins : Instr) (n : Nat), tb_X11_plate[k]? = some (pc, ins, n) → decode cX11_plate pc = .ok (ins, n) := dd_of (by decide +kernel)
def tb_X11_give : List (Nat × Instr × Nat) := [(0, .aload_n 0, 1), (1, .getfield 23, 3), (4, .iload_n 1, 1), (5, .invokevirtual 205, 3), (8, .aload_n 2, 1), (9, .getfield 193, 3), (12, .aload_n 0, 1), (13, .getfield 9, 3), (16, .iload_n 1, 1), (17, .invokevirtual 209, 3), (20, .return_, 1)]
theorem dd_X11_give : ∀ (k pc : Nat) (ins : Instr) (n : Nat), tb_X11_give[k]? = some (pc, ins, n) → decode cX11_give pc = .ok (ins, n) := dd_of (by decide +kernel)
def tb_X11_isGoneToday : List (Nat × Instr × Nat) := [(0, .aload_n 1, 1), (1, .getfield 136, 3), (4, .aload_n 0, 1), (5, .getfield 9, 3), (8, .invokevirtual 154, 3), (11, .getfield 212, 3), (14, .iconst 4, 1), (15, .if_icmp .ne 7, 3), (18, .iconst 1, 1), (19, .goto 4, 3), (22, .iconst 0, 1), (23, .ireturn, 1)]
theorem dd_X11_isGoneToday : ∀ (k pc : Nat) (ins : Instr) (n : Nat), tb_X11_isGoneToday[k]? = some (pc, ins, n) → decode cX11_isGoneToday pc = .ok (ins, n) := dd_of (by decide +kernel)
def tb_X11_isLetter : List (Nat × Instr × Nat) := [(0, .iload_n 0, 1), (1, .bipush 65, 2), (3, .if_icmp .lt 13, 3), (6, .iload_n 0, 1), (7, .bipush 90, 2), (9, .if_icmp .gt 7, 3), (12, .iconst 1, 1), (13, .goto 4, 3), (16, .iconst 0, 1), (17, .ireturn, 1)]
theorem dd_X11_isLetter : ∀ (k pc : Nat) (ins : Instr) (n : Nat), tb_X11_isLetter[k]? = some (pc, ins, n) → decode cX11_isLetter pc = .ok (ins, n) := dd_of (by decide +kernel)
def tb_X11_isDigit : List (Nat × Instr × Nat) := [(0, .iload_n 0, 1), (1, .bipush 48, 2), (3, .if_icmp .lt 13, 3), (6, .iload_n 0, 1), (7, .bipush 57, 2), (9, .if_icmp .gt 7, 3), (12, .iconst 1, 1), (13, .goto 4, 3), (16, .iconst 0, 1), (17, .ireturn, 1)]
theorem dd_X11_isDigit : ∀ (k pc : Nat) (ins : Instr) (n : Nat), tb_X11_isDigit[k]? = some (pc, ins, n) → decode cX11_isDigit pc = .ok (ins, n) := dd_of (by decide +kernel)
def tb_X11_fitsPlate : List (Nat × Instr × Nat) := [(0, .iload_n 1, 1), (1, .iconst 2, 1), (2, .if_icmp .ge 10, 3), (5, .iload_n 0, 1), (6, .invokestatic 166, 3), (9, .goto 7, 3), (12, .iload_n 0, 1), (13, .invokestatic 215, 3), (16, .ireturn, 1)]
theorem dd_X11_fitsPlate : ∀ (k pc : Nat) (ins : Instr) (n : Nat), tb_X11_fitsPlate[k]? = some (pc, ins, n) → decode cX11_fitsPlate pc = .ok (ins, n) := dd_of (by decide +kernel)
def tb_X11_signOf : List (Nat × Instr × Nat) := [(0, .iload_n 1, 1), (1, .ifCond .ne 13, 3), (4, .bipush 65, 2), (6, .iload_n 0, 1), (7, .sipush 2600, 3), (10, .idiv, 1), (11, .iadd, 1), (12, .i2c, 1), (13, .ireturn, 1), (14, .iload_n 1, 1), (15, .iconst 1, 1), (16, .if_icmp .ne 15, 3), (19, .bipush 65, 2), (21, .iload_n 0, 1), (22, .bipush 100, 2), (24, .idiv, 1), (25, .bipush 26, 2), (27, .irem, 1), (28, .iadd, 1), (29, .i2c, 1), (30, .ireturn, 1), (31, .bipush 48, 2), (33, .iload_n 1, 1), (34, .iconst 2, 1), (35, .if_icmp .ne 13, 3), (38, .iload_n 0, 1), (39, .bipush 10, 2), (41, .idiv, 1), (42, .bipush 10, 2), (44, .irem, 1), (45, .goto 7, 3), (48, .iload_n 0, 1), (49, .bipush 10, 2), (51, .irem, 1), (52, .iadd, 1), (53, .i2c, 1), (54, .ireturn, 1)]
theorem dd_X11_signOf : ∀ (k pc : Nat) (ins : Instr) (n : Nat), tb_X11_signOf[k]? = some (pc, ins, n) → decode cX11_signOf pc = .ok (ins, n) := dd_of (by decide +kernel)
def tb_X11_rate : List (Nat × Instr × Nat) := [(0, .iload_n 1, 1), (1, .invokestatic 74, 3), (4, .ifCond .eq 24, 3), (7, .iload_n 2, 1), (8, .iconst 0, 1), (9, .sipush 20000, 3), (12, .invokestatic 70, 3), (15, .ifCond .eq 13, 3), (18, .iload_n 3, 1), (19, .iconst 0, 1), (20, .ldc 218, 2), (22, .invokestatic 70, 3), (25, .ifCond .ne 11, 3), (28, .new 82, 3), (31, .dup, 1), (32, .invokespecial 84, 3), (35, .athrow, 1), (36, .aload_n 0, 1), (37, .getfield 43, 3), (40, .bipush 40, 2), (42, .if_icmp .lt 11, 3), (45, .new 60, 3), (48, .dup, 1), (49, .invokespecial 62, 3), (52, .athrow, 1), (53, .aload_n 0, 1), (54, .getfield 39, 3), (57, .iload_n 1, 1), (58, .aaload, 1), (59, .iload_n 2, 1), (60, .iload_n 3, 1), (61, .invokevirtual 209, 3), (64, .aload_n 0, 1), (65, .dup, 1), (66, .getfield 43, 3), (69, .iconst 1, 1), (70, .iadd, 1), (71, .putfield 43, 3), (74, .aload_n 0, 1), (75, .getfield 43, 3), (78, .ireturn, 1)]
theorem dd_X11_rate : ∀ (k pc : Nat) (ins : Instr) (n : Nat), tb_X11_rate[k]? = some (pc, ins, n) → decode cX11_rate pc = .ok (ins, n) := dd_of (by decide +kernel)
def tb_X11_pay : List (Nat × Instr × Nat) := [(0, .aload_n 0, 1), (1, .iload_n 1, 1), (2, .invokevirtual 125, 3), (5, .astore_n 3, 1), (6, .iload_n 2, 1), (7, .iconst 1, 1), (8, .ldc 219, 2), (10, .invokestatic 70, 3), (13, .ifCond .ne 11, 3), (16, .new 82, 3), (19, .dup, 1), (20, .invokespecial 84, 3), (23, .athrow, 1), (24, .aload_n 3, 1), (25, .dup, 1), (26, .getfield 220, 3), (29, .iload_n 2, 1), (30, .i2l, 1), (31, .ladd, 1), (32, .putfield 220, 3), (35, .aload_n 0, 1), (36, .aload_n 3, 1), (37, .getfield 136, 3), (40, .invokevirtual 224, 3), (43, .aload_n 3, 1), (44, .getfield 220, 3), (47, .lsub, 1), (48, .lreturn, 1)]
theorem dd_X11_pay : ∀ (k pc : Nat) (ins : Instr) (n : Nat), tb_X11_pay[k]? = some (pc, ins, n) → decode cX11_pay pc = .ok (ins, n) := dd_of (by decide +kernel)
def tb_X11_owes : List (Nat × Instr × Nat) := [(0, .aload_n 0, 1), (1, .iload_n 1, 1), (2, .invokevirtual 125, 3), (5, .astore_n 2, 1), (6, .aload_n 0, 1), (7, .aload_n 2, 1), (8, .getfield 136, 3), (11, .invokevirtual 224, 3), (14, .aload_n 2, 1), (15, .getfield 220, 3), (18, .lsub, 1), (19, .lreturn, 1)]
theorem dd_X11_owes : ∀ (k pc : Nat) (ins : Instr) (n : Nat), tb_X11_owes[k]? = some (pc, ins, n) → decode cX11_owes pc = .ok (ins, n) := dd_of (by decide +kernel)
def tb_X11_taxOf : List (Nat × Instr × Nat) := [(0, .lconst 0, 1), (1, .lstore_n 2, 1), (2, .iconst 0, 1), (3, .istore 4, 2), (5, .iload 4, 2), (7, .aload_n 1, 1), (8, .invokevirtual 140, 3), (11, .if_icmp .ge 59, 3), (14, .aload_n 1, 1), (15, .iload 4, 2), (17, .invokevirtual 228, 3), (20, .astore 5, 2), (22, .aload 5, 2), (24, .getfield 232, 3), (27, .getfield 212, 3), (30, .iconst 1, 1), (31, .if_icmp .ne 33, 3), (34, .lload_n 2, 1), (35, .aload_n 0, 1), (36, .aload 5, 2), (38, .getfield 236, 3), (41, .aload_n 1, 1), (42, .iload 4, 2), (44, .aload_n 0, 1), (45, .getfield 9, 3), (48, .invokevirtual 239, 3), (51, .aload 5, 2), (53, .getfield 232, 3), (56, .getfield 242, 3), (59, .invokevirtual 245, 3), (62, .ladd, 1), (63, .lstore_n 2, 1), (64, .iinc 4 1, 3), (67, .goto (-62), 3), (70, .lload_n 2, 1), (71, .lreturn, 1)]
theorem dd_X11_taxOf : ∀ (k pc : Nat) (ins : Instr) (n : Nat), tb_X11_taxOf[k]? = some (pc, ins, n) → decode cX11_taxOf pc = .ok (ins, n) := dd_of (by decide +kernel)
def tb_X11_taxBetween : List (Nat × Instr × Nat) := [(0, .iload_n 3, 1), (1, .invokestatic 74, 3), (4, .ifCond .ne 5, 3), (7, .lconst 0, 1), (8, .lreturn, 1), (9, .iload_n 1, 1), (10, .bipush 30, 2), (12, .iadd, 1), (13, .iconst 1, 1), (14, .isub, 1), (15, .bipush 30, 2), (17, .idiv, 1), (18, .istore 4, 2), (20, .lconst 0, 1), (21, .lstore 5, 2), (23, .iload 4, 2), (25, .bipush 30, 2), (27, .imul, 1), (28, .istore 7, 2), (30, .iload 7, 2), (32, .iload_n 2, 1), (33, .if_icmp .gt 27, 3), (36, .lload 5, 2), (38, .aload_n 0, 1), (39, .getfield 39, 3), (42, .iload_n 3, 1), (43, .aaload, 1), (44, .iload 7, 2), (46, .iconst 0, 1), (47, .invokevirtual 197, 3), (50, .i2l, 1), (51, .ladd, 1), (52, .lstore 5, 2), (54, .iinc 7 30, 3), (57, .goto (-27), 3), (60, .lload 5, 2), (62, .lreturn, 1)]
theorem dd_X11_taxBetween : ∀ (k pc : Nat) (ins : Instr) (n : Nat), tb_X11_taxBetween[k]? = some (pc, ins, n) → decode cX11_taxBetween pc = .ok (ins, n) := dd_of (by decide +kernel)
def tb_X11_test : List (Nat × Instr × Nat) := [(0, .aload_n 0, 1), (1, .iload_n 1, 1), (2, .invokevirtual 125, 3), (5, .astore 5, 2), (7, .iload_n 2, 1), (8, .aload 5, 2), (10, .getfield 249, 3), (13, .getfield 253, 3), (16, .aload_n 0, 1), (17, .getfield 9, 3), (20, .invokestatic 70, 3), (23, .ifCond .eq 24, 3), (26, .iload_n 3, 1), (27, .iconst 0, 1), (28, .iconst 2, 1), (29, .invokestatic 70, 3), (32, .ifCond .eq 15, 3), (35, .iload 4, 2), (37, .iconst 0, 1), (38, .ldc_w 258, 3), (41, .invokestatic 70, 3), (44, .ifCond .ne 11, 3), (47, .new 82, 3), (50, .dup, 1), (51, .invokespecial 84, 3), (54, .athrow, 1), (55, .aload 5, 2), (57, .getfield 249, 3), (60, .getfield 259, 3), (63, .bipush 20, 2), (65, .if_icmp .lt 11, 3), (68, .new 60, 3), (71, .dup, 1), (72, .invokespecial 62, 3), (75, .athrow, 1), (76, .aload 5, 2), (78, .getfield 249, 3), (81, .iload_n 2, 1), (82, .iload_n 3, 1), (83, .iload 4, 2), (85, .invokevirtual 262, 3), (88, .aload 5, 2), (90, .getfield 249, 3), (93, .getfield 265, 3), (96, .ireturn, 1)]
theorem dd_X11_test : ∀ (k pc : Nat) (ins : Instr) (n : Nat), tb_X11_test[k]? = some (pc, ins, n) → decode cX11_test pc = .ok (ins, n) := dd_of (by decide +kernel)
def tb_X11_insure : List (Nat × Instr × Nat) := [(0, .aload_n 0, 1), (1, .iload_n 1, 1), (2, .invokevirtual 125, 3), (5, .astore_n 3, 1), (6, .iload_n 2, 1), (7, .iconst (-1), 1), (8, .if_icmp .eq 25, 3), (11, .iload_n 2, 1), (12, .aload_n 0, 1), (13, .getfield 9, 3), (16, .sipush 20000, 3), (19, .invokestatic 70, 3), (22, .ifCond .ne 11, 3), (25, .new 82, 3), (28, .dup, 1), (29, .invokespecial 84, 3), (32, .athrow, 1), (33, .aload_n 3, 1), (34, .getfield 268, 3), (37, .aload_n 0, 1), (38, .getfield 9, 3), (41, .iconst (-1), 1), (42, .invokevirtual 197, 3), (45, .aload_n 0, 1), (46, .getfield 9, 3), (49, .if_icmp .lt 7, 3), (52, .iconst 1, 1), (53, .goto 4, 3), (56, .iconst 0, 1), (57, .istore 4, 2), (59, .aload_n 3, 1), (60, .getfield 268, 3), (63, .aload_n 0, 1), (64, .getfield 9, 3), (67, .iload_n 2, 1), (68, .invokevirtual 209, 3), (71, .iload 4, 2), (73, .ireturn, 1)]
theorem dd_X11_insure : ∀ (k pc : Nat) (ins : Instr) (n : Nat), tb_X11_insure[k]? = some (pc, ins, n) → decode cX11_insure pc = .ok (ins, n) := dd_of (by decide +kernel)
def tb_X11_ofVehicle : List (Nat × Instr × Nat) := [(0, .aload_n 0, 1), (1, .iload_n 1, 1), (2, .invokevirtual 125, 3), (5, .astore_n 3, 1), (6, .iload_n 2, 1), (7, .iconst 0, 1), (8, .iconst 4, 1), (9, .invokestatic 70, 3), (12, .ifCond .ne 11, 3), (15, .new 82, 3), (18, .dup, 1), (19, .invokespecial 84, 3), (22, .athrow, 1), (23, .iload_n 2, 1), (24, .ifCond .ne 11, 3), (27, .aload_n 3, 1), (28, .getfield 122, 3), (31, .invokestatic 101, 3), (34, .ireturn, 1), (35, .iload_n 2, 1), (36, .iconst 1, 1), (37, .if_icmp .ne 11, 3), (40, .aload_n 3, 1), (41, .getfield 249, 3), (44, .getfield 265, 3), (47, .ireturn, 1), (48, .iload_n 2, 1), (49, .iconst 2, 1), (50, .if_icmp .ne 11, 3), (53, .aload_n 3, 1), (54, .getfield 249, 3), (57, .getfield 271, 3), (60, .ireturn, 1), (61, .iload_n 2, 1), (62, .iconst 3, 1), (63, .if_icmp .ne 11, 3), (66, .aload_n 0, 1), (67, .aload_n 3, 1), (68, .invokevirtual 274, 3), (71, .goto 8, 3), (74, .aload_n 0, 1), (75, .iload_n 1, 1), (76, .invokevirtual 278, 3), (79, .ireturn, 1)]
theorem dd_X11_ofVehicle : ∀ (k pc : Nat) (ins : Instr) (n : Nat), tb_X11_ofVehicle[k]? = some (pc, ins, n) → decode cX11_ofVehicle pc = .ok (ins, n) := dd_of (by decide +kernel)
def tb_X11_gapOf : List (Nat × Instr × Nat) := [(0, .aload_n 1, 1), (1, .getfield 136, 3), (4, .astore_n 2, 1), (5, .iconst 0, 1), (6, .istore_n 3, 1), (7, .iconst 0, 1), (8, .istore 4, 2), (10, .iload 4, 2), (12, .aload_n 2, 1), (13, .invokevirtual 140, 3), (16, .if_icmp .ge 77, 3), (19, .aload_n 2, 1), (20, .iload 4, 2), (22, .invokevirtual 228, 3), (25, .getfield 236, 3), (28, .istore 5, 2), (30, .aload_n 2, 1), (31, .iload 4, 2), (33, .aload_n 0, 1), (34, .getfield 9, 3), (37, .invokevirtual 239, 3), (40, .istore 6, 2), (42, .aload_n 2, 1), (43, .iload 4, 2), (45, .invokevirtual 228, 3), (48, .getfield 232, 3), (51, .getfield 212, 3), (54, .iconst 1, 1), (55, .if_icmp .ne 32, 3), (58, .iload 5, 2), (60, .iload 6, 2), (62, .if_icmp .gt 25, 3), (65, .iload_n 3, 1), (66, .iload 6, 2), (68, .iload 5, 2), (70, .isub, 1), (71, .iconst 1, 1), (72, .iadd, 1), (73, .aload_n 1, 1), (74, .getfield 268, 3), (77, .iload 5, 2), (79, .iload 6, 2), (81, .invokevirtual 281, 3), (84, .isub, 1), (85, .iadd, 1), (86, .istore_n 3, 1), (87, .iinc 4 1, 3), (90, .goto (-80), 3), (93, .iload_n 3, 1), (94, .ireturn, 1)]
theorem dd_X11_gapOf : ∀ (k pc : Nat) (ins : Instr) (n : Nat), tb_X11_gapOf[k]? = some (pc, ins, n) → decode cX11_gapOf pc = .ok (ins, n) := dd_of (by decide +kernel)
def tb_X11_sight : List (Nat × Instr × Nat) := [(0, .iload_n 1, 1), (1, .iconst 0, 1), (2, .bipush 9, 2), (4, .invokestatic 70, 3), (7, .ifCond .eq 14, 3), (10, .iload_n 2, 1), (11, .iconst 0, 1), (12, .sipush 1439, 3), (15, .invokestatic 70, 3), (18, .ifCond .ne 11, 3), (21, .new 82, 3), (24, .dup, 1), (25, .invokespecial 84, 3), (28, .athrow, 1), (29, .aload_n 0, 1), (30, .getfield 16, 3), (33, .iconst 1, 1), (34, .invokevirtual 284, 3), (37, .ifCond .eq 15, 3), (40, .aload_n 0, 1), (41, .getfield 46, 3), (44, .invokevirtual 88, 3), (47, .bipush 40, 2), (49, .if_icmp .lt 11, 3), (52, .new 60, 3), (55, .dup, 1), (56, .invokespecial 62, 3), (59, .athrow, 1), (60, .new 288, 3), (63, .dup, 1), (64, .iload_n 1, 1), (65, .aload_n 0, 1), (66, .getfield 9, 3), (69, .iload_n 2, 1), (70, .invokespecial 290, 3), (73, .astore_n 3, 1), (74, .aload_n 0, 1), (75, .getfield 16, 3), (78, .aload_n 3, 1), (79, .getfield 291, 3), (82, .invokevirtual 295, 3), (85, .aload_n 0, 1), (86, .getfield 16, 3), (89, .invokevirtual 66, 3), (92, .pop, 1), (93, .aload_n 0, 1), (94, .getfield 46, 3), (97, .aload_n 3, 1), (98, .invokevirtual 96, 3), (101, .pop, 1), (102, .aload_n 0, 1), (103, .aload_n 3, 1), (104, .invokevirtual 299, 3), (107, .aload_n 0, 1), (108, .getfield 46, 3), (111, .invokevirtual 88, 3), (114, .iconst 1, 1), (115, .isub, 1), (116, .ireturn, 1)]
theorem dd_X11_sight : ∀ (k pc : Nat) (ins : Instr) (n : Nat), tb_X11_sight[k]? = some (pc, ins, n) → decode cX11_sight pc = .ok (ins, n) := dd_of (by decide +kernel)
def tb_X11_seen : List (Nat × Instr × Nat) := [(0, .aload_n 0, 1), (1, .aload_n 0, 1), (2, .iload_n 1, 1), (3, .invokevirtual 303, 3), (6, .invokevirtual 307, 3), (9, .ireturn, 1)]
theorem dd_X11_seen : ∀ (k pc : Nat) (ins : Instr) (n : Nat), tb_X11_seen[k]? = some (pc, ins, n) → decode cX11_seen pc = .ok (ins, n) := dd_of (by decide +kernel)
def tb_X11_sightingAt : List (Nat × Instr × Nat) := [(0, .iload_n 1, 1), (1, .ifCond .lt 14, 3), (4, .iload_n 1, 1), (5, .aload_n 0, 1), (6, .getfield 46, 3), (9, .invokevirtual 88, 3), (12, .if_icmp .lt 11, 3), (15, .new 115, 3), (18, .dup, 1), (19, .invokespecial 117, 3), (22, .athrow, 1), (23, .aload_n 0, 1), (24, .getfield 46, 3), (27, .iload_n 1, 1), (28, .invokevirtual 118, 3), (31, .checkcast 288, 3), (34, .areturn, 1)]
theorem dd_X11_sightingAt : ∀ (k pc : Nat) (ins : Instr) (n : Nat), tb_X11_sightingAt[k]? = some (pc, ins, n) → decode cX11_sightingAt pc = .ok (ins, n) := dd_of (by decide +kernel)
def tb_X11_fileByTime : List (Nat × Instr × Nat) := [(0, .aload_n 0, 1), (1, .getfield 49, 3), (4, .invokevirtual 88, 3), (7, .istore_n 2, 1), (8, .iload_n 2, 1), (9, .ifCond .le 32, 3), (12, .aload_n 0, 1), (13, .getfield 49, 3), (16, .iload_n 2, 1), (17, .iconst 1, 1), (18, .isub, 1), (19, .invokevirtual 118, 3), (22, .checkcast 288, 3), (25, .getfield 311, 3), (28, .aload_n 1, 1), (29, .getfield 311, 3), (32, .if_icmp .le 9, 3), (35, .iinc 2 (-1), 3), (38, .goto (-30), 3), (41, .aload_n 0, 1), (42, .getfield 49, 3), (45, .iload_n 2, 1), (46, .aload_n 1, 1), (47, .invokevirtual 314, 3), (50, .return_, 1)]
theorem dd_X11_fileByTime : ∀ (k pc : Nat) (ins : Instr) (n : Nat), tb_X11_fileByTime[k]? = some (pc, ins, n) → decode cX11_fileByTime pc = .ok (ins, n) := dd_of (by decide +kernel)
def tb_X11_vehicleSeen : List (Nat × Instr × Nat) := [(0, .iconst (-1), 1), (1, .istore_n 2, 1), (2, .iconst 0, 1), (3, .istore_n 3, 1), (4, .iload_n 3, 1), (5, .aload_n 0, 1), (6, .getfield 30, 3), (9, .invokevirtual 88, 3), (12, .if_icmp .ge 57, 3), (15, .aload_n 0, 1), (16, .getfield 30, 3), (19, .iload_n 3, 1), (20, .invokevirtual 118, 3), (23, .checkcast 91, 3), (26, .getfield 193, 3), (29, .aload_n 1, 1), (30, .getfield 317, 3), (33, .iconst (-1), 1), (34, .invokevirtual 197, 3), (37, .istore 4, 2), (39, .iload 4, 2), (41, .iconst (-1), 1), (42, .if_icmp .eq 21, 3), (45, .aload_n 1, 1), (46, .iload 4, 2), (48, .invokevirtual 318, 3), (51, .ifCond .eq 12, 3), (54, .iload_n 2, 1), (55, .iconst (-1), 1), (56, .if_icmp .eq 5, 3), (59, .iconst (-1), 1), (60, .ireturn, 1), (61, .iload_n 3, 1), (62, .istore_n 2, 1), (63, .iinc 3 1, 3), (66, .goto (-62), 3), (69, .iload_n 2, 1), (70, .ireturn, 1)]
theorem dd_X11_vehicleSeen : ∀ (k pc : Nat) (ins : Instr) (n : Nat), tb_X11_vehicleSeen[k]? = some (pc, ins, n) → decode cX11_vehicleSeen pc = .ok (ins, n) := dd_of (by decide +kernel)
def tb_X11_clonesOf : List (Nat × Instr × Nat) := [(0, .aconst_null, 1), (1, .astore_n 2, 1), (2, .iconst 0, 1), (3, .istore_n 3, 1), (4, .iconst 0, 1), (5, .istore 4, 2), (7, .iload 4, 2), (9, .aload_n 0, 1), (10, .getfield 49, 3), (13, .invokevirtual 88, 3), (16, .if_icmp .ge 52, 3), (19, .aload_n 0, 1), (20, .getfield 49, 3), (23, .iload 4, 2), (25, .invokevirtual 118, 3), (28, .checkcast 288, 3), (31, .astore 5, 2), (33, .aload_n 0, 1), (34, .aload 5, 2), (36, .invokevirtual 307, 3), (39, .iload_n 1, 1), (40, .if_icmp .ne 22, 3), (43, .aload_n 2, 1), (44, .ifnull 15, 3), (47, .aload 5, 2), (49, .aload_n 2, 1), (50, .invokevirtual 321, 3), (53, .ifCond .eq 6, 3), (56, .iinc 3 1, 3), (59, .aload 5, 2), (61, .astore_n 2, 1), (62, .iinc 4 1, 3), (65, .goto (-58), 3), (68, .iload_n 3, 1), (69, .ireturn, 1)]
theorem dd_X11_clonesOf : ∀ (k pc : Nat) (ins : Instr) (n : Nat), tb_X11_clonesOf[k]? = some (pc, ins, n) → decode cX11_clonesOf pc = .ok (ins, n) := dd_of (by decide +kernel)
def tb_X11_fine : List (Nat × Instr × Nat) := [(0, .aload_n 0, 1), (1, .iload_n 1, 1), (2, .invokevirtual 303, 3), (5, .astore_n 3, 1), (6, .iload_n 2, 1), (7, .iconst 1, 1), (8, .ldc 218, 2), (10, .invokestatic 70, 3), (13, .ifCond .ne 11, 3), (16, .new 82, 3), (19, .dup, 1), (20, .invokespecial 84, 3), (23, .athrow, 1), (24, .aload_n 0, 1), (25, .aload_n 3, 1), (26, .invokevirtual 307, 3), (29, .iconst (-1), 1), (30, .if_icmp .eq 15, 3), (33, .aload_n 0, 1), (34, .getfield 52, 3), (37, .invokevirtual 88, 3), (40, .bipush 20, 2), (42, .if_icmp .lt 11, 3), (45, .new 60, 3), (48, .dup, 1), (49, .invokespecial 62, 3), (52, .athrow, 1), (53, .aload_n 0, 1), (54, .getfield 52, 3), (57, .new 325, 3), (60, .dup, 1), (61, .aload_n 3, 1), (62, .iload_n 2, 1), (63, .aload_n 0, 1), (64, .getfield 9, 3), (67, .invokespecial 327, 3), (70, .invokevirtual 96, 3), (73, .pop, 1), (74, .aload_n 0, 1), (75, .getfield 52, 3), (78, .invokevirtual 88, 3), (81, .iconst 1, 1), (82, .isub, 1), (83, .ireturn, 1)]
theorem dd_X11_fine : ∀ (k pc : Nat) (ins : Instr) (n : Nat), tb_X11_fine[k]? = some (pc, ins, n) → decode cX11_fine pc = .ok (ins, n) := dd_of (by decide +kernel)
def tb_X11_name : List (Nat × Instr × Nat) := [(0, .aload_n 0, 1), (1, .iload_n 1, 1), (2, .invokevirtual 330, 3), (5, .astore_n 3, 1), (6, .aload_n 0, 1), (7, .iload_n 2, 1), (8, .invokevirtual 107, 3), (11, .pop, 1), (12, .aload_n 0, 1), (13, .aload_n 3, 1), (14, .invokevirtual 334, 3), (17, .istore 4, 2), (19, .iload 4, 2), (21, .iconst (-1), 1), (22, .if_icmp .eq 31, 3), (25, .iload 4, 2), (27, .iload_n 2, 1), (28, .if_icmp .eq 25, 3), (31, .aload_n 0, 1), (32, .getfield 9, 3), (35, .aload_n 3, 1), (36, .getfield 338, 3), (39, .bipush 14, 2), (41, .iadd, 1), (42, .if_icmp .gt 11, 3), (45, .aload_n 3, 1), (46, .getfield 341, 3), (49, .iconst 3, 1), (50, .if_icmp .lt 11, 3), (53, .new 60, 3), (56, .dup, 1), (57, .invokespecial 62, 3), (60, .athrow, 1), (61, .aload_n 3, 1), (62, .iload_n 2, 1), (63, .aload_n 0, 1), (64, .getfield 9, 3), (67, .invokevirtual 344, 3), (70, .iload 4, 2), (72, .ireturn, 1)]
theorem dd_X11_name : ∀ (k pc : Nat) (ins : Instr) (n : Nat), tb_X11_name[k]? = some (pc, ins, n) → decode cX11_name pc = .ok (ins, n) := dd_of (by decide +kernel)
def tb_X11_whose : List (Nat × Instr × Nat) := [(0, .aload_n 0, 1), (1, .aload_n 0, 1), (2, .iload_n 1, 1), (3, .invokevirtual 330, 3), (6, .invokevirtual 334, 3), (9, .ireturn, 1)]
theorem dd_X11_whose : ∀ (k pc : Nat) (ins : Instr) (n : Nat), tb_X11_whose[k]? = some (pc, ins, n) → decode cX11_whose pc = .ok (ins, n) := dd_of (by decide +kernel)
def tb_X11_fines : List (Nat × Instr × Nat) := [(0, .aload_n 0, 1), (1, .iload_n 1, 1), (2, .invokevirtual 107, 3), (5, .pop, 1), (6, .iconst 0, 1), (7, .istore_n 2, 1), (8, .iconst 0, 1), (9, .istore_n 3, 1), (10, .iload_n 3, 1), (11, .aload_n 0, 1), (12, .getfield 52, 3), (15, .invokevirtual 88, 3), (18, .if_icmp .ge 45, 3), (21, .aload_n 0, 1), (22, .aload_n 0, 1), (23, .getfield 52, 3), (26, .iload_n 3, 1), (27, .invokevirtual 118, 3), (30, .checkcast 325, 3), (33, .invokevirtual 334, 3), (36, .iload_n 1, 1), (37, .if_icmp .ne 20, 3), (40, .iload_n 2, 1), (41, .aload_n 0, 1), (42, .getfield 52, 3), (45, .iload_n 3, 1), (46, .invokevirtual 118, 3), (49, .checkcast 325, 3), (52, .getfield 347, 3), (55, .iadd, 1), (56, .istore_n 2, 1), (57, .iinc 3 1, 3), (60, .goto (-50), 3), (63, .iload_n 2, 1), (64, .ireturn, 1)]
theorem dd_X11_fines : ∀ (k pc : Nat) (ins : Instr) (n : Nat), tb_X11_fines[k]? = some (pc, ins, n) → decode cX11_fines pc = .ok (ins, n) := dd_of (by decide +kernel)
def tb_X11_fineAt : List (Nat × Instr × Nat) := [(0, .iload_n 1, 1), (1, .ifCond .lt 14, 3), (4, .iload_n 1, 1), (5, .aload_n 0, 1), (6, .getfield 52, 3), (9, .invokevirtual 88, 3), (12, .if_icmp .lt 11, 3), (15, .new 115, 3), (18, .dup, 1), (19, .invokespecial 117, 3), (22, .athrow, 1), (23, .aload_n 0, 1), (24, .getfield 52, 3), (27, .iload_n 1, 1), (28, .invokevirtual 118, 3), (31, .checkcast 325, 3), (34, .areturn, 1)]
theorem dd_X11_fineAt : ∀ (k pc : Nat) (ins : Instr) (n : Nat), tb_X11_fineAt[k]? = some (pc, ins, n) → decode cX11_fineAt pc = .ok (ins, n) := dd_of (by decide +kernel)
def tb_X11_payerOf : List (Nat × Instr × Nat) := [(0, .aload_n 1, 1), (1, .getfield 341, 3), (4, .ifCond .le 8, 3), (7, .aload_n 1, 1), (8, .getfield 350, 3), (11, .ireturn, 1), (12, .aload_n 0, 1), (13, .aload_n 1, 1), (14, .getfield 353, 3), (17, .invokevirtual 307, 3), (20, .istore_n 2, 1), (21, .iload_n 2, 1), (22, .ifCond .lt 14, 3), (25, .iload_n 2, 1), (26, .aload_n 0, 1), (27, .getfield 30, 3), (30, .invokevirtual 88, 3), (33, .if_icmp .lt 5, 3), (36, .iconst (-1), 1), (37, .ireturn, 1), (38, .aload_n 0, 1), (39, .getfield 30, 3), (42, .iload_n 2, 1), (43, .invokevirtual 118, 3), (46, .checkcast 91, 3), (49, .getfield 136, 3), (52, .aload_n 1, 1), (53, .getfield 353, 3), (56, .getfield 317, 3), (59, .invokevirtual 154, 3), (62, .getfield 357, 3), (65, .ireturn, 1)]
theorem dd_X11_payerOf : ∀ (k pc : Nat) (ins : Instr) (n : Nat), tb_X11_payerOf[k]? = some (pc, ins, n) → decode cX11_payerOf pc = .ok (ins, n) := dd_of (by decide +kernel)
def tb_X11_look_0 : List (Nat × Instr × Nat) := [(0, .aload_n 0, 1), (1, .iload_n 1, 1), (2, .invokevirtual 125, 3), (5, .getfield 136, 3), (8, .aload_n 0, 1), (9, .getfield 9, 3), (12, .invokevirtual 154, 3), (15, .astore_n 2, 1), (16, .aload_n 0, 1), (17, .getfield 16, 3), (20, .ldc_w 360, 3), (23, .invokevirtual 362, 3), (26, .istore_n 3, 1), (27, .iload_n 3, 1), (28, .ifCond .ne 14, 3), (31, .aload_n 0, 1), (32, .aload_n 2, 1), (33, .getfield 212, 3), (36, .invokevirtual 366, 3), (39, .ifCond .eq 7, 3), (42, .iconst 1, 1), (43, .goto 4, 3), (46, .iconst 0, 1), (47, .istore 4, 2), (49, .aload_n 0, 1), (50, .getfield 16, 3), (53, .invokevirtual 66, 3), (56, .pop, 1), (57, .aload_n 2, 1), (58, .getfield 357, 3), (61, .istore 5, 2), (63, .iload 4, 2), (65, .ifCond .eq 20, 3), (68, .iload 5, 2), (70, .ifCond .lt 15, 3), (73, .iload 5, 2), (75, .aload_n 0, 1), (76, .getfield 34, 3), (79, .invokevirtual 88, 3), (82, .if_icmp .lt 5, 3), (85, .iconst (-1), 1), (86, .ireturn, 1), (87, .aload_n 0, 1), (88, .getfield 34, 3), (91, .iload 5, 2), (93, .invokevirtual 118, 3), (96, .checkcast 104, 3), (99, .astore 6, 2), (101, .aload 6, 2), (103, .getfield 111, 3), (106, .ifCond .eq 9, 3), (109, .iload_n 3, 1), (110, .ifCond .ne 5, 3), (113, .iconst (-1), 1), (114, .ireturn, 1), (115, .aload 6, 2), (117, .dup, 1), (118, .getfield 369, 3), (121, .iconst 1, 1), (122, .iadd, 1)]
def tb_X11_look_1 : List (Nat × Instr × Nat) := [(123, .putfield 369, 3), (126, .iload 5, 2), (128, .ireturn, 1)]
theorem dd_X11_look_0 : ∀ (k pc : Nat) (ins : Instr) (n : Nat), tb_X11_look_0[k]? = some (pc, ins, n) → decode cX11_look pc = .ok (ins, n) := dd_of (by decide +kernel)
theorem dd_X11_look_1 : ∀ (k pc : Nat) (ins : Instr) (n : Nat), tb_X11_look_1[k]? = some (pc, ins, n) → decode cX11_look pc = .ok (ins, n) := dd_of (by decide +kernel)
def tb_X11_looked : List (Nat × Instr × Nat) := [(0, .aload_n 0, 1), (1, .iload_n 1, 1), (2, .invokevirtual 107, 3), (5, .getfield 369, 3), (8, .ireturn, 1)]
theorem dd_X11_looked : ∀ (k pc : Nat) (ins : Instr) (n : Nat), tb_X11_looked[k]? = some (pc, ins, n) → decode cX11_looked pc = .ok (ins, n) := dd_of (by decide +kernel)
def tb_X11_isAllowedByState : List (Nat × Instr × Nat) := [(0, .iload_n 1, 1), (1, .iconst 1, 1), (2, .if_icmp .ne 14, 3), (5, .aload_n 0, 1), (6, .getfield 16, 3), (9, .ldc_w 372, 3), (12, .invokevirtual 362, 3), (15, .ireturn, 1), (16, .iload_n 1, 1), (17, .iconst 2, 1), (18, .if_icmp .eq 7, 3), (21, .iload_n 1, 1), (22, .ifCond .ne 20, 3), (25, .aload_n 0, 1), (26, .getfield 16, 3), (29, .ldc_w 374, 3), (32, .invokevirtual 362, 3), (35, .ifCond .eq 7, 3), (38, .iconst 1, 1), (39, .goto 4, 3), (42, .iconst 0, 1), (43, .ireturn, 1)]
theorem dd_X11_isAllowedByState : ∀ (k pc : Nat) (ins : Instr) (n : Nat), tb_X11_isAllowedByState[k]? = some (pc, ins, n) → decode cX11_isAllowedByState pc = .ok (ins, n) := dd_of (by decide +kernel)
def tb_X11_pass : List (Nat × Instr × Nat) := [(0, .iload_n 1, 1), (1, .iconst 1, 1), (2, .sipush 400, 3), (5, .invokestatic 70, 3), (8, .ifCond .ne 11, 3), (11, .new 82, 3), (14, .dup, 1), (15, .invokespecial 84, 3), (18, .athrow, 1), (19, .aload_n 0, 1), (20, .getfield 9, 3), (23, .iload_n 1, 1), (24, .iadd, 1), (25, .sipush 20000, 3), (28, .if_icmp .le 11, 3), (31, .new 60, 3), (34, .dup, 1), (35, .invokespecial 62, 3), (38, .athrow, 1), (39, .aload_n 0, 1), (40, .dup, 1), (41, .getfield 9, 3), (44, .iload_n 1, 1), (45, .iadd, 1), (46, .putfield 9, 3), (49, .aload_n 0, 1), (50, .getfield 9, 3), (53, .ireturn, 1)]
theorem dd_X11_pass : ∀ (k pc : Nat) (ins : Instr) (n : Nat), tb_X11_pass[k]? = some (pc, ins, n) → decode cX11_pass pc = .ok (ins, n) := dd_of (by decide +kernel)
def tb_X12_init_0 : List (Nat × Instr × Nat) := [(0, .aload_n 0, 1), (1, .invokespecial 1, 3), (4, .aload_n 0, 1), (5, .bipush 8, 2), (7, .newarray .char, 2), (9, .putfield 7, 3), (12, .aload_n 0, 1), (13, .bipush 12, 2), (15, .newarray .int, 2), (17, .putfield 13, 3), (20, .aload_n 0, 1), (21, .bipush 12, 2), (23, .newarray .int, 2), (25, .putfield 17, 3), (28, .aload_n 0, 1), (29, .bipush 12, 2), (31, .newarray .int, 2), (33, .putfield 20, 3), (36, .aload_n 0, 1), (37, .bipush 12, 2), (39, .newarray .int, 2), (41, .putfield 23, 3), (44, .aload_n 0, 1), (45, .sipush 360, 3), (48, .newarray .int, 2), (50, .putfield 26, 3), (53, .aload_n 0, 1), (54, .sipush 360, 3), (57, .newarray .int, 2), (59, .putfield 29, 3), (62, .aload_n 0, 1), (63, .sipush 360, 3), (66, .newarray .int, 2), (68, .putfield 32, 3), (71, .aload_n 0, 1), (72, .bipush 10, 2), (74, .newarray .boolean, 2), (76, .putfield 35, 3), (79, .aload_n 0, 1), (80, .bipush 10, 2), (82, .newarray .int, 2), (84, .putfield 39, 3), (87, .aload_n 0, 1), (88, .sipush 676, 3), (91, .newarray .boolean, 2), (93, .putfield 42, 3), (96, .aload_n 0, 1), (97, .iconst (-1), 1), (98, .putfield 45, 3), (101, .aload_n 0, 1), (102, .sipush 1057, 3), (105, .newarray .long, 2), (107, .putfield 49, 3), (110, .aload_n 0, 1), (111, .ldc 53, 2), (113, .newarray .long, 2), (115, .putfield 54, 3), (118, .aload_n 0, 1), (119, .bipush 40, 2), (121, .newarray .int, 2)]
def tb_X12_init_1 : List (Nat × Instr × Nat) := [(123, .putfield 57, 3), (126, .aload_n 0, 1), (127, .bipush 40, 2), (129, .newarray .int, 2), (131, .putfield 60, 3), (134, .aload_n 0, 1), (135, .bipush 40, 2), (137, .newarray .int, 2), (139, .putfield 63, 3), (142, .aload_n 0, 1), (143, .bipush 12, 2), (145, .newarray .long, 2), (147, .putfield 66, 3), (150, .aload_n 0, 1), (151, .bipush 12, 2), (153, .newarray .int, 2), (155, .putfield 69, 3), (158, .aload_n 0, 1), (159, .bipush 12, 2), (161, .newarray .int, 2), (163, .putfield 72, 3), (166, .aload_n 0, 1), (167, .bipush 12, 2), (169, .newarray .int, 2), (171, .putfield 75, 3), (174, .aload_n 0, 1), (175, .bipush 12, 2), (177, .newarray .int, 2), (179, .putfield 78, 3), (182, .aload_n 0, 1), (183, .bipush 12, 2), (185, .newarray .int, 2), (187, .putfield 81, 3), (190, .aload_n 0, 1), (191, .sipush 3756, 3), (194, .newarray .long, 2), (196, .putfield 84, 3), (199, .aload_n 0, 1), (200, .sipush 160, 3), (203, .newarray .char, 2), (205, .putfield 87, 3), (208, .aload_n 0, 1), (209, .bipush 40, 2), (211, .newarray .int, 2), (213, .putfield 90, 3), (216, .aload_n 0, 1), (217, .bipush 40, 2), (219, .newarray .int, 2), (221, .putfield 93, 3), (224, .aload_n 0, 1), (225, .bipush 40, 2), (227, .newarray .int, 2), (229, .putfield 96, 3), (232, .aload_n 0, 1), (233, .bipush 20, 2), (235, .newarray .int, 2), (237, .putfield 99, 3), (240, .aload_n 0, 1), (241, .bipush 20, 2), (243, .newarray .int, 2)]
def tb_X12_init_2 : List (Nat × Instr × Nat) := [(245, .putfield 102, 3), (248, .aload_n 0, 1), (249, .bipush 20, 2), (251, .newarray .int, 2), (253, .putfield 105, 3), (256, .aload_n 0, 1), (257, .bipush 20, 2), (259, .newarray .int, 2), (261, .putfield 108, 3), (264, .aload_n 0, 1), (265, .bipush 20, 2), (267, .newarray .int, 2), (269, .putfield 111, 3), (272, .return_, 1)]
theorem dd_X12_init_0 : ∀ (k pc : Nat) (ins : Instr) (n : Nat), tb_X12_init_0[k]? = some (pc, ins, n) → decode cX12_init pc = .ok (ins, n) := dd_of (by decide +kernel)
theorem dd_X12_init_1 : ∀ (k pc : Nat) (ins : Instr) (n : Nat), tb_X12_init_1[k]? = some (pc, ins, n) → decode cX12_init pc = .ok (ins, n) := dd_of (by decide +kernel)
theorem dd_X12_init_2 : ∀ (k pc : Nat) (ins : Instr) (n : Nat), tb_X12_init_2[k]? = some (pc, ins, n) → decode cX12_init pc = .ok (ins, n) := dd_of (by decide +kernel)
def tb_X12_thrown : List (Nat × Instr × Nat) := [(0, .aload_n 0, 1), (1, .getfield 114, 3), (4, .ireturn, 1)]
theorem dd_X12_thrown : ∀ (k pc : Nat) (ins : Instr) (n : Nat), tb_X12_thrown[k]? = some (pc, ins, n) → decode cX12_thrown pc = .ok (ins, n) := dd_of (by decide +kernel)
def tb_X12_goesWell : List (Nat × Instr × Nat) := [(0, .aload_n 0, 1), (1, .iload_n 1, 1), (2, .putfield 114, 3), (5, .iload_n 1, 1), (6, .ifCond .ne 7, 3), (9, .iconst 1, 1), (10, .goto 4, 3), (13, .iconst 0, 1), (14, .ireturn, 1)]
theorem dd_X12_goesWell : ∀ (k pc : Nat) (ins : Instr) (n : Nat), tb_X12_goesWell[k]? = some (pc, ins, n) → decode cX12_goesWell pc = .ok (ins, n) := dd_of (by decide +kernel)
def tb_X12_in : List (Nat × Instr × Nat) := [(0, .iload_n 0, 1), (1, .iload_n 1, 1), (2, .if_icmp .lt 12, 3), (5, .iload_n 0, 1), (6, .iload_n 2, 1), (7, .if_icmp .gt 7, 3), (10, .iconst 1, 1), (11, .goto 4, 3), (14, .iconst 0, 1), (15, .ireturn, 1)]
theorem dd_X12_in : ∀ (k pc : Nat) (ins : Instr) (n : Nat), tb_X12_in[k]? = some (pc, ins, n) → decode cX12_in pc = .ok (ins, n) := dd_of (by decide +kernel)
def tb_X12_isVehicle : List (Nat × Instr × Nat) := [(0, .iload_n 1, 1), (1, .iconst 0, 1), (2, .aload_n 0, 1), (3, .getfield 117, 3), (6, .iconst 1, 1), (7, .isub, 1), (8, .invokestatic 120, 3), (11, .ireturn, 1)]
theorem dd_X12_isVehicle : ∀ (k pc : Nat) (ins : Instr) (n : Nat), tb_X12_isVehicle[k]? = some (pc, ins, n) → decode cX12_isVehicle pc = .ok (ins, n) := dd_of (by decide +kernel)
def tb_X12_isPerson : List (Nat × Instr × Nat) := [(0, .iload_n 1, 1), (1, .iconst 0, 1), (2, .aload_n 0, 1), (3, .getfield 124, 3), (6, .iconst 1, 1), (7, .isub, 1), (8, .invokestatic 120, 3), (11, .ireturn, 1)]
theorem dd_X12_isPerson : ∀ (k pc : Nat) (ins : Instr) (n : Nat), tb_X12_isPerson[k]? = some (pc, ins, n) → decode cX12_isPerson pc = .ok (ins, n) := dd_of (by decide +kernel)
def tb_X12_type : List (Nat × Instr × Nat) := [(0, .aload_n 0, 1), (1, .aload_n 0, 1), (2, .getfield 127, 3), (5, .bipush 8, 2), (7, .if_icmp .ne 7, 3), (10, .iconst 1, 1), (11, .goto 4, 3), (14, .iconst 0, 1), (15, .invokevirtual 130, 3), (18, .ifCond .ne 5, 3), (21, .iconst 0, 1), (22, .ireturn, 1), (23, .aload_n 0, 1), (24, .getfield 7, 3), (27, .aload_n 0, 1), (28, .getfield 127, 3), (31, .iload_n 1, 1), (32, .castore, 1), (33, .aload_n 0, 1), (34, .dup, 1), (35, .getfield 127, 3), (38, .iconst 1, 1), (39, .iadd, 1), (40, .putfield 127, 3), (43, .aload_n 0, 1), (44, .getfield 127, 3), (47, .ireturn, 1)]
theorem dd_X12_type : ∀ (k pc : Nat) (ins : Instr) (n : Nat), tb_X12_type[k]? = some (pc, ins, n) → decode cX12_type pc = .ok (ins, n) := dd_of (by decide +kernel)
def tb_X12_clear : List (Nat × Instr × Nat) := [(0, .aload_n 0, 1), (1, .iconst 0, 1), (2, .putfield 114, 3), (5, .aload_n 0, 1), (6, .getfield 127, 3), (9, .istore_n 1, 1), (10, .aload_n 0, 1), (11, .iconst 0, 1), (12, .putfield 127, 3), (15, .iload_n 1, 1), (16, .ireturn, 1)]
theorem dd_X12_clear : ∀ (k pc : Nat) (ins : Instr) (n : Nat), tb_X12_clear[k]? = some (pc, ins, n) → decode cX12_clear pc = .ok (ins, n) := dd_of (by decide +kernel)
def tb_X12_check : List (Nat × Instr × Nat) := [(0, .iload_n 0, 1), (1, .sipush 1000, 3), (4, .idiv, 1), (5, .iconst 2, 1), (6, .imul, 1), (7, .iload_n 0, 1), (8, .bipush 100, 2), (10, .idiv, 1), (11, .bipush 10, 2), (13, .irem, 1), (14, .iconst 3, 1), (15, .imul, 1), (16, .iadd, 1), (17, .iload_n 0, 1), (18, .bipush 10, 2), (20, .idiv, 1), (21, .bipush 10, 2), (23, .irem, 1), (24, .iconst 4, 1), (25, .imul, 1), (26, .iadd, 1), (27, .iload_n 0, 1), (28, .bipush 10, 2), (30, .irem, 1), (31, .iconst 5, 1), (32, .imul, 1), (33, .iadd, 1), (34, .bipush 11, 2), (36, .irem, 1), (37, .ireturn, 1)]
theorem dd_X12_check : ∀ (k pc : Nat) (ins : Instr) (n : Nat), tb_X12_check[k]? = some (pc, ins, n) → decode cX12_check pc = .ok (ins, n) := dd_of (by decide +kernel)
def tb_X12_vehicleOf : List (Nat × Instr × Nat) := [(0, .iconst (-1), 1), (1, .istore_n 2, 1), (2, .iconst 0, 1), (3, .istore_n 3, 1), (4, .iload_n 3, 1), (5, .aload_n 0, 1), (6, .getfield 117, 3), (9, .if_icmp .ge 25, 3), (12, .aload_n 0, 1), (13, .getfield 13, 3), (16, .iload_n 3, 1), (17, .iaload, 1), (18, .iload_n 1, 1), (19, .if_icmp .ne 7, 3), (22, .iload_n 3, 1), (23, .goto 4, 3), (26, .iload_n 2, 1), (27, .istore_n 2, 1), (28, .iinc 3 1, 3), (31, .goto (-27), 3), (34, .iload_n 2, 1), (35, .ireturn, 1)]
theorem dd_X12_vehicleOf : ∀ (k pc : Nat) (ins : Instr) (n : Nat), tb_X12_vehicleOf[k]? = some (pc, ins, n) → decode cX12_vehicleOf pc = .ok (ins, n) := dd_of (by decide +kernel)
def tb_X12_vehicle_0 : List (Nat × Instr × Nat) := [(0, .iload_n 1, 1), (1, .iconst 0, 1), (2, .sipush 9999, 3), (5, .invokestatic 120, 3), (8, .ifCond .eq 37, 3), (11, .iload_n 2, 1), (12, .iconst 0, 1), (13, .aload_n 0, 1), (14, .getfield 134, 3), (17, .invokestatic 120, 3), (20, .ifCond .eq 25, 3), (23, .iload_n 3, 1), (24, .iconst 0, 1), (25, .iconst 3, 1), (26, .invokestatic 120, 3), (29, .ifCond .eq 16, 3), (32, .iload_n 1, 1), (33, .invokestatic 137, 3), (36, .bipush 10, 2), (38, .if_icmp .ge 7, 3), (41, .iconst 1, 1), (42, .goto 4, 3), (45, .iconst 0, 1), (46, .istore 4, 2), (48, .aload_n 0, 1), (49, .iload 4, 2), (51, .ifCond .ne 7, 3), (54, .iconst 1, 1), (55, .goto 26, 3), (58, .aload_n 0, 1), (59, .iload_n 1, 1), (60, .invokevirtual 141, 3), (63, .iconst (-1), 1), (64, .if_icmp .ne 12, 3), (67, .aload_n 0, 1), (68, .getfield 117, 3), (71, .bipush 12, 2), (73, .if_icmp .ne 7, 3), (76, .iconst 2, 1), (77, .goto 4, 3), (80, .iconst 0, 1), (81, .invokevirtual 130, 3), (84, .ifCond .ne 5, 3), (87, .iconst 0, 1), (88, .ireturn, 1), (89, .aload_n 0, 1), (90, .getfield 13, 3), (93, .aload_n 0, 1), (94, .getfield 117, 3), (97, .iload_n 1, 1), (98, .iastore, 1), (99, .aload_n 0, 1), (100, .getfield 17, 3), (103, .aload_n 0, 1), (104, .getfield 117, 3), (107, .iload_n 2, 1), (108, .iastore, 1), (109, .aload_n 0, 1), (110, .getfield 20, 3), (113, .aload_n 0, 1)]
def tb_X12_vehicle_1 : List (Nat × Instr × Nat) := [(114, .getfield 117, 3), (117, .iload_n 3, 1), (118, .iastore, 1), (119, .aload_n 0, 1), (120, .getfield 81, 3), (123, .aload_n 0, 1), (124, .getfield 117, 3), (127, .iload_n 2, 1), (128, .sipush 1080, 3), (131, .iadd, 1), (132, .iastore, 1), (133, .aload_n 0, 1), (134, .dup, 1), (135, .getfield 117, 3), (138, .iconst 1, 1), (139, .iadd, 1), (140, .putfield 117, 3), (143, .aload_n 0, 1), (144, .getfield 117, 3), (147, .iconst 1, 1), (148, .isub, 1), (149, .ireturn, 1)]
theorem dd_X12_vehicle_0 : ∀ (k pc : Nat) (ins : Instr) (n : Nat), tb_X12_vehicle_0[k]? = some (pc, ins, n) → decode cX12_vehicle pc = .ok (ins, n) := dd_of (by decide +kernel)
theorem dd_X12_vehicle_1 : ∀ (k pc : Nat) (ins : Instr) (n : Nat), tb_X12_vehicle_1[k]? = some (pc, ins, n) → decode cX12_vehicle pc = .ok (ins, n) := dd_of (by decide +kernel)
def tb_X12_stamped : List (Nat × Instr × Nat) := [(0, .iload_n 1, 1), (1, .iconst 0, 1), (2, .ldc 144, 2), (4, .invokestatic 120, 3), (7, .ifCond .eq 21, 3), (10, .iload_n 1, 1), (11, .bipush 10, 2), (13, .idiv, 1), (14, .invokestatic 137, 3), (17, .iload_n 1, 1), (18, .bipush 10, 2), (20, .irem, 1), (21, .if_icmp .ne 7, 3), (24, .iconst 1, 1), (25, .goto 4, 3), (28, .iconst 0, 1), (29, .istore_n 2, 1), (30, .aload_n 0, 1), (31, .iload_n 2, 1), (32, .ifCond .eq 7, 3), (35, .iconst 0, 1), (36, .goto 4, 3), (39, .iconst 1, 1), (40, .invokevirtual 130, 3), (43, .ifCond .eq 14, 3), (46, .aload_n 0, 1), (47, .iload_n 1, 1), (48, .bipush 10, 2), (50, .idiv, 1), (51, .invokevirtual 141, 3), (54, .goto 4, 3), (57, .iconst 0, 1), (58, .ireturn, 1)]
theorem dd_X12_stamped : ∀ (k pc : Nat) (ins : Instr) (n : Nat), tb_X12_stamped[k]? = some (pc, ins, n) → decode cX12_stamped pc = .ok (ins, n) := dd_of (by decide +kernel)
def tb_X12_person : List (Nat × Instr × Nat) := [(0, .aload_n 0, 1), (1, .aload_n 0, 1), (2, .getfield 124, 3), (5, .bipush 10, 2), (7, .if_icmp .ne 7, 3), (10, .iconst 1, 1), (11, .goto 4, 3), (14, .iconst 0, 1), (15, .invokevirtual 130, 3), (18, .ifCond .ne 5, 3), (21, .iconst 0, 1), (22, .ireturn, 1), (23, .aload_n 0, 1), (24, .dup, 1), (25, .getfield 124, 3), (28, .iconst 1, 1), (29, .iadd, 1), (30, .putfield 124, 3), (33, .aload_n 0, 1), (34, .getfield 124, 3), (37, .iconst 1, 1), (38, .isub, 1), (39, .ireturn, 1)]
theorem dd_X12_person : ∀ (k pc : Nat) (ins : Instr) (n : Nat), tb_X12_person[k]? = some (pc, ins, n) → decode cX12_person pc = .ok (ins, n) := dd_of (by decide +kernel)
def tb_X12_protect : List (Nat × Instr × Nat) := [(0, .aload_n 0, 1), (1, .aload_n 0, 1), (2, .iload_n 1, 1), (3, .invokevirtual 145, 3), (6, .ifCond .eq 7, 3), (9, .iconst 0, 1), (10, .goto 4, 3), (13, .iconst 1, 1), (14, .invokevirtual 130, 3), (17, .ifCond .ne 5, 3), (20, .iconst 0, 1), (21, .ireturn, 1), (22, .aload_n 0, 1), (23, .getfield 35, 3), (26, .iload_n 1, 1), (27, .baload, 1), (28, .istore_n 3, 1), (29, .aload_n 0, 1), (30, .getfield 35, 3), (33, .iload_n 1, 1), (34, .iload_n 2, 1), (35, .bastore, 1), (36, .iload_n 3, 1), (37, .ireturn, 1)]
theorem dd_X12_protect : ∀ (k pc : Nat) (ins : Instr) (n : Nat), tb_X12_protect[k]? = some (pc, ins, n) → decode cX12_protect pc = .ok (ins, n) := dd_of (by decide +kernel)
def tb_X12_isAbout : List (Nat × Instr × Nat) := [(0, .iload_n 1, 1), (1, .iconst 1, 1), (2, .if_icmp .le 25, 3), (5, .iload_n 1, 1), (6, .bipush 7, 2), (8, .if_icmp .ne 15, 3), (11, .iload_n 2, 1), (12, .iconst 0, 1), (13, .iconst 3, 1), (14, .invokestatic 120, 3), (17, .ifCond .eq 14, 3), (20, .goto 7, 3), (23, .iload_n 2, 1), (24, .ifCond .ne 7, 3), (27, .iconst 1, 1), (28, .goto 4, 3), (31, .iconst 0, 1), (32, .ireturn, 1)]
theorem dd_X12_isAbout : ∀ (k pc : Nat) (ins : Instr) (n : Nat), tb_X12_isAbout[k]? = some (pc, ins, n) → decode cX12_isAbout pc = .ok (ins, n) := dd_of (by decide +kernel)
def tb_X12_tell_0 : List (Nat × Instr × Nat) := [(0, .aload_n 0, 1), (1, .iload_n 1, 1), (2, .invokevirtual 148, 3), (5, .ifCond .eq 24, 3), (8, .iload_n 2, 1), (9, .iconst 0, 1), (10, .iconst 1, 1), (11, .invokestatic 120, 3), (14, .ifCond .eq 11, 3), (17, .aload_n 0, 1), (18, .iload_n 3, 1), (19, .invokevirtual 145, 3), (22, .ifCond .eq 7, 3), (25, .iconst 1, 1), (26, .goto 4, 3), (29, .iconst 0, 1), (30, .istore 5, 2), (32, .iload 5, 2), (34, .ifCond .eq 44, 3), (37, .iload_n 2, 1), (38, .iconst 0, 1), (39, .bipush 7, 2), (41, .invokestatic 120, 3), (44, .ifCond .eq 34, 3), (47, .aload_n 0, 1), (48, .iload_n 2, 1), (49, .iload_n 3, 1), (50, .invokevirtual 151, 3), (53, .ifCond .eq 25, 3), (56, .iload 4, 2), (58, .aload_n 0, 1), (59, .getfield 17, 3), (62, .iload_n 1, 1), (63, .iaload, 1), (64, .aload_n 0, 1), (65, .getfield 134, 3), (68, .invokestatic 120, 3), (71, .ifCond .eq 7, 3), (74, .iconst 1, 1), (75, .goto 4, 3), (78, .iconst 0, 1), (79, .istore 6, 2), (81, .aload_n 0, 1), (82, .iload 5, 2), (84, .ifCond .ne 7, 3), (87, .iconst 1, 1), (88, .goto 28, 3), (91, .iload 6, 2), (93, .ifCond .ne 7, 3), (96, .iconst 2, 1), (97, .goto 19, 3), (100, .aload_n 0, 1), (101, .getfield 23, 3), (104, .iload_n 1, 1), (105, .iaload, 1), (106, .bipush 30, 2), (108, .if_icmp .ne 7, 3), (111, .iconst 3, 1), (112, .goto 4, 3), (115, .iconst 0, 1)]
def tb_X12_tell_1 : List (Nat × Instr × Nat) := [(116, .invokevirtual 130, 3), (119, .ifCond .ne 5, 3), (122, .iconst 0, 1), (123, .ireturn, 1), (124, .bipush 30, 2), (126, .iload_n 1, 1), (127, .imul, 1), (128, .aload_n 0, 1), (129, .getfield 23, 3), (132, .iload_n 1, 1), (133, .iaload, 1), (134, .iadd, 1), (135, .istore 7, 2), (137, .iconst 0, 1), (138, .istore 8, 2), (140, .iload 7, 2), (142, .bipush 30, 2), (144, .iload_n 1, 1), (145, .imul, 1), (146, .if_icmp .le 74, 3), (149, .aload_n 0, 1), (150, .getfield 32, 3), (153, .iload 7, 2), (155, .iconst 1, 1), (156, .isub, 1), (157, .iaload, 1), (158, .iload 4, 2), (160, .if_icmp .le 60, 3), (163, .aload_n 0, 1), (164, .getfield 26, 3), (167, .iload 7, 2), (169, .aload_n 0, 1), (170, .getfield 26, 3), (173, .iload 7, 2), (175, .iconst 1, 1), (176, .isub, 1), (177, .iaload, 1), (178, .iastore, 1), (179, .aload_n 0, 1), (180, .getfield 29, 3), (183, .iload 7, 2), (185, .aload_n 0, 1), (186, .getfield 29, 3), (189, .iload 7, 2), (191, .iconst 1, 1), (192, .isub, 1), (193, .iaload, 1), (194, .iastore, 1), (195, .aload_n 0, 1), (196, .getfield 32, 3), (199, .iload 7, 2), (201, .aload_n 0, 1), (202, .getfield 32, 3), (205, .iload 7, 2), (207, .iconst 1, 1), (208, .isub, 1), (209, .iaload, 1), (210, .iastore, 1), (211, .iinc 7 (-1), 3), (214, .iinc 8 1, 3)]
def tb_X12_tell_2 : List (Nat × Instr × Nat) := [(217, .goto (-77), 3), (220, .aload_n 0, 1), (221, .getfield 26, 3), (224, .iload 7, 2), (226, .iload_n 2, 1), (227, .iastore, 1), (228, .aload_n 0, 1), (229, .getfield 29, 3), (232, .iload 7, 2), (234, .iload_n 3, 1), (235, .iastore, 1), (236, .aload_n 0, 1), (237, .getfield 32, 3), (240, .iload 7, 2), (242, .iload 4, 2), (244, .iastore, 1), (245, .aload_n 0, 1), (246, .getfield 23, 3), (249, .iload_n 1, 1), (250, .dup2, 1), (251, .iaload, 1), (252, .iconst 1, 1), (253, .iadd, 1), (254, .iastore, 1), (255, .iload 8, 2), (257, .ireturn, 1)]
theorem dd_X12_tell_0 : ∀ (k pc : Nat) (ins : Instr) (n : Nat), tb_X12_tell_0[k]? = some (pc, ins, n) → decode cX12_tell pc = .ok (ins, n) := dd_of (by decide +kernel)
theorem dd_X12_tell_1 : ∀ (k pc : Nat) (ins : Instr) (n : Nat), tb_X12_tell_1[k]? = some (pc, ins, n) → decode cX12_tell pc = .ok (ins, n) := dd_of (by decide +kernel)
theorem dd_X12_tell_2 : ∀ (k pc : Nat) (ins : Instr) (n : Nat), tb_X12_tell_2[k]? = some (pc, ins, n) → decode cX12_tell pc = .ok (ins, n) := dd_of (by decide +kernel)
def tb_X12_change : List (Nat × Instr × Nat) := [(0, .aload_n 0, 1), (1, .getfield 155, 3), (4, .iconst 4, 1), (5, .if_icmp .ne 4, 3), (8, .return_, 1), (9, .iload_n 1, 1), (10, .bipush 6, 2), (12, .if_icmp .ne 11, 3), (15, .aload_n 0, 1), (16, .iconst 4, 1), (17, .putfield 155, 3), (20, .goto 78, 3), (23, .aload_n 0, 1), (24, .getfield 155, 3), (27, .iconst 3, 1), (28, .if_icmp .ne 23, 3), (31, .aload_n 0, 1), (32, .iload_n 1, 1), (33, .iconst 5, 1), (34, .if_icmp .ne 10, 3), (37, .aload_n 0, 1), (38, .getfield 158, 3), (41, .goto 4, 3), (44, .iconst 3, 1), (45, .putfield 155, 3), (48, .goto 50, 3), (51, .iload_n 1, 1), (52, .iconst 4, 1), (53, .if_icmp .ne 19, 3), (56, .aload_n 0, 1), (57, .aload_n 0, 1), (58, .getfield 155, 3), (61, .putfield 158, 3), (64, .aload_n 0, 1), (65, .iconst 3, 1), (66, .putfield 155, 3), (69, .goto 29, 3), (72, .aload_n 0, 1), (73, .iload_n 1, 1), (74, .iconst 2, 1), (75, .if_icmp .ne 7, 3), (78, .iconst 1, 1), (79, .goto 16, 3), (82, .iload_n 1, 1), (83, .iconst 3, 1), (84, .if_icmp .ne 7, 3), (87, .iconst 2, 1), (88, .goto 7, 3), (91, .aload_n 0, 1), (92, .getfield 155, 3), (95, .putfield 155, 3), (98, .return_, 1)]
theorem dd_X12_change : ∀ (k pc : Nat) (ins : Instr) (n : Nat), tb_X12_change[k]? = some (pc, ins, n) → decode cX12_change pc = .ok (ins, n) := dd_of (by decide +kernel)
def tb_X12_stateOn : List (Nat × Instr × Nat) := [(0, .aload_n 0, 1), (1, .iconst 0, 1), (2, .putfield 155, 3), (5, .aload_n 0, 1), (6, .iconst 0, 1), (7, .putfield 158, 3), (10, .bipush 30, 2), (12, .iload_n 1, 1), (13, .imul, 1), (14, .istore_n 3, 1), (15, .iload_n 3, 1), (16, .bipush 30, 2), (18, .iload_n 1, 1), (19, .imul, 1), (20, .aload_n 0, 1), (21, .getfield 23, 3), (24, .iload_n 1, 1), (25, .iaload, 1), (26, .iadd, 1), (27, .if_icmp .ge 29, 3), (30, .aload_n 0, 1), (31, .getfield 32, 3), (34, .iload_n 3, 1), (35, .iaload, 1), (36, .iload_n 2, 1), (37, .if_icmp .gt 19, 3), (40, .aload_n 0, 1), (41, .aload_n 0, 1), (42, .getfield 26, 3), (45, .iload_n 3, 1), (46, .iaload, 1), (47, .invokevirtual 161, 3), (50, .iinc 3 1, 3), (53, .goto (-38), 3), (56, .aload_n 0, 1), (57, .getfield 155, 3), (60, .ireturn, 1)]
theorem dd_X12_stateOn : ∀ (k pc : Nat) (ins : Instr) (n : Nat), tb_X12_stateOn[k]? = some (pc, ins, n) → decode cX12_stateOn pc = .ok (ins, n) := dd_of (by decide +kernel)
def tb_X12_latest : List (Nat × Instr × Nat) := [(0, .iload 4, 2), (2, .istore 5, 2), (4, .bipush 30, 2), (6, .iload_n 1, 1), (7, .imul, 1), (8, .istore 6, 2), (10, .iload 6, 2), (12, .bipush 30, 2), (14, .iload_n 1, 1), (15, .imul, 1), (16, .aload_n 0, 1), (17, .getfield 23, 3), (20, .iload_n 1, 1), (21, .iaload, 1), (22, .iadd, 1), (23, .if_icmp .ge 45, 3), (26, .aload_n 0, 1), (27, .getfield 32, 3), (30, .iload 6, 2), (32, .iaload, 1), (33, .iload_n 2, 1), (34, .if_icmp .gt 34, 3), (37, .aload_n 0, 1), (38, .getfield 26, 3), (41, .iload 6, 2), (43, .iaload, 1), (44, .iload_n 3, 1), (45, .if_icmp .ne 13, 3), (48, .aload_n 0, 1), (49, .getfield 29, 3), (52, .iload 6, 2), (54, .iaload, 1), (55, .goto 5, 3), (58, .iload 5, 2), (60, .istore 5, 2), (62, .iinc 6 1, 3), (65, .goto (-55), 3), (68, .iload 5, 2), (70, .ireturn, 1)]
theorem dd_X12_latest : ∀ (k pc : Nat) (ins : Instr) (n : Nat), tb_X12_latest[k]? = some (pc, ins, n) → decode cX12_latest pc = .ok (ins, n) := dd_of (by decide +kernel)
def tb_X12_isOn_0 : List (Nat × Instr × Nat) := [(0, .aload_n 0, 1), (1, .iload_n 1, 1), (2, .invokevirtual 148, 3), (5, .istore 4, 2), (7, .aload_n 0, 1), (8, .iload 4, 2), (10, .ifCond .ne 7, 3), (13, .iconst 1, 1), (14, .goto 29, 3), (17, .iload_n 2, 1), (18, .iconst 0, 1), (19, .aload_n 0, 1), (20, .getfield 134, 3), (23, .invokestatic 120, 3), (26, .ifCond .eq 16, 3), (29, .iload_n 3, 1), (30, .iconst 0, 1), (31, .iconst 3, 1), (32, .invokestatic 120, 3), (35, .ifCond .eq 7, 3), (38, .iconst 0, 1), (39, .goto 4, 3), (42, .iconst 2, 1), (43, .invokevirtual 130, 3), (46, .ifCond .ne 5, 3), (49, .iconst 0, 1), (50, .ireturn, 1), (51, .iload_n 3, 1), (52, .ifCond .ne 12, 3), (55, .aload_n 0, 1), (56, .iload_n 1, 1), (57, .iload_n 2, 1), (58, .invokevirtual 165, 3), (61, .goto 49, 3), (64, .iload_n 3, 1), (65, .iconst 1, 1), (66, .if_icmp .ne 14, 3), (69, .aload_n 0, 1), (70, .iload_n 1, 1), (71, .iload_n 2, 1), (72, .iconst 0, 1), (73, .iconst (-1), 1), (74, .invokevirtual 169, 3), (77, .goto 33, 3), (80, .iload_n 3, 1), (81, .iconst 2, 1), (82, .if_icmp .ne 14, 3), (85, .aload_n 0, 1), (86, .iload_n 1, 1), (87, .iload_n 2, 1), (88, .iconst 1, 1), (89, .iconst (-1), 1), (90, .invokevirtual 169, 3), (93, .goto 17, 3), (96, .aload_n 0, 1), (97, .iload_n 1, 1), (98, .iload_n 2, 1), (99, .bipush 7, 2), (101, .aload_n 0, 1), (102, .getfield 20, 3)]
def tb_X12_isOn_1 : List (Nat × Instr × Nat) := [(105, .iload_n 1, 1), (106, .iaload, 1), (107, .invokevirtual 169, 3), (110, .ireturn, 1)]
theorem dd_X12_isOn_0 : ∀ (k pc : Nat) (ins : Instr) (n : Nat), tb_X12_isOn_0[k]? = some (pc, ins, n) → decode cX12_isOn pc = .ok (ins, n) := dd_of (by decide +kernel)
theorem dd_X12_isOn_1 : ∀ (k pc : Nat) (ins : Instr) (n : Nat), tb_X12_isOn_1[k]? = some (pc, ins, n) → decode cX12_isOn pc = .ok (ins, n) := dd_of (by decide +kernel)
def tb_X12_on : List (Nat × Instr × Nat) := [(0, .aload_n 0, 1), (1, .iload_n 1, 1), (2, .iload_n 2, 1), (3, .iload_n 3, 1), (4, .invokevirtual 173, 3), (7, .ireturn, 1)]
theorem dd_X12_on : ∀ (k pc : Nat) (ins : Instr) (n : Nat), tb_X12_on[k]? = some (pc, ins, n) → decode cX12_on pc = .ok (ins, n) := dd_of (by decide +kernel)
def tb_X12_onAnew : List (Nat × Instr × Nat) := [(0, .aload_n 0, 1), (1, .iload_n 1, 1), (2, .iload_n 2, 1), (3, .iload_n 3, 1), (4, .invokevirtual 173, 3), (7, .ireturn, 1)]
theorem dd_X12_onAnew : ∀ (k pc : Nat) (ins : Instr) (n : Nat), tb_X12_onAnew[k]? = some (pc, ins, n) → decode cX12_onAnew pc = .ok (ins, n) := dd_of (by decide +kernel)
def tb_X12_isLetter : List (Nat × Instr × Nat) := [(0, .iload_n 0, 1), (1, .bipush 65, 2), (3, .bipush 90, 2), (5, .invokestatic 120, 3), (8, .ireturn, 1)]
theorem dd_X12_isLetter : ∀ (k pc : Nat) (ins : Instr) (n : Nat), tb_X12_isLetter[k]? = some (pc, ins, n) → decode cX12_isLetter pc = .ok (ins, n) := dd_of (by decide +kernel)
def tb_X12_bar : List (Nat × Instr × Nat) := [(0, .aload_n 0, 1), (1, .iload_n 1, 1), (2, .invokestatic 177, 3), (5, .ifCond .eq 14, 3), (8, .iload_n 2, 1), (9, .invokestatic 177, 3), (12, .ifCond .eq 7, 3), (15, .iconst 0, 1), (16, .goto 4, 3), (19, .iconst 1, 1), (20, .invokevirtual 130, 3), (23, .ifCond .ne 5, 3), (26, .iconst 0, 1), (27, .ireturn, 1), (28, .bipush 26, 2), (30, .iload_n 1, 1), (31, .bipush 65, 2), (33, .isub, 1), (34, .imul, 1), (35, .iload_n 2, 1), (36, .iadd, 1), (37, .bipush 65, 2), (39, .isub, 1), (40, .istore 4, 2), (42, .aload_n 0, 1), (43, .getfield 42, 3), (46, .iload 4, 2), (48, .baload, 1), (49, .istore 5, 2), (51, .aload_n 0, 1), (52, .getfield 42, 3), (55, .iload 4, 2), (57, .iload_n 3, 1), (58, .bastore, 1), (59, .iload 5, 2), (61, .ireturn, 1)]
theorem dd_X12_bar : ∀ (k pc : Nat) (ins : Instr) (n : Nat), tb_X12_bar[k]? = some (pc, ins, n) → decode cX12_bar pc = .ok (ins, n) := dd_of (by decide +kernel)
def tb_X12_isFree : List (Nat × Instr × Nat) := [(0, .aload_n 0, 1), (1, .getfield 49, 3), (4, .iload_n 1, 1), (5, .bipush 64, 2), (7, .idiv, 1), (8, .laload, 1), (9, .iload_n 1, 1), (10, .bipush 64, 2), (12, .irem, 1), (13, .lshr, 1), (14, .lconst 1, 1), (15, .land, 1), (16, .lconst 0, 1), (17, .lcmp, 1), (18, .ifCond .ne 19, 3), (21, .aload_n 0, 1), (22, .getfield 42, 3), (25, .iload_n 1, 1), (26, .bipush 100, 2), (28, .idiv, 1), (29, .baload, 1), (30, .ifCond .ne 7, 3), (33, .iconst 1, 1), (34, .goto 4, 3), (37, .iconst 0, 1), (38, .ireturn, 1)]
theorem dd_X12_isFree : ∀ (k pc : Nat) (ins : Instr) (n : Nat), tb_X12_isFree[k]? = some (pc, ins, n) → decode cX12_isFree pc = .ok (ins, n) := dd_of (by decide +kernel)
def tb_X12_give : List (Nat × Instr × Nat) := [(0, .aload_n 0, 1), (1, .getfield 49, 3), (4, .iload_n 2, 1), (5, .bipush 64, 2), (7, .idiv, 1), (8, .dup2, 1), (9, .laload, 1), (10, .lconst 1, 1), (11, .iload_n 2, 1), (12, .bipush 64, 2), (14, .irem, 1), (15, .lshl, 1), (16, .lor, 1), (17, .lastore, 1), (18, .aload_n 0, 1), (19, .getfield 54, 3), (22, .aload_n 0, 1), (23, .getfield 180, 3), (26, .iload_n 2, 1), (27, .i2l, 1), (28, .iload_n 1, 1), (29, .i2l, 1), (30, .bipush 17, 2), (32, .lshl, 1), (33, .lor, 1), (34, .aload_n 0, 1), (35, .getfield 134, 3), (38, .i2l, 1), (39, .bipush 21, 2), (41, .lshl, 1), (42, .lor, 1), (43, .lastore, 1), (44, .aload_n 0, 1), (45, .dup, 1), (46, .getfield 180, 3), (49, .iconst 1, 1), (50, .iadd, 1), (51, .putfield 180, 3), (54, .iload_n 2, 1), (55, .ireturn, 1)]
theorem dd_X12_give : ∀ (k pc : Nat) (ins : Instr) (n : Nat), tb_X12_give[k]? = some (pc, ins, n) → decode cX12_give pc = .ok (ins, n) := dd_of (by decide +kernel)
def tb_X12_allot : List (Nat × Instr × Nat) := [(0, .aload_n 0, 1), (1, .iload_n 1, 1), (2, .invokevirtual 148, 3), (5, .istore_n 2, 1), (6, .aload_n 0, 1), (7, .getfield 45, 3), (10, .iconst 1, 1), (11, .iadd, 1), (12, .istore_n 3, 1), (13, .iload_n 3, 1), (14, .ldc 53, 2), (16, .if_icmp .ge 17, 3), (19, .aload_n 0, 1), (20, .iload_n 3, 1), (21, .invokevirtual 183, 3), (24, .ifCond .ne 9, 3), (27, .iinc 3 1, 3), (30, .goto (-17), 3), (33, .aload_n 0, 1), (34, .iload_n 2, 1), (35, .ifCond .ne 7, 3), (38, .iconst 1, 1), (39, .goto 27, 3), (42, .aload_n 0, 1), (43, .iload_n 1, 1), (44, .aload_n 0, 1), (45, .getfield 134, 3), (48, .invokevirtual 165, 3), (51, .iconst 4, 1), (52, .if_icmp .eq 9, 3), (55, .iload_n 3, 1), (56, .ldc 53, 2), (58, .if_icmp .ne 7, 3), (61, .iconst 2, 1), (62, .goto 4, 3), (65, .iconst 0, 1), (66, .invokevirtual 130, 3), (69, .ifCond .ne 5, 3), (72, .iconst 0, 1), (73, .ireturn, 1), (74, .aload_n 0, 1), (75, .iload_n 3, 1), (76, .putfield 45, 3), (79, .aload_n 0, 1), (80, .iload_n 1, 1), (81, .iload_n 3, 1), (82, .invokevirtual 186, 3), (85, .ireturn, 1)]
theorem dd_X12_allot : ∀ (k pc : Nat) (ins : Instr) (n : Nat), tb_X12_allot[k]? = some (pc, ins, n) → decode cX12_allot pc = .ok (ins, n) := dd_of (by decide +kernel)
def tb_X12_plateIn_0 : List (Nat × Instr × Nat) := [(0, .aload_n 0, 1), (1, .getfield 127, 3), (4, .iconst 4, 1), (5, .if_icmp .ne 63, 3), (8, .aload_n 0, 1), (9, .getfield 7, 3), (12, .iconst 0, 1), (13, .caload, 1), (14, .invokestatic 177, 3), (17, .ifCond .eq 51, 3), (20, .aload_n 0, 1), (21, .getfield 7, 3), (24, .iconst 1, 1), (25, .caload, 1), (26, .invokestatic 177, 3), (29, .ifCond .eq 39, 3), (32, .aload_n 0, 1), (33, .getfield 7, 3), (36, .iconst 2, 1), (37, .caload, 1), (38, .bipush 48, 2), (40, .bipush 57, 2), (42, .invokestatic 120, 3), (45, .ifCond .eq 23, 3), (48, .aload_n 0, 1), (49, .getfield 7, 3), (52, .iconst 3, 1), (53, .caload, 1), (54, .bipush 48, 2), (56, .bipush 57, 2), (58, .invokestatic 120, 3), (61, .ifCond .eq 7, 3), (64, .iconst 1, 1), (65, .goto 4, 3), (68, .iconst 0, 1), (69, .istore_n 1, 1), (70, .iload_n 1, 1), (71, .ifCond .eq 54, 3), (74, .bipush 100, 2), (76, .bipush 26, 2), (78, .aload_n 0, 1), (79, .getfield 7, 3), (82, .iconst 0, 1), (83, .caload, 1), (84, .bipush 65, 2), (86, .isub, 1), (87, .imul, 1), (88, .aload_n 0, 1), (89, .getfield 7, 3), (92, .iconst 1, 1), (93, .caload, 1), (94, .iadd, 1), (95, .bipush 65, 2), (97, .isub, 1), (98, .imul, 1), (99, .bipush 10, 2), (101, .aload_n 0, 1), (102, .getfield 7, 3), (105, .iconst 2, 1), (106, .caload, 1)]
def tb_X12_plateIn_1 : List (Nat × Instr × Nat) := [(107, .bipush 48, 2), (109, .isub, 1), (110, .imul, 1), (111, .iadd, 1), (112, .aload_n 0, 1), (113, .getfield 7, 3), (116, .iconst 3, 1), (117, .caload, 1), (118, .iadd, 1), (119, .bipush 48, 2), (121, .isub, 1), (122, .goto 4, 3), (125, .iconst (-1), 1), (126, .ireturn, 1)]
theorem dd_X12_plateIn_0 : ∀ (k pc : Nat) (ins : Instr) (n : Nat), tb_X12_plateIn_0[k]? = some (pc, ins, n) → decode cX12_plateIn pc = .ok (ins, n) := dd_of (by decide +kernel)
theorem dd_X12_plateIn_1 : ∀ (k pc : Nat) (ins : Instr) (n : Nat), tb_X12_plateIn_1[k]? = some (pc, ins, n) → decode cX12_plateIn pc = .ok (ins, n) := dd_of (by decide +kernel)
def tb_X12_wish : List (Nat × Instr × Nat) := [(0, .aload_n 0, 1), (1, .iload_n 1, 1), (2, .invokevirtual 148, 3), (5, .istore_n 2, 1), (6, .aload_n 0, 1), (7, .invokevirtual 189, 3), (10, .istore_n 3, 1), (11, .aload_n 0, 1), (12, .iload_n 2, 1), (13, .ifCond .ne 7, 3), (16, .iconst 1, 1), (17, .goto 34, 3), (20, .aload_n 0, 1), (21, .iload_n 1, 1), (22, .aload_n 0, 1), (23, .getfield 134, 3), (26, .invokevirtual 165, 3), (29, .iconst 4, 1), (30, .if_icmp .eq 16, 3), (33, .iload_n 3, 1), (34, .iconst (-1), 1), (35, .if_icmp .eq 11, 3), (38, .aload_n 0, 1), (39, .iload_n 3, 1), (40, .invokevirtual 183, 3), (43, .ifCond .ne 7, 3), (46, .iconst 2, 1), (47, .goto 4, 3), (50, .iconst 0, 1), (51, .invokevirtual 130, 3), (54, .ifCond .ne 5, 3), (57, .iconst 0, 1), (58, .ireturn, 1), (59, .aload_n 0, 1), (60, .iconst 0, 1), (61, .putfield 127, 3), (64, .aload_n 0, 1), (65, .iload_n 1, 1), (66, .iload_n 3, 1), (67, .invokevirtual 186, 3), (70, .ireturn, 1)]
theorem dd_X12_wish : ∀ (k pc : Nat) (ins : Instr) (n : Nat), tb_X12_wish[k]? = some (pc, ins, n) → decode cX12_wish pc = .ok (ins, n) := dd_of (by decide +kernel)
def tb_X12_plateOn : List (Nat × Instr × Nat) := [(0, .iconst (-1), 1), (1, .istore_n 3, 1), (2, .iconst 0, 1), (3, .istore 4, 2), (5, .iload 4, 2), (7, .aload_n 0, 1), (8, .getfield 180, 3), (11, .if_icmp .ge 74, 3), (14, .aload_n 0, 1), (15, .getfield 54, 3), (18, .iload 4, 2), (20, .laload, 1), (21, .bipush 17, 2), (23, .lshr, 1), (24, .ldc2_w 193, 3), (27, .land, 1), (28, .iload_n 1, 1), (29, .i2l, 1), (30, .lcmp, 1), (31, .ifCond .ne 23, 3), (34, .aload_n 0, 1), (35, .getfield 54, 3), (38, .iload 4, 2), (40, .laload, 1), (41, .bipush 21, 2), (43, .lshr, 1), (44, .iload_n 2, 1), (45, .i2l, 1), (46, .lcmp, 1), (47, .ifCond .gt 7, 3), (50, .iconst 1, 1), (51, .goto 4, 3), (54, .iconst 0, 1), (55, .istore 5, 2), (57, .iload 5, 2), (59, .ifCond .eq 18, 3), (62, .aload_n 0, 1), (63, .getfield 54, 3), (66, .iload 4, 2), (68, .laload, 1), (69, .ldc2_w 195, 3), (72, .land, 1), (73, .l2i, 1), (74, .goto 4, 3), (77, .iload_n 3, 1), (78, .istore_n 3, 1), (79, .iinc 4 1, 3), (82, .goto (-77), 3), (85, .iload_n 3, 1), (86, .ireturn, 1)]
theorem dd_X12_plateOn : ∀ (k pc : Nat) (ins : Instr) (n : Nat), tb_X12_plateOn[k]? = some (pc, ins, n) → decode cX12_plateOn pc = .ok (ins, n) := dd_of (by decide +kernel)
def tb_X12_signOf : List (Nat × Instr × Nat) := [(0, .iload_n 1, 1), (1, .ifCond .ne 14, 3), (4, .bipush 65, 2), (6, .iload_n 0, 1), (7, .sipush 2600, 3), (10, .idiv, 1), (11, .iadd, 1), (12, .goto 46, 3), (15, .iload_n 1, 1), (16, .iconst 1, 1), (17, .if_icmp .ne 16, 3), (20, .bipush 65, 2), (22, .iload_n 0, 1), (23, .bipush 100, 2), (25, .idiv, 1), (26, .bipush 26, 2), (28, .irem, 1), (29, .iadd, 1), (30, .goto 28, 3), (33, .iload_n 1, 1), (34, .iconst 2, 1), (35, .if_icmp .ne 16, 3), (38, .bipush 48, 2), (40, .iload_n 0, 1), (41, .bipush 10, 2), (43, .idiv, 1), (44, .bipush 10, 2), (46, .irem, 1), (47, .iadd, 1), (48, .goto 10, 3), (51, .bipush 48, 2), (53, .iload_n 0, 1), (54, .bipush 10, 2), (56, .irem, 1), (57, .iadd, 1), (58, .i2c, 1), (59, .ireturn, 1)]
theorem dd_X12_signOf : ∀ (k pc : Nat) (ins : Instr) (n : Nat), tb_X12_signOf[k]? = some (pc, ins, n) → decode cX12_signOf pc = .ok (ins, n) := dd_of (by decide +kernel)
def tb_X12_plate : List (Nat × Instr × Nat) := [(0, .aload_n 0, 1), (1, .iload_n 1, 1), (2, .invokevirtual 148, 3), (5, .ifCond .eq 16, 3), (8, .iload_n 3, 1), (9, .iconst 0, 1), (10, .iconst 3, 1), (11, .invokestatic 120, 3), (14, .ifCond .eq 7, 3), (17, .iconst 1, 1), (18, .goto 4, 3), (21, .iconst 0, 1), (22, .istore 4, 2), (24, .aload_n 0, 1), (25, .iload 4, 2), (27, .ifCond .ne 7, 3), (30, .iconst 1, 1), (31, .goto 20, 3), (34, .iload_n 2, 1), (35, .iconst 0, 1), (36, .aload_n 0, 1), (37, .getfield 134, 3), (40, .invokestatic 120, 3), (43, .ifCond .eq 7, 3), (46, .iconst 0, 1), (47, .goto 4, 3), (50, .iconst 2, 1), (51, .invokevirtual 130, 3), (54, .ifCond .ne 5, 3), (57, .iconst 0, 1), (58, .ireturn, 1), (59, .aload_n 0, 1), (60, .iload_n 1, 1), (61, .iload_n 2, 1), (62, .invokevirtual 197, 3), (65, .istore 5, 2), (67, .iload 5, 2), (69, .iconst (-1), 1), (70, .if_icmp .ne 7, 3), (73, .iconst 0, 1), (74, .goto 9, 3), (77, .iload 5, 2), (79, .iload_n 3, 1), (80, .invokestatic 200, 3), (83, .ireturn, 1)]
theorem dd_X12_plate : ∀ (k pc : Nat) (ins : Instr) (n : Nat), tb_X12_plate[k]? = some (pc, ins, n) → decode cX12_plate pc = .ok (ins, n) := dd_of (by decide +kernel)
def tb_X12_rate_0 : List (Nat × Instr × Nat) := [(0, .iload_n 1, 1), (1, .iconst 0, 1), (2, .iconst 3, 1), (3, .invokestatic 120, 3), (6, .ifCond .eq 28, 3), (9, .iload_n 2, 1), (10, .iconst 0, 1), (11, .sipush 20000, 3), (14, .invokestatic 120, 3), (17, .ifCond .eq 17, 3), (20, .iload_n 3, 1), (21, .iconst 0, 1), (22, .ldc 204, 2), (24, .invokestatic 120, 3), (27, .ifCond .eq 7, 3), (30, .iconst 1, 1), (31, .goto 4, 3), (34, .iconst 0, 1), (35, .istore 4, 2), (37, .aload_n 0, 1), (38, .iload 4, 2), (40, .ifCond .ne 7, 3), (43, .iconst 1, 1), (44, .goto 17, 3), (47, .aload_n 0, 1), (48, .getfield 205, 3), (51, .bipush 40, 2), (53, .if_icmp .ne 7, 3), (56, .iconst 2, 1), (57, .goto 4, 3), (60, .iconst 0, 1), (61, .invokevirtual 130, 3), (64, .ifCond .ne 5, 3), (67, .iconst 0, 1), (68, .ireturn, 1), (69, .aload_n 0, 1), (70, .getfield 57, 3), (73, .aload_n 0, 1), (74, .getfield 205, 3), (77, .iload_n 1, 1), (78, .iastore, 1), (79, .aload_n 0, 1), (80, .getfield 60, 3), (83, .aload_n 0, 1), (84, .getfield 205, 3), (87, .iload_n 2, 1), (88, .iastore, 1), (89, .aload_n 0, 1), (90, .getfield 63, 3), (93, .aload_n 0, 1), (94, .getfield 205, 3), (97, .iload_n 3, 1), (98, .iastore, 1), (99, .aload_n 0, 1), (100, .dup, 1), (101, .getfield 205, 3), (104, .iconst 1, 1), (105, .iadd, 1), (106, .putfield 205, 3), (109, .aload_n 0, 1)]
def tb_X12_rate_1 : List (Nat × Instr × Nat) := [(110, .getfield 205, 3), (113, .ireturn, 1)]
theorem dd_X12_rate_0 : ∀ (k pc : Nat) (ins : Instr) (n : Nat), tb_X12_rate_0[k]? = some (pc, ins, n) → decode cX12_rate pc = .ok (ins, n) := dd_of (by decide +kernel)
theorem dd_X12_rate_1 : ∀ (k pc : Nat) (ins : Instr) (n : Nat), tb_X12_rate_1[k]? = some (pc, ins, n) → decode cX12_rate pc = .ok (ins, n) := dd_of (by decide +kernel)
def tb_X12_rateOn : List (Nat × Instr × Nat) := [(0, .iconst (-1), 1), (1, .istore_n 3, 1), (2, .iconst 0, 1), (3, .istore 4, 2), (5, .iconst 0, 1), (6, .istore 5, 2), (8, .iload 5, 2), (10, .aload_n 0, 1), (11, .getfield 205, 3), (14, .if_icmp .ge 59, 3), (17, .aload_n 0, 1), (18, .getfield 57, 3), (21, .iload 5, 2), (23, .iaload, 1), (24, .iload_n 1, 1), (25, .if_icmp .ne 42, 3), (28, .aload_n 0, 1), (29, .getfield 60, 3), (32, .iload 5, 2), (34, .iaload, 1), (35, .iload_n 2, 1), (36, .if_icmp .gt 31, 3), (39, .aload_n 0, 1), (40, .getfield 60, 3), (43, .iload 5, 2), (45, .iaload, 1), (46, .iload_n 3, 1), (47, .if_icmp .lt 20, 3), (50, .aload_n 0, 1), (51, .getfield 60, 3), (54, .iload 5, 2), (56, .iaload, 1), (57, .istore_n 3, 1), (58, .aload_n 0, 1), (59, .getfield 63, 3), (62, .iload 5, 2), (64, .iaload, 1), (65, .istore 4, 2), (67, .iinc 5 1, 3), (70, .goto (-62), 3), (73, .iload 4, 2), (75, .ireturn, 1)]
theorem dd_X12_rateOn : ∀ (k pc : Nat) (ins : Instr) (n : Nat), tb_X12_rateOn[k]? = some (pc, ins, n) → decode cX12_rateOn pc = .ok (ins, n) := dd_of (by decide +kernel)
def tb_X12_owed : List (Nat × Instr × Nat) := [(0, .aload_n 0, 1), (1, .getfield 66, 3), (4, .iload_n 1, 1), (5, .laload, 1), (6, .lneg, 1), (7, .lstore_n 2, 1), (8, .iconst 0, 1), (9, .istore 4, 2), (11, .iload 4, 2), (13, .aload_n 0, 1), (14, .getfield 134, 3), (17, .if_icmp .gt 49, 3), (20, .lload_n 2, 1), (21, .aload_n 0, 1), (22, .iload_n 1, 1), (23, .iload 4, 2), (25, .invokevirtual 165, 3), (28, .iconst 1, 1), (29, .if_icmp .ne 28, 3), (32, .aload_n 0, 1), (33, .aload_n 0, 1), (34, .iload_n 1, 1), (35, .iload 4, 2), (37, .bipush 7, 2), (39, .aload_n 0, 1), (40, .getfield 20, 3), (43, .iload_n 1, 1), (44, .iaload, 1), (45, .invokevirtual 169, 3), (48, .iload 4, 2), (50, .invokevirtual 208, 3), (53, .i2l, 1), (54, .goto 4, 3), (57, .lconst 0, 1), (58, .ladd, 1), (59, .lstore_n 2, 1), (60, .iinc 4 30, 3), (63, .goto (-52), 3), (66, .lload_n 2, 1), (67, .lreturn, 1)]
theorem dd_X12_owed : ∀ (k pc : Nat) (ins : Instr) (n : Nat), tb_X12_owed[k]? = some (pc, ins, n) → decode cX12_owed pc = .ok (ins, n) := dd_of (by decide +kernel)
def tb_X12_pay : List (Nat × Instr × Nat) := [(0, .aload_n 0, 1), (1, .iload_n 1, 1), (2, .invokevirtual 148, 3), (5, .istore_n 3, 1), (6, .aload_n 0, 1), (7, .iload_n 3, 1), (8, .ifCond .ne 7, 3), (11, .iconst 1, 1), (12, .goto 18, 3), (15, .iload_n 2, 1), (16, .iconst 1, 1), (17, .ldc 211, 2), (19, .invokestatic 120, 3), (22, .ifCond .eq 7, 3), (25, .iconst 0, 1), (26, .goto 4, 3), (29, .iconst 2, 1), (30, .invokevirtual 130, 3), (33, .ifCond .ne 5, 3), (36, .lconst 0, 1), (37, .lreturn, 1), (38, .aload_n 0, 1), (39, .getfield 66, 3), (42, .iload_n 1, 1), (43, .dup2, 1), (44, .laload, 1), (45, .iload_n 2, 1), (46, .i2l, 1), (47, .ladd, 1), (48, .lastore, 1), (49, .aload_n 0, 1), (50, .iload_n 1, 1), (51, .invokevirtual 212, 3), (54, .lreturn, 1)]
theorem dd_X12_pay : ∀ (k pc : Nat) (ins : Instr) (n : Nat), tb_X12_pay[k]? = some (pc, ins, n) → decode cX12_pay pc = .ok (ins, n) := dd_of (by decide +kernel)
def tb_X12_owes : List (Nat × Instr × Nat) := [(0, .aload_n 0, 1), (1, .aload_n 0, 1), (2, .iload_n 1, 1), (3, .invokevirtual 148, 3), (6, .ifCond .eq 7, 3), (9, .iconst 0, 1), (10, .goto 4, 3), (13, .iconst 1, 1), (14, .invokevirtual 130, 3), (17, .ifCond .eq 11, 3), (20, .aload_n 0, 1), (21, .iload_n 1, 1), (22, .invokevirtual 212, 3), (25, .goto 4, 3), (28, .lconst 0, 1), (29, .lreturn, 1)]
theorem dd_X12_owes : ∀ (k pc : Nat) (ins : Instr) (n : Nat), tb_X12_owes[k]? = some (pc, ins, n) → decode cX12_owes pc = .ok (ins, n) := dd_of (by decide +kernel)
def tb_X12_test_0 : List (Nat × Instr × Nat) := [(0, .aload_n 0, 1), (1, .iload_n 1, 1), (2, .invokevirtual 148, 3), (5, .istore 5, 2), (7, .iload 5, 2), (9, .ifCond .eq 62, 3), (12, .iload_n 2, 1), (13, .aload_n 0, 1), (14, .getfield 69, 3), (17, .iload_n 1, 1), (18, .iaload, 1), (19, .ifCond .ne 12, 3), (22, .aload_n 0, 1), (23, .getfield 17, 3), (26, .iload_n 1, 1), (27, .iaload, 1), (28, .goto 9, 3), (31, .aload_n 0, 1), (32, .getfield 72, 3), (35, .iload_n 1, 1), (36, .iaload, 1), (37, .aload_n 0, 1), (38, .getfield 134, 3), (41, .invokestatic 120, 3), (44, .ifCond .eq 27, 3), (47, .iload_n 3, 1), (48, .iconst 0, 1), (49, .iconst 2, 1), (50, .invokestatic 120, 3), (53, .ifCond .eq 18, 3), (56, .iload 4, 2), (58, .iconst 0, 1), (59, .ldc 216, 2), (61, .invokestatic 120, 3), (64, .ifCond .eq 7, 3), (67, .iconst 1, 1), (68, .goto 4, 3), (71, .iconst 0, 1), (72, .istore 6, 2), (74, .aload_n 0, 1), (75, .iload 5, 2), (77, .ifCond .ne 7, 3), (80, .iconst 1, 1), (81, .goto 28, 3), (84, .iload 6, 2), (86, .ifCond .ne 7, 3), (89, .iconst 2, 1), (90, .goto 19, 3), (93, .aload_n 0, 1), (94, .getfield 69, 3), (97, .iload_n 1, 1), (98, .iaload, 1), (99, .bipush 20, 2), (101, .if_icmp .ne 7, 3), (104, .iconst 3, 1), (105, .goto 4, 3), (108, .iconst 0, 1), (109, .invokevirtual 130, 3), (112, .ifCond .ne 5, 3), (115, .iconst 0, 1)]
def tb_X12_test_1 : List (Nat × Instr × Nat) := [(116, .ireturn, 1), (117, .aload_n 0, 1), (118, .getfield 78, 3), (121, .iload_n 1, 1), (122, .dup2, 1), (123, .iaload, 1), (124, .aload_n 0, 1), (125, .getfield 69, 3), (128, .iload_n 1, 1), (129, .iaload, 1), (130, .ifCond .le 18, 3), (133, .iload 4, 2), (135, .aload_n 0, 1), (136, .getfield 75, 3), (139, .iload_n 1, 1), (140, .iaload, 1), (141, .if_icmp .ge 7, 3), (144, .iconst 1, 1), (145, .goto 4, 3), (148, .iconst 0, 1), (149, .iadd, 1), (150, .iastore, 1), (151, .aload_n 0, 1), (152, .getfield 69, 3), (155, .iload_n 1, 1), (156, .dup2, 1), (157, .iaload, 1), (158, .iconst 1, 1), (159, .iadd, 1), (160, .iastore, 1), (161, .aload_n 0, 1), (162, .getfield 72, 3), (165, .iload_n 1, 1), (166, .iload_n 2, 1), (167, .iastore, 1), (168, .aload_n 0, 1), (169, .getfield 75, 3), (172, .iload_n 1, 1), (173, .iload 4, 2), (175, .iastore, 1), (176, .iload_n 3, 1), (177, .iconst 2, 1), (178, .if_icmp .ne 7, 3), (181, .iload_n 2, 1), (182, .goto 8, 3), (185, .iload_n 2, 1), (186, .sipush 360, 3), (189, .iadd, 1), (190, .istore 7, 2), (192, .aload_n 0, 1), (193, .getfield 81, 3), (196, .iload_n 1, 1), (197, .iload_n 3, 1), (198, .iconst 2, 1), (199, .if_icmp .ne 28, 3), (202, .iload 7, 2), (204, .aload_n 0, 1), (205, .getfield 81, 3), (208, .iload_n 1, 1), (209, .iaload, 1)]
def tb_X12_test_2 : List (Nat × Instr × Nat) := [(210, .if_icmp .ge 8, 3), (213, .iload 7, 2), (215, .goto 34, 3), (218, .aload_n 0, 1), (219, .getfield 81, 3), (222, .iload_n 1, 1), (223, .iaload, 1), (224, .goto 25, 3), (227, .iload 7, 2), (229, .aload_n 0, 1), (230, .getfield 81, 3), (233, .iload_n 1, 1), (234, .iaload, 1), (235, .if_icmp .le 8, 3), (238, .iload 7, 2), (240, .goto 9, 3), (243, .aload_n 0, 1), (244, .getfield 81, 3), (247, .iload_n 1, 1), (248, .iaload, 1), (249, .iastore, 1), (250, .aload_n 0, 1), (251, .getfield 81, 3), (254, .iload_n 1, 1), (255, .iaload, 1), (256, .ireturn, 1)]
theorem dd_X12_test_0 : ∀ (k pc : Nat) (ins : Instr) (n : Nat), tb_X12_test_0[k]? = some (pc, ins, n) → decode cX12_test pc = .ok (ins, n) := dd_of (by decide +kernel)
theorem dd_X12_test_1 : ∀ (k pc : Nat) (ins : Instr) (n : Nat), tb_X12_test_1[k]? = some (pc, ins, n) → decode cX12_test pc = .ok (ins, n) := dd_of (by decide +kernel)
theorem dd_X12_test_2 : ∀ (k pc : Nat) (ins : Instr) (n : Nat), tb_X12_test_2[k]? = some (pc, ins, n) → decode cX12_test pc = .ok (ins, n) := dd_of (by decide +kernel)
def tb_X12_isInsured : List (Nat × Instr × Nat) := [(0, .aload_n 0, 1), (1, .getfield 84, 3), (4, .sipush 313, 3), (7, .iload_n 1, 1), (8, .imul, 1), (9, .iload_n 2, 1), (10, .bipush 64, 2), (12, .idiv, 1), (13, .iadd, 1), (14, .laload, 1), (15, .iload_n 2, 1), (16, .bipush 64, 2), (18, .irem, 1), (19, .lshr, 1), (20, .lconst 1, 1), (21, .land, 1), (22, .lconst 1, 1), (23, .lcmp, 1), (24, .ifCond .ne 7, 3), (27, .iconst 1, 1), (28, .goto 4, 3), (31, .iconst 0, 1), (32, .ireturn, 1)]
theorem dd_X12_isInsured : ∀ (k pc : Nat) (ins : Instr) (n : Nat), tb_X12_isInsured[k]? = some (pc, ins, n) → decode cX12_isInsured pc = .ok (ins, n) := dd_of (by decide +kernel)
def tb_X12_insure_0 : List (Nat × Instr × Nat) := [(0, .aload_n 0, 1), (1, .iload_n 1, 1), (2, .invokevirtual 148, 3), (5, .istore_n 3, 1), (6, .aload_n 0, 1), (7, .iload_n 3, 1), (8, .ifCond .ne 7, 3), (11, .iconst 1, 1), (12, .goto 27, 3), (15, .iload_n 2, 1), (16, .iconst (-1), 1), (17, .if_icmp .eq 17, 3), (20, .iload_n 2, 1), (21, .aload_n 0, 1), (22, .getfield 134, 3), (25, .sipush 20000, 3), (28, .invokestatic 120, 3), (31, .ifCond .eq 7, 3), (34, .iconst 0, 1), (35, .goto 4, 3), (38, .iconst 2, 1), (39, .invokevirtual 130, 3), (42, .ifCond .ne 5, 3), (45, .iconst 0, 1), (46, .ireturn, 1), (47, .aload_n 0, 1), (48, .iload_n 1, 1), (49, .aload_n 0, 1), (50, .getfield 134, 3), (53, .invokevirtual 217, 3), (56, .istore 4, 2), (58, .aload_n 0, 1), (59, .getfield 134, 3), (62, .istore 5, 2), (64, .iload 5, 2), (66, .sipush 20000, 3), (69, .if_icmp .gt 71, 3), (72, .sipush 313, 3), (75, .iload_n 1, 1), (76, .imul, 1), (77, .iload 5, 2), (79, .bipush 64, 2), (81, .idiv, 1), (82, .iadd, 1), (83, .istore 6, 2), (85, .lconst 1, 1), (86, .iload 5, 2), (88, .bipush 64, 2), (90, .irem, 1), (91, .lshl, 1), (92, .lstore 7, 2), (94, .aload_n 0, 1), (95, .getfield 84, 3), (98, .iload 6, 2), (100, .iload 5, 2), (102, .iload_n 2, 1), (103, .if_icmp .gt 16, 3), (106, .aload_n 0, 1), (107, .getfield 84, 3), (110, .iload 6, 2)]
def tb_X12_insure_1 : List (Nat × Instr × Nat) := [(112, .laload, 1), (113, .lload 7, 2), (115, .lor, 1), (116, .goto 17, 3), (119, .aload_n 0, 1), (120, .getfield 84, 3), (123, .iload 6, 2), (125, .laload, 1), (126, .lload 7, 2), (128, .ldc2_w 220, 3), (131, .lxor, 1), (132, .land, 1), (133, .lastore, 1), (134, .iinc 5 1, 3), (137, .goto (-73), 3), (140, .iload 4, 2), (142, .ireturn, 1)]
theorem dd_X12_insure_0 : ∀ (k pc : Nat) (ins : Instr) (n : Nat), tb_X12_insure_0[k]? = some (pc, ins, n) → decode cX12_insure pc = .ok (ins, n) := dd_of (by decide +kernel)
theorem dd_X12_insure_1 : ∀ (k pc : Nat) (ins : Instr) (n : Nat), tb_X12_insure_1[k]? = some (pc, ins, n) → decode cX12_insure pc = .ok (ins, n) := dd_of (by decide +kernel)
def tb_X12_gap_0 : List (Nat × Instr × Nat) := [(0, .iconst 0, 1), (1, .istore_n 2, 1), (2, .bipush 30, 2), (4, .iload_n 1, 1), (5, .imul, 1), (6, .istore_n 3, 1), (7, .aload_n 0, 1), (8, .iconst 0, 1), (9, .putfield 155, 3), (12, .aload_n 0, 1), (13, .iconst 0, 1), (14, .putfield 158, 3), (17, .iconst 0, 1), (18, .istore 4, 2), (20, .iload 4, 2), (22, .aload_n 0, 1), (23, .getfield 134, 3), (26, .if_icmp .gt 77, 3), (29, .iload_n 3, 1), (30, .bipush 30, 2), (32, .iload_n 1, 1), (33, .imul, 1), (34, .aload_n 0, 1), (35, .getfield 23, 3), (38, .iload_n 1, 1), (39, .iaload, 1), (40, .iadd, 1), (41, .if_icmp .ge 30, 3), (44, .aload_n 0, 1), (45, .getfield 32, 3), (48, .iload_n 3, 1), (49, .iaload, 1), (50, .iload 4, 2), (52, .if_icmp .gt 19, 3), (55, .aload_n 0, 1), (56, .aload_n 0, 1), (57, .getfield 26, 3), (60, .iload_n 3, 1), (61, .iaload, 1), (62, .invokevirtual 161, 3), (65, .iinc 3 1, 3), (68, .goto (-39), 3), (71, .iload_n 2, 1), (72, .aload_n 0, 1), (73, .getfield 155, 3), (76, .iconst 1, 1), (77, .if_icmp .ne 17, 3), (80, .aload_n 0, 1), (81, .iload_n 1, 1), (82, .iload 4, 2), (84, .invokevirtual 217, 3), (87, .ifCond .ne 7, 3), (90, .iconst 1, 1), (91, .goto 4, 3), (94, .iconst 0, 1), (95, .iadd, 1), (96, .istore_n 2, 1), (97, .iinc 4 1, 3), (100, .goto (-80), 3), (103, .iload_n 2, 1)]
def tb_X12_gap_1 : List (Nat × Instr × Nat) := [(104, .ireturn, 1)]
theorem dd_X12_gap_0 : ∀ (k pc : Nat) (ins : Instr) (n : Nat), tb_X12_gap_0[k]? = some (pc, ins, n) → decode cX12_gap pc = .ok (ins, n) := dd_of (by decide +kernel)
theorem dd_X12_gap_1 : ∀ (k pc : Nat) (ins : Instr) (n : Nat), tb_X12_gap_1[k]? = some (pc, ins, n) → decode cX12_gap pc = .ok (ins, n) := dd_of (by decide +kernel)
def tb_X12_ofVehicle : List (Nat × Instr × Nat) := [(0, .aload_n 0, 1), (1, .iload_n 1, 1), (2, .invokevirtual 148, 3), (5, .istore_n 3, 1), (6, .aload_n 0, 1), (7, .iload_n 3, 1), (8, .ifCond .ne 7, 3), (11, .iconst 1, 1), (12, .goto 17, 3), (15, .iload_n 2, 1), (16, .iconst 0, 1), (17, .iconst 4, 1), (18, .invokestatic 120, 3), (21, .ifCond .eq 7, 3), (24, .iconst 0, 1), (25, .goto 4, 3), (28, .iconst 2, 1), (29, .invokevirtual 130, 3), (32, .ifCond .ne 5, 3), (35, .iconst 0, 1), (36, .ireturn, 1), (37, .iload_n 2, 1), (38, .tableswitch 70 0 3 #[30, 50, 57, 64], 30), (68, .bipush 10, 2), (70, .aload_n 0, 1), (71, .getfield 13, 3), (74, .iload_n 1, 1), (75, .iaload, 1), (76, .imul, 1), (77, .aload_n 0, 1), (78, .getfield 13, 3), (81, .iload_n 1, 1), (82, .iaload, 1), (83, .invokestatic 137, 3), (86, .iadd, 1), (87, .ireturn, 1), (88, .aload_n 0, 1), (89, .getfield 81, 3), (92, .iload_n 1, 1), (93, .iaload, 1), (94, .ireturn, 1), (95, .aload_n 0, 1), (96, .getfield 78, 3), (99, .iload_n 1, 1), (100, .iaload, 1), (101, .ireturn, 1), (102, .aload_n 0, 1), (103, .iload_n 1, 1), (104, .invokevirtual 222, 3), (107, .ireturn, 1), (108, .aload_n 0, 1), (109, .iload_n 1, 1), (110, .invokevirtual 225, 3), (113, .ireturn, 1)]
theorem dd_X12_ofVehicle : ∀ (k pc : Nat) (ins : Instr) (n : Nat), tb_X12_ofVehicle[k]? = some (pc, ins, n) → decode cX12_ofVehicle pc = .ok (ins, n) := dd_of (by decide +kernel)
def tb_X12_isSight : List (Nat × Instr × Nat) := [(0, .aload_n 0, 1), (1, .getfield 127, 3), (4, .iconst 4, 1), (5, .if_icmp .ne 7, 3), (8, .iconst 1, 1), (9, .goto 4, 3), (12, .iconst 0, 1), (13, .istore_n 1, 1), (14, .iconst 0, 1), (15, .istore_n 2, 1), (16, .iload_n 2, 1), (17, .iconst 4, 1), (18, .if_icmp .ge 66, 3), (21, .iload_n 1, 1), (22, .ifCond .eq 54, 3), (25, .aload_n 0, 1), (26, .getfield 7, 3), (29, .iload_n 2, 1), (30, .caload, 1), (31, .bipush 63, 2), (33, .if_icmp .eq 39, 3), (36, .iload_n 2, 1), (37, .iconst 2, 1), (38, .if_icmp .ge 18, 3), (41, .aload_n 0, 1), (42, .getfield 7, 3), (45, .iload_n 2, 1), (46, .caload, 1), (47, .invokestatic 177, 3), (50, .ifCond .eq 26, 3), (53, .goto 19, 3), (56, .aload_n 0, 1), (57, .getfield 7, 3), (60, .iload_n 2, 1), (61, .caload, 1), (62, .bipush 48, 2), (64, .bipush 57, 2), (66, .invokestatic 120, 3), (69, .ifCond .eq 7, 3), (72, .iconst 1, 1), (73, .goto 4, 3), (76, .iconst 0, 1), (77, .istore_n 1, 1), (78, .iinc 2 1, 3), (81, .goto (-65), 3), (84, .iload_n 1, 1), (85, .ireturn, 1)]
theorem dd_X12_isSight : ∀ (k pc : Nat) (ins : Instr) (n : Nat), tb_X12_isSight[k]? = some (pc, ins, n) → decode cX12_isSight pc = .ok (ins, n) := dd_of (by decide +kernel)
def tb_X12_sight_0 : List (Nat × Instr × Nat) := [(0, .iload_n 1, 1), (1, .iconst 0, 1), (2, .bipush 9, 2), (4, .invokestatic 120, 3), (7, .ifCond .eq 18, 3), (10, .iload_n 2, 1), (11, .iconst 0, 1), (12, .sipush 1439, 3), (15, .invokestatic 120, 3), (18, .ifCond .eq 7, 3), (21, .iconst 1, 1), (22, .goto 4, 3), (25, .iconst 0, 1), (26, .istore_n 3, 1), (27, .aload_n 0, 1), (28, .iload_n 3, 1), (29, .ifCond .ne 7, 3), (32, .iconst 1, 1), (33, .goto 24, 3), (36, .aload_n 0, 1), (37, .invokevirtual 228, 3), (40, .ifCond .eq 12, 3), (43, .aload_n 0, 1), (44, .getfield 232, 3), (47, .bipush 40, 2), (49, .if_icmp .ne 7, 3), (52, .iconst 2, 1), (53, .goto 4, 3), (56, .iconst 0, 1), (57, .invokevirtual 130, 3), (60, .ifCond .ne 5, 3), (63, .iconst 0, 1), (64, .ireturn, 1), (65, .iconst 0, 1), (66, .istore 4, 2), (68, .iload 4, 2), (70, .iconst 4, 1), (71, .if_icmp .ge 30, 3), (74, .aload_n 0, 1), (75, .getfield 87, 3), (78, .iconst 4, 1), (79, .aload_n 0, 1), (80, .getfield 232, 3), (83, .imul, 1), (84, .iload 4, 2), (86, .iadd, 1), (87, .aload_n 0, 1), (88, .getfield 7, 3), (91, .iload 4, 2), (93, .caload, 1), (94, .castore, 1), (95, .iinc 4 1, 3), (98, .goto (-30), 3), (101, .aload_n 0, 1), (102, .iconst 0, 1), (103, .putfield 127, 3), (106, .aload_n 0, 1), (107, .getfield 90, 3), (110, .aload_n 0, 1), (111, .getfield 232, 3)]
def tb_X12_sight_1 : List (Nat × Instr × Nat) := [(114, .iload_n 1, 1), (115, .iastore, 1), (116, .aload_n 0, 1), (117, .getfield 93, 3), (120, .aload_n 0, 1), (121, .getfield 232, 3), (124, .aload_n 0, 1), (125, .getfield 134, 3), (128, .iastore, 1), (129, .aload_n 0, 1), (130, .getfield 96, 3), (133, .aload_n 0, 1), (134, .getfield 232, 3), (137, .iload_n 2, 1), (138, .iastore, 1), (139, .aload_n 0, 1), (140, .dup, 1), (141, .getfield 232, 3), (144, .iconst 1, 1), (145, .iadd, 1), (146, .putfield 232, 3), (149, .aload_n 0, 1), (150, .getfield 232, 3), (153, .iconst 1, 1), (154, .isub, 1), (155, .ireturn, 1)]
theorem dd_X12_sight_0 : ∀ (k pc : Nat) (ins : Instr) (n : Nat), tb_X12_sight_0[k]? = some (pc, ins, n) → decode cX12_sight pc = .ok (ins, n) := dd_of (by decide +kernel)
theorem dd_X12_sight_1 : ∀ (k pc : Nat) (ins : Instr) (n : Nat), tb_X12_sight_1[k]? = some (pc, ins, n) → decode cX12_sight pc = .ok (ins, n) := dd_of (by decide +kernel)
def tb_X12_agrees : List (Nat × Instr × Nat) := [(0, .iload_n 2, 1), (1, .iconst (-1), 1), (2, .if_icmp .eq 7, 3), (5, .iconst 1, 1), (6, .goto 4, 3), (9, .iconst 0, 1), (10, .istore_n 3, 1), (11, .iconst 0, 1), (12, .istore 4, 2), (14, .iload 4, 2), (16, .iconst 4, 1), (17, .if_icmp .ge 55, 3), (20, .iload_n 3, 1), (21, .ifCond .eq 51, 3), (24, .aload_n 0, 1), (25, .getfield 87, 3), (28, .iconst 4, 1), (29, .iload_n 1, 1), (30, .imul, 1), (31, .iload 4, 2), (33, .iadd, 1), (34, .caload, 1), (35, .bipush 63, 2), (37, .if_icmp .eq 23, 3), (40, .aload_n 0, 1), (41, .getfield 87, 3), (44, .iconst 4, 1), (45, .iload_n 1, 1), (46, .imul, 1), (47, .iload 4, 2), (49, .iadd, 1), (50, .caload, 1), (51, .iload_n 2, 1), (52, .iload 4, 2), (54, .invokestatic 200, 3), (57, .if_icmp .ne 7, 3), (60, .iconst 1, 1), (61, .goto 4, 3), (64, .iconst 0, 1), (65, .istore_n 3, 1), (66, .iinc 4 1, 3), (69, .goto (-55), 3), (72, .iload_n 3, 1), (73, .ireturn, 1)]
theorem dd_X12_agrees : ∀ (k pc : Nat) (ins : Instr) (n : Nat), tb_X12_agrees[k]? = some (pc, ins, n) → decode cX12_agrees pc = .ok (ins, n) := dd_of (by decide +kernel)
def tb_X12_seenBy : List (Nat × Instr × Nat) := [(0, .iconst (-1), 1), (1, .istore_n 2, 1), (2, .iconst 0, 1), (3, .istore_n 3, 1), (4, .iconst 0, 1), (5, .istore 4, 2), (7, .iload 4, 2), (9, .aload_n 0, 1), (10, .getfield 117, 3), (13, .if_icmp .ge 53, 3), (16, .aload_n 0, 1), (17, .iload_n 1, 1), (18, .aload_n 0, 1), (19, .iload 4, 2), (21, .aload_n 0, 1), (22, .getfield 93, 3), (25, .iload_n 1, 1), (26, .iaload, 1), (27, .invokevirtual 197, 3), (30, .invokevirtual 235, 3), (33, .istore 5, 2), (35, .iload 5, 2), (37, .ifCond .eq 8, 3), (40, .iload 4, 2), (42, .goto 4, 3), (45, .iload_n 2, 1), (46, .istore_n 2, 1), (47, .iload_n 3, 1), (48, .iload 5, 2), (50, .ifCond .eq 7, 3), (53, .iconst 1, 1), (54, .goto 4, 3), (57, .iconst 0, 1), (58, .iadd, 1), (59, .istore_n 3, 1), (60, .iinc 4 1, 3), (63, .goto (-56), 3), (66, .iload_n 3, 1), (67, .iconst 1, 1), (68, .if_icmp .ne 7, 3), (71, .iload_n 2, 1), (72, .goto 4, 3), (75, .iconst (-1), 1), (76, .ireturn, 1)]
theorem dd_X12_seenBy : ∀ (k pc : Nat) (ins : Instr) (n : Nat), tb_X12_seenBy[k]? = some (pc, ins, n) → decode cX12_seenBy pc = .ok (ins, n) := dd_of (by decide +kernel)
def tb_X12_isSighting : List (Nat × Instr × Nat) := [(0, .iload_n 1, 1), (1, .iconst 0, 1), (2, .aload_n 0, 1), (3, .getfield 232, 3), (6, .iconst 1, 1), (7, .isub, 1), (8, .invokestatic 120, 3), (11, .ireturn, 1)]
theorem dd_X12_isSighting : ∀ (k pc : Nat) (ins : Instr) (n : Nat), tb_X12_isSighting[k]? = some (pc, ins, n) → decode cX12_isSighting pc = .ok (ins, n) := dd_of (by decide +kernel)
def tb_X12_seen : List (Nat × Instr × Nat) := [(0, .aload_n 0, 1), (1, .aload_n 0, 1), (2, .iload_n 1, 1), (3, .invokevirtual 238, 3), (6, .ifCond .eq 7, 3), (9, .iconst 0, 1), (10, .goto 4, 3), (13, .iconst 1, 1), (14, .invokevirtual 130, 3), (17, .ifCond .eq 11, 3), (20, .aload_n 0, 1), (21, .iload_n 1, 1), (22, .invokevirtual 241, 3), (25, .goto 4, 3), (28, .iconst 0, 1), (29, .ireturn, 1)]
theorem dd_X12_seen : ∀ (k pc : Nat) (ins : Instr) (n : Nat), tb_X12_seen[k]? = some (pc, ins, n) → decode cX12_seen pc = .ok (ins, n) := dd_of (by decide +kernel)
def tb_X12_minutes : List (Nat × Instr × Nat) := [(0, .sipush 1440, 3), (3, .aload_n 0, 1), (4, .getfield 93, 3), (7, .iload_n 1, 1), (8, .iaload, 1), (9, .imul, 1), (10, .aload_n 0, 1), (11, .getfield 96, 3), (14, .iload_n 1, 1), (15, .iaload, 1), (16, .iadd, 1), (17, .ireturn, 1)]
theorem dd_X12_minutes : ∀ (k pc : Nat) (ins : Instr) (n : Nat), tb_X12_minutes[k]? = some (pc, ins, n) → decode cX12_minutes pc = .ok (ins, n) := dd_of (by decide +kernel)
def tb_X12_isBehind : List (Nat × Instr × Nat) := [(0, .aload_n 0, 1), (1, .iload_n 1, 1), (2, .invokevirtual 244, 3), (5, .aload_n 0, 1), (6, .iload_n 2, 1), (7, .invokevirtual 244, 3), (10, .if_icmp .gt 21, 3), (13, .aload_n 0, 1), (14, .iload_n 1, 1), (15, .invokevirtual 244, 3), (18, .aload_n 0, 1), (19, .iload_n 2, 1), (20, .invokevirtual 244, 3), (23, .if_icmp .ne 12, 3), (26, .iload_n 1, 1), (27, .iload_n 2, 1), (28, .if_icmp .le 7, 3), (31, .iconst 1, 1), (32, .goto 4, 3), (35, .iconst 0, 1), (36, .ireturn, 1)]
theorem dd_X12_isBehind : ∀ (k pc : Nat) (ins : Instr) (n : Nat), tb_X12_isBehind[k]? = some (pc, ins, n) → decode cX12_isBehind pc = .ok (ins, n) := dd_of (by decide +kernel)
def tb_X12_clones_0 : List (Nat × Instr × Nat) := [(0, .iconst 0, 1), (1, .istore_n 2, 1), (2, .iconst 0, 1), (3, .istore_n 3, 1), (4, .iload_n 3, 1), (5, .aload_n 0, 1), (6, .getfield 232, 3), (9, .if_icmp .ge 180, 3), (12, .iconst (-1), 1), (13, .istore 4, 2), (15, .iconst 0, 1), (16, .istore 5, 2), (18, .iload 5, 2), (20, .aload_n 0, 1), (21, .getfield 232, 3), (24, .if_icmp .ge 76, 3), (27, .aload_n 0, 1), (28, .iload_n 3, 1), (29, .invokevirtual 241, 3), (32, .iload_n 1, 1), (33, .if_icmp .ne 67, 3), (36, .aload_n 0, 1), (37, .iload 5, 2), (39, .invokevirtual 241, 3), (42, .iload_n 1, 1), (43, .if_icmp .ne 17, 3), (46, .aload_n 0, 1), (47, .iload 5, 2), (49, .iload_n 3, 1), (50, .invokevirtual 247, 3), (53, .ifCond .eq 7, 3), (56, .iconst 1, 1), (57, .goto 4, 3), (60, .iconst 0, 1), (61, .istore 6, 2), (63, .iload 6, 2), (65, .ifCond .eq 25, 3), (68, .iload 4, 2), (70, .iconst (-1), 1), (71, .if_icmp .eq 14, 3), (74, .aload_n 0, 1), (75, .iload 4, 2), (77, .iload 5, 2), (79, .invokevirtual 247, 3), (82, .ifCond .eq 8, 3), (85, .iload 5, 2), (87, .goto 5, 3), (90, .iload 4, 2), (92, .istore 4, 2), (94, .iinc 5 1, 3), (97, .goto (-79), 3), (100, .iload 4, 2), (102, .iconst (-1), 1), (103, .if_icmp .eq 80, 3), (106, .aload_n 0, 1), (107, .getfield 90, 3), (110, .iload 4, 2), (112, .iaload, 1), (113, .aload_n 0, 1), (114, .getfield 90, 3)]
def tb_X12_clones_1 : List (Nat × Instr × Nat) := [(117, .iload_n 3, 1), (118, .iaload, 1), (119, .if_icmp .le 20, 3), (122, .aload_n 0, 1), (123, .getfield 90, 3), (126, .iload 4, 2), (128, .iaload, 1), (129, .aload_n 0, 1), (130, .getfield 90, 3), (133, .iload_n 3, 1), (134, .iaload, 1), (135, .isub, 1), (136, .goto 17, 3), (139, .aload_n 0, 1), (140, .getfield 90, 3), (143, .iload_n 3, 1), (144, .iaload, 1), (145, .aload_n 0, 1), (146, .getfield 90, 3), (149, .iload 4, 2), (151, .iaload, 1), (152, .isub, 1), (153, .istore 5, 2), (155, .iload_n 2, 1), (156, .aload_n 0, 1), (157, .iload 4, 2), (159, .invokevirtual 244, 3), (162, .aload_n 0, 1), (163, .iload_n 3, 1), (164, .invokevirtual 244, 3), (167, .isub, 1), (168, .bipush 10, 2), (170, .iload 5, 2), (172, .imul, 1), (173, .if_icmp .ge 7, 3), (176, .iconst 1, 1), (177, .goto 4, 3), (180, .iconst 0, 1), (181, .iadd, 1), (182, .istore_n 2, 1), (183, .iinc 3 1, 3), (186, .goto (-182), 3), (189, .iload_n 2, 1), (190, .ireturn, 1)]
theorem dd_X12_clones_0 : ∀ (k pc : Nat) (ins : Instr) (n : Nat), tb_X12_clones_0[k]? = some (pc, ins, n) → decode cX12_clones pc = .ok (ins, n) := dd_of (by decide +kernel)
theorem dd_X12_clones_1 : ∀ (k pc : Nat) (ins : Instr) (n : Nat), tb_X12_clones_1[k]? = some (pc, ins, n) → decode cX12_clones pc = .ok (ins, n) := dd_of (by decide +kernel)
def tb_X12_fine_0 : List (Nat × Instr × Nat) := [(0, .aload_n 0, 1), (1, .iload_n 1, 1), (2, .invokevirtual 238, 3), (5, .istore_n 3, 1), (6, .iload_n 2, 1), (7, .iconst 1, 1), (8, .ldc 204, 2), (10, .invokestatic 120, 3), (13, .istore 4, 2), (15, .aload_n 0, 1), (16, .iload_n 3, 1), (17, .ifCond .ne 7, 3), (20, .iconst 1, 1), (21, .goto 35, 3), (24, .iload 4, 2), (26, .ifCond .ne 7, 3), (29, .iconst 2, 1), (30, .goto 26, 3), (33, .aload_n 0, 1), (34, .iload_n 1, 1), (35, .invokevirtual 241, 3), (38, .iconst (-1), 1), (39, .if_icmp .eq 12, 3), (42, .aload_n 0, 1), (43, .getfield 250, 3), (46, .bipush 20, 2), (48, .if_icmp .ne 7, 3), (51, .iconst 3, 1), (52, .goto 4, 3), (55, .iconst 0, 1), (56, .invokevirtual 130, 3), (59, .ifCond .ne 5, 3), (62, .iconst 0, 1), (63, .ireturn, 1), (64, .aload_n 0, 1), (65, .getfield 99, 3), (68, .aload_n 0, 1), (69, .getfield 250, 3), (72, .iload_n 1, 1), (73, .iastore, 1), (74, .aload_n 0, 1), (75, .getfield 102, 3), (78, .aload_n 0, 1), (79, .getfield 250, 3), (82, .iload_n 2, 1), (83, .iastore, 1), (84, .aload_n 0, 1), (85, .getfield 105, 3), (88, .aload_n 0, 1), (89, .getfield 250, 3), (92, .aload_n 0, 1), (93, .getfield 134, 3), (96, .iastore, 1), (97, .aload_n 0, 1), (98, .dup, 1), (99, .getfield 250, 3), (102, .iconst 1, 1), (103, .iadd, 1), (104, .putfield 250, 3), (107, .aload_n 0, 1)]
def tb_X12_fine_1 : List (Nat × Instr × Nat) := [(108, .getfield 250, 3), (111, .iconst 1, 1), (112, .isub, 1), (113, .ireturn, 1)]
theorem dd_X12_fine_0 : ∀ (k pc : Nat) (ins : Instr) (n : Nat), tb_X12_fine_0[k]? = some (pc, ins, n) → decode cX12_fine pc = .ok (ins, n) := dd_of (by decide +kernel)
theorem dd_X12_fine_1 : ∀ (k pc : Nat) (ins : Instr) (n : Nat), tb_X12_fine_1[k]? = some (pc, ins, n) → decode cX12_fine pc = .ok (ins, n) := dd_of (by decide +kernel)
def tb_X12_whoseIs : List (Nat × Instr × Nat) := [(0, .aload_n 0, 1), (1, .aload_n 0, 1), (2, .getfield 99, 3), (5, .iload_n 1, 1), (6, .iaload, 1), (7, .invokevirtual 241, 3), (10, .istore_n 2, 1), (11, .aload_n 0, 1), (12, .getfield 108, 3), (15, .iload_n 1, 1), (16, .iaload, 1), (17, .ifCond .le 12, 3), (20, .aload_n 0, 1), (21, .getfield 111, 3), (24, .iload_n 1, 1), (25, .iaload, 1), (26, .goto 30, 3), (29, .iload_n 2, 1), (30, .iconst (-1), 1), (31, .if_icmp .ne 7, 3), (34, .iconst (-1), 1), (35, .goto 21, 3), (38, .aload_n 0, 1), (39, .iload_n 2, 1), (40, .aload_n 0, 1), (41, .getfield 93, 3), (44, .aload_n 0, 1), (45, .getfield 99, 3), (48, .iload_n 1, 1), (49, .iaload, 1), (50, .iaload, 1), (51, .iconst 0, 1), (52, .iconst (-1), 1), (53, .invokevirtual 169, 3), (56, .ireturn, 1)]
theorem dd_X12_whoseIs : ∀ (k pc : Nat) (ins : Instr) (n : Nat), tb_X12_whoseIs[k]? = some (pc, ins, n) → decode cX12_whoseIs pc = .ok (ins, n) := dd_of (by decide +kernel)
def tb_X12_isFine : List (Nat × Instr × Nat) := [(0, .iload_n 1, 1), (1, .iconst 0, 1), (2, .aload_n 0, 1), (3, .getfield 250, 3), (6, .iconst 1, 1), (7, .isub, 1), (8, .invokestatic 120, 3), (11, .ireturn, 1)]
theorem dd_X12_isFine : ∀ (k pc : Nat) (ins : Instr) (n : Nat), tb_X12_isFine[k]? = some (pc, ins, n) → decode cX12_isFine pc = .ok (ins, n) := dd_of (by decide +kernel)
def tb_X12_name_0 : List (Nat × Instr × Nat) := [(0, .aload_n 0, 1), (1, .iload_n 1, 1), (2, .invokevirtual 253, 3), (5, .ifCond .eq 15, 3), (8, .aload_n 0, 1), (9, .iload_n 2, 1), (10, .invokevirtual 145, 3), (13, .ifCond .eq 7, 3), (16, .iconst 1, 1), (17, .goto 4, 3), (20, .iconst 0, 1), (21, .istore_n 3, 1), (22, .iload_n 3, 1), (23, .ifCond .eq 11, 3), (26, .aload_n 0, 1), (27, .iload_n 1, 1), (28, .invokevirtual 256, 3), (31, .goto 4, 3), (34, .iconst (-1), 1), (35, .istore 4, 2), (37, .iload_n 3, 1), (38, .ifCond .eq 45, 3), (41, .iload 4, 2), (43, .iconst (-1), 1), (44, .if_icmp .eq 39, 3), (47, .iload 4, 2), (49, .iload_n 2, 1), (50, .if_icmp .eq 33, 3), (53, .aload_n 0, 1), (54, .getfield 134, 3), (57, .aload_n 0, 1), (58, .getfield 105, 3), (61, .iload_n 1, 1), (62, .iaload, 1), (63, .isub, 1), (64, .bipush 14, 2), (66, .if_icmp .gt 17, 3), (69, .aload_n 0, 1), (70, .getfield 108, 3), (73, .iload_n 1, 1), (74, .iaload, 1), (75, .iconst 3, 1), (76, .if_icmp .ge 7, 3), (79, .iconst 1, 1), (80, .goto 4, 3), (83, .iconst 0, 1), (84, .istore 5, 2), (86, .aload_n 0, 1), (87, .iload_n 3, 1), (88, .ifCond .ne 7, 3), (91, .iconst 1, 1), (92, .goto 13, 3), (95, .iload 5, 2), (97, .ifCond .eq 7, 3), (100, .iconst 0, 1), (101, .goto 4, 3), (104, .iconst 2, 1), (105, .invokevirtual 130, 3), (108, .ifCond .ne 5, 3), (111, .iconst 0, 1)]
def tb_X12_name_1 : List (Nat × Instr × Nat) := [(112, .ireturn, 1), (113, .aload_n 0, 1), (114, .getfield 108, 3), (117, .iload_n 1, 1), (118, .dup2, 1), (119, .iaload, 1), (120, .iconst 1, 1), (121, .iadd, 1), (122, .iastore, 1), (123, .aload_n 0, 1), (124, .getfield 111, 3), (127, .iload_n 1, 1), (128, .iload_n 2, 1), (129, .iastore, 1), (130, .aload_n 0, 1), (131, .getfield 105, 3), (134, .iload_n 1, 1), (135, .aload_n 0, 1), (136, .getfield 134, 3), (139, .iastore, 1), (140, .iload 4, 2), (142, .ireturn, 1)]
theorem dd_X12_name_0 : ∀ (k pc : Nat) (ins : Instr) (n : Nat), tb_X12_name_0[k]? = some (pc, ins, n) → decode cX12_name pc = .ok (ins, n) := dd_of (by decide +kernel)
theorem dd_X12_name_1 : ∀ (k pc : Nat) (ins : Instr) (n : Nat), tb_X12_name_1[k]? = some (pc, ins, n) → decode cX12_name pc = .ok (ins, n) := dd_of (by decide +kernel)
def tb_X12_whose : List (Nat × Instr × Nat) := [(0, .aload_n 0, 1), (1, .aload_n 0, 1), (2, .iload_n 1, 1), (3, .invokevirtual 253, 3), (6, .ifCond .eq 7, 3), (9, .iconst 0, 1), (10, .goto 4, 3), (13, .iconst 1, 1), (14, .invokevirtual 130, 3), (17, .ifCond .eq 11, 3), (20, .aload_n 0, 1), (21, .iload_n 1, 1), (22, .invokevirtual 256, 3), (25, .goto 4, 3), (28, .iconst 0, 1), (29, .ireturn, 1)]
theorem dd_X12_whose : ∀ (k pc : Nat) (ins : Instr) (n : Nat), tb_X12_whose[k]? = some (pc, ins, n) → decode cX12_whose pc = .ok (ins, n) := dd_of (by decide +kernel)
def tb_X12_fines : List (Nat × Instr × Nat) := [(0, .aload_n 0, 1), (1, .aload_n 0, 1), (2, .iload_n 1, 1), (3, .invokevirtual 145, 3), (6, .ifCond .eq 7, 3), (9, .iconst 0, 1), (10, .goto 4, 3), (13, .iconst 1, 1), (14, .invokevirtual 130, 3), (17, .ifCond .ne 5, 3), (20, .iconst 0, 1), (21, .ireturn, 1), (22, .iconst 0, 1), (23, .istore_n 2, 1), (24, .iconst 0, 1), (25, .istore_n 3, 1), (26, .iload_n 3, 1), (27, .aload_n 0, 1), (28, .getfield 250, 3), (31, .if_icmp .ge 31, 3), (34, .iload_n 2, 1), (35, .aload_n 0, 1), (36, .iload_n 3, 1), (37, .invokevirtual 256, 3), (40, .iload_n 1, 1), (41, .if_icmp .ne 12, 3), (44, .aload_n 0, 1), (45, .getfield 102, 3), (48, .iload_n 3, 1), (49, .iaload, 1), (50, .goto 4, 3), (53, .iconst 0, 1), (54, .iadd, 1), (55, .istore_n 2, 1), (56, .iinc 3 1, 3), (59, .goto (-33), 3), (62, .iload_n 2, 1), (63, .ireturn, 1)]
theorem dd_X12_fines : ∀ (k pc : Nat) (ins : Instr) (n : Nat), tb_X12_fines[k]? = some (pc, ins, n) → decode cX12_fines pc = .ok (ins, n) := dd_of (by decide +kernel)
def tb_X12_isWord : List (Nat × Instr × Nat) := [(0, .aload_n 0, 1), (1, .getfield 127, 3), (4, .iload_n 3, 1), (5, .if_icmp .ne 7, 3), (8, .iconst 1, 1), (9, .goto 4, 3), (12, .iconst 0, 1), (13, .istore 4, 2), (15, .iconst 0, 1), (16, .istore 5, 2), (18, .iload 5, 2), (20, .iload_n 3, 1), (21, .if_icmp .ge 45, 3), (24, .iload 4, 2), (26, .ifCond .eq 40, 3), (29, .aload_n 0, 1), (30, .getfield 7, 3), (33, .iload 5, 2), (35, .caload, 1), (36, .bipush 97, 2), (38, .lload_n 1, 1), (39, .iconst 5, 1), (40, .iload 5, 2), (42, .imul, 1), (43, .lshr, 1), (44, .ldc2_w 259, 3), (47, .land, 1), (48, .l2i, 1), (49, .iadd, 1), (50, .if_icmp .ne 7, 3), (53, .iconst 1, 1), (54, .goto 4, 3), (57, .iconst 0, 1), (58, .istore 4, 2), (60, .iinc 5 1, 3), (63, .goto (-45), 3), (66, .iload 4, 2), (68, .ireturn, 1)]
theorem dd_X12_isWord : ∀ (k pc : Nat) (ins : Instr) (n : Nat), tb_X12_isWord[k]? = some (pc, ins, n) → decode cX12_isWord pc = .ok (ins, n) := dd_of (by decide +kernel)
def tb_X12_word : List (Nat × Instr × Nat) := [(0, .iload_n 0, 1), (1, .bipush 97, 2), (3, .isub, 1), (4, .i2l, 1), (5, .iload_n 1, 1), (6, .bipush 97, 2), (8, .isub, 1), (9, .i2l, 1), (10, .iconst 5, 1), (11, .lshl, 1), (12, .lor, 1), (13, .iload_n 2, 1), (14, .bipush 97, 2), (16, .isub, 1), (17, .i2l, 1), (18, .bipush 10, 2), (20, .lshl, 1), (21, .lor, 1), (22, .iload_n 3, 1), (23, .bipush 97, 2), (25, .isub, 1), (26, .i2l, 1), (27, .bipush 15, 2), (29, .lshl, 1), (30, .lor, 1), (31, .lstore 7, 2), (33, .lload 7, 2), (35, .iload 4, 2), (37, .bipush 97, 2), (39, .isub, 1), (40, .i2l, 1), (41, .bipush 20, 2), (43, .lshl, 1), (44, .lor, 1), (45, .iload 5, 2), (47, .bipush 97, 2), (49, .isub, 1), (50, .i2l, 1), (51, .bipush 25, 2), (53, .lshl, 1), (54, .lor, 1), (55, .iload 6, 2), (57, .bipush 97, 2), (59, .isub, 1), (60, .i2l, 1), (61, .bipush 30, 2), (63, .lshl, 1), (64, .lor, 1), (65, .lreturn, 1)]
theorem dd_X12_word : ∀ (k pc : Nat) (ins : Instr) (n : Nat), tb_X12_word[k]? = some (pc, ins, n) → decode cX12_word pc = .ok (ins, n) := dd_of (by decide +kernel)
def tb_X12_look_0 : List (Nat × Instr × Nat) := [(0, .aload_n 0, 1), (1, .aload_n 0, 1), (2, .iload_n 1, 1), (3, .invokevirtual 148, 3), (6, .ifCond .eq 7, 3), (9, .iconst 0, 1), (10, .goto 4, 3), (13, .iconst 1, 1), (14, .invokevirtual 130, 3), (17, .ifCond .ne 5, 3), (20, .iconst 0, 1), (21, .ireturn, 1), (22, .aload_n 0, 1), (23, .bipush 112, 2), (25, .bipush 111, 2), (27, .bipush 108, 2), (29, .bipush 105, 2), (31, .bipush 99, 2), (33, .bipush 101, 2), (35, .bipush 97, 2), (37, .invokestatic 261, 3), (40, .bipush 6, 2), (42, .invokevirtual 265, 3), (45, .istore_n 2, 1), (46, .aload_n 0, 1), (47, .bipush 105, 2), (49, .bipush 110, 2), (51, .bipush 115, 2), (53, .bipush 117, 2), (55, .bipush 114, 2), (57, .bipush 101, 2), (59, .bipush 114, 2), (61, .invokestatic 261, 3), (64, .bipush 7, 2), (66, .invokevirtual 265, 3), (69, .istore_n 3, 1), (70, .aload_n 0, 1), (71, .bipush 99, 2), (73, .bipush 108, 2), (75, .bipush 97, 2), (77, .bipush 109, 2), (79, .bipush 112, 2), (81, .bipush 101, 2), (83, .bipush 114, 2), (85, .invokestatic 261, 3), (88, .bipush 7, 2), (90, .invokevirtual 265, 3), (93, .istore 4, 2), (95, .aload_n 0, 1), (96, .iconst 0, 1), (97, .putfield 127, 3), (100, .aload_n 0, 1), (101, .iload_n 1, 1), (102, .aload_n 0, 1), (103, .getfield 134, 3), (106, .invokevirtual 165, 3), (109, .istore 5, 2), (111, .aload_n 0, 1), (112, .iload_n 1, 1), (113, .aload_n 0, 1)]
def tb_X12_look_1 : List (Nat × Instr × Nat) := [(114, .getfield 134, 3), (117, .iconst 0, 1), (118, .iconst (-1), 1), (119, .invokevirtual 169, 3), (122, .istore 6, 2), (124, .iload_n 2, 1), (125, .ifCond .ne 29, 3), (128, .iload_n 3, 1), (129, .ifCond .eq 9, 3), (132, .iload 5, 2), (134, .iconst 1, 1), (135, .if_icmp .eq 19, 3), (138, .iload 4, 2), (140, .ifCond .eq 18, 3), (143, .iload 5, 2), (145, .iconst 2, 1), (146, .if_icmp .eq 8, 3), (149, .iload 5, 2), (151, .ifCond .ne 7, 3), (154, .iconst 1, 1), (155, .goto 4, 3), (158, .iconst 0, 1), (159, .istore 7, 2), (161, .iload 7, 2), (163, .ifCond .eq 23, 3), (166, .iload 6, 2), (168, .iconst (-1), 1), (169, .if_icmp .eq 17, 3), (172, .aload_n 0, 1), (173, .getfield 35, 3), (176, .iload 6, 2), (178, .baload, 1), (179, .ifCond .eq 9, 3), (182, .iload_n 2, 1), (183, .ifCond .ne 5, 3), (186, .iconst (-1), 1), (187, .ireturn, 1), (188, .aload_n 0, 1), (189, .getfield 39, 3), (192, .iload 6, 2), (194, .dup2, 1), (195, .iaload, 1), (196, .iconst 1, 1), (197, .iadd, 1), (198, .iastore, 1), (199, .iload 6, 2), (201, .ireturn, 1)]
theorem dd_X12_look_0 : ∀ (k pc : Nat) (ins : Instr) (n : Nat), tb_X12_look_0[k]? = some (pc, ins, n) → decode cX12_look pc = .ok (ins, n) := dd_of (by decide +kernel)
theorem dd_X12_look_1 : ∀ (k pc : Nat) (ins : Instr) (n : Nat), tb_X12_look_1[k]? = some (pc, ins, n) → decode cX12_look pc = .ok (ins, n) := dd_of (by decide +kernel)
def tb_X12_looked : List (Nat × Instr × Nat) := [(0, .aload_n 0, 1), (1, .aload_n 0, 1), (2, .iload_n 1, 1), (3, .invokevirtual 145, 3), (6, .ifCond .eq 7, 3), (9, .iconst 0, 1), (10, .goto 4, 3), (13, .iconst 1, 1), (14, .invokevirtual 130, 3), (17, .ifCond .eq 12, 3), (20, .aload_n 0, 1), (21, .getfield 39, 3), (24, .iload_n 1, 1), (25, .iaload, 1), (26, .goto 4, 3), (29, .iconst 0, 1), (30, .ireturn, 1)]
theorem dd_X12_looked : ∀ (k pc : Nat) (ins : Instr) (n : Nat), tb_X12_looked[k]? = some (pc, ins, n) → decode cX12_looked pc = .ok (ins, n) := dd_of (by decide +kernel)
def tb_X12_pass : List (Nat × Instr × Nat) := [(0, .iload_n 1, 1), (1, .iconst 1, 1), (2, .sipush 400, 3), (5, .invokestatic 120, 3), (8, .istore_n 2, 1), (9, .aload_n 0, 1), (10, .iload_n 2, 1), (11, .ifCond .ne 7, 3), (14, .iconst 1, 1), (15, .goto 20, 3), (18, .aload_n 0, 1), (19, .getfield 134, 3), (22, .iload_n 1, 1), (23, .iadd, 1), (24, .sipush 20000, 3), (27, .if_icmp .le 7, 3), (30, .iconst 2, 1), (31, .goto 4, 3), (34, .iconst 0, 1), (35, .invokevirtual 130, 3), (38, .ifCond .ne 5, 3), (41, .iconst 0, 1), (42, .ireturn, 1), (43, .aload_n 0, 1), (44, .dup, 1), (45, .getfield 134, 3), (48, .iload_n 1, 1), (49, .iadd, 1), (50, .putfield 134, 3), (53, .aload_n 0, 1), (54, .getfield 134, 3), (57, .ireturn, 1)]
theorem dd_X12_pass : ∀ (k pc : Nat) (ins : Instr) (n : Nat), tb_X12_pass[k]? = some (pc, ins, n) → decode cX12_pass pc = .ok (ins, n) := dd_of (by decide +kernel)
def tb_J9_abs_0f7a4 : List (Nat × Instr × Nat) := [(0, .iload_n 0, 1), (1, .ifCond .ge 8, 3), (4, .iload_n 0, 1), (5, .ineg, 1), (6, .goto 4, 3), (9, .iload_n 0, 1), (10, .ireturn, 1)]
theorem dd_J9_abs_0f7a4 : ∀ (k pc : Nat) (ins : Instr) (n : Nat), tb_J9_abs_0f7a4[k]? = some (pc, ins, n) → decode cJ9_abs_0f7a4 pc = .ok (ins, n) := dd_of (by decide +kernel)
def tb_J9_max_7cf53 : List (Nat × Instr × Nat) := [(0, .iload_n 0, 1), (1, .iload_n 1, 1), (2, .if_icmp .lt 7, 3), (5, .iload_n 0, 1), (6, .goto 4, 3), (9, .iload_n 1, 1), (10, .ireturn, 1)]
theorem dd_J9_max_7cf53 : ∀ (k pc : Nat) (ins : Instr) (n : Nat), tb_J9_max_7cf53[k]? = some (pc, ins, n) → decode cJ9_max_7cf53 pc = .ok (ins, n) := dd_of (by decide +kernel)
def tb_J9_min_7cf53 : List (Nat × Instr × Nat) := [(0, .iload_n 0, 1), (1, .iload_n 1, 1), (2, .if_icmp .gt 7, 3), (5, .iload_n 0, 1), (6, .goto 4, 3), (9, .iload_n 1, 1), (10, .ireturn, 1)]
theorem dd_J9_min_7cf53 : ∀ (k pc : Nat) (ins : Instr) (n : Nat), tb_J9_min_7cf53[k]? = some (pc, ins, n) → decode cJ9_min_7cf53 pc = .ok (ins, n) := dd_of (by decide +kernel)
def tb_J0_length_8abf5 : List (Nat × Instr × Nat) := [(0, .aload_n 0, 1), (1, .getfield 9, 3), (4, .arraylength, 1), (5, .aload_n 0, 1), (6, .invokevirtual 335, 3), (9, .ishr, 1), (10, .ireturn, 1)]
theorem dd_J0_length_8abf5 : ∀ (k pc : Nat) (ins : Instr) (n : Nat), tb_J0_length_8abf5[k]? = some (pc, ins, n) → decode cJ0_length_8abf5 pc = .ok (ins, n) := dd_of (by decide +kernel)
def tb_J0_charAt_5068e : List (Nat × Instr × Nat) := [(0, .aload_n 0, 1), (1, .invokevirtual 492, 3), (4, .ifCond .eq 12, 3), (7, .aload_n 0, 1), (8, .getfield 9, 3), (11, .iload_n 1, 1), (12, .invokestatic 495, 3), (15, .ireturn, 1), (16, .aload_n 0, 1), (17, .getfield 9, 3), (20, .iload_n 1, 1), (21, .invokestatic 498, 3), (24, .ireturn, 1)]
theorem dd_J0_charAt_5068e : ∀ (k pc : Nat) (ins : Instr) (n : Nat), tb_J0_charAt_5068e[k]? = some (pc, ins, n) → decode cJ0_charAt_5068e pc = .ok (ins, n) := dd_of (by decide +kernel)
def tb_J0_coder_7d493 : List (Nat × Instr × Nat) := [(0, .getstatic 38, 3), (3, .ifCond .eq 10, 3), (6, .aload_n 0, 1), (7, .getfield 15, 3), (10, .goto 4, 3), (13, .iconst 1, 1), (14, .ireturn, 1)]
theorem dd_J0_coder_7d493 : ∀ (k pc : Nat) (ins : Instr) (n : Nat), tb_J0_coder_7d493[k]? = some (pc, ins, n) → decode cJ0_coder_7d493 pc = .ok (ins, n) := dd_of (by decide +kernel)
def tb_J0_isLatin1_aae02 : List (Nat × Instr × Nat) := [(0, .getstatic 38, 3), (3, .ifCond .eq 14, 3), (6, .aload_n 0, 1), (7, .getfield 15, 3), (10, .ifCond .ne 7, 3), (13, .iconst 1, 1), (14, .goto 4, 3), (17, .iconst 0, 1), (18, .ireturn, 1)]
theorem dd_J0_isLatin1_aae02 : ∀ (k pc : Nat) (ins : Instr) (n : Nat), tb_J0_isLatin1_aae02[k]? = some (pc, ins, n) → decode cJ0_isLatin1_aae02 pc = .ok (ins, n) := dd_of (by decide +kernel)
def tb_J0_checkIndex_df160 : List (Nat × Instr × Nat) := [(0, .iload_n 0, 1), (1, .iload_n 1, 1), (2, .getstatic 1053, 3), (5, .invokestatic 1059, 3), (8, .pop, 1), (9, .return_, 1)]
theorem dd_J0_checkIndex_df160 : ∀ (k pc : Nat) (ins : Instr) (n : Nat), tb_J0_checkIndex_df160[k]? = some (pc, ins, n) → decode cJ0_checkIndex_df160 pc = .ok (ins, n) := dd_of (by decide +kernel)
def tb_J1_charAt_3b067 : List (Nat × Instr × Nat) := [(0, .iload_n 1, 1), (1, .aload_n 0, 1), (2, .arraylength, 1), (3, .invokestatic 9, 3), (6, .aload_n 0, 1), (7, .iload_n 1, 1), (8, .baload, 1), (9, .sipush 255, 3), (12, .iand, 1), (13, .i2c, 1), (14, .ireturn, 1)]
theorem dd_J1_charAt_3b067 : ∀ (k pc : Nat) (ins : Instr) (n : Nat), tb_J1_charAt_3b067[k]? = some (pc, ins, n) → decode cJ1_charAt_3b067 pc = .ok (ins, n) := dd_of (by decide +kernel)
def tb_Jxa1e45_init_da8c8 : List (Nat × Instr × Nat) := [(0, .aload_n 0, 1), (1, .invokespecial 1, 3), (4, .return_, 1)]
theorem dd_Jxa1e45_init_da8c8 : ∀ (k pc : Nat) (ins : Instr) (n : Nat), tb_Jxa1e45_init_da8c8[k]? = some (pc, ins, n) → decode cJxa1e45_init_da8c8 pc = .ok (ins, n) := dd_of (by decide +kernel)
def tb_Jxc12de_init_da8c8 : List (Nat × Instr × Nat) := [(0, .aload_n 0, 1), (1, .invokespecial 1, 3), (4, .aload_n 0, 1), (5, .iconst 0, 1), (6, .putfield 7, 3), (9, .return_, 1)]
theorem dd_Jxc12de_init_da8c8 : ∀ (k pc : Nat) (ins : Instr) (n : Nat), tb_Jxc12de_init_da8c8[k]? = some (pc, ins, n) → decode cJxc12de_init_da8c8 pc = .ok (ins, n) := dd_of (by decide +kernel)
def tb_Jx4a65c_init_da8c8 : List (Nat × Instr × Nat) := [(0, .aload_n 0, 1), (1, .invokespecial 1, 3), (4, .aload_n 0, 1), (5, .getstatic 39, 3), (8, .putfield 9, 3), (11, .return_, 1)]
theorem dd_Jx4a65c_init_da8c8 : ∀ (k pc : Nat) (ins : Instr) (n : Nat), tb_Jx4a65c_init_da8c8[k]? = some (pc, ins, n) → decode cJx4a65c_init_da8c8 pc = .ok (ins, n) := dd_of (by decide +kernel)
def tb_Jx4a65c_grow_92f84 : List (Nat × Instr × Nat) := [(0, .aload_n 0, 1), (1, .getfield 9, 3), (4, .arraylength, 1), (5, .istore_n 2, 1), (6, .iload_n 2, 1), (7, .ifCond .gt 13, 3), (10, .aload_n 0, 1), (11, .getfield 9, 3), (14, .getstatic 39, 3), (17, .if_acmp .eq 28, 3), (20, .iload_n 2, 1), (21, .iload_n 1, 1), (22, .iload_n 2, 1), (23, .isub, 1), (24, .iload_n 2, 1), (25, .iconst 1, 1), (26, .ishr, 1), (27, .invokestatic 73, 3), (30, .istore_n 3, 1), (31, .aload_n 0, 1), (32, .aload_n 0, 1), (33, .getfield 9, 3), (36, .iload_n 3, 1), (37, .invokestatic 66, 3), (40, .dup_x1, 1), (41, .putfield 9, 3), (44, .areturn, 1), (45, .aload_n 0, 1), (46, .bipush 10, 2), (48, .iload_n 1, 1), (49, .invokestatic 79, 3), (52, .anewarray 7, 3), (55, .dup_x1, 1), (56, .putfield 9, 3), (59, .areturn, 1)]
theorem dd_Jx4a65c_grow_92f84 : ∀ (k pc : Nat) (ins : Instr) (n : Nat), tb_Jx4a65c_grow_92f84[k]? = some (pc, ins, n) → decode cJx4a65c_grow_92f84 pc = .ok (ins, n) := dd_of (by decide +kernel)
def tb_Jx4a65c_grow_d5877 : List (Nat × Instr × Nat) := [(0, .aload_n 0, 1), (1, .aload_n 0, 1), (2, .getfield 48, 3), (5, .iconst 1, 1), (6, .iadd, 1), (7, .invokevirtual 69, 3), (10, .areturn, 1)]
theorem dd_Jx4a65c_grow_d5877 : ∀ (k pc : Nat) (ins : Instr) (n : Nat), tb_Jx4a65c_grow_d5877[k]? = some (pc, ins, n) → decode cJx4a65c_grow_d5877 pc = .ok (ins, n) := dd_of (by decide +kernel)
def tb_Jx4a65c_size_8abf5 : List (Nat × Instr × Nat) := [(0, .aload_n 0, 1), (1, .getfield 48, 3), (4, .ireturn, 1)]
theorem dd_Jx4a65c_size_8abf5 : ∀ (k pc : Nat) (ins : Instr) (n : Nat), tb_Jx4a65c_size_8abf5[k]? = some (pc, ins, n) → decode cJx4a65c_size_8abf5 pc = .ok (ins, n) := dd_of (by decide +kernel)
def tb_Jx4a65c_elementData_915e3 : List (Nat × Instr × Nat) := [(0, .aload_n 0, 1), (1, .getfield 9, 3), (4, .iload_n 1, 1), (5, .aaload, 1), (6, .areturn, 1)]
theorem dd_Jx4a65c_elementData_915e3 : ∀ (k pc : Nat) (ins : Instr) (n : Nat), tb_Jx4a65c_elementData_915e3[k]? = some (pc, ins, n) → decode cJx4a65c_elementData_915e3 pc = .ok (ins, n) := dd_of (by decide +kernel)
def tb_Jx4a65c_get_915e3 : List (Nat × Instr × Nat) := [(0, .iload_n 1, 1), (1, .aload_n 0, 1), (2, .getfield 48, 3), (5, .invokestatic 118, 3), (8, .pop, 1), (9, .aload_n 0, 1), (10, .iload_n 1, 1), (11, .invokevirtual 123, 3), (14, .areturn, 1)]
theorem dd_Jx4a65c_get_915e3 : ∀ (k pc : Nat) (ins : Instr) (n : Nat), tb_Jx4a65c_get_915e3[k]? = some (pc, ins, n) → decode cJx4a65c_get_915e3 pc = .ok (ins, n) := dd_of (by decide +kernel)
def tb_Jx4a65c_add_72be8 : List (Nat × Instr × Nat) := [(0, .iload_n 3, 1), (1, .aload_n 2, 1), (2, .arraylength, 1), (3, .if_icmp .ne 8, 3), (6, .aload_n 0, 1), (7, .invokevirtual 129, 3), (10, .astore_n 2, 1), (11, .aload_n 2, 1), (12, .iload_n 3, 1), (13, .aload_n 1, 1), (14, .aastore, 1), (15, .aload_n 0, 1), (16, .iload_n 3, 1), (17, .iconst 1, 1), (18, .iadd, 1), (19, .putfield 48, 3), (22, .return_, 1)]
theorem dd_Jx4a65c_add_72be8 : ∀ (k pc : Nat) (ins : Instr) (n : Nat), tb_Jx4a65c_add_72be8[k]? = some (pc, ins, n) → decode cJx4a65c_add_72be8 pc = .ok (ins, n) := dd_of (by decide +kernel)
def tb_Jx4a65c_add_9ea2d : List (Nat × Instr × Nat) := [(0, .aload_n 0, 1), (1, .dup, 1), (2, .getfield 63, 3), (5, .iconst 1, 1), (6, .iadd, 1), (7, .putfield 63, 3), (10, .aload_n 0, 1), (11, .aload_n 1, 1), (12, .aload_n 0, 1), (13, .getfield 9, 3), (16, .aload_n 0, 1), (17, .getfield 48, 3), (20, .invokevirtual 131, 3), (23, .iconst 1, 1), (24, .ireturn, 1)]
theorem dd_Jx4a65c_add_9ea2d : ∀ (k pc : Nat) (ins : Instr) (n : Nat), tb_Jx4a65c_add_9ea2d[k]? = some (pc, ins, n) → decode cJx4a65c_add_9ea2d pc = .ok (ins, n) := dd_of (by decide +kernel)
def tb_Jx4a65c_add_7a177 : List (Nat × Instr × Nat) := [(0, .aload_n 0, 1), (1, .iload_n 1, 1), (2, .invokevirtual 135, 3), (5, .aload_n 0, 1), (6, .dup, 1), (7, .getfield 63, 3), (10, .iconst 1, 1), (11, .iadd, 1), (12, .putfield 63, 3), (15, .aload_n 0, 1), (16, .getfield 48, 3), (19, .dup, 1), (20, .istore_n 3, 1), (21, .aload_n 0, 1), (22, .getfield 9, 3), (25, .dup, 1), (26, .astore 4, 2), (28, .arraylength, 1), (29, .if_icmp .ne 9, 3), (32, .aload_n 0, 1), (33, .invokevirtual 129, 3), (36, .astore 4, 2), (38, .aload 4, 2), (40, .iload_n 1, 1), (41, .aload 4, 2), (43, .iload_n 1, 1), (44, .iconst 1, 1), (45, .iadd, 1), (46, .iload_n 3, 1), (47, .iload_n 1, 1), (48, .isub, 1), (49, .invokestatic 112, 3), (52, .aload 4, 2), (54, .iload_n 1, 1), (55, .aload_n 2, 1), (56, .aastore, 1), (57, .aload_n 0, 1), (58, .iload_n 3, 1), (59, .iconst 1, 1), (60, .iadd, 1), (61, .putfield 48, 3), (64, .return_, 1)]
theorem dd_Jx4a65c_add_7a177 : ∀ (k pc : Nat) (ins : Instr) (n : Nat), tb_Jx4a65c_add_7a177[k]? = some (pc, ins, n) → decode cJx4a65c_add_7a177 pc = .ok (ins, n) := dd_of (by decide +kernel)
def tb_Jx4a65c_rangeCheckForAdd_d00df : List (Nat × Instr × Nat) := [(0, .iload_n 1, 1), (1, .aload_n 0, 1), (2, .getfield 48, 3), (5, .if_icmp .gt 7, 3), (8, .iload_n 1, 1), (9, .ifCond .ge 16, 3), (12, .new 187, 3), (15, .dup, 1), (16, .aload_n 0, 1), (17, .iload_n 1, 1), (18, .invokevirtual 198, 3), (21, .invokespecial 193, 3), (24, .athrow, 1), (25, .return_, 1)]
theorem dd_Jx4a65c_rangeCheckForAdd_d00df : ∀ (k pc : Nat) (ins : Instr) (n : Nat), tb_Jx4a65c_rangeCheckForAdd_d00df[k]? = some (pc, ins, n) → decode cJx4a65c_rangeCheckForAdd_d00df pc = .ok (ins, n) := dd_of (by decide +kernel)
def tb_J7_copyOf_1904c : List (Nat × Instr × Nat) := [(0, .aload_n 0, 1), (1, .iload_n 1, 1), (2, .aload_n 0, 1), (3, .invokevirtual 86, 3), (6, .invokestatic 300, 3), (9, .areturn, 1)]
theorem dd_J7_copyOf_1904c : ∀ (k pc : Nat) (ins : Instr) (n : Nat), tb_J7_copyOf_1904c[k]? = some (pc, ins, n) → decode cJ7_copyOf_1904c pc = .ok (ins, n) := dd_of (by decide +kernel)
def tb_J7_copyOf_6403c : List (Nat × Instr × Nat) := [(0, .aload_n 2, 1), (1, .ldc 110, 2), (3, .if_acmp .ne 10, 3), (6, .iload_n 1, 1), (7, .anewarray 2, 3), (10, .goto 14, 3), (13, .aload_n 2, 1), (14, .invokevirtual 90, 3), (17, .iload_n 1, 1), (18, .invokestatic 95, 3), (21, .checkcast 110, 3), (24, .astore_n 3, 1), (25, .aload_n 0, 1), (26, .iconst 0, 1), (27, .aload_n 3, 1), (28, .iconst 0, 1), (29, .aload_n 0, 1), (30, .arraylength, 1), (31, .iload_n 1, 1), (32, .invokestatic 304, 3), (35, .invokestatic 150, 3), (38, .aload_n 3, 1), (39, .areturn, 1)]
theorem dd_J7_copyOf_6403c : ∀ (k pc : Nat) (ins : Instr) (n : Nat), tb_J7_copyOf_6403c[k]? = some (pc, ins, n) → decode cJ7_copyOf_6403c pc = .ok (ins, n) := dd_of (by decide +kernel)
def tb_J7_copyOf_59c91 : List (Nat × Instr × Nat) := [(0, .iload_n 1, 1), (1, .aload_n 0, 1), (2, .arraylength, 1), (3, .if_icmp .ne 11, 3), (6, .aload_n 0, 1), (7, .invokevirtual 316, 3), (10, .checkcast 317, 3), (13, .areturn, 1), (14, .iload_n 1, 1), (15, .newarray .int, 2), (17, .astore_n 2, 1), (18, .aload_n 0, 1), (19, .iconst 0, 1), (20, .aload_n 2, 1), (21, .iconst 0, 1), (22, .aload_n 0, 1), (23, .arraylength, 1), (24, .iload_n 1, 1), (25, .invokestatic 304, 3), (28, .invokestatic 150, 3), (31, .aload_n 2, 1), (32, .areturn, 1)]
theorem dd_J7_copyOf_59c91 : ∀ (k pc : Nat) (ins : Instr) (n : Nat), tb_J7_copyOf_59c91[k]? = some (pc, ins, n) → decode cJ7_copyOf_59c91 pc = .ok (ins, n) := dd_of (by decide +kernel)
def tb_J15_checkIndex_7cf53 : List (Nat × Instr × Nat) := [(0, .iload_n 0, 1), (1, .iload_n 1, 1), (2, .aconst_null, 1), (3, .invokestatic 105, 3), (6, .ireturn, 1)]
theorem dd_J15_checkIndex_7cf53 : ∀ (k pc : Nat) (ins : Instr) (n : Nat), tb_J15_checkIndex_7cf53[k]? = some (pc, ins, n) → decode cJ15_checkIndex_7cf53 pc = .ok (ins, n) := dd_of (by decide +kernel)
def tb_J8_newLength_cabcc : List (Nat × Instr × Nat) := [(0, .iload_n 0, 1), (1, .iload_n 1, 1), (2, .iload_n 2, 1), (3, .invokestatic 194, 3), (6, .iadd, 1), (7, .istore_n 3, 1), (8, .iconst 0, 1), (9, .iload_n 3, 1), (10, .if_icmp .ge 11, 3), (13, .iload_n 3, 1), (14, .ldc 200, 2), (16, .if_icmp .gt 5, 3), (19, .iload_n 3, 1), (20, .ireturn, 1), (21, .iload_n 0, 1), (22, .iload_n 1, 1), (23, .invokestatic 201, 3), (26, .ireturn, 1)]
theorem dd_J8_newLength_cabcc : ∀ (k pc : Nat) (ins : Instr) (n : Nat), tb_J8_newLength_cabcc[k]? = some (pc, ins, n) → decode cJ8_newLength_cabcc pc = .ok (ins, n) := dd_of (by decide +kernel)
def tb_J3_checkIndex_8e157 : List (Nat × Instr × Nat) := [(0, .iload_n 0, 1), (1, .ifCond .lt 8, 3), (4, .iload_n 0, 1), (5, .iload_n 1, 1), (6, .if_icmp .lt 10, 3), (9, .aload_n 2, 1), (10, .iload_n 0, 1), (11, .iload_n 1, 1), (12, .invokestatic 95, 3), (15, .athrow, 1), (16, .iload_n 0, 1), (17, .ireturn, 1)]
theorem dd_J3_checkIndex_8e157 : ∀ (k pc : Nat) (ins : Instr) (n : Nat), tb_J3_checkIndex_8e157[k]? = some (pc, ins, n) → decode cJ3_checkIndex_8e157 pc = .ok (ins, n) := dd_of (by decide +kernel)
end
section
def tb_L_type : List (Nat × Instr × Nat) := [(0, .aload_n 2, 1), (1, .iconst 0, 1), (2, .aload_n 0, 1), (3, .iload_n 1, 1), (4, .invokevirtual 7, 3), (7, .i2l, 1), (8, .lastore, 1), (9, .goto 6, 3), (12, .astore_n 3, 1), (13, .iconst 1, 1), (14, .ireturn, 1), (15, .iconst 0, 1), (16, .ireturn, 1)]
theorem dd_L_type : ∀ (k pc : Nat) (ins : Instr) (n : Nat), tb_L_type[k]? = some (pc, ins, n) → decode cL_type pc = .ok (ins, n) := dd_of (by decide +kernel)
def tb_L_vehicle : List (Nat × Instr × Nat) := [(0, .aload 4, 2), (2, .iconst 0, 1), (3, .aload_n 0, 1), (4, .iload_n 1, 1), (5, .iload_n 2, 1), (6, .iload_n 3, 1), (7, .invokevirtual 15, 3), (10, .i2l, 1), (11, .lastore, 1), (12, .goto 11, 3), (15, .astore 5, 2), (17, .iconst 1, 1), (18, .ireturn, 1), (19, .astore 5, 2), (21, .iconst 2, 1), (22, .ireturn, 1), (23, .iconst 0, 1), (24, .ireturn, 1)]
theorem dd_L_vehicle : ∀ (k pc : Nat) (ins : Instr) (n : Nat), tb_L_vehicle[k]? = some (pc, ins, n) → decode cL_vehicle pc = .ok (ins, n) := dd_of (by decide +kernel)
def tb_L_stamped : List (Nat × Instr × Nat) := [(0, .aload_n 2, 1), (1, .iconst 0, 1), (2, .aload_n 0, 1), (3, .iload_n 1, 1), (4, .invokevirtual 21, 3), (7, .i2l, 1), (8, .lastore, 1), (9, .goto 6, 3), (12, .astore_n 3, 1), (13, .iconst 1, 1), (14, .ireturn, 1), (15, .iconst 0, 1), (16, .ireturn, 1)]
theorem dd_L_stamped : ∀ (k pc : Nat) (ins : Instr) (n : Nat), tb_L_stamped[k]? = some (pc, ins, n) → decode cL_stamped pc = .ok (ins, n) := dd_of (by decide +kernel)
def tb_L_person : List (Nat × Instr × Nat) := [(0, .aload_n 1, 1), (1, .iconst 0, 1), (2, .aload_n 0, 1), (3, .invokevirtual 25, 3), (6, .i2l, 1), (7, .lastore, 1), (8, .goto 6, 3), (11, .astore_n 2, 1), (12, .iconst 1, 1), (13, .ireturn, 1), (14, .iconst 0, 1), (15, .ireturn, 1)]
theorem dd_L_person : ∀ (k pc : Nat) (ins : Instr) (n : Nat), tb_L_person[k]? = some (pc, ins, n) → decode cL_person pc = .ok (ins, n) := dd_of (by decide +kernel)
def tb_L_protect : List (Nat × Instr × Nat) := [(0, .aload_n 3, 1), (1, .iconst 0, 1), (2, .aload_n 0, 1), (3, .iload_n 1, 1), (4, .iload_n 2, 1), (5, .invokevirtual 29, 3), (8, .ifCond .eq 7, 3), (11, .lconst 1, 1), (12, .goto 4, 3), (15, .lconst 0, 1), (16, .lastore, 1), (17, .goto 7, 3), (20, .astore 4, 2), (22, .iconst 1, 1), (23, .ireturn, 1), (24, .iconst 0, 1), (25, .ireturn, 1)]
theorem dd_L_protect : ∀ (k pc : Nat) (ins : Instr) (n : Nat), tb_L_protect[k]? = some (pc, ins, n) → decode cL_protect pc = .ok (ins, n) := dd_of (by decide +kernel)
def tb_L_tell : List (Nat × Instr × Nat) := [(0, .aload 5, 2), (2, .iconst 0, 1), (3, .aload_n 0, 1), (4, .iload_n 1, 1), (5, .iload_n 2, 1), (6, .iload_n 3, 1), (7, .iload 4, 2), (9, .invokevirtual 35, 3), (12, .i2l, 1), (13, .lastore, 1), (14, .goto 15, 3), (17, .astore 6, 2), (19, .iconst 1, 1), (20, .ireturn, 1), (21, .astore 6, 2), (23, .iconst 2, 1), (24, .ireturn, 1), (25, .astore 6, 2), (27, .iconst 3, 1), (28, .ireturn, 1), (29, .iconst 0, 1), (30, .ireturn, 1)]
theorem dd_L_tell : ∀ (k pc : Nat) (ins : Instr) (n : Nat), tb_L_tell[k]? = some (pc, ins, n) → decode cL_tell pc = .ok (ins, n) := dd_of (by decide +kernel)
def tb_L_on : List (Nat × Instr × Nat) := [(0, .aload 4, 2), (2, .iconst 0, 1), (3, .aload_n 0, 1), (4, .iload_n 1, 1), (5, .iload_n 2, 1), (6, .iload_n 3, 1), (7, .invokevirtual 39, 3), (10, .i2l, 1), (11, .lastore, 1), (12, .goto 11, 3), (15, .astore 5, 2), (17, .iconst 1, 1), (18, .ireturn, 1), (19, .astore 5, 2), (21, .iconst 2, 1), (22, .ireturn, 1), (23, .iconst 0, 1), (24, .ireturn, 1)]
theorem dd_L_on : ∀ (k pc : Nat) (ins : Instr) (n : Nat), tb_L_on[k]? = some (pc, ins, n) → decode cL_on pc = .ok (ins, n) := dd_of (by decide +kernel)
def tb_L_onAnew : List (Nat × Instr × Nat) := [(0, .aload 4, 2), (2, .iconst 0, 1), (3, .aload_n 0, 1), (4, .iload_n 1, 1), (5, .iload_n 2, 1), (6, .iload_n 3, 1), (7, .invokevirtual 42, 3), (10, .i2l, 1), (11, .lastore, 1), (12, .goto 11, 3), (15, .astore 5, 2), (17, .iconst 1, 1), (18, .ireturn, 1), (19, .astore 5, 2), (21, .iconst 2, 1), (22, .ireturn, 1), (23, .iconst 0, 1), (24, .ireturn, 1)]
theorem dd_L_onAnew : ∀ (k pc : Nat) (ins : Instr) (n : Nat), tb_L_onAnew[k]? = some (pc, ins, n) → decode cL_onAnew pc = .ok (ins, n) := dd_of (by decide +kernel)
def tb_L_bar : List (Nat × Instr × Nat) := [(0, .aload 4, 2), (2, .iconst 0, 1), (3, .aload_n 0, 1), (4, .iload_n 1, 1), (5, .iload_n 2, 1), (6, .iload_n 3, 1), (7, .invokevirtual 45, 3), (10, .ifCond .eq 7, 3), (13, .lconst 1, 1), (14, .goto 4, 3), (17, .lconst 0, 1), (18, .lastore, 1), (19, .goto 7, 3), (22, .astore 5, 2), (24, .iconst 1, 1), (25, .ireturn, 1), (26, .iconst 0, 1), (27, .ireturn, 1)]
theorem dd_L_bar : ∀ (k pc : Nat) (ins : Instr) (n : Nat), tb_L_bar[k]? = some (pc, ins, n) → decode cL_bar pc = .ok (ins, n) := dd_of (by decide +kernel)
def tb_L_allot : List (Nat × Instr × Nat) := [(0, .aload_n 2, 1), (1, .iconst 0, 1), (2, .aload_n 0, 1), (3, .iload_n 1, 1), (4, .invokevirtual 49, 3), (7, .i2l, 1), (8, .lastore, 1), (9, .goto 9, 3), (12, .astore_n 3, 1), (13, .iconst 1, 1), (14, .ireturn, 1), (15, .astore_n 3, 1), (16, .iconst 2, 1), (17, .ireturn, 1), (18, .iconst 0, 1), (19, .ireturn, 1)]
theorem dd_L_allot : ∀ (k pc : Nat) (ins : Instr) (n : Nat), tb_L_allot[k]? = some (pc, ins, n) → decode cL_allot pc = .ok (ins, n) := dd_of (by decide +kernel)
def tb_L_wish : List (Nat × Instr × Nat) := [(0, .aload_n 2, 1), (1, .iconst 0, 1), (2, .aload_n 0, 1), (3, .iload_n 1, 1), (4, .invokevirtual 52, 3), (7, .i2l, 1), (8, .lastore, 1), (9, .goto 9, 3), (12, .astore_n 3, 1), (13, .iconst 1, 1), (14, .ireturn, 1), (15, .astore_n 3, 1), (16, .iconst 2, 1), (17, .ireturn, 1), (18, .iconst 0, 1), (19, .ireturn, 1)]
theorem dd_L_wish : ∀ (k pc : Nat) (ins : Instr) (n : Nat), tb_L_wish[k]? = some (pc, ins, n) → decode cL_wish pc = .ok (ins, n) := dd_of (by decide +kernel)
def tb_L_plate : List (Nat × Instr × Nat) := [(0, .aload 4, 2), (2, .iconst 0, 1), (3, .aload_n 0, 1), (4, .iload_n 1, 1), (5, .iload_n 2, 1), (6, .iload_n 3, 1), (7, .invokevirtual 55, 3), (10, .i2l, 1), (11, .lastore, 1), (12, .goto 11, 3), (15, .astore 5, 2), (17, .iconst 1, 1), (18, .ireturn, 1), (19, .astore 5, 2), (21, .iconst 2, 1), (22, .ireturn, 1), (23, .iconst 0, 1), (24, .ireturn, 1)]
theorem dd_L_plate : ∀ (k pc : Nat) (ins : Instr) (n : Nat), tb_L_plate[k]? = some (pc, ins, n) → decode cL_plate pc = .ok (ins, n) := dd_of (by decide +kernel)
def tb_L_rate : List (Nat × Instr × Nat) := [(0, .aload 4, 2), (2, .iconst 0, 1), (3, .aload_n 0, 1), (4, .iload_n 1, 1), (5, .iload_n 2, 1), (6, .iload_n 3, 1), (7, .invokevirtual 59, 3), (10, .i2l, 1), (11, .lastore, 1), (12, .goto 11, 3), (15, .astore 5, 2), (17, .iconst 1, 1), (18, .ireturn, 1), (19, .astore 5, 2), (21, .iconst 2, 1), (22, .ireturn, 1), (23, .iconst 0, 1), (24, .ireturn, 1)]
theorem dd_L_rate : ∀ (k pc : Nat) (ins : Instr) (n : Nat), tb_L_rate[k]? = some (pc, ins, n) → decode cL_rate pc = .ok (ins, n) := dd_of (by decide +kernel)
def tb_L_pay : List (Nat × Instr × Nat) := [(0, .aload_n 3, 1), (1, .iconst 0, 1), (2, .aload_n 0, 1), (3, .iload_n 1, 1), (4, .iload_n 2, 1), (5, .invokevirtual 62, 3), (8, .lastore, 1), (9, .goto 11, 3), (12, .astore 4, 2), (14, .iconst 1, 1), (15, .ireturn, 1), (16, .astore 4, 2), (18, .iconst 2, 1), (19, .ireturn, 1), (20, .iconst 0, 1), (21, .ireturn, 1)]
theorem dd_L_pay : ∀ (k pc : Nat) (ins : Instr) (n : Nat), tb_L_pay[k]? = some (pc, ins, n) → decode cL_pay pc = .ok (ins, n) := dd_of (by decide +kernel)
def tb_L_owes : List (Nat × Instr × Nat) := [(0, .aload_n 2, 1), (1, .iconst 0, 1), (2, .aload_n 0, 1), (3, .iload_n 1, 1), (4, .invokevirtual 66, 3), (7, .lastore, 1), (8, .goto 6, 3), (11, .astore_n 3, 1), (12, .iconst 1, 1), (13, .ireturn, 1), (14, .iconst 0, 1), (15, .ireturn, 1)]
theorem dd_L_owes : ∀ (k pc : Nat) (ins : Instr) (n : Nat), tb_L_owes[k]? = some (pc, ins, n) → decode cL_owes pc = .ok (ins, n) := dd_of (by decide +kernel)
def tb_L_test : List (Nat × Instr × Nat) := [(0, .aload 5, 2), (2, .iconst 0, 1), (3, .aload_n 0, 1), (4, .iload_n 1, 1), (5, .iload_n 2, 1), (6, .iload_n 3, 1), (7, .iload 4, 2), (9, .invokevirtual 70, 3), (12, .i2l, 1), (13, .lastore, 1), (14, .goto 15, 3), (17, .astore 6, 2), (19, .iconst 1, 1), (20, .ireturn, 1), (21, .astore 6, 2), (23, .iconst 2, 1), (24, .ireturn, 1), (25, .astore 6, 2), (27, .iconst 3, 1), (28, .ireturn, 1), (29, .iconst 0, 1), (30, .ireturn, 1)]
theorem dd_L_test : ∀ (k pc : Nat) (ins : Instr) (n : Nat), tb_L_test[k]? = some (pc, ins, n) → decode cL_test pc = .ok (ins, n) := dd_of (by decide +kernel)
def tb_L_insure : List (Nat × Instr × Nat) := [(0, .aload_n 3, 1), (1, .iconst 0, 1), (2, .aload_n 0, 1), (3, .iload_n 1, 1), (4, .iload_n 2, 1), (5, .invokevirtual 73, 3), (8, .ifCond .eq 7, 3), (11, .lconst 1, 1), (12, .goto 4, 3), (15, .lconst 0, 1), (16, .lastore, 1), (17, .goto 11, 3), (20, .astore 4, 2), (22, .iconst 1, 1), (23, .ireturn, 1), (24, .astore 4, 2), (26, .iconst 2, 1), (27, .ireturn, 1), (28, .iconst 0, 1), (29, .ireturn, 1)]
theorem dd_L_insure : ∀ (k pc : Nat) (ins : Instr) (n : Nat), tb_L_insure[k]? = some (pc, ins, n) → decode cL_insure pc = .ok (ins, n) := dd_of (by decide +kernel)
def tb_L_ofVehicle : List (Nat × Instr × Nat) := [(0, .aload_n 3, 1), (1, .iconst 0, 1), (2, .aload_n 0, 1), (3, .iload_n 1, 1), (4, .iload_n 2, 1), (5, .invokevirtual 77, 3), (8, .i2l, 1), (9, .lastore, 1), (10, .goto 11, 3), (13, .astore 4, 2), (15, .iconst 1, 1), (16, .ireturn, 1), (17, .astore 4, 2), (19, .iconst 2, 1), (20, .ireturn, 1), (21, .iconst 0, 1), (22, .ireturn, 1)]
theorem dd_L_ofVehicle : ∀ (k pc : Nat) (ins : Instr) (n : Nat), tb_L_ofVehicle[k]? = some (pc, ins, n) → decode cL_ofVehicle pc = .ok (ins, n) := dd_of (by decide +kernel)
def tb_L_sight : List (Nat × Instr × Nat) := [(0, .aload_n 3, 1), (1, .iconst 0, 1), (2, .aload_n 0, 1), (3, .iload_n 1, 1), (4, .iload_n 2, 1), (5, .invokevirtual 81, 3), (8, .i2l, 1), (9, .lastore, 1), (10, .goto 11, 3), (13, .astore 4, 2), (15, .iconst 1, 1), (16, .ireturn, 1), (17, .astore 4, 2), (19, .iconst 2, 1), (20, .ireturn, 1), (21, .iconst 0, 1), (22, .ireturn, 1)]
theorem dd_L_sight : ∀ (k pc : Nat) (ins : Instr) (n : Nat), tb_L_sight[k]? = some (pc, ins, n) → decode cL_sight pc = .ok (ins, n) := dd_of (by decide +kernel)
def tb_L_seen : List (Nat × Instr × Nat) := [(0, .aload_n 2, 1), (1, .iconst 0, 1), (2, .aload_n 0, 1), (3, .iload_n 1, 1), (4, .invokevirtual 84, 3), (7, .i2l, 1), (8, .lastore, 1), (9, .goto 6, 3), (12, .astore_n 3, 1), (13, .iconst 1, 1), (14, .ireturn, 1), (15, .iconst 0, 1), (16, .ireturn, 1)]
theorem dd_L_seen : ∀ (k pc : Nat) (ins : Instr) (n : Nat), tb_L_seen[k]? = some (pc, ins, n) → decode cL_seen pc = .ok (ins, n) := dd_of (by decide +kernel)
def tb_L_fine : List (Nat × Instr × Nat) := [(0, .aload_n 3, 1), (1, .iconst 0, 1), (2, .aload_n 0, 1), (3, .iload_n 1, 1), (4, .iload_n 2, 1), (5, .invokevirtual 87, 3), (8, .i2l, 1), (9, .lastore, 1), (10, .goto 15, 3), (13, .astore 4, 2), (15, .iconst 1, 1), (16, .ireturn, 1), (17, .astore 4, 2), (19, .iconst 2, 1), (20, .ireturn, 1), (21, .astore 4, 2), (23, .iconst 3, 1), (24, .ireturn, 1), (25, .iconst 0, 1), (26, .ireturn, 1)]
theorem dd_L_fine : ∀ (k pc : Nat) (ins : Instr) (n : Nat), tb_L_fine[k]? = some (pc, ins, n) → decode cL_fine pc = .ok (ins, n) := dd_of (by decide +kernel)
def tb_L_name : List (Nat × Instr × Nat) := [(0, .aload_n 3, 1), (1, .iconst 0, 1), (2, .aload_n 0, 1), (3, .iload_n 1, 1), (4, .iload_n 2, 1), (5, .invokevirtual 90, 3), (8, .i2l, 1), (9, .lastore, 1), (10, .goto 11, 3), (13, .astore 4, 2), (15, .iconst 1, 1), (16, .ireturn, 1), (17, .astore 4, 2), (19, .iconst 2, 1), (20, .ireturn, 1), (21, .iconst 0, 1), (22, .ireturn, 1)]
theorem dd_L_name : ∀ (k pc : Nat) (ins : Instr) (n : Nat), tb_L_name[k]? = some (pc, ins, n) → decode cL_name pc = .ok (ins, n) := dd_of (by decide +kernel)
def tb_L_whose : List (Nat × Instr × Nat) := [(0, .aload_n 2, 1), (1, .iconst 0, 1), (2, .aload_n 0, 1), (3, .iload_n 1, 1), (4, .invokevirtual 93, 3), (7, .i2l, 1), (8, .lastore, 1), (9, .goto 6, 3), (12, .astore_n 3, 1), (13, .iconst 1, 1), (14, .ireturn, 1), (15, .iconst 0, 1), (16, .ireturn, 1)]
theorem dd_L_whose : ∀ (k pc : Nat) (ins : Instr) (n : Nat), tb_L_whose[k]? = some (pc, ins, n) → decode cL_whose pc = .ok (ins, n) := dd_of (by decide +kernel)
def tb_L_fines : List (Nat × Instr × Nat) := [(0, .aload_n 2, 1), (1, .iconst 0, 1), (2, .aload_n 0, 1), (3, .iload_n 1, 1), (4, .invokevirtual 96, 3), (7, .i2l, 1), (8, .lastore, 1), (9, .goto 6, 3), (12, .astore_n 3, 1), (13, .iconst 1, 1), (14, .ireturn, 1), (15, .iconst 0, 1), (16, .ireturn, 1)]
theorem dd_L_fines : ∀ (k pc : Nat) (ins : Instr) (n : Nat), tb_L_fines[k]? = some (pc, ins, n) → decode cL_fines pc = .ok (ins, n) := dd_of (by decide +kernel)
def tb_L_look : List (Nat × Instr × Nat) := [(0, .aload_n 2, 1), (1, .iconst 0, 1), (2, .aload_n 0, 1), (3, .iload_n 1, 1), (4, .invokevirtual 99, 3), (7, .i2l, 1), (8, .lastore, 1), (9, .goto 6, 3), (12, .astore_n 3, 1), (13, .iconst 1, 1), (14, .ireturn, 1), (15, .iconst 0, 1), (16, .ireturn, 1)]
theorem dd_L_look : ∀ (k pc : Nat) (ins : Instr) (n : Nat), tb_L_look[k]? = some (pc, ins, n) → decode cL_look pc = .ok (ins, n) := dd_of (by decide +kernel)
def tb_L_looked : List (Nat × Instr × Nat) := [(0, .aload_n 2, 1), (1, .iconst 0, 1), (2, .aload_n 0, 1), (3, .iload_n 1, 1), (4, .invokevirtual 102, 3), (7, .i2l, 1), (8, .lastore, 1), (9, .goto 6, 3), (12, .astore_n 3, 1), (13, .iconst 1, 1), (14, .ireturn, 1), (15, .iconst 0, 1), (16, .ireturn, 1)]
theorem dd_L_looked : ∀ (k pc : Nat) (ins : Instr) (n : Nat), tb_L_looked[k]? = some (pc, ins, n) → decode cL_looked pc = .ok (ins, n) := dd_of (by decide +kernel)
def tb_L_pass : List (Nat × Instr × Nat) := [(0, .aload_n 2, 1), (1, .iconst 0, 1), (2, .aload_n 0, 1), (3, .iload_n 1, 1), (4, .invokevirtual 105, 3), (7, .i2l, 1), (8, .lastore, 1), (9, .goto 9, 3), (12, .astore_n 3, 1), (13, .iconst 1, 1), (14, .ireturn, 1), (15, .astore_n 3, 1), (16, .iconst 2, 1), (17, .ireturn, 1), (18, .iconst 0, 1), (19, .ireturn, 1)]
theorem dd_L_pass : ∀ (k pc : Nat) (ins : Instr) (n : Nat), tb_L_pass[k]? = some (pc, ins, n) → decode cL_pass pc = .ok (ins, n) := dd_of (by decide +kernel)
def tb_L_law_0 : List (Nat × Instr × Nat) := [(0, .new 8, 3), (3, .dup, 1), (4, .invokespecial 108, 3), (7, .astore_n 1, 1), (8, .new 109, 3), (11, .dup, 1), (12, .invokespecial 111, 3), (15, .astore_n 2, 1), (16, .iconst 1, 1), (17, .newarray .long, 2), (19, .astore_n 3, 1), (20, .iconst 0, 1), (21, .istore 4, 2), (23, .iload 4, 2), (25, .aload_n 0, 1), (26, .arraylength, 1), (27, .iconst 5, 1), (28, .isub, 1), (29, .if_icmp .gt 2011, 3), (32, .aload_n 0, 1), (33, .iload 4, 2), (35, .iaload, 1), (36, .bipush 31, 2), (38, .iand, 1), (39, .tableswitch 1995 0 27 #[125, 183, 196, 276, 332, 376, 467, 559, 639, 719, 826, 882, 938, 1018, 1098, 1165, 1220, 1312, 1387, 1455, 1523, 1579, 1647, 1715, 1771, 1827, 1883, 1939], 125), (164, .aload_n 1, 1), (165, .aload_n 0, 1), (166, .iload 4, 2), (168, .iconst 1, 1), (169, .iadd, 1), (170, .iaload, 1), (171, .i2c, 1), (172, .aload_n 3, 1), (173, .invokestatic 112, 3), (176, .istore 5, 2), (178, .aload_n 2, 1), (179, .aload_n 0, 1), (180, .iload 4, 2), (182, .iconst 1, 1), (183, .iadd, 1), (184, .iaload, 1), (185, .i2c, 1), (186, .invokevirtual 117, 3), (189, .istore 6, 2), (191, .aload_n 2, 1), (192, .invokevirtual 118, 3), (195, .iload 5, 2), (197, .if_icmp .eq 5, 3), (200, .iconst 0, 1), (201, .ireturn, 1), (202, .iload 5, 2), (204, .ifCond .ne 15, 3), (207, .aload_n 3, 1), (208, .iconst 0, 1), (209, .laload, 1), (210, .iload 6, 2), (212, .i2l, 1), (213, .lcmp, 1), (214, .ifCond .eq 5, 3), (217, .iconst 0, 1)]
def tb_L_law_1 : List (Nat × Instr × Nat) := [(218, .ireturn, 1), (219, .goto 1815, 3), (222, .aload_n 1, 1), (223, .invokevirtual 121, 3), (226, .aload_n 2, 1), (227, .invokevirtual 124, 3), (230, .if_icmp .eq 1804, 3), (233, .iconst 0, 1), (234, .ireturn, 1), (235, .aload_n 1, 1), (236, .aload_n 0, 1), (237, .iload 4, 2), (239, .iconst 1, 1), (240, .iadd, 1), (241, .iaload, 1), (242, .aload_n 0, 1), (243, .iload 4, 2), (245, .iconst 2, 1), (246, .iadd, 1), (247, .iaload, 1), (248, .aload_n 0, 1), (249, .iload 4, 2), (251, .iconst 3, 1), (252, .iadd, 1), (253, .iaload, 1), (254, .aload_n 3, 1), (255, .invokestatic 125, 3), (258, .istore 5, 2), (260, .aload_n 2, 1), (261, .aload_n 0, 1), (262, .iload 4, 2), (264, .iconst 1, 1), (265, .iadd, 1), (266, .iaload, 1), (267, .aload_n 0, 1), (268, .iload 4, 2), (270, .iconst 2, 1), (271, .iadd, 1), (272, .iaload, 1), (273, .aload_n 0, 1), (274, .iload 4, 2), (276, .iconst 3, 1), (277, .iadd, 1), (278, .iaload, 1), (279, .invokevirtual 128, 3), (282, .istore 6, 2), (284, .aload_n 2, 1), (285, .invokevirtual 118, 3), (288, .iload 5, 2), (290, .if_icmp .eq 5, 3), (293, .iconst 0, 1), (294, .ireturn, 1), (295, .iload 5, 2), (297, .ifCond .ne 15, 3), (300, .aload_n 3, 1), (301, .iconst 0, 1), (302, .laload, 1), (303, .iload 6, 2), (305, .i2l, 1), (306, .lcmp, 1)]
def tb_L_law_2 : List (Nat × Instr × Nat) := [(307, .ifCond .eq 5, 3), (310, .iconst 0, 1), (311, .ireturn, 1), (312, .goto 1722, 3), (315, .aload_n 1, 1), (316, .aload_n 0, 1), (317, .iload 4, 2), (319, .iconst 1, 1), (320, .iadd, 1), (321, .iaload, 1), (322, .aload_n 3, 1), (323, .invokestatic 129, 3), (326, .istore 5, 2), (328, .aload_n 2, 1), (329, .aload_n 0, 1), (330, .iload 4, 2), (332, .iconst 1, 1), (333, .iadd, 1), (334, .iaload, 1), (335, .invokevirtual 132, 3), (338, .istore 6, 2), (340, .aload_n 2, 1), (341, .invokevirtual 118, 3), (344, .iload 5, 2), (346, .if_icmp .eq 5, 3), (349, .iconst 0, 1), (350, .ireturn, 1), (351, .iload 5, 2), (353, .ifCond .ne 15, 3), (356, .aload_n 3, 1), (357, .iconst 0, 1), (358, .laload, 1), (359, .iload 6, 2), (361, .i2l, 1), (362, .lcmp, 1), (363, .ifCond .eq 5, 3), (366, .iconst 0, 1), (367, .ireturn, 1), (368, .goto 1666, 3), (371, .aload_n 1, 1), (372, .aload_n 3, 1), (373, .invokestatic 133, 3), (376, .istore 5, 2), (378, .aload_n 2, 1), (379, .invokevirtual 136, 3), (382, .istore 6, 2), (384, .aload_n 2, 1), (385, .invokevirtual 118, 3), (388, .iload 5, 2), (390, .if_icmp .eq 5, 3), (393, .iconst 0, 1), (394, .ireturn, 1), (395, .iload 5, 2), (397, .ifCond .ne 15, 3), (400, .aload_n 3, 1), (401, .iconst 0, 1), (402, .laload, 1), (403, .iload 6, 2), (405, .i2l, 1), (406, .lcmp, 1)]
def tb_L_law_3 : List (Nat × Instr × Nat) := [(407, .ifCond .eq 5, 3), (410, .iconst 0, 1), (411, .ireturn, 1), (412, .goto 1622, 3), (415, .aload_n 1, 1), (416, .aload_n 0, 1), (417, .iload 4, 2), (419, .iconst 1, 1), (420, .iadd, 1), (421, .iaload, 1), (422, .aload_n 0, 1), (423, .iload 4, 2), (425, .iconst 2, 1), (426, .iadd, 1), (427, .iaload, 1), (428, .ifCond .eq 7, 3), (431, .iconst 1, 1), (432, .goto 4, 3), (435, .iconst 0, 1), (436, .aload_n 3, 1), (437, .invokestatic 137, 3), (440, .istore 5, 2), (442, .aload_n 2, 1), (443, .aload_n 0, 1), (444, .iload 4, 2), (446, .iconst 1, 1), (447, .iadd, 1), (448, .iaload, 1), (449, .aload_n 0, 1), (450, .iload 4, 2), (452, .iconst 2, 1), (453, .iadd, 1), (454, .iaload, 1), (455, .ifCond .eq 7, 3), (458, .iconst 1, 1), (459, .goto 4, 3), (462, .iconst 0, 1), (463, .invokevirtual 140, 3), (466, .istore 6, 2), (468, .aload_n 2, 1), (469, .invokevirtual 118, 3), (472, .iload 5, 2), (474, .if_icmp .eq 5, 3), (477, .iconst 0, 1), (478, .ireturn, 1), (479, .iload 5, 2), (481, .ifCond .ne 22, 3), (484, .aload_n 3, 1), (485, .iconst 0, 1), (486, .laload, 1), (487, .iload 6, 2), (489, .ifCond .eq 7, 3), (492, .lconst 1, 1), (493, .goto 4, 3), (496, .lconst 0, 1), (497, .lcmp, 1), (498, .ifCond .eq 5, 3), (501, .iconst 0, 1), (502, .ireturn, 1), (503, .goto 1531, 3)]
def tb_L_law_4 : List (Nat × Instr × Nat) := [(506, .aload_n 1, 1), (507, .aload_n 0, 1), (508, .iload 4, 2), (510, .iconst 1, 1), (511, .iadd, 1), (512, .iaload, 1), (513, .aload_n 0, 1), (514, .iload 4, 2), (516, .iconst 2, 1), (517, .iadd, 1), (518, .iaload, 1), (519, .aload_n 0, 1), (520, .iload 4, 2), (522, .iconst 3, 1), (523, .iadd, 1), (524, .iaload, 1), (525, .aload_n 0, 1), (526, .iload 4, 2), (528, .iconst 4, 1), (529, .iadd, 1), (530, .iaload, 1), (531, .aload_n 3, 1), (532, .invokestatic 141, 3), (535, .istore 5, 2), (537, .aload_n 2, 1), (538, .aload_n 0, 1), (539, .iload 4, 2), (541, .iconst 1, 1), (542, .iadd, 1), (543, .iaload, 1), (544, .aload_n 0, 1), (545, .iload 4, 2), (547, .iconst 2, 1), (548, .iadd, 1), (549, .iaload, 1), (550, .aload_n 0, 1), (551, .iload 4, 2), (553, .iconst 3, 1), (554, .iadd, 1), (555, .iaload, 1), (556, .aload_n 0, 1), (557, .iload 4, 2), (559, .iconst 4, 1), (560, .iadd, 1), (561, .iaload, 1), (562, .invokevirtual 144, 3), (565, .istore 6, 2), (567, .aload_n 2, 1), (568, .invokevirtual 118, 3), (571, .iload 5, 2), (573, .if_icmp .eq 5, 3), (576, .iconst 0, 1), (577, .ireturn, 1), (578, .iload 5, 2), (580, .ifCond .ne 15, 3), (583, .aload_n 3, 1), (584, .iconst 0, 1), (585, .laload, 1), (586, .iload 6, 2), (588, .i2l, 1)]
def tb_L_law_5 : List (Nat × Instr × Nat) := [(589, .lcmp, 1), (590, .ifCond .eq 5, 3), (593, .iconst 0, 1), (594, .ireturn, 1), (595, .goto 1439, 3), (598, .aload_n 1, 1), (599, .aload_n 0, 1), (600, .iload 4, 2), (602, .iconst 1, 1), (603, .iadd, 1), (604, .iaload, 1), (605, .aload_n 0, 1), (606, .iload 4, 2), (608, .iconst 2, 1), (609, .iadd, 1), (610, .iaload, 1), (611, .aload_n 0, 1), (612, .iload 4, 2), (614, .iconst 3, 1), (615, .iadd, 1), (616, .iaload, 1), (617, .aload_n 3, 1), (618, .invokestatic 145, 3), (621, .istore 5, 2), (623, .aload_n 2, 1), (624, .aload_n 0, 1), (625, .iload 4, 2), (627, .iconst 1, 1), (628, .iadd, 1), (629, .iaload, 1), (630, .aload_n 0, 1), (631, .iload 4, 2), (633, .iconst 2, 1), (634, .iadd, 1), (635, .iaload, 1), (636, .aload_n 0, 1), (637, .iload 4, 2), (639, .iconst 3, 1), (640, .iadd, 1), (641, .iaload, 1), (642, .invokevirtual 147, 3), (645, .istore 6, 2), (647, .aload_n 2, 1), (648, .invokevirtual 118, 3), (651, .iload 5, 2), (653, .if_icmp .eq 5, 3), (656, .iconst 0, 1), (657, .ireturn, 1), (658, .iload 5, 2), (660, .ifCond .ne 15, 3), (663, .aload_n 3, 1), (664, .iconst 0, 1), (665, .laload, 1), (666, .iload 6, 2), (668, .i2l, 1), (669, .lcmp, 1), (670, .ifCond .eq 5, 3), (673, .iconst 0, 1), (674, .ireturn, 1), (675, .goto 1359, 3)]
def tb_L_law_6 : List (Nat × Instr × Nat) := [(678, .aload_n 1, 1), (679, .aload_n 0, 1), (680, .iload 4, 2), (682, .iconst 1, 1), (683, .iadd, 1), (684, .iaload, 1), (685, .aload_n 0, 1), (686, .iload 4, 2), (688, .iconst 2, 1), (689, .iadd, 1), (690, .iaload, 1), (691, .aload_n 0, 1), (692, .iload 4, 2), (694, .iconst 3, 1), (695, .iadd, 1), (696, .iaload, 1), (697, .aload_n 3, 1), (698, .invokestatic 148, 3), (701, .istore 5, 2), (703, .aload_n 2, 1), (704, .aload_n 0, 1), (705, .iload 4, 2), (707, .iconst 1, 1), (708, .iadd, 1), (709, .iaload, 1), (710, .aload_n 0, 1), (711, .iload 4, 2), (713, .iconst 2, 1), (714, .iadd, 1), (715, .iaload, 1), (716, .aload_n 0, 1), (717, .iload 4, 2), (719, .iconst 3, 1), (720, .iadd, 1), (721, .iaload, 1), (722, .invokevirtual 150, 3), (725, .istore 6, 2), (727, .aload_n 2, 1), (728, .invokevirtual 118, 3), (731, .iload 5, 2), (733, .if_icmp .eq 5, 3), (736, .iconst 0, 1), (737, .ireturn, 1), (738, .iload 5, 2), (740, .ifCond .ne 15, 3), (743, .aload_n 3, 1), (744, .iconst 0, 1), (745, .laload, 1), (746, .iload 6, 2), (748, .i2l, 1), (749, .lcmp, 1), (750, .ifCond .eq 5, 3), (753, .iconst 0, 1), (754, .ireturn, 1), (755, .goto 1279, 3), (758, .aload_n 1, 1), (759, .aload_n 0, 1), (760, .iload 4, 2), (762, .iconst 1, 1), (763, .iadd, 1)]
def tb_L_law_7 : List (Nat × Instr × Nat) := [(764, .iaload, 1), (765, .i2c, 1), (766, .aload_n 0, 1), (767, .iload 4, 2), (769, .iconst 2, 1), (770, .iadd, 1), (771, .iaload, 1), (772, .i2c, 1), (773, .aload_n 0, 1), (774, .iload 4, 2), (776, .iconst 3, 1), (777, .iadd, 1), (778, .iaload, 1), (779, .ifCond .eq 7, 3), (782, .iconst 1, 1), (783, .goto 4, 3), (786, .iconst 0, 1), (787, .aload_n 3, 1), (788, .invokestatic 151, 3), (791, .istore 5, 2), (793, .aload_n 2, 1), (794, .aload_n 0, 1), (795, .iload 4, 2), (797, .iconst 1, 1), (798, .iadd, 1), (799, .iaload, 1), (800, .i2c, 1), (801, .aload_n 0, 1), (802, .iload 4, 2), (804, .iconst 2, 1), (805, .iadd, 1), (806, .iaload, 1), (807, .i2c, 1), (808, .aload_n 0, 1), (809, .iload 4, 2), (811, .iconst 3, 1), (812, .iadd, 1), (813, .iaload, 1), (814, .ifCond .eq 7, 3), (817, .iconst 1, 1), (818, .goto 4, 3), (821, .iconst 0, 1), (822, .invokevirtual 154, 3), (825, .istore 6, 2), (827, .aload_n 2, 1), (828, .invokevirtual 118, 3), (831, .iload 5, 2), (833, .if_icmp .eq 5, 3), (836, .iconst 0, 1), (837, .ireturn, 1), (838, .iload 5, 2), (840, .ifCond .ne 22, 3), (843, .aload_n 3, 1), (844, .iconst 0, 1), (845, .laload, 1), (846, .iload 6, 2), (848, .ifCond .eq 7, 3), (851, .lconst 1, 1), (852, .goto 4, 3), (855, .lconst 0, 1)]
def tb_L_law_8 : List (Nat × Instr × Nat) := [(856, .lcmp, 1), (857, .ifCond .eq 5, 3), (860, .iconst 0, 1), (861, .ireturn, 1), (862, .goto 1172, 3), (865, .aload_n 1, 1), (866, .aload_n 0, 1), (867, .iload 4, 2), (869, .iconst 1, 1), (870, .iadd, 1), (871, .iaload, 1), (872, .aload_n 3, 1), (873, .invokestatic 155, 3), (876, .istore 5, 2), (878, .aload_n 2, 1), (879, .aload_n 0, 1), (880, .iload 4, 2), (882, .iconst 1, 1), (883, .iadd, 1), (884, .iaload, 1), (885, .invokevirtual 157, 3), (888, .istore 6, 2), (890, .aload_n 2, 1), (891, .invokevirtual 118, 3), (894, .iload 5, 2), (896, .if_icmp .eq 5, 3), (899, .iconst 0, 1), (900, .ireturn, 1), (901, .iload 5, 2), (903, .ifCond .ne 15, 3), (906, .aload_n 3, 1), (907, .iconst 0, 1), (908, .laload, 1), (909, .iload 6, 2), (911, .i2l, 1), (912, .lcmp, 1), (913, .ifCond .eq 5, 3), (916, .iconst 0, 1), (917, .ireturn, 1), (918, .goto 1116, 3), (921, .aload_n 1, 1), (922, .aload_n 0, 1), (923, .iload 4, 2), (925, .iconst 1, 1), (926, .iadd, 1), (927, .iaload, 1), (928, .aload_n 3, 1), (929, .invokestatic 158, 3), (932, .istore 5, 2), (934, .aload_n 2, 1), (935, .aload_n 0, 1), (936, .iload 4, 2), (938, .iconst 1, 1), (939, .iadd, 1), (940, .iaload, 1), (941, .invokevirtual 160, 3), (944, .istore 6, 2), (946, .aload_n 2, 1), (947, .invokevirtual 118, 3), (950, .iload 5, 2)]
def tb_L_law_9 : List (Nat × Instr × Nat) := [(952, .if_icmp .eq 5, 3), (955, .iconst 0, 1), (956, .ireturn, 1), (957, .iload 5, 2), (959, .ifCond .ne 15, 3), (962, .aload_n 3, 1), (963, .iconst 0, 1), (964, .laload, 1), (965, .iload 6, 2), (967, .i2l, 1), (968, .lcmp, 1), (969, .ifCond .eq 5, 3), (972, .iconst 0, 1), (973, .ireturn, 1), (974, .goto 1060, 3), (977, .aload_n 1, 1), (978, .aload_n 0, 1), (979, .iload 4, 2), (981, .iconst 1, 1), (982, .iadd, 1), (983, .iaload, 1), (984, .aload_n 0, 1), (985, .iload 4, 2), (987, .iconst 2, 1), (988, .iadd, 1), (989, .iaload, 1), (990, .aload_n 0, 1), (991, .iload 4, 2), (993, .iconst 3, 1), (994, .iadd, 1), (995, .iaload, 1), (996, .aload_n 3, 1), (997, .invokestatic 161, 3), (1000, .istore 5, 2), (1002, .aload_n 2, 1), (1003, .aload_n 0, 1), (1004, .iload 4, 2), (1006, .iconst 1, 1), (1007, .iadd, 1), (1008, .iaload, 1), (1009, .aload_n 0, 1), (1010, .iload 4, 2), (1012, .iconst 2, 1), (1013, .iadd, 1), (1014, .iaload, 1), (1015, .aload_n 0, 1), (1016, .iload 4, 2), (1018, .iconst 3, 1), (1019, .iadd, 1), (1020, .iaload, 1), (1021, .invokevirtual 163, 3), (1024, .istore 6, 2), (1026, .aload_n 2, 1), (1027, .invokevirtual 118, 3), (1030, .iload 5, 2), (1032, .if_icmp .eq 5, 3), (1035, .iconst 0, 1), (1036, .ireturn, 1), (1037, .iload 5, 2), (1039, .ifCond .ne 15, 3)]
def tb_L_law_10 : List (Nat × Instr × Nat) := [(1042, .aload_n 3, 1), (1043, .iconst 0, 1), (1044, .laload, 1), (1045, .iload 6, 2), (1047, .i2l, 1), (1048, .lcmp, 1), (1049, .ifCond .eq 5, 3), (1052, .iconst 0, 1), (1053, .ireturn, 1), (1054, .goto 980, 3), (1057, .aload_n 1, 1), (1058, .aload_n 0, 1), (1059, .iload 4, 2), (1061, .iconst 1, 1), (1062, .iadd, 1), (1063, .iaload, 1), (1064, .aload_n 0, 1), (1065, .iload 4, 2), (1067, .iconst 2, 1), (1068, .iadd, 1), (1069, .iaload, 1), (1070, .aload_n 0, 1), (1071, .iload 4, 2), (1073, .iconst 3, 1), (1074, .iadd, 1), (1075, .iaload, 1), (1076, .aload_n 3, 1), (1077, .invokestatic 164, 3), (1080, .istore 5, 2), (1082, .aload_n 2, 1), (1083, .aload_n 0, 1), (1084, .iload 4, 2), (1086, .iconst 1, 1), (1087, .iadd, 1), (1088, .iaload, 1), (1089, .aload_n 0, 1), (1090, .iload 4, 2), (1092, .iconst 2, 1), (1093, .iadd, 1), (1094, .iaload, 1), (1095, .aload_n 0, 1), (1096, .iload 4, 2), (1098, .iconst 3, 1), (1099, .iadd, 1), (1100, .iaload, 1), (1101, .invokevirtual 166, 3), (1104, .istore 6, 2), (1106, .aload_n 2, 1), (1107, .invokevirtual 118, 3), (1110, .iload 5, 2), (1112, .if_icmp .eq 5, 3), (1115, .iconst 0, 1), (1116, .ireturn, 1), (1117, .iload 5, 2), (1119, .ifCond .ne 15, 3), (1122, .aload_n 3, 1), (1123, .iconst 0, 1), (1124, .laload, 1), (1125, .iload 6, 2), (1127, .i2l, 1)]
def tb_L_law_11 : List (Nat × Instr × Nat) := [(1128, .lcmp, 1), (1129, .ifCond .eq 5, 3), (1132, .iconst 0, 1), (1133, .ireturn, 1), (1134, .goto 900, 3), (1137, .aload_n 1, 1), (1138, .aload_n 0, 1), (1139, .iload 4, 2), (1141, .iconst 1, 1), (1142, .iadd, 1), (1143, .iaload, 1), (1144, .aload_n 0, 1), (1145, .iload 4, 2), (1147, .iconst 2, 1), (1148, .iadd, 1), (1149, .iaload, 1), (1150, .aload_n 3, 1), (1151, .invokestatic 167, 3), (1154, .istore 5, 2), (1156, .aload_n 2, 1), (1157, .aload_n 0, 1), (1158, .iload 4, 2), (1160, .iconst 1, 1), (1161, .iadd, 1), (1162, .iaload, 1), (1163, .aload_n 0, 1), (1164, .iload 4, 2), (1166, .iconst 2, 1), (1167, .iadd, 1), (1168, .iaload, 1), (1169, .invokevirtual 170, 3), (1172, .lstore 6, 2), (1174, .aload_n 2, 1), (1175, .invokevirtual 118, 3), (1178, .iload 5, 2), (1180, .if_icmp .eq 5, 3), (1183, .iconst 0, 1), (1184, .ireturn, 1), (1185, .iload 5, 2), (1187, .ifCond .ne 14, 3), (1190, .aload_n 3, 1), (1191, .iconst 0, 1), (1192, .laload, 1), (1193, .lload 6, 2), (1195, .lcmp, 1), (1196, .ifCond .eq 5, 3), (1199, .iconst 0, 1), (1200, .ireturn, 1), (1201, .goto 833, 3), (1204, .aload_n 1, 1), (1205, .aload_n 0, 1), (1206, .iload 4, 2), (1208, .iconst 1, 1), (1209, .iadd, 1), (1210, .iaload, 1), (1211, .aload_n 3, 1), (1212, .invokestatic 171, 3), (1215, .istore 5, 2), (1217, .aload_n 2, 1), (1218, .aload_n 0, 1)]
def tb_L_law_12 : List (Nat × Instr × Nat) := [(1219, .iload 4, 2), (1221, .iconst 1, 1), (1222, .iadd, 1), (1223, .iaload, 1), (1224, .invokevirtual 173, 3), (1227, .lstore 6, 2), (1229, .aload_n 2, 1), (1230, .invokevirtual 118, 3), (1233, .iload 5, 2), (1235, .if_icmp .eq 5, 3), (1238, .iconst 0, 1), (1239, .ireturn, 1), (1240, .iload 5, 2), (1242, .ifCond .ne 14, 3), (1245, .aload_n 3, 1), (1246, .iconst 0, 1), (1247, .laload, 1), (1248, .lload 6, 2), (1250, .lcmp, 1), (1251, .ifCond .eq 5, 3), (1254, .iconst 0, 1), (1255, .ireturn, 1), (1256, .goto 778, 3), (1259, .aload_n 1, 1), (1260, .aload_n 0, 1), (1261, .iload 4, 2), (1263, .iconst 1, 1), (1264, .iadd, 1), (1265, .iaload, 1), (1266, .aload_n 0, 1), (1267, .iload 4, 2), (1269, .iconst 2, 1), (1270, .iadd, 1), (1271, .iaload, 1), (1272, .aload_n 0, 1), (1273, .iload 4, 2), (1275, .iconst 3, 1), (1276, .iadd, 1), (1277, .iaload, 1), (1278, .aload_n 0, 1), (1279, .iload 4, 2), (1281, .iconst 4, 1), (1282, .iadd, 1), (1283, .iaload, 1), (1284, .aload_n 3, 1), (1285, .invokestatic 174, 3), (1288, .istore 5, 2), (1290, .aload_n 2, 1), (1291, .aload_n 0, 1), (1292, .iload 4, 2), (1294, .iconst 1, 1), (1295, .iadd, 1), (1296, .iaload, 1), (1297, .aload_n 0, 1), (1298, .iload 4, 2), (1300, .iconst 2, 1), (1301, .iadd, 1), (1302, .iaload, 1), (1303, .aload_n 0, 1), (1304, .iload 4, 2)]
def tb_L_law_13 : List (Nat × Instr × Nat) := [(1306, .iconst 3, 1), (1307, .iadd, 1), (1308, .iaload, 1), (1309, .aload_n 0, 1), (1310, .iload 4, 2), (1312, .iconst 4, 1), (1313, .iadd, 1), (1314, .iaload, 1), (1315, .invokevirtual 176, 3), (1318, .istore 6, 2), (1320, .aload_n 2, 1), (1321, .invokevirtual 118, 3), (1324, .iload 5, 2), (1326, .if_icmp .eq 5, 3), (1329, .iconst 0, 1), (1330, .ireturn, 1), (1331, .iload 5, 2), (1333, .ifCond .ne 15, 3), (1336, .aload_n 3, 1), (1337, .iconst 0, 1), (1338, .laload, 1), (1339, .iload 6, 2), (1341, .i2l, 1), (1342, .lcmp, 1), (1343, .ifCond .eq 5, 3), (1346, .iconst 0, 1), (1347, .ireturn, 1), (1348, .goto 686, 3), (1351, .aload_n 1, 1), (1352, .aload_n 0, 1), (1353, .iload 4, 2), (1355, .iconst 1, 1), (1356, .iadd, 1), (1357, .iaload, 1), (1358, .aload_n 0, 1), (1359, .iload 4, 2), (1361, .iconst 2, 1), (1362, .iadd, 1), (1363, .iaload, 1), (1364, .aload_n 3, 1), (1365, .invokestatic 177, 3), (1368, .istore 5, 2), (1370, .aload_n 2, 1), (1371, .aload_n 0, 1), (1372, .iload 4, 2), (1374, .iconst 1, 1), (1375, .iadd, 1), (1376, .iaload, 1), (1377, .aload_n 0, 1), (1378, .iload 4, 2), (1380, .iconst 2, 1), (1381, .iadd, 1), (1382, .iaload, 1), (1383, .invokevirtual 179, 3), (1386, .istore 6, 2), (1388, .aload_n 2, 1), (1389, .invokevirtual 118, 3), (1392, .iload 5, 2), (1394, .if_icmp .eq 5, 3), (1397, .iconst 0, 1)]
def tb_L_law_14 : List (Nat × Instr × Nat) := [(1398, .ireturn, 1), (1399, .iload 5, 2), (1401, .ifCond .ne 22, 3), (1404, .aload_n 3, 1), (1405, .iconst 0, 1), (1406, .laload, 1), (1407, .iload 6, 2), (1409, .ifCond .eq 7, 3), (1412, .lconst 1, 1), (1413, .goto 4, 3), (1416, .lconst 0, 1), (1417, .lcmp, 1), (1418, .ifCond .eq 5, 3), (1421, .iconst 0, 1), (1422, .ireturn, 1), (1423, .goto 611, 3), (1426, .aload_n 1, 1), (1427, .aload_n 0, 1), (1428, .iload 4, 2), (1430, .iconst 1, 1), (1431, .iadd, 1), (1432, .iaload, 1), (1433, .aload_n 0, 1), (1434, .iload 4, 2), (1436, .iconst 2, 1), (1437, .iadd, 1), (1438, .iaload, 1), (1439, .aload_n 3, 1), (1440, .invokestatic 180, 3), (1443, .istore 5, 2), (1445, .aload_n 2, 1), (1446, .aload_n 0, 1), (1447, .iload 4, 2), (1449, .iconst 1, 1), (1450, .iadd, 1), (1451, .iaload, 1), (1452, .aload_n 0, 1), (1453, .iload 4, 2), (1455, .iconst 2, 1), (1456, .iadd, 1), (1457, .iaload, 1), (1458, .invokevirtual 182, 3), (1461, .istore 6, 2), (1463, .aload_n 2, 1), (1464, .invokevirtual 118, 3), (1467, .iload 5, 2), (1469, .if_icmp .eq 5, 3), (1472, .iconst 0, 1), (1473, .ireturn, 1), (1474, .iload 5, 2), (1476, .ifCond .ne 15, 3), (1479, .aload_n 3, 1), (1480, .iconst 0, 1), (1481, .laload, 1), (1482, .iload 6, 2), (1484, .i2l, 1), (1485, .lcmp, 1), (1486, .ifCond .eq 5, 3), (1489, .iconst 0, 1), (1490, .ireturn, 1)]
def tb_L_law_15 : List (Nat × Instr × Nat) := [(1491, .goto 543, 3), (1494, .aload_n 1, 1), (1495, .aload_n 0, 1), (1496, .iload 4, 2), (1498, .iconst 1, 1), (1499, .iadd, 1), (1500, .iaload, 1), (1501, .aload_n 0, 1), (1502, .iload 4, 2), (1504, .iconst 2, 1), (1505, .iadd, 1), (1506, .iaload, 1), (1507, .aload_n 3, 1), (1508, .invokestatic 183, 3), (1511, .istore 5, 2), (1513, .aload_n 2, 1), (1514, .aload_n 0, 1), (1515, .iload 4, 2), (1517, .iconst 1, 1), (1518, .iadd, 1), (1519, .iaload, 1), (1520, .aload_n 0, 1), (1521, .iload 4, 2), (1523, .iconst 2, 1), (1524, .iadd, 1), (1525, .iaload, 1), (1526, .invokevirtual 185, 3), (1529, .istore 6, 2), (1531, .aload_n 2, 1), (1532, .invokevirtual 118, 3), (1535, .iload 5, 2), (1537, .if_icmp .eq 5, 3), (1540, .iconst 0, 1), (1541, .ireturn, 1), (1542, .iload 5, 2), (1544, .ifCond .ne 15, 3), (1547, .aload_n 3, 1), (1548, .iconst 0, 1), (1549, .laload, 1), (1550, .iload 6, 2), (1552, .i2l, 1), (1553, .lcmp, 1), (1554, .ifCond .eq 5, 3), (1557, .iconst 0, 1), (1558, .ireturn, 1), (1559, .goto 475, 3), (1562, .aload_n 1, 1), (1563, .aload_n 0, 1), (1564, .iload 4, 2), (1566, .iconst 1, 1), (1567, .iadd, 1), (1568, .iaload, 1), (1569, .aload_n 3, 1), (1570, .invokestatic 186, 3), (1573, .istore 5, 2), (1575, .aload_n 2, 1), (1576, .aload_n 0, 1), (1577, .iload 4, 2), (1579, .iconst 1, 1), (1580, .iadd, 1)]
def tb_L_law_16 : List (Nat × Instr × Nat) := [(1581, .iaload, 1), (1582, .invokevirtual 188, 3), (1585, .istore 6, 2), (1587, .aload_n 2, 1), (1588, .invokevirtual 118, 3), (1591, .iload 5, 2), (1593, .if_icmp .eq 5, 3), (1596, .iconst 0, 1), (1597, .ireturn, 1), (1598, .iload 5, 2), (1600, .ifCond .ne 15, 3), (1603, .aload_n 3, 1), (1604, .iconst 0, 1), (1605, .laload, 1), (1606, .iload 6, 2), (1608, .i2l, 1), (1609, .lcmp, 1), (1610, .ifCond .eq 5, 3), (1613, .iconst 0, 1), (1614, .ireturn, 1), (1615, .goto 419, 3), (1618, .aload_n 1, 1), (1619, .aload_n 0, 1), (1620, .iload 4, 2), (1622, .iconst 1, 1), (1623, .iadd, 1), (1624, .iaload, 1), (1625, .aload_n 0, 1), (1626, .iload 4, 2), (1628, .iconst 2, 1), (1629, .iadd, 1), (1630, .iaload, 1), (1631, .aload_n 3, 1), (1632, .invokestatic 189, 3), (1635, .istore 5, 2), (1637, .aload_n 2, 1), (1638, .aload_n 0, 1), (1639, .iload 4, 2), (1641, .iconst 1, 1), (1642, .iadd, 1), (1643, .iaload, 1), (1644, .aload_n 0, 1), (1645, .iload 4, 2), (1647, .iconst 2, 1), (1648, .iadd, 1), (1649, .iaload, 1), (1650, .invokevirtual 191, 3), (1653, .istore 6, 2), (1655, .aload_n 2, 1), (1656, .invokevirtual 118, 3), (1659, .iload 5, 2), (1661, .if_icmp .eq 5, 3), (1664, .iconst 0, 1), (1665, .ireturn, 1), (1666, .iload 5, 2), (1668, .ifCond .ne 15, 3), (1671, .aload_n 3, 1), (1672, .iconst 0, 1), (1673, .laload, 1), (1674, .iload 6, 2)]
def tb_L_law_17 : List (Nat × Instr × Nat) := [(1676, .i2l, 1), (1677, .lcmp, 1), (1678, .ifCond .eq 5, 3), (1681, .iconst 0, 1), (1682, .ireturn, 1), (1683, .goto 351, 3), (1686, .aload_n 1, 1), (1687, .aload_n 0, 1), (1688, .iload 4, 2), (1690, .iconst 1, 1), (1691, .iadd, 1), (1692, .iaload, 1), (1693, .aload_n 0, 1), (1694, .iload 4, 2), (1696, .iconst 2, 1), (1697, .iadd, 1), (1698, .iaload, 1), (1699, .aload_n 3, 1), (1700, .invokestatic 192, 3), (1703, .istore 5, 2), (1705, .aload_n 2, 1), (1706, .aload_n 0, 1), (1707, .iload 4, 2), (1709, .iconst 1, 1), (1710, .iadd, 1), (1711, .iaload, 1), (1712, .aload_n 0, 1), (1713, .iload 4, 2), (1715, .iconst 2, 1), (1716, .iadd, 1), (1717, .iaload, 1), (1718, .invokevirtual 194, 3), (1721, .istore 6, 2), (1723, .aload_n 2, 1), (1724, .invokevirtual 118, 3), (1727, .iload 5, 2), (1729, .if_icmp .eq 5, 3), (1732, .iconst 0, 1), (1733, .ireturn, 1), (1734, .iload 5, 2), (1736, .ifCond .ne 15, 3), (1739, .aload_n 3, 1), (1740, .iconst 0, 1), (1741, .laload, 1), (1742, .iload 6, 2), (1744, .i2l, 1), (1745, .lcmp, 1), (1746, .ifCond .eq 5, 3), (1749, .iconst 0, 1), (1750, .ireturn, 1), (1751, .goto 283, 3), (1754, .aload_n 1, 1), (1755, .aload_n 0, 1), (1756, .iload 4, 2), (1758, .iconst 1, 1), (1759, .iadd, 1), (1760, .iaload, 1), (1761, .aload_n 3, 1), (1762, .invokestatic 195, 3), (1765, .istore 5, 2)]
def tb_L_law_18 : List (Nat × Instr × Nat) := [(1767, .aload_n 2, 1), (1768, .aload_n 0, 1), (1769, .iload 4, 2), (1771, .iconst 1, 1), (1772, .iadd, 1), (1773, .iaload, 1), (1774, .invokevirtual 197, 3), (1777, .istore 6, 2), (1779, .aload_n 2, 1), (1780, .invokevirtual 118, 3), (1783, .iload 5, 2), (1785, .if_icmp .eq 5, 3), (1788, .iconst 0, 1), (1789, .ireturn, 1), (1790, .iload 5, 2), (1792, .ifCond .ne 15, 3), (1795, .aload_n 3, 1), (1796, .iconst 0, 1), (1797, .laload, 1), (1798, .iload 6, 2), (1800, .i2l, 1), (1801, .lcmp, 1), (1802, .ifCond .eq 5, 3), (1805, .iconst 0, 1), (1806, .ireturn, 1), (1807, .goto 227, 3), (1810, .aload_n 1, 1), (1811, .aload_n 0, 1), (1812, .iload 4, 2), (1814, .iconst 1, 1), (1815, .iadd, 1), (1816, .iaload, 1), (1817, .aload_n 3, 1), (1818, .invokestatic 198, 3), (1821, .istore 5, 2), (1823, .aload_n 2, 1), (1824, .aload_n 0, 1), (1825, .iload 4, 2), (1827, .iconst 1, 1), (1828, .iadd, 1), (1829, .iaload, 1), (1830, .invokevirtual 200, 3), (1833, .istore 6, 2), (1835, .aload_n 2, 1), (1836, .invokevirtual 118, 3), (1839, .iload 5, 2), (1841, .if_icmp .eq 5, 3), (1844, .iconst 0, 1), (1845, .ireturn, 1), (1846, .iload 5, 2), (1848, .ifCond .ne 15, 3), (1851, .aload_n 3, 1), (1852, .iconst 0, 1), (1853, .laload, 1), (1854, .iload 6, 2), (1856, .i2l, 1), (1857, .lcmp, 1), (1858, .ifCond .eq 5, 3), (1861, .iconst 0, 1), (1862, .ireturn, 1)]
def tb_L_law_19 : List (Nat × Instr × Nat) := [(1863, .goto 171, 3), (1866, .aload_n 1, 1), (1867, .aload_n 0, 1), (1868, .iload 4, 2), (1870, .iconst 1, 1), (1871, .iadd, 1), (1872, .iaload, 1), (1873, .aload_n 3, 1), (1874, .invokestatic 201, 3), (1877, .istore 5, 2), (1879, .aload_n 2, 1), (1880, .aload_n 0, 1), (1881, .iload 4, 2), (1883, .iconst 1, 1), (1884, .iadd, 1), (1885, .iaload, 1), (1886, .invokevirtual 203, 3), (1889, .istore 6, 2), (1891, .aload_n 2, 1), (1892, .invokevirtual 118, 3), (1895, .iload 5, 2), (1897, .if_icmp .eq 5, 3), (1900, .iconst 0, 1), (1901, .ireturn, 1), (1902, .iload 5, 2), (1904, .ifCond .ne 15, 3), (1907, .aload_n 3, 1), (1908, .iconst 0, 1), (1909, .laload, 1), (1910, .iload 6, 2), (1912, .i2l, 1), (1913, .lcmp, 1), (1914, .ifCond .eq 5, 3), (1917, .iconst 0, 1), (1918, .ireturn, 1), (1919, .goto 115, 3), (1922, .aload_n 1, 1), (1923, .aload_n 0, 1), (1924, .iload 4, 2), (1926, .iconst 1, 1), (1927, .iadd, 1), (1928, .iaload, 1), (1929, .aload_n 3, 1), (1930, .invokestatic 204, 3), (1933, .istore 5, 2), (1935, .aload_n 2, 1), (1936, .aload_n 0, 1), (1937, .iload 4, 2), (1939, .iconst 1, 1), (1940, .iadd, 1), (1941, .iaload, 1), (1942, .invokevirtual 206, 3), (1945, .istore 6, 2), (1947, .aload_n 2, 1), (1948, .invokevirtual 118, 3), (1951, .iload 5, 2), (1953, .if_icmp .eq 5, 3), (1956, .iconst 0, 1), (1957, .ireturn, 1), (1958, .iload 5, 2)]
def tb_L_law_20 : List (Nat × Instr × Nat) := [(1960, .ifCond .ne 15, 3), (1963, .aload_n 3, 1), (1964, .iconst 0, 1), (1965, .laload, 1), (1966, .iload 6, 2), (1968, .i2l, 1), (1969, .lcmp, 1), (1970, .ifCond .eq 5, 3), (1973, .iconst 0, 1), (1974, .ireturn, 1), (1975, .goto 59, 3), (1978, .aload_n 1, 1), (1979, .aload_n 0, 1), (1980, .iload 4, 2), (1982, .iconst 1, 1), (1983, .iadd, 1), (1984, .iaload, 1), (1985, .aload_n 3, 1), (1986, .invokestatic 207, 3), (1989, .istore 5, 2), (1991, .aload_n 2, 1), (1992, .aload_n 0, 1), (1993, .iload 4, 2), (1995, .iconst 1, 1), (1996, .iadd, 1), (1997, .iaload, 1), (1998, .invokevirtual 209, 3), (2001, .istore 6, 2), (2003, .aload_n 2, 1), (2004, .invokevirtual 118, 3), (2007, .iload 5, 2), (2009, .if_icmp .eq 5, 3), (2012, .iconst 0, 1), (2013, .ireturn, 1), (2014, .iload 5, 2), (2016, .ifCond .ne 15, 3), (2019, .aload_n 3, 1), (2020, .iconst 0, 1), (2021, .laload, 1), (2022, .iload 6, 2), (2024, .i2l, 1), (2025, .lcmp, 1), (2026, .ifCond .eq 5, 3), (2029, .iconst 0, 1), (2030, .ireturn, 1), (2031, .goto 3, 3), (2034, .iinc 4 5, 3), (2037, .goto (-2014), 3), (2040, .iconst 1, 1), (2041, .ireturn, 1)]
theorem dd_L_law_0 : ∀ (k pc : Nat) (ins : Instr) (n : Nat), tb_L_law_0[k]? = some (pc, ins, n) → decode cL_law pc = .ok (ins, n) := dd_of (by decide +kernel)
theorem dd_L_law_1 : ∀ (k pc : Nat) (ins : Instr) (n : Nat), tb_L_law_1[k]? = some (pc, ins, n) → decode cL_law pc = .ok (ins, n) := dd_of (by decide +kernel)
theorem dd_L_law_2 : ∀ (k pc : Nat) (ins : Instr) (n : Nat), tb_L_law_2[k]? = some (pc, ins, n) → decode cL_law pc = .ok (ins, n) := dd_of (by decide +kernel)
theorem dd_L_law_3 : ∀ (k pc : Nat) (ins : Instr) (n : Nat), tb_L_law_3[k]? = some (pc, ins, n) → decode cL_law pc = .ok (ins, n) := dd_of (by decide +kernel)
theorem dd_L_law_4 : ∀ (k pc : Nat) (ins : Instr) (n : Nat), tb_L_law_4[k]? = some (pc, ins, n) → decode cL_law pc = .ok (ins, n) := dd_of (by decide +kernel)
theorem dd_L_law_5 : ∀ (k pc : Nat) (ins : Instr) (n : Nat), tb_L_law_5[k]? = some (pc, ins, n) → decode cL_law pc = .ok (ins, n) := dd_of (by decide +kernel)
theorem dd_L_law_6 : ∀ (k pc : Nat) (ins : Instr) (n : Nat), tb_L_law_6[k]? = some (pc, ins, n) → decode cL_law pc = .ok (ins, n) := dd_of (by decide +kernel)
theorem dd_L_law_7 : ∀ (k pc : Nat) (ins : Instr) (n : Nat), tb_L_law_7[k]? = some (pc, ins, n) → decode cL_law pc = .ok (ins, n) := dd_of (by decide +kernel)
theorem dd_L_law_8 : ∀ (k pc : Nat) (ins : Instr) (n : Nat), tb_L_law_8[k]? = some (pc, ins, n) → decode cL_law pc = .ok (ins, n) := dd_of (by decide +kernel)
theorem dd_L_law_9 : ∀ (k pc : Nat) (ins : Instr) (n : Nat), tb_L_law_9[k]? = some (pc, ins, n) → decode cL_law pc = .ok (ins, n) := dd_of (by decide +kernel)
theorem dd_L_law_10 : ∀ (k pc : Nat) (ins : Instr) (n : Nat), tb_L_law_10[k]? = some (pc, ins, n) → decode cL_law pc = .ok (ins, n) := dd_of (by decide +kernel)
theorem dd_L_law_11 : ∀ (k pc : Nat) (ins : Instr) (n : Nat), tb_L_law_11[k]? = some (pc, ins, n) → decode cL_law pc = .ok (ins, n) := dd_of (by decide +kernel)
theorem dd_L_law_12 : ∀ (k pc : Nat) (ins : Instr) (n : Nat), tb_L_law_12[k]? = some (pc, ins, n) → decode cL_law pc = .ok (ins, n) := dd_of (by decide +kernel)
theorem dd_L_law_13 : ∀ (k pc : Nat) (ins : Instr) (n : Nat), tb_L_law_13[k]? = some (pc, ins, n) → decode cL_law pc = .ok (ins, n) := dd_of (by decide +kernel)
theorem dd_L_law_14 : ∀ (k pc : Nat) (ins : Instr) (n : Nat), tb_L_law_14[k]? = some (pc, ins, n) → decode cL_law pc = .ok (ins, n) := dd_of (by decide +kernel)
theorem dd_L_law_15 : ∀ (k pc : Nat) (ins : Instr) (n : Nat), tb_L_law_15[k]? = some (pc, ins, n) → decode cL_law pc = .ok (ins, n) := dd_of (by decide +kernel)
theorem dd_L_law_16 : ∀ (k pc : Nat) (ins : Instr) (n : Nat), tb_L_law_16[k]? = some (pc, ins, n) → decode cL_law pc = .ok (ins, n) := dd_of (by decide +kernel)
theorem dd_L_law_17 : ∀ (k pc : Nat) (ins : Instr) (n : Nat), tb_L_law_17[k]? = some (pc, ins, n) → decode cL_law pc = .ok (ins, n) := dd_of (by decide +kernel)
theorem dd_L_law_18 : ∀ (k pc : Nat) (ins : Instr) (n : Nat), tb_L_law_18[k]? = some (pc, ins, n) → decode cL_law pc = .ok (ins, n) := dd_of (by decide +kernel)
theorem dd_L_law_19 : ∀ (k pc : Nat) (ins : Instr) (n : Nat), tb_L_law_19[k]? = some (pc, ins, n) → decode cL_law pc = .ok (ins, n) := dd_of (by decide +kernel)
theorem dd_L_law_20 : ∀ (k pc : Nat) (ins : Instr) (n : Nat), tb_L_law_20[k]? = some (pc, ins, n) → decode cL_law pc = .ok (ins, n) := dd_of (by decide +kernel)
end
section
def zI (z : Int) : Int32 := Int32.ofInt z
def zL (z : Int) : Int64 := Int64.ofInt z
abbrev zR (z : Int) : Prop := -2147483648 ≤ z ∧ z ≤ 2147483647
abbrev zQ (z : Int) : Prop := -9223372036854775808 ≤ z ∧ z ≤ 9223372036854775807
theorem zI_toInt {z : Int} (h : zR z) : (zI z).toInt = z := Int32.toInt_ofInt_of_le (by omega) (by omega)
theorem zL_toInt {z : Int} (h : zQ z) : (zL z).toInt = z := Int64.toInt_ofInt_of_le (by omega) (by omega)
theorem zI_self (x : Int32) : zI x.toInt = x := Int32.ofInt_toInt x
theorem zL_self (x : Int64) : zL x.toInt = x := Int64.ofInt_toInt x
theorem zR_self (x : Int32) : zR x.toInt := ⟨Int32.le_toInt x, by have := Int32.toInt_lt x; omega⟩
theorem zQ_self (x : Int64) : zQ x.toInt := ⟨Int64.le_toInt x, by have := Int64.toInt_lt x; omega⟩
theorem zI_add (a b : Int) : zI a + zI b = zI (a + b) := (Int32.ofInt_add a b).symm
theorem zI_sub (a b : Int) : zI a - zI b = zI (a - b) := (Int32.ofInt_sub a b).symm
theorem zI_mul (a b : Int) : zI a * zI b = zI (a * b) := (Int32.ofInt_mul a b).symm
theorem zI_neg (a : Int) : - zI a = zI (-a) := (Int32.ofInt_neg a).symm
theorem zL_add (a b : Int) : zL a + zL b = zL (a + b) := (Int64.ofInt_add a b).symm
theorem zL_sub (a b : Int) : zL a - zL b = zL (a - b) := (Int64.ofInt_sub a b).symm
theorem zL_mul (a b : Int) : zL a * zL b = zL (a * b) := (Int64.ofInt_mul a b).symm
theorem zL_neg (a : Int) : - zL a = zL (-a) := (Int64.ofInt_neg a).symm
theorem zI_eq {a b : Int} (ha : zR a) (hb : zR b) : zI a = zI b ↔ a = b := by
  constructor
  · intro h
    have := congrArg Int32.toInt h
    rwa [zI_toInt ha, zI_toInt hb] at this
  · intro h; rw [h]
theorem zI_lt {a b : Int} (ha : zR a) (hb : zR b) : zI a < zI b ↔ a < b := by
  rw [Int32.lt_iff_toInt_lt, zI_toInt ha, zI_toInt hb]
theorem zI_le {a b : Int} (ha : zR a) (hb : zR b) : zI a ≤ zI b ↔ a ≤ b := by
  rw [Int32.le_iff_toInt_le, zI_toInt ha, zI_toInt hb]
theorem zL_eq {a b : Int} (ha : zQ a) (hb : zQ b) : zL a = zL b ↔ a = b := by
  constructor
  · intro h
    have := congrArg Int64.toInt h
    rwa [zL_toInt ha, zL_toInt hb] at this
  · intro h; rw [h]
theorem zL_lt {a b : Int} (ha : zQ a) (hb : zQ b) : zL a < zL b ↔ a < b := by
  rw [Int64.lt_iff_toInt_lt, zL_toInt ha, zL_toInt hb]
theorem zL_le {a b : Int} (ha : zQ a) (hb : zQ b) : zL a ≤ zL b ↔ a ≤ b := by
  rw [Int64.le_iff_toInt_le, zL_toInt ha, zL_toInt hb]
theorem zI_0 : (0 : Int32) = zI 0 := rfl
theorem zI_div {a b : Int} (ha : zR a) (hb : zR b) (h0 : 0 ≤ a) (h1 : 0 < b) : zI a / zI b = zI (a / b) := by
  apply Int32.toInt_inj.mp
  have hq : zR (a / b) := by
    have h2 := Int.ediv_nonneg h0 (Int.le_of_lt h1)
    have h3 := Int.ediv_le_self b h0
    unfold zR at *; omega
  rw [Int32.toInt_div_of_ne_right, zI_toInt ha, zI_toInt hb, zI_toInt hq, Int.tdiv_eq_ediv_of_nonneg h0]
  · intro h
    have := congrArg Int32.toInt h
    rw [zI_toInt hb] at this
    have h9 : ((-1 : Int32)).toInt = -1 := rfl
    omega
theorem zI_rem {a b : Int} (ha : zR a) (hb : zR b) (h0 : 0 ≤ a) (h1 : 0 < b) : zI a - zI a / zI b * zI b = zI (a % b) := by
  rw [zI_div ha hb h0 h1, zI_mul, zI_sub]
  congr 1
  rw [Int.emod_def, Int.mul_comm]
theorem zI_in {i : Int} {n : Nat} (hn : (n : Int) ≤ 2147483647) (h0 : 0 ≤ i) (h1 : i < n) : vp_in (zI i) n := by
  rw [vp_in_iff, zI_toInt (by unfold zR; omega)]
  exact ⟨h0, h1⟩
theorem zI_clamp {i : Int} (h0 : 0 ≤ i) (h1 : i ≤ 2147483647) : (zI i).toNatClampNeg = i.toNat := by
  rw [Int32.toNatClampNeg, zI_toInt (by unfold zR; omega)]
theorem zI_nonneg {i : Int} (h : zR i) (h0 : 0 ≤ i) : ¬ zI i < 0 := by
  rw [zI_0, zI_lt h (by unfold zR; omega)]; omega
theorem zI_char {c : Int} (h0 : 0 ≤ c) (h1 : c < 65536) : ((zI c).toUInt32 % 65536).toInt32 = zI c := by
  have hx : zI c = nI c.toNat := by
    unfold zI nI
    rw [← Int32.ofInt_eq_ofNat, Int.toNat_of_nonneg h0]
  rw [hx, pk_char, pk_tn (by omega)]
  rw [Nat.mod_eq_of_lt (by omega)]
theorem zI_nI {c : Int} (h0 : 0 ≤ c) : zI c = nI c.toNat := by
    unfold zI nI
    rw [← Int32.ofInt_eq_ofNat, Int.toNat_of_nonneg h0]
theorem zL_lN {c : Int} (h0 : 0 ≤ c) : zL c = lN c.toNat := by
    unfold zL lN
    rw [← Int64.ofInt_eq_ofNat, Int.toNat_of_nonneg h0]
theorem zI_toL {a : Int} (h : zR a) : (zI a).toInt64 = zL a := by
  apply Int64.toInt_inj.mp
  rw [Int32.toInt_toInt64, zI_toInt h, zL_toInt (by unfold zR zQ at *; omega)]
theorem zL_toI {a : Int} (h : zR a) : (zL a).toInt32 = zI a := by
  rw [← zI_toL h, Int32.toInt32_toInt64]
theorem zI_lit (n : Int) : Int32.ofInt n = zI n := rfl
theorem zI_b8 {n : Int} (h : -128 ≤ n ∧ n ≤ 127) : (Int8.ofInt n).toInt32 = zI n := by
  apply Int32.toInt_inj.mp
  rw [Int8.toInt_toInt32, zI_toInt (by unfold zR; omega), Int8.toInt_ofInt_of_le (by omega) (by omega)]
theorem zI_b16 {n : Int} (h : -32768 ≤ n ∧ n ≤ 32767) : (Int16.ofInt n).toInt32 = zI n := by
  apply Int32.toInt_inj.mp
  rw [Int16.toInt_toInt32, zI_toInt (by unfold zR; omega), Int16.toInt_ofInt_of_le (by omega) (by omega)]
theorem zI_toChar (x : Int32) : ∃ c : Int, 0 ≤ c ∧ c < 65536 ∧ (x.toUInt32 % 65536).toInt32 = zI c ∧ c = x.toInt % 65536 := by
  refine ⟨x.toInt % 65536, by omega, by omega, ?_, rfl⟩
  rw [pk_char, zI_nI (by omega)]
  congr 1
  have h1 : (x.toBitVec.toNat : Int) % 65536 = x.toInt % 65536 := by
    rw [← Int32.toInt_toBitVec, BitVec.toInt_eq_toNat_bmod, Int.bmod_def]
    split <;> omega
  omega
end
section
abbrev zH : Type := (Nat → Nat) × (Nat → Nat) × (Nat → Nat → Int) × (Nat → Nat → Int) × (Nat → Nat → Option Nat) × (Nat → Nat → Int) × (Nat → Nat → Int) × (Nat → Nat → Option Nat)
def kd_ (h : zH) : Nat → Nat := h.1
def ln_ (h : zH) : Nat → Nat := h.2.1
def fi_ (h : zH) : Nat → Nat → Int := h.2.2.1
def fj_ (h : zH) : Nat → Nat → Int := h.2.2.2.1
def fr_ (h : zH) : Nat → Nat → Option Nat := h.2.2.2.2.1
def ai_ (h : zH) : Nat → Nat → Int := h.2.2.2.2.2.1
def aj_ (h : zH) : Nat → Nat → Int := h.2.2.2.2.2.2.1
def ar_ (h : zH) : Nat → Nat → Option Nat := h.2.2.2.2.2.2.2
def zu1 {α : Type} (f : Nat → α) (a : Nat) (v : α) : Nat → α := fun b => if b = a then v else f b
def zu2 {α : Type} (f : Nat → Nat → α) (a k : Nat) (v : α) : Nat → Nat → α := fun b j => if b = a ∧ j = k then v else f b j
def sfi (h : zH) (a k : Nat) (v : Int) : zH := (h.1, h.2.1, zu2 h.2.2.1 a k v, h.2.2.2)
def sfj (h : zH) (a k : Nat) (v : Int) : zH := (h.1, h.2.1, h.2.2.1, zu2 h.2.2.2.1 a k v, h.2.2.2.2)
def sfr (h : zH) (a k : Nat) (v : Option Nat) : zH := (h.1, h.2.1, h.2.2.1, h.2.2.2.1, zu2 h.2.2.2.2.1 a k v, h.2.2.2.2.2)
def sai (h : zH) (a k : Nat) (v : Int) : zH := (h.1, h.2.1, h.2.2.1, h.2.2.2.1, h.2.2.2.2.1, zu2 h.2.2.2.2.2.1 a k v, h.2.2.2.2.2.2)
def saj (h : zH) (a k : Nat) (v : Int) : zH := (h.1, h.2.1, h.2.2.1, h.2.2.2.1, h.2.2.2.2.1, h.2.2.2.2.2.1, zu2 h.2.2.2.2.2.2.1 a k v, h.2.2.2.2.2.2.2)
def sar (h : zH) (a k : Nat) (v : Option Nat) : zH := (h.1, h.2.1, h.2.2.1, h.2.2.2.1, h.2.2.2.2.1, h.2.2.2.2.2.1, h.2.2.2.2.2.2.1, zu2 h.2.2.2.2.2.2.2 a k v)
/-- an object of the kind c, born at a -/
def nob (h : zH) (a c : Nat) : zH := (zu1 h.1 a (c + 1), h.2.1, (fun b j => if b = a then 0 else h.2.2.1 b j), (fun b j => if b = a then 0 else h.2.2.2.1 b j), (fun b j => if b = a then none else h.2.2.2.2.1 b j), h.2.2.2.2.2)
/-- an array of the kind k with n places, born at a -/
def nar (h : zH) (a k n : Nat) : zH := (zu1 h.1 a k, zu1 h.2.1 a n, h.2.2.1, h.2.2.2.1, h.2.2.2.2.1, (fun b j => if b = a then 0 else h.2.2.2.2.2.1 b j), (fun b j => if b = a then 0 else h.2.2.2.2.2.2.1 b j), (fun b j => if b = a then none else h.2.2.2.2.2.2.2 b j))
def z_tys : List (Nat → FieldType) := [tyJ0, tyJ4, tyJx4a65c, tyX0, tyX1, tyX2, tyX3, tyX4, tyX5, tyX6, tyX7, tyX8, tyX9, tyX10, tyX11, tyX12]
def z_ty (c : Nat) : Nat → FieldType := z_tys.getD c tyJ0
def z_Ns : List Nat := [4, 4, 3, 2, 3, 4, 5, 3, 2, 3, 4, 5, 5, 7, 10, 44]
def z_N (c : Nat) : Nat := z_Ns.getD c 0
def z_val (ty : FieldType) (i j : Int) (r : Option Nat) : Value := match ty with
  | .long => .long (zL j)
  | .object _ => va_rf r
  | .array _ => va_rf r
  | _ => .int (zI i)
def z_fld (h : zH) (a c k : Nat) : Value := z_val (z_ty c k) (fi_ h a k) (fj_ h a k) (fr_ h a k)
def z_obj (h : zH) (a c : Nat) : List Value := (List.range (z_N c)).map (z_fld h a c)
def z_aty (k : Nat) : FieldType := match k with
  | 20 => .int
  | 21 => .char
  | 22 => .boolean
  | 23 => .long
  | 24 => .byte
  | 26 => .object "Platehall$Course"
  | _ => .object "java/lang/Object"
def z_con (h : zH) (a k : Nat) : (Nat → Int32) ⊕ (Nat → Int64) ⊕ (Nat → UInt32) ⊕ (Nat → UInt64) ⊕ (Nat → Option Nat) := match k with
  | 20 => .inl fun j => zI (ai_ h a j)
  | 21 => .inl fun j => zI (ai_ h a j)
  | 22 => .inl fun j => zI (ai_ h a j)
  | 24 => .inl fun j => zI (ai_ h a j)
  | 23 => .inr (.inl fun j => zL (aj_ h a j))
  | _ => .inr (.inr (.inr (.inr fun j => ar_ h a j)))
def z_at (dA : Nat → ClassId) (h : zH) (a : Nat) (k : Nat) : Option va_E := match k with
  | 0 => none
  | c + 1 => if c < 16 then some (.inr (c, z_obj h a c)) else if c < 27 then some (.inl (dA (c + 1), (ln_ h a, z_con h a (c + 1)))) else none
def z_ent (dA : Nat → ClassId) (h : zH) (a : Nat) : Option va_E := z_at dA h a (kd_ h a)
def z_ro (k : Nat) : Prop := k = 1 ∨ k = 24 ∨ k = 27
abbrev zGT : Type := Launch × State × Array Value × va_G × (Nat → ClassId) × Nat
abbrev gl_ (g : zGT) : Launch := g.1
abbrev gS_ (g : zGT) : State := g.2.1
abbrev ga_ (g : zGT) : Array Value := g.2.2.1
abbrev gD_ (g : zGT) : va_G := g.2.2.2.1
abbrev gA_ (g : zGT) : Nat → ClassId := g.2.2.2.2.1
abbrev ge_ (g : zGT) : Nat := g.2.2.2.2.2
def zP (g : zGT) (h : zH) (H : Heap) : Prop :=
  (∀ a e, z_ent (gA_ g) h a = some e → va_at (gD_ g) vwCl (a, e) H) ∧ (∀ a, kd_ h a ≠ 0 → ¬ z_ro (kd_ h a) → (gS_ g).heap.size ≤ a) ∧ (∀ q, q < (gS_ g).heap.size → H[q]? = (gS_ g).heap[q]?) ∧ (gS_ g).heap.size ≤ H.size ∧ (∀ a, kd_ h a ≠ 0 → a < H.size) ∧ kd_ h (ge_ g) = 27 ∧ ln_ h (ge_ g) = 0
theorem z_at_obj {dA : Nat → ClassId} {h : zH} {a c : Nat} (hk : kd_ h a = c + 1) (hc : c < 16) : z_ent dA h a = some (.inr (c, z_obj h a c)) := by
  unfold z_ent; rw [hk]; unfold z_at; simp [hc]
theorem z_at_arr {dA : Nat → ClassId} {h : zH} {a k : Nat} (hk : kd_ h a = k) (h1 : 17 ≤ k) (h2 : k ≤ 27) : z_ent dA h a = some (.inl (dA k, (ln_ h a, z_con h a k))) := by
  unfold z_ent
  rw [hk]
  obtain ⟨c, rfl⟩ : ∃ c, k = c + 1 := ⟨k - 1, by omega⟩
  unfold z_at
  simp only
  rw [if_neg (by omega), if_pos (by omega)]
theorem zP.arr {g : zGT} {h : zH} {H : Heap} (hP : zP g h H) {a k : Nat} (hk : kd_ h a = k) (h1 : 17 ≤ k) (h2 : k ≤ 27) : va_P (gD_ g) vwCl [(a, .inl (gA_ g k, (ln_ h a, z_con h a k)))] H := by
  intro i q hq
  have hi : i < 1 := (List.getElem?_eq_some_iff.mp hq).1
  rw [show i = 0 by omega] at hq
  cases hq
  exact hP.1 a _ (z_at_arr hk h1 h2)
theorem zP.obj {g : zGT} {h : zH} {H : Heap} (hP : zP g h H) {a c : Nat} (hk : kd_ h a = c + 1) (hc : c < 16) : va_P (gD_ g) vwCl [(a, .inr (c, z_obj h a c))] H := by
  intro i q hq
  have hi : i < 1 := (List.getElem?_eq_some_iff.mp hq).1
  rw [show i = 0 by omega] at hq
  cases hq
  exact hP.1 a _ (z_at_obj hk hc)
theorem zP.put {g : zGT} {h h1 : zH} {H H1 : Heap} (hP : zP g h H) {a : Nat} (ha : (gS_ g).heap.size ≤ a) (z : H1.size = H.size) (oq : ∀ q : Nat, q ≠ a → H1[q]? = H[q]?) (hb : ∀ b, b ≠ a → z_ent (gA_ g) h1 b = z_ent (gA_ g) h b) (hk : kd_ h1 = kd_ h) (hl : ln_ h1 = ln_ h) (he : ∀ e, z_ent (gA_ g) h1 a = some e → va_at (gD_ g) vwCl (a, e) H1) : zP g h1 H1 := by
  obtain ⟨p1, p2, p3, p4, p5, p6, p7⟩ := hP
  refine ⟨fun b e hbe => ?_, by rw [hk]; exact p2, fun q hq => by rw [oq q (by omega)]; exact p3 q hq, by omega, fun b hb => by rw [hk] at hb; rw [z]; exact p5 b hb, by rw [hk]; exact p6, by rw [hl]; exact p7⟩
  by_cases hba : b = a
  · subst hba; exact he e hbe
  · rw [hb b hba] at hbe
    exact (p1 b e hbe).kept (oq b hba)
theorem zP.fresh {g : zGT} {h : zH} {H : Heap} (hP : zP g h H) : kd_ h H.size = 0 := by
  rcases Nat.eq_zero_or_pos (kd_ h H.size) with q | q
  · exact q
  · exact absurd (hP.2.2.2.2.1 _ (by omega)) (Nat.lt_irrefl _)
theorem zP.new {g : zGT} {h h1 : zH} {H H1 : Heap} (hP : zP g h H) {a : Nat} (ha : a = H.size) (z : H1.size = H.size + 1) (oq : ∀ q : Nat, q < H.size → H1[q]? = H[q]?) (hb : ∀ b, b ≠ a → z_ent (gA_ g) h1 b = z_ent (gA_ g) h b) (hk : ∀ b, b ≠ a → kd_ h1 b = kd_ h b) (hl : ∀ b, b ≠ a → ln_ h1 b = ln_ h b) (he : ∀ e, z_ent (gA_ g) h1 a = some e → va_at (gD_ g) vwCl (a, e) H1) : zP g h1 H1 := by
  have hfr := hP.fresh
  obtain ⟨p1, p2, p3, p4, p5, p6, p7⟩ := hP
  have hne : ge_ g ≠ a := by
    intro hh
    rw [hh, ha, hfr] at p6
    cases p6
  refine ⟨fun b e hbe => ?_, fun b h0 hr => ?_, fun q hq => by rw [oq q (by omega)]; exact p3 q hq, by omega, fun b hb0 => ?_, by rw [hk _ hne]; exact p6, by rw [hl _ hne]; exact p7⟩
  · by_cases hba : b = a
    · subst hba; exact he e hbe
    · rw [hb b hba] at hbe
      have := p1 b e hbe
      exact this.kept (oq b this.lt)
  · by_cases hba : b = a
    · omega
    · rw [hk b hba] at h0 hr; exact p2 b h0 hr
  · by_cases hba : b = a
    · omega
    · rw [hk b hba] at hb0
      have := p5 b hb0
      omega
theorem z_ent_congr {dA : Nat → ClassId} {h h1 : zH} {b : Nat} (hk : kd_ h1 b = kd_ h b) (hl : ln_ h1 b = ln_ h b) (h1i : ∀ j, fi_ h1 b j = fi_ h b j) (h1j : ∀ j, fj_ h1 b j = fj_ h b j) (h1r : ∀ j, fr_ h1 b j = fr_ h b j) (h2i : ∀ j, ai_ h1 b j = ai_ h b j) (h2j : ∀ j, aj_ h1 b j = aj_ h b j) (h2r : ∀ j, ar_ h1 b j = ar_ h b j) : z_ent dA h1 b = z_ent dA h b := by
  unfold z_ent z_at z_obj z_con z_fld
  simp only [hk, hl, h1i, h1j, h1r, h2i, h2j, h2r]
theorem z_ent_sfi {dA : Nat → ClassId} {h : zH} {a k : Nat} {v : Int} {b : Nat} (hb : b ≠ a) : z_ent dA (sfi h a k v) b = z_ent dA h b :=
  z_ent_congr rfl rfl (fun j => by simp [fi_, sfi, zu2, hb]) (fun j => rfl) (fun j => rfl) (fun j => rfl) (fun j => rfl) (fun j => rfl)
theorem z_ent_sfj {dA : Nat → ClassId} {h : zH} {a k : Nat} {v : Int} {b : Nat} (hb : b ≠ a) : z_ent dA (sfj h a k v) b = z_ent dA h b :=
  z_ent_congr rfl rfl (fun j => rfl) (fun j => by simp [fj_, sfj, zu2, hb]) (fun j => rfl) (fun j => rfl) (fun j => rfl) (fun j => rfl)
theorem z_ent_sfr {dA : Nat → ClassId} {h : zH} {a k : Nat} {v : Option Nat} {b : Nat} (hb : b ≠ a) : z_ent dA (sfr h a k v) b = z_ent dA h b :=
  z_ent_congr rfl rfl (fun j => rfl) (fun j => rfl) (fun j => by simp [fr_, sfr, zu2, hb]) (fun j => rfl) (fun j => rfl) (fun j => rfl)
theorem z_ent_sai {dA : Nat → ClassId} {h : zH} {a k : Nat} {v : Int} {b : Nat} (hb : b ≠ a) : z_ent dA (sai h a k v) b = z_ent dA h b :=
  z_ent_congr rfl rfl (fun j => rfl) (fun j => rfl) (fun j => rfl) (fun j => by simp [ai_, sai, zu2, hb]) (fun j => rfl) (fun j => rfl)
theorem z_ent_saj {dA : Nat → ClassId} {h : zH} {a k : Nat} {v : Int} {b : Nat} (hb : b ≠ a) : z_ent dA (saj h a k v) b = z_ent dA h b :=
  z_ent_congr rfl rfl (fun j => rfl) (fun j => rfl) (fun j => rfl) (fun j => rfl) (fun j => by simp [aj_, saj, zu2, hb]) (fun j => rfl)
theorem z_ent_sar {dA : Nat → ClassId} {h : zH} {a k : Nat} {v : Option Nat} {b : Nat} (hb : b ≠ a) : z_ent dA (sar h a k v) b = z_ent dA h b :=
  z_ent_congr rfl rfl (fun j => rfl) (fun j => rfl) (fun j => rfl) (fun j => rfl) (fun j => rfl) (fun j => by simp [ar_, sar, zu2, hb])
theorem z_ent_nob {dA : Nat → ClassId} {h : zH} {a c : Nat} {b : Nat} (hb : b ≠ a) : z_ent dA (nob h a c) b = z_ent dA h b :=
  z_ent_congr (by simp [kd_, nob, zu1, hb]) rfl (fun j => by simp [fi_, nob, hb]) (fun j => by simp [fj_, nob, hb]) (fun j => by simp [fr_, nob, hb]) (fun j => rfl) (fun j => rfl) (fun j => rfl)
theorem z_ent_nar {dA : Nat → ClassId} {h : zH} {a k n : Nat} {b : Nat} (hb : b ≠ a) : z_ent dA (nar h a k n) b = z_ent dA h b :=
  z_ent_congr (by simp [kd_, nar, zu1, hb]) (by simp [ln_, nar, zu1, hb]) (fun j => rfl) (fun j => rfl) (fun j => rfl) (fun j => by simp [ai_, nar, hb]) (fun j => by simp [aj_, nar, hb]) (fun j => by simp [ar_, nar, hb])
theorem z_obj_len (h : zH) (a c : Nat) : (z_obj h a c).length = z_N c := by simp [z_obj]
theorem z_obj_get {h : zH} {a c k : Nat} (hk : k < z_N c) : (z_obj h a c)[k]? = some (z_fld h a c k) := by simp [z_obj, hk]
theorem z_obj_set {h h1 : zH} {a c k : Nat} {v : Value} (hv : z_fld h1 a c k = v) (ho : ∀ j, j ≠ k → z_fld h1 a c j = z_fld h a c j) : z_obj h1 a c = (z_obj h a c).set k v := by
  unfold z_obj
  apply List.ext_getElem?
  intro i
  rw [List.getElem?_set]
  by_cases hik : k = i
  · subst hik
    by_cases hl : k < z_N c
    · simp [hl, hv]
    · simp [hl]
  · simp only [hik, if_false]
    by_cases hl : i < z_N c
    · simp [hl, ho i (fun q => hik q.symm)]
    · simp [hl]
end
section
abbrev zM : Type := String × ByteArray × Nat × Option FieldType × List ExceptionTableEntry × String × Nat
abbrev zO : Type := Option Value ⊕ String
def zRoom (M : zM) (mc ms : Nat) : Room := { frames := M.2.2.2.2.2.2, cells := mc, slots := ms, locals := 200 * M.2.2.2.2.2.2 }
def zF (g : zGT) (M : zM) (p : Program) (s : State) (m : MethodId) (meth : Method) (c : Code) : Prop :=
  p.tables.exec = Jvm.exec ∧ c.code = M.2.1 ∧ c.maxLocals = M.2.2.1 ∧ meth.sig.returnType = M.2.2.2.1 ∧ s.vm.findClass M.1 = some m.cls ∧ meth.locks = false ∧ c.exceptionTable.toList = M.2.2.2.2.1 ∧ (gS_ g).WarmedH s.vm ∧ meth.name = M.2.2.2.2.2.1 ∧ (gS_ g).heap.size ≤ s.heap.size ∧ (∀ q, q < (gS_ g).heap.size → s.heap[q]? = (gS_ g).heap[q]?)
def zQc (g : zGT) (Q : zO → zH → Prop) : Array Value → State → Outcome → State → Prop := fun _ _ o t => ∃ (v : Option Value) (h' : zH), o = .returned v ∧ zP g h' t.heap ∧ Q (.inl v) h'
def zXC (g : zGT) (Q : zO → zH → Prop) : String → State → State → Prop := fun E _ t => ∃ h' : zH, zP g h' t.heap ∧ Q (.inr E) h'
def z_as (lv : List (Option Value)) : List (Nat × Value) := (List.range lv.length).filterMap fun i => (lv.getD i none).map fun v => (i, v)
theorem z_as_mem {lv : List (Option Value)} {i : Nat} {v : Value} : (i, v) ∈ z_as lv ↔ lv[i]? = some (some v) := by
  unfold z_as
  rw [List.mem_filterMap]
  constructor
  · rintro ⟨a, ha, hb⟩
    rw [Option.map_eq_some_iff] at hb
    obtain ⟨w, hw, he⟩ := hb
    cases he
    have hl := List.mem_range.mp ha
    rw [List.getD_eq_getElem?_getD, List.getElem?_eq_getElem hl] at hw
    rw [List.getElem?_eq_getElem hl]
    simpa using hw
  · intro h
    have hl := (List.getElem?_eq_some_iff.mp h).1
    refine ⟨i, List.mem_range.mpr hl, ?_⟩
    rw [List.getD_eq_getElem?_getD, h]
    rfl
def z_has (ls : Array Slot) (n : Nat) (lv : List (Option Value)) : Prop := lv_has ls n (z_as lv)
theorem z_has.at {ls : Array Slot} {n : Nat} {lv : List (Option Value)} (h : z_has ls n lv) {i : Nat} {v : Value} (hv : lv[i]? = some (some v)) : ls[i]? = some (.val v) := h.2.2 (i, v) (z_as_mem.mpr hv)
theorem z_has.le {ls : Array Slot} {n : Nat} {lv lv' : List (Option Value)} (h : z_has ls n lv) (hle : ∀ (i : Nat) (v : Value), lv'[i]? = some (some v) → lv[i]? = some (some v)) : z_has ls n lv' :=
  ⟨h.1, h.2.1, fun q hq => h.2.2 q (z_as_mem.mpr (hle _ _ (z_as_mem.mp hq)))⟩
/-- from here the method's frame comes to its end, with Q behind it, over the heap's picture h, with room for bc cells and bs slots more -/
def zX (g : zGT) (M : zM) (mc ms : Nat) (Q : zO → zH → Prop) (pc : Nat) (lv : List (Option Value)) (st : List Value) (h : zH) (bc bs : Nat) : Prop :=
  ∀ (p : Program) (e : Env) (s : State) (m : MethodId) (args : Array Value) (below : List Frame) (meth : Method) (c : Code), zF g M p s m meth c →
  ∀ (H : Heap) (locs : List Loc) (cells slots : Nat) (ls : Array Slot), zP g h H → s.heap.size ≤ H.size → (∀ z ∈ locs, (gS_ g).heap.size ≤ z.base) → cells + bc ≤ mc → slots + bs ≤ ms → z_has ls M.2.2.1 lv →
  W p (gl_ g) e (zRoom M mc ms) s m args below meth c H locs cells slots (vx_MQ below (zQc g Q) (zXC g Q) args s mc ms (fun q => (gS_ g).heap.size ≤ q)) (F0 m pc ls st)
section Rows
variable {g : zGT} {M : zM} {mc ms : Nat} {Q : zO → zH → Prop} {pc : Nat} {lv : List (Option Value)} {st : List Value} {h : zH} {bc bs : Nat}

theorem r_iconst {n : Int} (pc' : Nat) (hp : pc + 1 = pc') (d : decode M.2.1 pc = .ok (.iconst n, 1)) (k : zX g M mc ms Q pc' lv (.int (zI n) :: st) h bc bs) : zX g M mc ms Q pc lv (st) h bc bs := by
  subst hp
  intro p e s m args below meth c F H locs cells slots ls hP hs hL hc hsl hl
  refine lv_iconst F.1 F.2.1 d (v := zI n) rfl ?_
  exact k p e s m args below meth c F H locs cells slots ls hP hs hL hc hsl hl

theorem r_bipush {n : Int} (hn : -128 ≤ n ∧ n ≤ 127) (pc' : Nat) (hp : pc + 2 = pc') (d : decode M.2.1 pc = .ok (.bipush n, 2)) (k : zX g M mc ms Q pc' lv (.int (zI n) :: st) h bc bs) : zX g M mc ms Q pc lv (st) h bc bs := by
  subst hp
  intro p e s m args below meth c F H locs cells slots ls hP hs hL hc hsl hl
  refine lv_bipush F.1 F.2.1 d (zI_b8 hn) ?_
  exact k p e s m args below meth c F H locs cells slots ls hP hs hL hc hsl hl

theorem r_sipush {n : Int} (hn : -32768 ≤ n ∧ n ≤ 32767) (pc' : Nat) (hp : pc + 3 = pc') (d : decode M.2.1 pc = .ok (.sipush n, 3)) (k : zX g M mc ms Q pc' lv (.int (zI n) :: st) h bc bs) : zX g M mc ms Q pc lv (st) h bc bs := by
  subst hp
  intro p e s m args below meth c F H locs cells slots ls hP hs hL hc hsl hl
  refine lv_sipush F.1 F.2.1 d (zI_b16 hn) ?_
  exact k p e s m args below meth c F H locs cells slots ls hP hs hL hc hsl hl

theorem r_lconst0  (pc' : Nat) (hp : pc + 1 = pc') (d : decode M.2.1 pc = .ok (.lconst 0, 1)) (k : zX g M mc ms Q pc' lv (.long (zL 0) :: st) h bc bs) : zX g M mc ms Q pc lv (st) h bc bs := by
  subst hp
  intro p e s m args below meth c F H locs cells slots ls hP hs hL hc hsl hl
  refine lv_lconst F.1 F.2.1 d rfl ?_
  exact k p e s m args below meth c F H locs cells slots ls hP hs hL hc hsl hl

theorem r_lconst1  (pc' : Nat) (hp : pc + 1 = pc') (d : decode M.2.1 pc = .ok (.lconst 1, 1)) (k : zX g M mc ms Q pc' lv (.long (zL 1) :: st) h bc bs) : zX g M mc ms Q pc lv (st) h bc bs := by
  subst hp
  intro p e s m args below meth c F H locs cells slots ls hP hs hL hc hsl hl
  refine lv_lconst F.1 F.2.1 d rfl ?_
  exact k p e s m args below meth c F H locs cells slots ls hP hs hL hc hsl hl

theorem r_iload_n {i : Fin 4} {x : Int32} (hv : lv[(i : Nat)]? = some (some (.int x))) (pc' : Nat) (hp : pc + 1 = pc') (d : decode M.2.1 pc = .ok (.iload_n i, 1)) (k : zX g M mc ms Q pc' lv (.int x :: st) h bc bs) : zX g M mc ms Q pc lv (st) h bc bs := by
  subst hp
  intro p e s m args below meth c F H locs cells slots ls hP hs hL hc hsl hl
  refine lv_iload_n F.1 F.2.1 d rfl (hl.at hv) ?_
  exact k p e s m args below meth c F H locs cells slots ls hP hs hL hc hsl hl

theorem r_iload {i : Nat} {x : Int32} (hv : lv[i]? = some (some (.int x))) (pc' : Nat) (hp : pc + 2 = pc') (d : decode M.2.1 pc = .ok (.iload i, 2)) (k : zX g M mc ms Q pc' lv (.int x :: st) h bc bs) : zX g M mc ms Q pc lv (st) h bc bs := by
  subst hp
  intro p e s m args below meth c F H locs cells slots ls hP hs hL hc hsl hl
  refine lv_iload F.1 F.2.1 d (hl.at hv) ?_
  exact k p e s m args below meth c F H locs cells slots ls hP hs hL hc hsl hl

theorem r_lload_n {i : Fin 4} {x : Int64} (hv : lv[(i : Nat)]? = some (some (.long x))) (pc' : Nat) (hp : pc + 1 = pc') (d : decode M.2.1 pc = .ok (.lload_n i, 1)) (k : zX g M mc ms Q pc' lv (.long x :: st) h bc bs) : zX g M mc ms Q pc lv (st) h bc bs := by
  subst hp
  intro p e s m args below meth c F H locs cells slots ls hP hs hL hc hsl hl
  refine lv_lload_n F.1 F.2.1 d rfl (hl.at hv) ?_
  exact k p e s m args below meth c F H locs cells slots ls hP hs hL hc hsl hl

theorem r_lload {i : Nat} {x : Int64} (hv : lv[i]? = some (some (.long x))) (pc' : Nat) (hp : pc + 2 = pc') (d : decode M.2.1 pc = .ok (.lload i, 2)) (k : zX g M mc ms Q pc' lv (.long x :: st) h bc bs) : zX g M mc ms Q pc lv (st) h bc bs := by
  subst hp
  intro p e s m args below meth c F H locs cells slots ls hP hs hL hc hsl hl
  refine lv_lload F.1 F.2.1 d (hl.at hv) ?_
  exact k p e s m args below meth c F H locs cells slots ls hP hs hL hc hsl hl

theorem r_aload_n {i : Fin 4} {x : Nat} (hv : lv[(i : Nat)]? = some (some (.ref x))) (pc' : Nat) (hp : pc + 1 = pc') (d : decode M.2.1 pc = .ok (.aload_n i, 1)) (k : zX g M mc ms Q pc' lv (.ref x :: st) h bc bs) : zX g M mc ms Q pc lv (st) h bc bs := by
  subst hp
  intro p e s m args below meth c F H locs cells slots ls hP hs hL hc hsl hl
  refine lv_aload_n F.1 F.2.1 d rfl (hl.at hv) ?_
  exact k p e s m args below meth c F H locs cells slots ls hP hs hL hc hsl hl

theorem r_aload {i : Nat} {x : Nat} (hv : lv[i]? = some (some (.ref x))) (pc' : Nat) (hp : pc + 2 = pc') (d : decode M.2.1 pc = .ok (.aload i, 2)) (k : zX g M mc ms Q pc' lv (.ref x :: st) h bc bs) : zX g M mc ms Q pc lv (st) h bc bs := by
  subst hp
  intro p e s m args below meth c F H locs cells slots ls hP hs hL hc hsl hl
  refine lv_aload F.1 F.2.1 d (hl.at hv) ?_
  exact k p e s m args below meth c F H locs cells slots ls hP hs hL hc hsl hl

theorem r_aload_nN {i : Fin 4} (hv : lv[(i : Nat)]? = some (some .null)) (pc' : Nat) (hp : pc + 1 = pc') (d : decode M.2.1 pc = .ok (.aload_n i, 1)) (k : zX g M mc ms Q pc' lv (.null :: st) h bc bs) : zX g M mc ms Q pc lv (st) h bc bs := by
  subst hp
  intro p e s m args below meth c F H locs cells slots ls hP hs hL hc hsl hl
  refine lv_aload_nN F.1 F.2.1 d rfl (hl.at hv) ?_
  exact k p e s m args below meth c F H locs cells slots ls hP hs hL hc hsl hl

theorem r_aloadN {i : Nat} (hv : lv[i]? = some (some .null)) (pc' : Nat) (hp : pc + 2 = pc') (d : decode M.2.1 pc = .ok (.aload i, 2)) (k : zX g M mc ms Q pc' lv (.null :: st) h bc bs) : zX g M mc ms Q pc lv (st) h bc bs := by
  subst hp
  intro p e s m args below meth c F H locs cells slots ls hP hs hL hc hsl hl
  refine lv_aloadN F.1 F.2.1 d (hl.at hv) ?_
  exact k p e s m args below meth c F H locs cells slots ls hP hs hL hc hsl hl

def z_c1 (lv : List (Option Value)) (i : Nat) : Prop := match i with
  | 0 => True
  | j + 1 => ∀ v, lv[j]? = some (some v) → v.category = 1
theorem z_st1 {ls : Array Slot} {n i : Nat} {v : Value} (hi : i < n) (h9 : z_c1 lv i) (hx : lv_has ls n ((i, v) :: (z_as lv).filter (fun q => !(q.1 == i) && !(q.1 + 1 == i && q.2.category == 2)))) : z_has ls n (lv.set i (some v)) := by
  refine ⟨hx.1, hx.2.1, fun q hq => hx.2.2 q ?_⟩
  obtain ⟨j, w⟩ := q
  have h1 := z_as_mem.mp hq
  rw [List.getElem?_set] at h1
  by_cases hji : i = j
  · subst hji
    rw [if_pos rfl] at h1
    split at h1
    · cases h1; exact List.mem_cons_self
    · cases h1
  · rw [if_neg hji] at h1
    refine List.mem_cons_of_mem _ (List.mem_filter.mpr ⟨z_as_mem.mpr h1, ?_⟩)
    have e1 : (j == i) = false := by simpa using fun q => hji q.symm
    by_cases hj1 : j + 1 = i
    · subst hj1
      have := h9 w h1
      simp [this]
    · have e2 : (j + 1 == i) = false := by simpa using hj1
      simp [e1, e2]
theorem z_st2 {ls : Array Slot} {n i : Nat} {v : Value} (hi : i + 1 < n) (h9 : z_c1 lv i) (hx : lv_has ls n ((i, v) :: (z_as lv).filter (fun q => !(q.1 == i) && (!(q.1 == i + 1) && !(q.1 + 1 == i && q.2.category == 2))))) : z_has ls n ((lv.set i (some v)).set (i + 1) none) := by
  refine ⟨hx.1, hx.2.1, fun q hq => hx.2.2 q ?_⟩
  obtain ⟨j, w⟩ := q
  have h1 := z_as_mem.mp hq
  rw [List.getElem?_set] at h1
  by_cases hj2 : i + 1 = j
  · subst hj2
    rw [if_pos rfl] at h1
    split at h1 <;> cases h1
  rw [if_neg hj2] at h1
  rw [List.getElem?_set] at h1
  by_cases hji : i = j
  · subst hji
    rw [if_pos rfl] at h1
    split at h1
    · cases h1; exact List.mem_cons_self
    · cases h1
  · rw [if_neg hji] at h1
    refine List.mem_cons_of_mem _ (List.mem_filter.mpr ⟨z_as_mem.mpr h1, ?_⟩)
    have e1 : (j == i) = false := by simpa using fun q => hji q.symm
    have e3 : (j == i + 1) = false := by simpa using fun q => hj2 q.symm
    by_cases hj1 : j + 1 = i
    · subst hj1
      have := h9 w h1
      simp [this]; omega
    · have e2 : (j + 1 == i) = false := by simpa using hj1
      simp [e1, e2, e3]

theorem r_istore_n {i : Nat} {x : Int32} {j : Fin 4} (hj : (j : Nat) = i) (pc' : Nat) (hp : pc + 1 = pc') (hi : i < M.2.2.1) (h9 : z_c1 lv i) {lv2 : List (Option Value)} (h2 : lv.set i (some (.int x)) = lv2) (d : decode M.2.1 pc = .ok (.istore_n j, 1)) (k : zX g M mc ms Q pc' lv2 st h bc bs) : zX g M mc ms Q pc lv (.int x :: st) h bc bs := by
  subst hp; subst h2
  intro p e s m args below meth c F H locs cells slots ls hP hs hL hc hsl hl
  refine lv_istore_n (nL := M.2.2.1) (i := i) F.1 F.2.1 d hj hl hi rfl fun ls2 hl2 => ?_
  exact k p e s m args below meth c F H locs cells slots ls2 hP hs hL hc hsl (z_st1 hi h9 hl2)

theorem r_istore {i : Nat} {x : Int32}  (pc' : Nat) (hp : pc + 2 = pc') (hi : i < M.2.2.1) (h9 : z_c1 lv i) {lv2 : List (Option Value)} (h2 : lv.set i (some (.int x)) = lv2) (d : decode M.2.1 pc = .ok (.istore i, 2)) (k : zX g M mc ms Q pc' lv2 st h bc bs) : zX g M mc ms Q pc lv (.int x :: st) h bc bs := by
  subst hp; subst h2
  intro p e s m args below meth c F H locs cells slots ls hP hs hL hc hsl hl
  refine lv_istore (nL := M.2.2.1) (i := i) F.1 F.2.1 d  hl hi rfl fun ls2 hl2 => ?_
  exact k p e s m args below meth c F H locs cells slots ls2 hP hs hL hc hsl (z_st1 hi h9 hl2)

theorem r_lstore_n {i : Nat} {x : Int64} {j : Fin 4} (hj : (j : Nat) = i) (pc' : Nat) (hp : pc + 1 = pc') (hi : i + 1 < M.2.2.1) (h9 : z_c1 lv i) {lv2 : List (Option Value)} (h2 : (lv.set i (some (.long x))).set (i + 1) none = lv2) (d : decode M.2.1 pc = .ok (.lstore_n j, 1)) (k : zX g M mc ms Q pc' lv2 st h bc bs) : zX g M mc ms Q pc lv (.long x :: st) h bc bs := by
  subst hp; subst h2
  intro p e s m args below meth c F H locs cells slots ls hP hs hL hc hsl hl
  refine lv_lstore_n (nL := M.2.2.1) (i := i) F.1 F.2.1 d hj hl hi rfl fun ls2 hl2 => ?_
  exact k p e s m args below meth c F H locs cells slots ls2 hP hs hL hc hsl (z_st2 hi h9 hl2)

theorem r_lstore {i : Nat} {x : Int64}  (pc' : Nat) (hp : pc + 2 = pc') (hi : i + 1 < M.2.2.1) (h9 : z_c1 lv i) {lv2 : List (Option Value)} (h2 : (lv.set i (some (.long x))).set (i + 1) none = lv2) (d : decode M.2.1 pc = .ok (.lstore i, 2)) (k : zX g M mc ms Q pc' lv2 st h bc bs) : zX g M mc ms Q pc lv (.long x :: st) h bc bs := by
  subst hp; subst h2
  intro p e s m args below meth c F H locs cells slots ls hP hs hL hc hsl hl
  refine lv_lstore (nL := M.2.2.1) (i := i) F.1 F.2.1 d  hl hi rfl fun ls2 hl2 => ?_
  exact k p e s m args below meth c F H locs cells slots ls2 hP hs hL hc hsl (z_st2 hi h9 hl2)

theorem r_astore_n {i : Nat} {x : Nat} {j : Fin 4} (hj : (j : Nat) = i) (pc' : Nat) (hp : pc + 1 = pc') (hi : i < M.2.2.1) (h9 : z_c1 lv i) {lv2 : List (Option Value)} (h2 : lv.set i (some (.ref x)) = lv2) (d : decode M.2.1 pc = .ok (.astore_n j, 1)) (k : zX g M mc ms Q pc' lv2 st h bc bs) : zX g M mc ms Q pc lv (.ref x :: st) h bc bs := by
  subst hp; subst h2
  intro p e s m args below meth c F H locs cells slots ls hP hs hL hc hsl hl
  refine lv_astore_n (nL := M.2.2.1) (i := i) F.1 F.2.1 d hj hl hi rfl fun ls2 hl2 => ?_
  exact k p e s m args below meth c F H locs cells slots ls2 hP hs hL hc hsl (z_st1 hi h9 hl2)

theorem r_astore {i : Nat} {x : Nat}  (pc' : Nat) (hp : pc + 2 = pc') (hi : i < M.2.2.1) (h9 : z_c1 lv i) {lv2 : List (Option Value)} (h2 : lv.set i (some (.ref x)) = lv2) (d : decode M.2.1 pc = .ok (.astore i, 2)) (k : zX g M mc ms Q pc' lv2 st h bc bs) : zX g M mc ms Q pc lv (.ref x :: st) h bc bs := by
  subst hp; subst h2
  intro p e s m args below meth c F H locs cells slots ls hP hs hL hc hsl hl
  refine lv_astore (nL := M.2.2.1) (i := i) F.1 F.2.1 d  hl hi rfl fun ls2 hl2 => ?_
  exact k p e s m args below meth c F H locs cells slots ls2 hP hs hL hc hsl (z_st1 hi h9 hl2)

theorem r_astore_nN {i : Nat} {j : Fin 4} (hj : (j : Nat) = i) (pc' : Nat) (hp : pc + 1 = pc') (hi : i < M.2.2.1) (h9 : z_c1 lv i) {lv2 : List (Option Value)} (h2 : lv.set i (some .null) = lv2) (d : decode M.2.1 pc = .ok (.astore_n j, 1)) (k : zX g M mc ms Q pc' lv2 st h bc bs) : zX g M mc ms Q pc lv (.null :: st) h bc bs := by
  subst hp; subst h2
  intro p e s m args below meth c F H locs cells slots ls hP hs hL hc hsl hl
  refine lv_astore_nN (nL := M.2.2.1) (i := i) F.1 F.2.1 d hj hl hi rfl fun ls2 hl2 => ?_
  exact k p e s m args below meth c F H locs cells slots ls2 hP hs hL hc hsl (z_st1 hi h9 hl2)

theorem r_astoreN {i : Nat}  (pc' : Nat) (hp : pc + 2 = pc') (hi : i < M.2.2.1) (h9 : z_c1 lv i) {lv2 : List (Option Value)} (h2 : lv.set i (some .null) = lv2) (d : decode M.2.1 pc = .ok (.astore i, 2)) (k : zX g M mc ms Q pc' lv2 st h bc bs) : zX g M mc ms Q pc lv (.null :: st) h bc bs := by
  subst hp; subst h2
  intro p e s m args below meth c F H locs cells slots ls hP hs hL hc hsl hl
  refine lv_astoreN (nL := M.2.2.1) (i := i) F.1 F.2.1 d  hl hi rfl fun ls2 hl2 => ?_
  exact k p e s m args below meth c F H locs cells slots ls2 hP hs hL hc hsl (z_st1 hi h9 hl2)

theorem r_iinc {i : Nat} {n x : Int} (pc' : Nat) (hp : pc + 3 = pc') (hi : i < M.2.2.1) (h9 : z_c1 lv i) (hv : lv[i]? = some (some (.int (zI x)))) {lv2 : List (Option Value)} (h2 : lv.set i (some (.int (zI (x + n)))) = lv2) (d : decode M.2.1 pc = .ok (.iinc i n, 3)) (k : zX g M mc ms Q pc' lv2 st h bc bs) : zX g M mc ms Q pc lv st h bc bs := by
  subst hp; subst h2
  intro p e s m args below meth c F H locs cells slots ls hP hs hL hc hsl hl
  obtain ⟨kk, hkk⟩ := List.getElem?_of_mem (z_as_mem.mpr hv)
  refine lv_iinc (nL := M.2.2.1) (v := zI (x + n)) F.1 F.2.1 d hl hkk (by rw [zI_lit, zI_add]) hi rfl fun ls2 hl2 => ?_
  exact k p e s m args below meth c F H locs cells slots ls2 hP hs hL hc hsl (z_st1 hi h9 hl2)

theorem r_iadd {a b : Int} (pc' : Nat) (hp : pc + 1 = pc') (d : decode M.2.1 pc = .ok (.iadd, 1)) (k : zX g M mc ms Q pc' lv (.int (zI (a + b)) :: st) h bc bs) : zX g M mc ms Q pc lv (.int (zI b) :: .int (zI a) :: st) h bc bs := by
  subst hp
  intro p e s m args below meth c F H locs cells slots ls hP hs hL hc hsl hl
  rw [← zI_add] at k
  refine lv_iadd F.1 F.2.1 d  ?_
  exact k p e s m args below meth c F H locs cells slots ls hP hs hL hc hsl hl

theorem r_isub {a b : Int} (pc' : Nat) (hp : pc + 1 = pc') (d : decode M.2.1 pc = .ok (.isub, 1)) (k : zX g M mc ms Q pc' lv (.int (zI (a - b)) :: st) h bc bs) : zX g M mc ms Q pc lv (.int (zI b) :: .int (zI a) :: st) h bc bs := by
  subst hp
  intro p e s m args below meth c F H locs cells slots ls hP hs hL hc hsl hl
  rw [← zI_sub] at k
  refine lv_isub F.1 F.2.1 d  ?_
  exact k p e s m args below meth c F H locs cells slots ls hP hs hL hc hsl hl

theorem r_imul {a b : Int} (pc' : Nat) (hp : pc + 1 = pc') (d : decode M.2.1 pc = .ok (.imul, 1)) (k : zX g M mc ms Q pc' lv (.int (zI (a * b)) :: st) h bc bs) : zX g M mc ms Q pc lv (.int (zI b) :: .int (zI a) :: st) h bc bs := by
  subst hp
  intro p e s m args below meth c F H locs cells slots ls hP hs hL hc hsl hl
  rw [← zI_mul] at k
  refine lv_imul F.1 F.2.1 d  ?_
  exact k p e s m args below meth c F H locs cells slots ls hP hs hL hc hsl hl

theorem r_ladd {a b : Int} (pc' : Nat) (hp : pc + 1 = pc') (d : decode M.2.1 pc = .ok (.ladd, 1)) (k : zX g M mc ms Q pc' lv (.long (zL (a + b)) :: st) h bc bs) : zX g M mc ms Q pc lv (.long (zL b) :: .long (zL a) :: st) h bc bs := by
  subst hp
  intro p e s m args below meth c F H locs cells slots ls hP hs hL hc hsl hl
  rw [← zL_add] at k
  refine lv_ladd F.1 F.2.1 d  ?_
  exact k p e s m args below meth c F H locs cells slots ls hP hs hL hc hsl hl

theorem r_lsub {a b : Int} (pc' : Nat) (hp : pc + 1 = pc') (d : decode M.2.1 pc = .ok (.lsub, 1)) (k : zX g M mc ms Q pc' lv (.long (zL (a - b)) :: st) h bc bs) : zX g M mc ms Q pc lv (.long (zL b) :: .long (zL a) :: st) h bc bs := by
  subst hp
  intro p e s m args below meth c F H locs cells slots ls hP hs hL hc hsl hl
  rw [← zL_sub] at k
  refine lv_lsub F.1 F.2.1 d  ?_
  exact k p e s m args below meth c F H locs cells slots ls hP hs hL hc hsl hl

theorem r_lmul {a b : Int} (pc' : Nat) (hp : pc + 1 = pc') (d : decode M.2.1 pc = .ok (.lmul, 1)) (k : zX g M mc ms Q pc' lv (.long (zL (a * b)) :: st) h bc bs) : zX g M mc ms Q pc lv (.long (zL b) :: .long (zL a) :: st) h bc bs := by
  subst hp
  intro p e s m args below meth c F H locs cells slots ls hP hs hL hc hsl hl
  rw [← zL_mul] at k
  refine lv_lmul F.1 F.2.1 d  ?_
  exact k p e s m args below meth c F H locs cells slots ls hP hs hL hc hsl hl

theorem r_ineg {a : Int} (pc' : Nat) (hp : pc + 1 = pc') (d : decode M.2.1 pc = .ok (.ineg, 1)) (k : zX g M mc ms Q pc' lv (.int (zI (-a)) :: st) h bc bs) : zX g M mc ms Q pc lv (.int (zI a) :: st) h bc bs := by
  subst hp
  intro p e s m args below meth c F H locs cells slots ls hP hs hL hc hsl hl
  rw [← zI_neg] at k
  refine lv_ineg F.1 F.2.1 d  ?_
  exact k p e s m args below meth c F H locs cells slots ls hP hs hL hc hsl hl

theorem r_lneg {a : Int} (pc' : Nat) (hp : pc + 1 = pc') (d : decode M.2.1 pc = .ok (.lneg, 1)) (k : zX g M mc ms Q pc' lv (.long (zL (-a)) :: st) h bc bs) : zX g M mc ms Q pc lv (.long (zL a) :: st) h bc bs := by
  subst hp
  intro p e s m args below meth c F H locs cells slots ls hP hs hL hc hsl hl
  rw [← zL_neg] at k
  refine lv_lneg F.1 F.2.1 d  ?_
  exact k p e s m args below meth c F H locs cells slots ls hP hs hL hc hsl hl

theorem r_idiv {a b : Int} (ha : zR a) (hb : zR b) (h0 : 0 ≤ a) (h1 : 0 < b) (pc' : Nat) (hp : pc + 1 = pc') (d : decode M.2.1 pc = .ok (.idiv, 1)) (k : zX g M mc ms Q pc' lv (.int (zI (a / b)) :: st) h bc bs) : zX g M mc ms Q pc lv (.int (zI b) :: .int (zI a) :: st) h bc bs := by
  subst hp
  intro p e s m args below meth c F H locs cells slots ls hP hs hL hc hsl hl
  rw [← zI_div ha hb h0 h1] at k
  refine lv_idiv F.1 F.2.1 d (fun q => by rw [zI_0, zI_eq hb (by omega)] at q; omega) ?_
  exact k p e s m args below meth c F H locs cells slots ls hP hs hL hc hsl hl

theorem r_irem {a b : Int} (ha : zR a) (hb : zR b) (h0 : 0 ≤ a) (h1 : 0 < b) (pc' : Nat) (hp : pc + 1 = pc') (d : decode M.2.1 pc = .ok (.irem, 1)) (k : zX g M mc ms Q pc' lv (.int (zI (a % b)) :: st) h bc bs) : zX g M mc ms Q pc lv (.int (zI b) :: .int (zI a) :: st) h bc bs := by
  subst hp
  intro p e s m args below meth c F H locs cells slots ls hP hs hL hc hsl hl
  rw [← zI_rem ha hb h0 h1] at k
  refine lv_irem F.1 F.2.1 d (fun q => by rw [zI_0, zI_eq hb (by omega)] at q; omega) ?_
  exact k p e s m args below meth c F H locs cells slots ls hP hs hL hc hsl hl

theorem r_iand {x y : Int32} (pc' : Nat) (hp : pc + 1 = pc') (d : decode M.2.1 pc = .ok (.iand, 1)) (k : zX g M mc ms Q pc' lv (.int (x &&& y) :: st) h bc bs) : zX g M mc ms Q pc lv (.int y :: .int x :: st) h bc bs := by
  subst hp
  intro p e s m args below meth c F H locs cells slots ls hP hs hL hc hsl hl
  refine lv_iand F.1 F.2.1 d  ?_
  exact k p e s m args below meth c F H locs cells slots ls hP hs hL hc hsl hl

theorem r_ior {x y : Int32} (pc' : Nat) (hp : pc + 1 = pc') (d : decode M.2.1 pc = .ok (.ior, 1)) (k : zX g M mc ms Q pc' lv (.int (x ||| y) :: st) h bc bs) : zX g M mc ms Q pc lv (.int y :: .int x :: st) h bc bs := by
  subst hp
  intro p e s m args below meth c F H locs cells slots ls hP hs hL hc hsl hl
  refine lv_ior F.1 F.2.1 d  ?_
  exact k p e s m args below meth c F H locs cells slots ls hP hs hL hc hsl hl

theorem r_ixor {x y : Int32} (pc' : Nat) (hp : pc + 1 = pc') (d : decode M.2.1 pc = .ok (.ixor, 1)) (k : zX g M mc ms Q pc' lv (.int (x ^^^ y) :: st) h bc bs) : zX g M mc ms Q pc lv (.int y :: .int x :: st) h bc bs := by
  subst hp
  intro p e s m args below meth c F H locs cells slots ls hP hs hL hc hsl hl
  refine lv_ixor F.1 F.2.1 d  ?_
  exact k p e s m args below meth c F H locs cells slots ls hP hs hL hc hsl hl

theorem r_land {x y : Int64} (pc' : Nat) (hp : pc + 1 = pc') (d : decode M.2.1 pc = .ok (.land, 1)) (k : zX g M mc ms Q pc' lv (.long (x &&& y) :: st) h bc bs) : zX g M mc ms Q pc lv (.long y :: .long x :: st) h bc bs := by
  subst hp
  intro p e s m args below meth c F H locs cells slots ls hP hs hL hc hsl hl
  refine lv_land F.1 F.2.1 d  ?_
  exact k p e s m args below meth c F H locs cells slots ls hP hs hL hc hsl hl

theorem r_lor {x y : Int64} (pc' : Nat) (hp : pc + 1 = pc') (d : decode M.2.1 pc = .ok (.lor, 1)) (k : zX g M mc ms Q pc' lv (.long (x ||| y) :: st) h bc bs) : zX g M mc ms Q pc lv (.long y :: .long x :: st) h bc bs := by
  subst hp
  intro p e s m args below meth c F H locs cells slots ls hP hs hL hc hsl hl
  refine lv_lor F.1 F.2.1 d  ?_
  exact k p e s m args below meth c F H locs cells slots ls hP hs hL hc hsl hl

theorem r_lxor {x y : Int64} (pc' : Nat) (hp : pc + 1 = pc') (d : decode M.2.1 pc = .ok (.lxor, 1)) (k : zX g M mc ms Q pc' lv (.long (x ^^^ y) :: st) h bc bs) : zX g M mc ms Q pc lv (.long y :: .long x :: st) h bc bs := by
  subst hp
  intro p e s m args below meth c F H locs cells slots ls hP hs hL hc hsl hl
  refine lv_lxor F.1 F.2.1 d  ?_
  exact k p e s m args below meth c F H locs cells slots ls hP hs hL hc hsl hl

theorem r_lshl {x : Int64} {y : Int32} (pc' : Nat) (hp : pc + 1 = pc') (d : decode M.2.1 pc = .ok (.lshl, 1)) (k : zX g M mc ms Q pc' lv (.long (x <<< (y.toInt64 &&& 63)) :: st) h bc bs) : zX g M mc ms Q pc lv (.int y :: .long x :: st) h bc bs := by
  subst hp
  intro p e s m args below meth c F H locs cells slots ls hP hs hL hc hsl hl
  refine lv_lshl F.1 F.2.1 d rfl ?_
  exact k p e s m args below meth c F H locs cells slots ls hP hs hL hc hsl hl

theorem r_lshr {x : Int64} {y : Int32} (pc' : Nat) (hp : pc + 1 = pc') (d : decode M.2.1 pc = .ok (.lshr, 1)) (k : zX g M mc ms Q pc' lv (.long (x >>> (y.toInt64 &&& 63)) :: st) h bc bs) : zX g M mc ms Q pc lv (.int y :: .long x :: st) h bc bs := by
  subst hp
  intro p e s m args below meth c F H locs cells slots ls hP hs hL hc hsl hl
  refine lv_lshr F.1 F.2.1 d rfl ?_
  exact k p e s m args below meth c F H locs cells slots ls hP hs hL hc hsl hl

theorem r_lushr {x : Int64} {y : Int32} (pc' : Nat) (hp : pc + 1 = pc') (d : decode M.2.1 pc = .ok (.lushr, 1)) (k : zX g M mc ms Q pc' lv (.long ((x.toUInt64 >>> (y.toInt64.toUInt64 &&& Int64.toUInt64 63)).toInt64) :: st) h bc bs) : zX g M mc ms Q pc lv (.int y :: .long x :: st) h bc bs := by
  subst hp
  intro p e s m args below meth c F H locs cells slots ls hP hs hL hc hsl hl
  refine lv_lushr F.1 F.2.1 d rfl ?_
  exact k p e s m args below meth c F H locs cells slots ls hP hs hL hc hsl hl

theorem r_i2l {a : Int} (ha : zR a) (pc' : Nat) (hp : pc + 1 = pc') (d : decode M.2.1 pc = .ok (.i2l, 1)) (k : zX g M mc ms Q pc' lv (.long (zL a) :: st) h bc bs) : zX g M mc ms Q pc lv (.int (zI a) :: st) h bc bs := by
  subst hp
  intro p e s m args below meth c F H locs cells slots ls hP hs hL hc hsl hl
  refine lv_i2l F.1 F.2.1 d (zI_toL ha) ?_
  exact k p e s m args below meth c F H locs cells slots ls hP hs hL hc hsl hl

theorem r_l2i {x : Int64} (pc' : Nat) (hp : pc + 1 = pc') (d : decode M.2.1 pc = .ok (.l2i, 1)) (k : zX g M mc ms Q pc' lv (.int x.toInt32 :: st) h bc bs) : zX g M mc ms Q pc lv (.long x :: st) h bc bs := by
  subst hp
  intro p e s m args below meth c F H locs cells slots ls hP hs hL hc hsl hl
  refine lv_l2i F.1 F.2.1 d rfl ?_
  exact k p e s m args below meth c F H locs cells slots ls hP hs hL hc hsl hl

theorem r_i2c {a : Int} (h0 : 0 ≤ a) (h1 : a < 65536) (pc' : Nat) (hp : pc + 1 = pc') (d : decode M.2.1 pc = .ok (.i2c, 1)) (k : zX g M mc ms Q pc' lv (.int (zI a) :: st) h bc bs) : zX g M mc ms Q pc lv (.int (zI a) :: st) h bc bs := by
  subst hp
  intro p e s m args below meth c F H locs cells slots ls hP hs hL hc hsl hl
  refine lv_i2c F.1 F.2.1 d (zI_char h0 h1) ?_
  exact k p e s m args below meth c F H locs cells slots ls hP hs hL hc hsl hl

theorem r_i2c_any {x : Int32} (pc' : Nat) (hp : pc + 1 = pc') (d : decode M.2.1 pc = .ok (.i2c, 1)) (k : zX g M mc ms Q pc' lv (.int ((x.toUInt32 % 65536).toInt32) :: st) h bc bs) : zX g M mc ms Q pc lv (.int x :: st) h bc bs := by
  subst hp
  intro p e s m args below meth c F H locs cells slots ls hP hs hL hc hsl hl
  refine lv_i2c F.1 F.2.1 d rfl ?_
  exact k p e s m args below meth c F H locs cells slots ls hP hs hL hc hsl hl

theorem r_lcmp_any {x y : Int64} (pc' : Nat) (hp : pc + 1 = pc') (d : decode M.2.1 pc = .ok (.lcmp, 1)) (k : zX g M mc ms Q pc' lv (.int (lg_cmp x y) :: st) h bc bs) : zX g M mc ms Q pc lv (.long y :: .long x :: st) h bc bs := by
  subst hp
  intro p e s m args below meth c F H locs cells slots ls hP hs hL hc hsl hl
  refine W.lcmp F.1 F.2.1 d  ?_
  exact k p e s m args below meth c F H locs cells slots ls hP hs hL hc hsl hl

theorem r_dup {v : Value} (hv : v.category = 1) (pc' : Nat) (hp : pc + 1 = pc') (d : decode M.2.1 pc = .ok (.dup, 1)) (k : zX g M mc ms Q pc' lv (v :: v :: st) h bc bs) : zX g M mc ms Q pc lv (v :: st) h bc bs := by
  subst hp
  intro p e s m args below meth c F H locs cells slots ls hP hs hL hc hsl hl
  refine lv_dup F.1 F.2.1 d hv ?_
  exact k p e s m args below meth c F H locs cells slots ls hP hs hL hc hsl hl

theorem r_pop {v : Value} (hv : v.category = 1) (pc' : Nat) (hp : pc + 1 = pc') (d : decode M.2.1 pc = .ok (.pop, 1)) (k : zX g M mc ms Q pc' lv (st) h bc bs) : zX g M mc ms Q pc lv (v :: st) h bc bs := by
  subst hp
  intro p e s m args below meth c F H locs cells slots ls hP hs hL hc hsl hl
  refine lv_pop F.1 F.2.1 d hv ?_
  exact k p e s m args below meth c F H locs cells slots ls hP hs hL hc hsl hl

theorem r_dup2 {v w : Value} (hv : v.category = 1) (hw : w.category = 1) (pc' : Nat) (hp : pc + 1 = pc') (d : decode M.2.1 pc = .ok (.dup2, 1)) (k : zX g M mc ms Q pc' lv (v :: w :: v :: w :: st) h bc bs) : zX g M mc ms Q pc lv (v :: w :: st) h bc bs := by
  subst hp
  intro p e s m args below meth c F H locs cells slots ls hP hs hL hc hsl hl
  refine lv_dup2_11 F.1 F.2.1 d hv hw ?_
  exact k p e s m args below meth c F H locs cells slots ls hP hs hL hc hsl hl

theorem r_top {x : Int32} (y : Int) (hy : x = zI y) (k : zX g M mc ms Q pc lv (.int (zI y) :: st) h bc bs) : zX g M mc ms Q pc lv (.int x :: st) h bc bs := by subst hy; exact k

theorem r_topl {x : Int64} (y : Int) (hy : x = zL y) (k : zX g M mc ms Q pc lv (.long (zL y) :: st) h bc bs) : zX g M mc ms Q pc lv (.long x :: st) h bc bs := by subst hy; exact k

theorem r_cut (tgt : Nat) (v : Int) (hk : zX g M mc ms Q tgt lv (.int (zI v) :: st) h bc bs) (hw : zX g M mc ms Q tgt lv (.int (zI v) :: st) h bc bs → zX g M mc ms Q pc lv st h bc bs) : zX g M mc ms Q pc lv st h bc bs := hw hk

theorem r_lv {lv2 : List (Option Value)} (hle : ∀ (i : Nat) (v : Value), lv2[i]? = some (some v) → lv[i]? = some (some v)) (k : zX g M mc ms Q pc lv2 st h bc bs) : zX g M mc ms Q pc lv st h bc bs := by
  intro p e s m args below meth c F H locs cells slots ls hP hs hL hc hsl hl
  exact k p e s m args below meth c F H locs cells slots ls hP hs hL hc hsl (hl.le hle)

theorem r_room {bc2 bs2 : Nat} (h1 : bc2 ≤ bc) (h2 : bs2 ≤ bs) (k : zX g M mc ms Q pc lv st h bc2 bs2) : zX g M mc ms Q pc lv st h bc bs := by
  intro p e s m args below meth c F H locs cells slots ls hP hs hL hc hsl hl
  exact k p e s m args below meth c F H locs cells slots ls hP hs hL (by omega) (by omega) hl

theorem r_ifeq {a : Int} (ha : zR a) (pc' : Nat) (hp : pc + 3 = pc') (tgt : Nat) {off : Int} (ht : (pc : Int) + off = (tgt : Int)) (d : decode M.2.1 pc = .ok (.ifCond .eq off, 3)) (kt : a = 0 → zX g M mc ms Q tgt lv st h bc bs) (kf : ¬ a = 0 → zX g M mc ms Q pc' lv st h bc bs) : zX g M mc ms Q pc lv (.int (zI a) :: st) h bc bs := by
  subst hp
  intro p e s m args below meth c F H locs cells slots ls hP hs hL hc hsl hl
  refine lv_if_eq F.1 F.2.1 d ht (fun q => ?_) (fun q => ?_)
  · exact kt (by simp only [ge_iff_le, gt_iff_lt, ne_eq, zI_0, zI_eq ha (b := 0) (by omega), zI_lt ha (b := 0) (by omega), zI_le ha (b := 0) (by omega), zI_lt (a := 0) (by omega) ha, zI_le (a := 0) (by omega) ha] at q; omega) p e s m args below meth c F H locs cells slots ls hP hs hL hc hsl hl
  · exact kf (by simp only [ge_iff_le, gt_iff_lt, ne_eq, zI_0, zI_eq ha (b := 0) (by omega), zI_lt ha (b := 0) (by omega), zI_le ha (b := 0) (by omega), zI_lt (a := 0) (by omega) ha, zI_le (a := 0) (by omega) ha] at q; omega) p e s m args below meth c F H locs cells slots ls hP hs hL hc hsl hl

theorem r_if_icmpeq {a b : Int} (ha : zR a) (hb : zR b) (pc' : Nat) (hp : pc + 3 = pc') (tgt : Nat) {off : Int} (ht : (pc : Int) + off = (tgt : Int)) (d : decode M.2.1 pc = .ok (.if_icmp .eq off, 3)) (kt : a = b → zX g M mc ms Q tgt lv st h bc bs) (kf : ¬ a = b → zX g M mc ms Q pc' lv st h bc bs) : zX g M mc ms Q pc lv (.int (zI b) :: .int (zI a) :: st) h bc bs := by
  subst hp
  intro p e s m args below meth c F H locs cells slots ls hP hs hL hc hsl hl
  refine lv_icmp_eq F.1 F.2.1 d ht (fun q => ?_) (fun q => ?_)
  · exact kt (by simp only [ge_iff_le, gt_iff_lt, ne_eq, zI_eq ha hb, zI_lt ha hb, zI_le ha hb, zI_lt hb ha, zI_le hb ha] at q; omega) p e s m args below meth c F H locs cells slots ls hP hs hL hc hsl hl
  · exact kf (by simp only [ge_iff_le, gt_iff_lt, ne_eq, zI_eq ha hb, zI_lt ha hb, zI_le ha hb, zI_lt hb ha, zI_le hb ha] at q; omega) p e s m args below meth c F H locs cells slots ls hP hs hL hc hsl hl

theorem r_ifne {a : Int} (ha : zR a) (pc' : Nat) (hp : pc + 3 = pc') (tgt : Nat) {off : Int} (ht : (pc : Int) + off = (tgt : Int)) (d : decode M.2.1 pc = .ok (.ifCond .ne off, 3)) (kt : ¬ a = 0 → zX g M mc ms Q tgt lv st h bc bs) (kf : a = 0 → zX g M mc ms Q pc' lv st h bc bs) : zX g M mc ms Q pc lv (.int (zI a) :: st) h bc bs := by
  subst hp
  intro p e s m args below meth c F H locs cells slots ls hP hs hL hc hsl hl
  refine lv_if_ne F.1 F.2.1 d ht (fun q => ?_) (fun q => ?_)
  · exact kt (by simp only [ge_iff_le, gt_iff_lt, ne_eq, zI_0, zI_eq ha (b := 0) (by omega), zI_lt ha (b := 0) (by omega), zI_le ha (b := 0) (by omega), zI_lt (a := 0) (by omega) ha, zI_le (a := 0) (by omega) ha] at q; omega) p e s m args below meth c F H locs cells slots ls hP hs hL hc hsl hl
  · exact kf (by simp only [ge_iff_le, gt_iff_lt, ne_eq, zI_0, zI_eq ha (b := 0) (by omega), zI_lt ha (b := 0) (by omega), zI_le ha (b := 0) (by omega), zI_lt (a := 0) (by omega) ha, zI_le (a := 0) (by omega) ha] at q; omega) p e s m args below meth c F H locs cells slots ls hP hs hL hc hsl hl

theorem r_if_icmpne {a b : Int} (ha : zR a) (hb : zR b) (pc' : Nat) (hp : pc + 3 = pc') (tgt : Nat) {off : Int} (ht : (pc : Int) + off = (tgt : Int)) (d : decode M.2.1 pc = .ok (.if_icmp .ne off, 3)) (kt : ¬ a = b → zX g M mc ms Q tgt lv st h bc bs) (kf : a = b → zX g M mc ms Q pc' lv st h bc bs) : zX g M mc ms Q pc lv (.int (zI b) :: .int (zI a) :: st) h bc bs := by
  subst hp
  intro p e s m args below meth c F H locs cells slots ls hP hs hL hc hsl hl
  refine lv_icmp_ne F.1 F.2.1 d ht (fun q => ?_) (fun q => ?_)
  · exact kt (by simp only [ge_iff_le, gt_iff_lt, ne_eq, zI_eq ha hb, zI_lt ha hb, zI_le ha hb, zI_lt hb ha, zI_le hb ha] at q; omega) p e s m args below meth c F H locs cells slots ls hP hs hL hc hsl hl
  · exact kf (by simp only [ge_iff_le, gt_iff_lt, ne_eq, zI_eq ha hb, zI_lt ha hb, zI_le ha hb, zI_lt hb ha, zI_le hb ha] at q; omega) p e s m args below meth c F H locs cells slots ls hP hs hL hc hsl hl

theorem r_iflt {a : Int} (ha : zR a) (pc' : Nat) (hp : pc + 3 = pc') (tgt : Nat) {off : Int} (ht : (pc : Int) + off = (tgt : Int)) (d : decode M.2.1 pc = .ok (.ifCond .lt off, 3)) (kt : a < 0 → zX g M mc ms Q tgt lv st h bc bs) (kf : 0 ≤ a → zX g M mc ms Q pc' lv st h bc bs) : zX g M mc ms Q pc lv (.int (zI a) :: st) h bc bs := by
  subst hp
  intro p e s m args below meth c F H locs cells slots ls hP hs hL hc hsl hl
  refine lv_if_lt F.1 F.2.1 d ht (fun q => ?_) (fun q => ?_)
  · exact kt (by simp only [ge_iff_le, gt_iff_lt, ne_eq, zI_0, zI_eq ha (b := 0) (by omega), zI_lt ha (b := 0) (by omega), zI_le ha (b := 0) (by omega), zI_lt (a := 0) (by omega) ha, zI_le (a := 0) (by omega) ha] at q; omega) p e s m args below meth c F H locs cells slots ls hP hs hL hc hsl hl
  · exact kf (by simp only [ge_iff_le, gt_iff_lt, ne_eq, zI_0, zI_eq ha (b := 0) (by omega), zI_lt ha (b := 0) (by omega), zI_le ha (b := 0) (by omega), zI_lt (a := 0) (by omega) ha, zI_le (a := 0) (by omega) ha] at q; omega) p e s m args below meth c F H locs cells slots ls hP hs hL hc hsl hl

theorem r_if_icmplt {a b : Int} (ha : zR a) (hb : zR b) (pc' : Nat) (hp : pc + 3 = pc') (tgt : Nat) {off : Int} (ht : (pc : Int) + off = (tgt : Int)) (d : decode M.2.1 pc = .ok (.if_icmp .lt off, 3)) (kt : a < b → zX g M mc ms Q tgt lv st h bc bs) (kf : b ≤ a → zX g M mc ms Q pc' lv st h bc bs) : zX g M mc ms Q pc lv (.int (zI b) :: .int (zI a) :: st) h bc bs := by
  subst hp
  intro p e s m args below meth c F H locs cells slots ls hP hs hL hc hsl hl
  refine lv_icmp_lt F.1 F.2.1 d ht (fun q => ?_) (fun q => ?_)
  · exact kt (by simp only [ge_iff_le, gt_iff_lt, ne_eq, zI_eq ha hb, zI_lt ha hb, zI_le ha hb, zI_lt hb ha, zI_le hb ha] at q; omega) p e s m args below meth c F H locs cells slots ls hP hs hL hc hsl hl
  · exact kf (by simp only [ge_iff_le, gt_iff_lt, ne_eq, zI_eq ha hb, zI_lt ha hb, zI_le ha hb, zI_lt hb ha, zI_le hb ha] at q; omega) p e s m args below meth c F H locs cells slots ls hP hs hL hc hsl hl

theorem r_ifge {a : Int} (ha : zR a) (pc' : Nat) (hp : pc + 3 = pc') (tgt : Nat) {off : Int} (ht : (pc : Int) + off = (tgt : Int)) (d : decode M.2.1 pc = .ok (.ifCond .ge off, 3)) (kt : 0 ≤ a → zX g M mc ms Q tgt lv st h bc bs) (kf : a < 0 → zX g M mc ms Q pc' lv st h bc bs) : zX g M mc ms Q pc lv (.int (zI a) :: st) h bc bs := by
  subst hp
  intro p e s m args below meth c F H locs cells slots ls hP hs hL hc hsl hl
  refine lv_if_ge F.1 F.2.1 d ht (fun q => ?_) (fun q => ?_)
  · exact kt (by simp only [ge_iff_le, gt_iff_lt, ne_eq, zI_0, zI_eq ha (b := 0) (by omega), zI_lt ha (b := 0) (by omega), zI_le ha (b := 0) (by omega), zI_lt (a := 0) (by omega) ha, zI_le (a := 0) (by omega) ha] at q; omega) p e s m args below meth c F H locs cells slots ls hP hs hL hc hsl hl
  · exact kf (by simp only [ge_iff_le, gt_iff_lt, ne_eq, zI_0, zI_eq ha (b := 0) (by omega), zI_lt ha (b := 0) (by omega), zI_le ha (b := 0) (by omega), zI_lt (a := 0) (by omega) ha, zI_le (a := 0) (by omega) ha] at q; omega) p e s m args below meth c F H locs cells slots ls hP hs hL hc hsl hl

theorem r_if_icmpge {a b : Int} (ha : zR a) (hb : zR b) (pc' : Nat) (hp : pc + 3 = pc') (tgt : Nat) {off : Int} (ht : (pc : Int) + off = (tgt : Int)) (d : decode M.2.1 pc = .ok (.if_icmp .ge off, 3)) (kt : b ≤ a → zX g M mc ms Q tgt lv st h bc bs) (kf : a < b → zX g M mc ms Q pc' lv st h bc bs) : zX g M mc ms Q pc lv (.int (zI b) :: .int (zI a) :: st) h bc bs := by
  subst hp
  intro p e s m args below meth c F H locs cells slots ls hP hs hL hc hsl hl
  refine lv_icmp_ge F.1 F.2.1 d ht (fun q => ?_) (fun q => ?_)
  · exact kt (by simp only [ge_iff_le, gt_iff_lt, ne_eq, zI_eq ha hb, zI_lt ha hb, zI_le ha hb, zI_lt hb ha, zI_le hb ha] at q; omega) p e s m args below meth c F H locs cells slots ls hP hs hL hc hsl hl
  · exact kf (by simp only [ge_iff_le, gt_iff_lt, ne_eq, zI_eq ha hb, zI_lt ha hb, zI_le ha hb, zI_lt hb ha, zI_le hb ha] at q; omega) p e s m args below meth c F H locs cells slots ls hP hs hL hc hsl hl

theorem r_ifgt {a : Int} (ha : zR a) (pc' : Nat) (hp : pc + 3 = pc') (tgt : Nat) {off : Int} (ht : (pc : Int) + off = (tgt : Int)) (d : decode M.2.1 pc = .ok (.ifCond .gt off, 3)) (kt : 0 < a → zX g M mc ms Q tgt lv st h bc bs) (kf : a ≤ 0 → zX g M mc ms Q pc' lv st h bc bs) : zX g M mc ms Q pc lv (.int (zI a) :: st) h bc bs := by
  subst hp
  intro p e s m args below meth c F H locs cells slots ls hP hs hL hc hsl hl
  refine lv_if_gt F.1 F.2.1 d ht (fun q => ?_) (fun q => ?_)
  · exact kt (by simp only [ge_iff_le, gt_iff_lt, ne_eq, zI_0, zI_eq ha (b := 0) (by omega), zI_lt ha (b := 0) (by omega), zI_le ha (b := 0) (by omega), zI_lt (a := 0) (by omega) ha, zI_le (a := 0) (by omega) ha] at q; omega) p e s m args below meth c F H locs cells slots ls hP hs hL hc hsl hl
  · exact kf (by simp only [ge_iff_le, gt_iff_lt, ne_eq, zI_0, zI_eq ha (b := 0) (by omega), zI_lt ha (b := 0) (by omega), zI_le ha (b := 0) (by omega), zI_lt (a := 0) (by omega) ha, zI_le (a := 0) (by omega) ha] at q; omega) p e s m args below meth c F H locs cells slots ls hP hs hL hc hsl hl

theorem r_if_icmpgt {a b : Int} (ha : zR a) (hb : zR b) (pc' : Nat) (hp : pc + 3 = pc') (tgt : Nat) {off : Int} (ht : (pc : Int) + off = (tgt : Int)) (d : decode M.2.1 pc = .ok (.if_icmp .gt off, 3)) (kt : b < a → zX g M mc ms Q tgt lv st h bc bs) (kf : a ≤ b → zX g M mc ms Q pc' lv st h bc bs) : zX g M mc ms Q pc lv (.int (zI b) :: .int (zI a) :: st) h bc bs := by
  subst hp
  intro p e s m args below meth c F H locs cells slots ls hP hs hL hc hsl hl
  refine lv_icmp_gt F.1 F.2.1 d ht (fun q => ?_) (fun q => ?_)
  · exact kt (by simp only [ge_iff_le, gt_iff_lt, ne_eq, zI_eq ha hb, zI_lt ha hb, zI_le ha hb, zI_lt hb ha, zI_le hb ha] at q; omega) p e s m args below meth c F H locs cells slots ls hP hs hL hc hsl hl
  · exact kf (by simp only [ge_iff_le, gt_iff_lt, ne_eq, zI_eq ha hb, zI_lt ha hb, zI_le ha hb, zI_lt hb ha, zI_le hb ha] at q; omega) p e s m args below meth c F H locs cells slots ls hP hs hL hc hsl hl

theorem r_ifle {a : Int} (ha : zR a) (pc' : Nat) (hp : pc + 3 = pc') (tgt : Nat) {off : Int} (ht : (pc : Int) + off = (tgt : Int)) (d : decode M.2.1 pc = .ok (.ifCond .le off, 3)) (kt : a ≤ 0 → zX g M mc ms Q tgt lv st h bc bs) (kf : 0 < a → zX g M mc ms Q pc' lv st h bc bs) : zX g M mc ms Q pc lv (.int (zI a) :: st) h bc bs := by
  subst hp
  intro p e s m args below meth c F H locs cells slots ls hP hs hL hc hsl hl
  refine lv_if_le F.1 F.2.1 d ht (fun q => ?_) (fun q => ?_)
  · exact kt (by simp only [ge_iff_le, gt_iff_lt, ne_eq, zI_0, zI_eq ha (b := 0) (by omega), zI_lt ha (b := 0) (by omega), zI_le ha (b := 0) (by omega), zI_lt (a := 0) (by omega) ha, zI_le (a := 0) (by omega) ha] at q; omega) p e s m args below meth c F H locs cells slots ls hP hs hL hc hsl hl
  · exact kf (by simp only [ge_iff_le, gt_iff_lt, ne_eq, zI_0, zI_eq ha (b := 0) (by omega), zI_lt ha (b := 0) (by omega), zI_le ha (b := 0) (by omega), zI_lt (a := 0) (by omega) ha, zI_le (a := 0) (by omega) ha] at q; omega) p e s m args below meth c F H locs cells slots ls hP hs hL hc hsl hl

theorem r_if_icmple {a b : Int} (ha : zR a) (hb : zR b) (pc' : Nat) (hp : pc + 3 = pc') (tgt : Nat) {off : Int} (ht : (pc : Int) + off = (tgt : Int)) (d : decode M.2.1 pc = .ok (.if_icmp .le off, 3)) (kt : a ≤ b → zX g M mc ms Q tgt lv st h bc bs) (kf : b < a → zX g M mc ms Q pc' lv st h bc bs) : zX g M mc ms Q pc lv (.int (zI b) :: .int (zI a) :: st) h bc bs := by
  subst hp
  intro p e s m args below meth c F H locs cells slots ls hP hs hL hc hsl hl
  refine lv_icmp_le F.1 F.2.1 d ht (fun q => ?_) (fun q => ?_)
  · exact kt (by simp only [ge_iff_le, gt_iff_lt, ne_eq, zI_eq ha hb, zI_lt ha hb, zI_le ha hb, zI_lt hb ha, zI_le hb ha] at q; omega) p e s m args below meth c F H locs cells slots ls hP hs hL hc hsl hl
  · exact kf (by simp only [ge_iff_le, gt_iff_lt, ne_eq, zI_eq ha hb, zI_lt ha hb, zI_le ha hb, zI_lt hb ha, zI_le hb ha] at q; omega) p e s m args below meth c F H locs cells slots ls hP hs hL hc hsl hl

theorem r_goto (tgt : Nat) {off : Int} (ht : (pc : Int) + off = (tgt : Int)) (d : decode M.2.1 pc = .ok (.goto off, 3)) (k : zX g M mc ms Q tgt lv st h bc bs) : zX g M mc ms Q pc lv st h bc bs := by
  intro p e s m args below meth c F H locs cells slots ls hP hs hL hc hsl hl
  exact lv_goto F.1 F.2.1 d ht (k p e s m args below meth c F H locs cells slots ls hP hs hL hc hsl hl)

theorem r_ifnonnull {x : Nat} (tgt : Nat) {off : Int} (ht : (pc : Int) + off = (tgt : Int)) (d : decode M.2.1 pc = .ok (.ifnonnull off, 3)) (k : zX g M mc ms Q tgt lv st h bc bs) : zX g M mc ms Q pc lv (.ref x :: st) h bc bs := by
  intro p e s m args below meth c F H locs cells slots ls hP hs hL hc hsl hl
  exact lv_ifnonnull F.1 F.2.1 d ht (k p e s m args below meth c F H locs cells slots ls hP hs hL hc hsl hl)

theorem r_ifnull {x : Nat} (pc' : Nat) (hp : pc + 3 = pc') {off : Int} (d : decode M.2.1 pc = .ok (.ifnull off, 3)) (k : zX g M mc ms Q pc' lv st h bc bs) : zX g M mc ms Q pc lv (.ref x :: st) h bc bs := by
  subst hp
  intro p e s m args below meth c F H locs cells slots ls hP hs hL hc hsl hl
  exact lv_ifnull F.1 F.2.1 d (k p e s m args below meth c F H locs cells slots ls hP hs hL hc hsl hl)

theorem r_ifnullN (tgt : Nat) {off : Int} (ht : (pc : Int) + off = (tgt : Int)) (d : decode M.2.1 pc = .ok (.ifnull off, 3)) (k : zX g M mc ms Q tgt lv st h bc bs) : zX g M mc ms Q pc lv (.null :: st) h bc bs := by
  intro p e s m args below meth c F H locs cells slots ls hP hs hL hc hsl hl
  exact lv_ifnullN F.1 F.2.1 d ht (k p e s m args below meth c F H locs cells slots ls hP hs hL hc hsl hl)

theorem r_null (pc' : Nat) (hp : pc + 1 = pc') (d : decode M.2.1 pc = .ok (.aconst_null, 1)) (k : zX g M mc ms Q pc' lv (.null :: st) h bc bs) : zX g M mc ms Q pc lv st h bc bs := by
  subst hp
  intro p e s m args below meth c F H locs cells slots ls hP hs hL hc hsl hl
  exact lv_null F.1 F.2.1 d (k p e s m args below meth c F H locs cells slots ls hP hs hL hc hsl hl)

end Rows
end
section
def zG (g : zGT) : Prop := (gl_ g).stackTraces = false ∧ (∀ w ∈ lw_tbl, w.before (ga_ g) (gS_ g) = true) ∧ va_K (gD_ g) vwCl [] (gS_ g) ∧ (∀ k, 20 ≤ k → k ≤ 27 → ArrOfT (gS_ g) (gA_ g k) (z_aty k) ∧ va_RA (gS_ g) (gA_ g k) (z_aty k)) ∧ vx_Zq Bundle.tN "UNASSIGNED_STACK" Bundle.steD (fun q => (gS_ g).heap.size ≤ q) (gS_ g) (gS_ g).heap ∧ vx_Zq Bundle.tN "SUPPRESSED_SENTINEL" Bundle.listD (fun q => (gS_ g).heap.size ≤ q) (gS_ g) (gS_ g).heap ∧ va_Z "java/util/ArrayList" "DEFAULTCAPACITY_EMPTY_ELEMENTDATA" "[Ljava/lang/Object;" (.ref (ge_ g)) (fun q => (gS_ g).heap.size ≤ q) (gS_ g) (gS_ g).heap
def z_in (C : String) (T : u_T) (N : Nat) : Prop := ∀ w ∈ u_ws C T N, w ∈ lw_tbl.filter goodWord
theorem z_in_of {C : String} {T : u_T} {N : Nat} (h : ∀ k, k < N → u_lay C T k ∈ lw_tbl) (hg : (u_ws C T N).all goodWord = true) : z_in C T N := by
  intro w hw
  refine List.mem_filter.mpr ⟨?_, List.all_eq_true.mp hg w hw⟩
  obtain ⟨k, hk, rfl⟩ := List.mem_map.mp hw
  exact h k (List.mem_range.mp hk)
def z_cls (c : Nat) (C : String) (T : u_T) (N : Nat) (ty : Nat → FieldType) : Prop := vwCl[c]? = some (C, T, N) ∧ z_in C T N ∧ (∀ k, k < N → parseFieldDescriptor (T k).2.2.1 = some (ty k)) ∧ (∀ a, a < N → ∀ b, b < N → a ≠ b → (T a).2.1 ≠ (T b).2.1) ∧ z_ty c = ty ∧ z_N c = N ∧ c < 16

theorem zc_J0 : z_cls 0 RJ0 TJ0 4 tyJ0 := ⟨rfl, z_in_of (fun k hk => match k, hk with
  | 0, _ => tb_4 102 _ rfl
  | 1, _ => tb_4 104 _ rfl
  | 2, _ => tb_4 106 _ rfl
  | 3, _ => tb_4 108 _ rfl
  | n + 4, hk => absurd hk (by omega)) (by decide +kernel), tyJ0_ok, nmJ0, rfl, rfl, by decide⟩
theorem zc_J4 : z_cls 1 RJ4 TJ4 4 tyJ4 := ⟨rfl, z_in_of (fun k hk => match k, hk with
  | 0, _ => tb_3 130 _ rfl
  | 1, _ => tb_3 132 _ rfl
  | 2, _ => tb_3 134 _ rfl
  | 3, _ => tb_3 136 _ rfl
  | n + 4, hk => absurd hk (by omega)) (by decide +kernel), tyJ4_ok, nmJ4, rfl, rfl, by decide⟩
theorem zc_Jx4a65c : z_cls 2 RJx4a65c TJx4a65c 3 tyJx4a65c := ⟨rfl, z_in_of (fun k hk => match k, hk with
  | 0, _ => tb_1 101 _ rfl
  | 1, _ => tb_1 97 _ rfl
  | 2, _ => tb_1 99 _ rfl
  | n + 3, hk => absurd hk (by omega)) (by decide +kernel), tyJx4a65c_ok, nmJx4a65c, rfl, rfl, by decide⟩
theorem zc_X0 : z_cls 3 RX0 TX0 2 tyX0 := ⟨rfl, z_in_of (fun k hk => match k, hk with
  | 0, _ => tb_1 53 _ rfl
  | 1, _ => tb_1 55 _ rfl
  | n + 2, hk => absurd hk (by omega)) (by decide +kernel), tyX0_ok, nmX0, rfl, rfl, by decide⟩
theorem zc_X1 : z_cls 4 RX1 TX1 3 tyX1 := ⟨rfl, z_in_of (fun k hk => match k, hk with
  | 0, _ => tb_1 114 _ rfl
  | 1, _ => tb_1 116 _ rfl
  | 2, _ => tb_1 118 _ rfl
  | n + 3, hk => absurd hk (by omega)) (by decide +kernel), tyX1_ok, nmX1, rfl, rfl, by decide⟩
theorem zc_X2 : z_cls 5 RX2 TX2 4 tyX2 := ⟨rfl, z_in_of (fun k hk => match k, hk with
  | 0, _ => tb_3 80 _ rfl
  | 1, _ => tb_3 82 _ rfl
  | 2, _ => tb_3 84 _ rfl
  | 3, _ => tb_3 86 _ rfl
  | n + 4, hk => absurd hk (by omega)) (by decide +kernel), tyX2_ok, nmX2, rfl, rfl, by decide⟩
theorem zc_X3 : z_cls 6 RX3 TX3 5 tyX3 := ⟨rfl, z_in_of (fun k hk => match k, hk with
  | 0, _ => tb_5 190 _ rfl
  | 1, _ => tb_5 192 _ rfl
  | 2, _ => tb_5 194 _ rfl
  | 3, _ => tb_5 196 _ rfl
  | 4, _ => tb_5 198 _ rfl
  | n + 5, hk => absurd hk (by omega)) (by decide +kernel), tyX3_ok, nmX3, rfl, rfl, by decide⟩
theorem zc_X4 : z_cls 7 RX4 TX4 3 tyX4 := ⟨rfl, z_in_of (fun k hk => match k, hk with
  | 0, _ => tb_2 95 _ rfl
  | 1, _ => tb_2 97 _ rfl
  | 2, _ => tb_2 99 _ rfl
  | n + 3, hk => absurd hk (by omega)) (by decide +kernel), tyX4_ok, nmX4, rfl, rfl, by decide⟩
theorem zc_X5 : z_cls 8 RX5 TX5 2 tyX5 := ⟨rfl, z_in_of (fun k hk => match k, hk with
  | 0, _ => tb_3 11 _ rfl
  | 1, _ => tb_3 13 _ rfl
  | n + 2, hk => absurd hk (by omega)) (by decide +kernel), tyX5_ok, nmX5, rfl, rfl, by decide⟩
theorem zc_X6 : z_cls 9 RX6 TX6 3 tyX6 := ⟨rfl, z_in_of (fun k hk => match k, hk with
  | 0, _ => tb_1 69 _ rfl
  | 1, _ => tb_1 71 _ rfl
  | 2, _ => tb_1 73 _ rfl
  | n + 3, hk => absurd hk (by omega)) (by decide +kernel), tyX6_ok, nmX6, rfl, rfl, by decide⟩
theorem zc_X7 : z_cls 10 RX7 TX7 4 tyX7 := ⟨rfl, z_in_of (fun k hk => match k, hk with
  | 0, _ => tb_5 138 _ rfl
  | 1, _ => tb_5 140 _ rfl
  | 2, _ => tb_5 142 _ rfl
  | 3, _ => tb_5 144 _ rfl
  | n + 4, hk => absurd hk (by omega)) (by decide +kernel), tyX7_ok, nmX7, rfl, rfl, by decide⟩
theorem zc_X8 : z_cls 11 RX8 TX8 5 tyX8 := ⟨rfl, z_in_of (fun k hk => match k, hk with
  | 0, _ => tb_2 81 _ rfl
  | 1, _ => tb_2 83 _ rfl
  | 2, _ => tb_2 85 _ rfl
  | 3, _ => tb_2 87 _ rfl
  | 4, _ => tb_2 89 _ rfl
  | n + 5, hk => absurd hk (by omega)) (by decide +kernel), tyX8_ok, nmX8, rfl, rfl, by decide⟩
theorem zc_X9 : z_cls 12 RX9 TX9 5 tyX9 := ⟨rfl, z_in_of (fun k hk => match k, hk with
  | 0, _ => tb_2 117 _ rfl
  | 1, _ => tb_2 119 _ rfl
  | 2, _ => tb_2 121 _ rfl
  | 3, _ => tb_2 123 _ rfl
  | 4, _ => tb_2 125 _ rfl
  | n + 5, hk => absurd hk (by omega)) (by decide +kernel), tyX9_ok, nmX9, rfl, rfl, by decide⟩
theorem zc_X10 : z_cls 13 RX10 TX10 7 tyX10 := ⟨rfl, z_in_of (fun k hk => match k, hk with
  | 0, _ => tb_2 142 _ rfl
  | 1, _ => tb_2 144 _ rfl
  | 2, _ => tb_2 146 _ rfl
  | 3, _ => tb_2 148 _ rfl
  | 4, _ => tb_2 150 _ rfl
  | 5, _ => tb_2 152 _ rfl
  | 6, _ => tb_2 154 _ rfl
  | n + 7, hk => absurd hk (by omega)) (by decide +kernel), tyX10_ok, nmX10, rfl, rfl, by decide⟩
theorem zc_X11 : z_cls 14 RX11 TX11 10 tyX11 := ⟨rfl, z_in_of (fun k hk => match k, hk with
  | 0, _ => tb_1 132 _ rfl
  | 1, _ => tb_1 134 _ rfl
  | 2, _ => tb_1 136 _ rfl
  | 3, _ => tb_1 138 _ rfl
  | 4, _ => tb_1 140 _ rfl
  | 5, _ => tb_1 142 _ rfl
  | 6, _ => tb_1 144 _ rfl
  | 7, _ => tb_1 146 _ rfl
  | 8, _ => tb_1 148 _ rfl
  | 9, _ => tb_1 150 _ rfl
  | n + 10, hk => absurd hk (by omega)) (by decide +kernel), tyX11_ok, nmX11, rfl, rfl, by decide⟩
theorem zc_X12 : z_cls 15 RX12 TX12 44 tyX12 := ⟨rfl, z_in_of (fun k hk => match k, hk with
  | 0, _ => tb_6 100 _ rfl
  | 1, _ => tb_6 102 _ rfl
  | 2, _ => tb_6 104 _ rfl
  | 3, _ => tb_6 106 _ rfl
  | 4, _ => tb_6 108 _ rfl
  | 5, _ => tb_6 110 _ rfl
  | 6, _ => tb_6 112 _ rfl
  | 7, _ => tb_6 114 _ rfl
  | 8, _ => tb_6 116 _ rfl
  | 9, _ => tb_6 118 _ rfl
  | 10, _ => tb_6 120 _ rfl
  | 11, _ => tb_6 122 _ rfl
  | 12, _ => tb_6 124 _ rfl
  | 13, _ => tb_6 126 _ rfl
  | 14, _ => tb_6 128 _ rfl
  | 15, _ => tb_6 130 _ rfl
  | 16, _ => tb_6 132 _ rfl
  | 17, _ => tb_6 134 _ rfl
  | 18, _ => tb_6 136 _ rfl
  | 19, _ => tb_6 138 _ rfl
  | 20, _ => tb_6 140 _ rfl
  | 21, _ => tb_6 142 _ rfl
  | 22, _ => tb_6 144 _ rfl
  | 23, _ => tb_6 146 _ rfl
  | 24, _ => tb_6 148 _ rfl
  | 25, _ => tb_6 150 _ rfl
  | 26, _ => tb_6 152 _ rfl
  | 27, _ => tb_6 154 _ rfl
  | 28, _ => tb_6 156 _ rfl
  | 29, _ => tb_6 158 _ rfl
  | 30, _ => tb_6 160 _ rfl
  | 31, _ => tb_6 162 _ rfl
  | 32, _ => tb_6 164 _ rfl
  | 33, _ => tb_6 166 _ rfl
  | 34, _ => tb_6 168 _ rfl
  | 35, _ => tb_6 170 _ rfl
  | 36, _ => tb_6 172 _ rfl
  | 37, _ => tb_6 174 _ rfl
  | 38, _ => tb_6 176 _ rfl
  | 39, _ => tb_6 178 _ rfl
  | 40, _ => tb_6 180 _ rfl
  | 41, _ => tb_6 182 _ rfl
  | 42, _ => tb_6 184 _ rfl
  | 43, _ => tb_6 186 _ rfl
  | n + 44, hk => absurd hk (by omega)) (by decide +kernel), tyX12_ok, nmX12, rfl, rfl, by decide⟩

theorem zw {g : zGT} {M : zM} {p : Program} {s : State} {m : MethodId} {meth : Method} {c : Code} (hg : zG g) (F : zF g M p s m meth c) {args : Array Value} {w : Cond} (hw : w ∈ lw_tbl) (hgw : goodWord w = true) : w.before args s = true :=
  word_at F.2.2.2.2.2.2.2.1 (good_of_word hgw) (hg.2.1 w hw)
theorem zts {g : zGT} {M : zM} {p : Program} {s : State} {m : MethodId} {meth : Method} {c : Code} (hg : zG g) (F : zF g M p s m meth c) {args : Array Value} : ∀ w ∈ lw_tbl.filter goodWord, w.before args s = true := fun w hw => zw hg F (List.mem_filter.mp hw).1 (List.mem_filter.mp hw).2
theorem zK {g : zGT} {M : zM} {p : Program} {s : State} {m : MethodId} {meth : Method} {c : Code} (hg : zG g) (F : zF g M p s m meth c) : va_K (gD_ g) vwCl [] s := va_K.moved F.2.2.2.2.2.2.2.1.alike hg.2.2.1
theorem zKa {g : zGT} {M : zM} {p : Program} {s : State} {m : MethodId} {meth : Method} {c : Code} (hg : zG g) (F : zF g M p s m meth c) {k : Nat} (h1 : 20 ≤ k) (h2 : k ≤ 27) : va_K (gD_ g) vwCl [(gA_ g k, z_aty k)] s := by
  refine ⟨(zK hg F).1, fun i q hq => ?_⟩
  have hi : i < 1 := (List.getElem?_eq_some_iff.mp hq).1
  rw [show i = 0 by omega] at hq
  cases hq
  obtain ⟨a, b⟩ := hg.2.2.2.1 k h1 h2
  exact ⟨arrOfT_moved F.2.2.2.2.2.2.2.1.alike a, b.moved F.2.2.2.2.2.2.2.1.alike⟩
theorem z_in2 {i : Int} {n : Nat} (h0 : 0 ≤ i) (h2 : i ≤ 2147483647) (h1 : i < n) : vp_in (zI i) n := by
  rintro (q | q)
  · exact zI_nonneg (by unfold zR; omega) h0 q
  · rw [zI_clamp h0 h2] at q; omega
theorem zP.real {g : zGT} {h : zH} {H : Heap} (hP : zP g h H) {a k : Nat} (hk : kd_ h a = k) (h0 : k ≠ 0) (h1 : k ≠ 1) (h2 : k ≠ 24) (h3 : k ≠ 27) : (gS_ g).heap.size ≤ a := hP.2.1 a (by omega) (by unfold z_ro; omega)
section Heap
variable {g : zGT} {M : zM} {mc ms : Nat} {Q : zO → zH → Prop} {pc : Nat} {lv : List (Option Value)} {st : List Value} {h : zH} {bc bs : Nat}

theorem r_getf {ci C T N ty a idx ref} (hg : zG g) (zc : z_cls ci C T N ty) (k : Nat) (hk : k < N) {v : Value} (hv : z_fld h a ci k = v) (hkd : kd_ h a = ci + 1) (href : ref = (T k).1 ∨ Cond.sameField ref (T k).1 (T k).2.1 (T k).2.2.1 ∈ lw_tbl) (hlink : Cond.fieldLink M.1 idx ref (T k).2.1 (T k).2.2.1 ∈ lw_tbl) (pc' : Nat) (hp : pc + 3 = pc') (d : decode M.2.1 pc = .ok (.getfield idx, 3)) (kk : zX g M mc ms Q pc' lv (v :: st) h bc bs) : zX g M mc ms Q pc lv (.ref a :: st) h bc bs := by
  subst hp
  intro p e s m args below meth c F H locs cells slots ls hP hs hL hc hsl hl
  obtain ⟨z1, z2, z3, z4, z5, z6, z7⟩ := zc
  refine va_get F.1 F.2.1 (zts hg F) z2 F.2.2.2.2.1 (zK hg F) (hP.obj hkd z7) 0 rfl z1 k hk (zw hg F hlink rfl) ?_ (by rw [z_obj_get (by rw [z6]; exact hk), hv]) d (kk p e s m args below meth c F H locs cells slots ls hP hs hL hc hsl hl)
  rcases href with rfl | q
  · exact fun x hx => hx
  · exact u_same (zw hg F (args := args) q rfl)

theorem r_putf {ci C T N ty a idx ref} {h1 : zH} (hg : zG g) (zc : z_cls ci C T N ty) (k : Nat) (hk : k < N) {v : Value} (hfin : (T k).2.2.2 = false) (hn : narrow (ty k) v = v) (hfit : fits (ty k) v = true) (hci : 2 ≤ ci) (hkd : kd_ h a = ci + 1)
    (hv : z_fld h1 a ci k = v) (ho : ∀ j, j ≠ k → z_fld h1 a ci j = z_fld h a ci j) (hb : ∀ b, b ≠ a → z_ent (gA_ g) h1 b = z_ent (gA_ g) h b) (e1 : kd_ h1 = kd_ h) (e2 : ln_ h1 = ln_ h) 
    (href : ref = (T k).1 ∨ Cond.sameField ref (T k).1 (T k).2.1 (T k).2.2.1 ∈ lw_tbl) (hlink : Cond.fieldLink M.1 idx ref (T k).2.1 (T k).2.2.1 ∈ lw_tbl) (pc' : Nat) (hp : pc + 3 = pc') (d : decode M.2.1 pc = .ok (.putfield idx, 3)) (kk : zX g M mc ms Q pc' lv st h1 bc bs) : zX g M mc ms Q pc lv (v :: .ref a :: st) h bc bs := by
  subst hp
  intro p e s m args below meth c F H locs cells slots ls hP hs hL hc hsl hl
  obtain ⟨z1, z2, z3, z4, z5, z6, z7⟩ := zc
  have ha0 : (gS_ g).heap.size ≤ a := hP.real hkd (by omega) (by omega) (by omega) (by omega)
  have hts := zts hg F (args := args)
  have hKs := zK hg F
  have hap := va_apart (own := M.1) hts z2 ty z3 z4 hKs z1
  have hPo := hP.obj hkd z7
  obtain ⟨r, q0, cell, q1, q2, q3, q4⟩ := hPo 0 _ rfl
  have hr : r = (C, T, N) := Option.some.inj (q0.symm.trans z1)
  subst hr
  obtain ⟨hS, hfc, kC, hkC, hkind⟩ := hKs.1 ci _ z1
  obtain ⟨cf, kf, fi, f, hi, hsl2⟩ := hS k hk
  have hlay := hts _ (z2 _ (u_in_lay hk))
  unfold u_lay at hlay
  have hst := (u_facts hfc hkC (u_lays hts z2 hk) hi).1
  have hsame : ∀ x, s.fieldFound? (T k).1 (T k).2.1 (T k).2.2.1 = some x → s.fieldFound? ref (T k).2.1 (T k).2.2.1 = some x := by
    rcases href with rfl | q
    · exact fun x hx => hx
    · exact u_same (zw hg F (args := args) q rfl)
  rw [if_neg (by rw [hfin]; decide)] at hlay
  have h6 := u_store hfc hkC hkind hlay hi (z3 k hk) hn hfit
  refine W.putK F.1 F.2.1 (f := f) ⟨F.2.2.2.2.1, zw hg F hlink rfl, ⟨_, _, _, hsame _ hi⟩, hst⟩ (by rw [q2]; exact h6) q1 q3 (by rw [hsl2]; exact k2_hasslot (q4 k hk)) rfl rfl d fun H1 e1x e2x e3x => ?_
  rw [hsl2] at e1x
  have hP1 : zP g h1 H1 := by
    refine hP.put ha0 e2x e3x hb e1 e2 (fun e he => ?_)
    rw [z_at_obj (by rw [e1]; exact hkd) z7] at he
    cases he
    refine ⟨_, z1, t_OB.to (V := updV (vp_V (z_obj h a ci)) k v) ⟨_, e1x, q2, q3, t_set q4 hap hk v⟩ (fun j _ => ?_)⟩
    rw [z_obj_set hv ho]
    exact vp_updV_set (by rw [z_obj_len, z6]; exact hk) v j
  exact kk p e s m args below meth c F H1 _ cells slots ls hP1 (by omega) (fun z hz => (List.mem_append.mp hz).elim (hL z) (fun q => by rw [List.mem_singleton.mp q]; exact ha0)) hc hsl hl

theorem r_putfF {ci C T N ty a idx ref} {h1 : zH} (hg : zG g) (zc : z_cls ci C T N ty) (k : Nat) (hk : k < N) {v : Value} (hfin : (T k).2.2.2 = true) (hn : narrow (ty k) v = v) (hfit : fits (ty k) v = true) (hci : 2 ≤ ci) (hkd : kd_ h a = ci + 1)
    (hv : z_fld h1 a ci k = v) (ho : ∀ j, j ≠ k → z_fld h1 a ci j = z_fld h a ci j) (hb : ∀ b, b ≠ a → z_ent (gA_ g) h1 b = z_ent (gA_ g) h b) (e1 : kd_ h1 = kd_ h) (e2 : ln_ h1 = ln_ h) (hinit : M.2.2.2.2.2.1 = "<init>") (hdecl : (T k).1 = M.1)
    (href : ref = (T k).1 ∨ Cond.sameField ref (T k).1 (T k).2.1 (T k).2.2.1 ∈ lw_tbl) (hlink : Cond.fieldLink M.1 idx ref (T k).2.1 (T k).2.2.1 ∈ lw_tbl) (pc' : Nat) (hp : pc + 3 = pc') (d : decode M.2.1 pc = .ok (.putfield idx, 3)) (kk : zX g M mc ms Q pc' lv st h1 bc bs) : zX g M mc ms Q pc lv (v :: .ref a :: st) h bc bs := by
  subst hp
  intro p e s m args below meth c F H locs cells slots ls hP hs hL hc hsl hl
  obtain ⟨z1, z2, z3, z4, z5, z6, z7⟩ := zc
  have ha0 : (gS_ g).heap.size ≤ a := hP.real hkd (by omega) (by omega) (by omega) (by omega)
  have hts := zts hg F (args := args)
  have hKs := zK hg F
  have hap := va_apart (own := M.1) hts z2 ty z3 z4 hKs z1
  have hPo := hP.obj hkd z7
  obtain ⟨r, q0, cell, q1, q2, q3, q4⟩ := hPo 0 _ rfl
  have hr : r = (C, T, N) := Option.some.inj (q0.symm.trans z1)
  subst hr
  obtain ⟨hS, hfc, kC, hkC, hkind⟩ := hKs.1 ci _ z1
  obtain ⟨cf, kf, fi, f, hi, hsl2⟩ := hS k hk
  have hlay := hts _ (z2 _ (u_in_lay hk))
  unfold u_lay at hlay
  have hst := (u_facts hfc hkC (u_lays hts z2 hk) hi).1
  have hsame : ∀ x, s.fieldFound? (T k).1 (T k).2.1 (T k).2.2.1 = some x → s.fieldFound? ref (T k).2.1 (T k).2.2.1 = some x := by
    rcases href with rfl | q
    · exact fun x hx => hx
    · exact u_same (zw hg F (args := args) q rfl)
  rw [if_pos hfin] at hlay
  have hcf : m.cls = cf := by
    obtain ⟨_, _, c', _, _, _, -, -, hf', -, -, -, hown2, -⟩ := Cond.laysFinal_spec hlay
    have e1 : c' = cf := by have := hi.symm.trans hf'; simp at this; exact this.1.symm
    rw [hdecl] at hown2
    rw [← e1]; exact Option.some.inj (F.2.2.2.2.1.symm.trans hown2)
  have h6 := u_fits hfc hkC hkind (Or.inr hlay) hi (z3 k hk) hn hfit
  refine W.putFinK F.1 F.2.1 F.2.2.2.2.1 (zw hg F hlink rfl) (hsame _ hi) hst hcf (by rw [F.2.2.2.2.2.2.2.2.1]; exact hinit) (by rw [q2]; exact h6) q1 q3 (by rw [hsl2]; exact k2_hasslot (q4 k hk)) rfl rfl d fun H1 e1x e2x e3x => ?_
  rw [hsl2] at e1x
  have hP1 : zP g h1 H1 := by
    refine hP.put ha0 e2x e3x hb e1 e2 (fun e he => ?_)
    rw [z_at_obj (by rw [e1]; exact hkd) z7] at he
    cases he
    refine ⟨_, z1, t_OB.to (V := updV (vp_V (z_obj h a ci)) k v) ⟨_, e1x, q2, q3, t_set q4 hap hk v⟩ (fun j _ => ?_)⟩
    rw [z_obj_set hv ho]
    exact vp_updV_set (by rw [z_obj_len, z6]; exact hk) v j
  exact kk p e s m args below meth c F H1 _ cells slots ls hP1 (by omega) (fun z hz => (List.mem_append.mp hz).elim (hL z) (fun q => by rw [List.mem_singleton.mp q]; exact ha0)) hc hsl hl

theorem r_puti {ci C T N ty a idx ref} {x : Int} (hg : zG g) (zc : z_cls ci C T N ty) (k : Nat) (hk : k < N) (hfin : (T k).2.2.2 = false) (hv : ∀ i j r, z_val (ty k) i j r = .int (zI i)) (hn : narrow (ty k) (.int (zI x)) = .int (zI x)) (hfit : fits (ty k) (.int (zI x)) = true) (hci : 2 ≤ ci) (hkd : kd_ h a = ci + 1) (href : ref = (T k).1 ∨ Cond.sameField ref (T k).1 (T k).2.1 (T k).2.2.1 ∈ lw_tbl) (hlink : Cond.fieldLink M.1 idx ref (T k).2.1 (T k).2.2.1 ∈ lw_tbl) (pc' : Nat) (hp : pc + 3 = pc') (d : decode M.2.1 pc = .ok (.putfield idx, 3)) (kk : zX g M mc ms Q pc' lv st (sfi h a k x) bc bs) : zX g M mc ms Q pc lv (.int (zI x) :: .ref a :: st) h bc bs := by
  have zt := zc.2.2.2.2.1
  refine r_putf (h1 := sfi h a k x) hg zc k hk hfin hn hfit hci hkd ?_ (fun j hj => ?_) (fun b hb => z_ent_sfi hb) rfl rfl href hlink pc' hp d kk
  · unfold z_fld; rw [zt, hv]; simp [fi_, sfi, zu2, va_rf]
  · unfold z_fld; simp [fi_, sfi, zu2, hj, fj_, fr_]

theorem r_putj {ci C T N ty a idx ref} {x : Int} (hg : zG g) (zc : z_cls ci C T N ty) (k : Nat) (hk : k < N) (hfin : (T k).2.2.2 = false) (hv : ∀ i j r, z_val (ty k) i j r = .long (zL j)) (hn : narrow (ty k) (.long (zL x)) = .long (zL x)) (hfit : fits (ty k) (.long (zL x)) = true) (hci : 2 ≤ ci) (hkd : kd_ h a = ci + 1) (href : ref = (T k).1 ∨ Cond.sameField ref (T k).1 (T k).2.1 (T k).2.2.1 ∈ lw_tbl) (hlink : Cond.fieldLink M.1 idx ref (T k).2.1 (T k).2.2.1 ∈ lw_tbl) (pc' : Nat) (hp : pc + 3 = pc') (d : decode M.2.1 pc = .ok (.putfield idx, 3)) (kk : zX g M mc ms Q pc' lv st (sfj h a k x) bc bs) : zX g M mc ms Q pc lv (.long (zL x) :: .ref a :: st) h bc bs := by
  have zt := zc.2.2.2.2.1
  refine r_putf (h1 := sfj h a k x) hg zc k hk hfin hn hfit hci hkd ?_ (fun j hj => ?_) (fun b hb => z_ent_sfj hb) rfl rfl href hlink pc' hp d kk
  · unfold z_fld; rw [zt, hv]; simp [fj_, sfj, zu2, va_rf]
  · unfold z_fld; simp [fj_, sfj, zu2, hj, fi_, fr_]

theorem r_putr {ci C T N ty a idx ref} {x : Nat} (hg : zG g) (zc : z_cls ci C T N ty) (k : Nat) (hk : k < N) (hfin : (T k).2.2.2 = false) (hv : ∀ i j r, z_val (ty k) i j r = va_rf r) (hn : narrow (ty k) (.ref x) = .ref x) (hfit : fits (ty k) (.ref x) = true) (hci : 2 ≤ ci) (hkd : kd_ h a = ci + 1) (href : ref = (T k).1 ∨ Cond.sameField ref (T k).1 (T k).2.1 (T k).2.2.1 ∈ lw_tbl) (hlink : Cond.fieldLink M.1 idx ref (T k).2.1 (T k).2.2.1 ∈ lw_tbl) (pc' : Nat) (hp : pc + 3 = pc') (d : decode M.2.1 pc = .ok (.putfield idx, 3)) (kk : zX g M mc ms Q pc' lv st (sfr h a k (some x)) bc bs) : zX g M mc ms Q pc lv (.ref x :: .ref a :: st) h bc bs := by
  have zt := zc.2.2.2.2.1
  refine r_putf (h1 := sfr h a k (some x)) hg zc k hk hfin hn hfit hci hkd ?_ (fun j hj => ?_) (fun b hb => z_ent_sfr hb) rfl rfl href hlink pc' hp d kk
  · unfold z_fld; rw [zt, hv]; simp [fr_, sfr, zu2, va_rf]
  · unfold z_fld; simp [fr_, sfr, zu2, hj, fi_, fj_]

theorem r_putiF {ci C T N ty a idx ref} {x : Int} (hg : zG g) (zc : z_cls ci C T N ty) (k : Nat) (hk : k < N) (hfin : (T k).2.2.2 = true) (hv : ∀ i j r, z_val (ty k) i j r = .int (zI i)) (hn : narrow (ty k) (.int (zI x)) = .int (zI x)) (hfit : fits (ty k) (.int (zI x)) = true) (hci : 2 ≤ ci) (hkd : kd_ h a = ci + 1) (hinit : M.2.2.2.2.2.1 = "<init>") (hdecl : (T k).1 = M.1) (href : ref = (T k).1 ∨ Cond.sameField ref (T k).1 (T k).2.1 (T k).2.2.1 ∈ lw_tbl) (hlink : Cond.fieldLink M.1 idx ref (T k).2.1 (T k).2.2.1 ∈ lw_tbl) (pc' : Nat) (hp : pc + 3 = pc') (d : decode M.2.1 pc = .ok (.putfield idx, 3)) (kk : zX g M mc ms Q pc' lv st (sfi h a k x) bc bs) : zX g M mc ms Q pc lv (.int (zI x) :: .ref a :: st) h bc bs := by
  have zt := zc.2.2.2.2.1
  refine r_putfF (h1 := sfi h a k x) hg zc k hk hfin hn hfit hci hkd ?_ (fun j hj => ?_) (fun b hb => z_ent_sfi hb) rfl rfl hinit hdecl href hlink pc' hp d kk
  · unfold z_fld; rw [zt, hv]; simp [fi_, sfi, zu2, va_rf]
  · unfold z_fld; simp [fi_, sfi, zu2, hj, fj_, fr_]

theorem r_putjF {ci C T N ty a idx ref} {x : Int} (hg : zG g) (zc : z_cls ci C T N ty) (k : Nat) (hk : k < N) (hfin : (T k).2.2.2 = true) (hv : ∀ i j r, z_val (ty k) i j r = .long (zL j)) (hn : narrow (ty k) (.long (zL x)) = .long (zL x)) (hfit : fits (ty k) (.long (zL x)) = true) (hci : 2 ≤ ci) (hkd : kd_ h a = ci + 1) (hinit : M.2.2.2.2.2.1 = "<init>") (hdecl : (T k).1 = M.1) (href : ref = (T k).1 ∨ Cond.sameField ref (T k).1 (T k).2.1 (T k).2.2.1 ∈ lw_tbl) (hlink : Cond.fieldLink M.1 idx ref (T k).2.1 (T k).2.2.1 ∈ lw_tbl) (pc' : Nat) (hp : pc + 3 = pc') (d : decode M.2.1 pc = .ok (.putfield idx, 3)) (kk : zX g M mc ms Q pc' lv st (sfj h a k x) bc bs) : zX g M mc ms Q pc lv (.long (zL x) :: .ref a :: st) h bc bs := by
  have zt := zc.2.2.2.2.1
  refine r_putfF (h1 := sfj h a k x) hg zc k hk hfin hn hfit hci hkd ?_ (fun j hj => ?_) (fun b hb => z_ent_sfj hb) rfl rfl hinit hdecl href hlink pc' hp d kk
  · unfold z_fld; rw [zt, hv]; simp [fj_, sfj, zu2, va_rf]
  · unfold z_fld; simp [fj_, sfj, zu2, hj, fi_, fr_]

theorem r_putrF {ci C T N ty a idx ref} {x : Nat} (hg : zG g) (zc : z_cls ci C T N ty) (k : Nat) (hk : k < N) (hfin : (T k).2.2.2 = true) (hv : ∀ i j r, z_val (ty k) i j r = va_rf r) (hn : narrow (ty k) (.ref x) = .ref x) (hfit : fits (ty k) (.ref x) = true) (hci : 2 ≤ ci) (hkd : kd_ h a = ci + 1) (hinit : M.2.2.2.2.2.1 = "<init>") (hdecl : (T k).1 = M.1) (href : ref = (T k).1 ∨ Cond.sameField ref (T k).1 (T k).2.1 (T k).2.2.1 ∈ lw_tbl) (hlink : Cond.fieldLink M.1 idx ref (T k).2.1 (T k).2.2.1 ∈ lw_tbl) (pc' : Nat) (hp : pc + 3 = pc') (d : decode M.2.1 pc = .ok (.putfield idx, 3)) (kk : zX g M mc ms Q pc' lv st (sfr h a k (some x)) bc bs) : zX g M mc ms Q pc lv (.ref x :: .ref a :: st) h bc bs := by
  have zt := zc.2.2.2.2.1
  refine r_putfF (h1 := sfr h a k (some x)) hg zc k hk hfin hn hfit hci hkd ?_ (fun j hj => ?_) (fun b hb => z_ent_sfr hb) rfl rfl hinit hdecl href hlink pc' hp d kk
  · unfold z_fld; rw [zt, hv]; simp [fr_, sfr, zu2, va_rf]
  · unfold z_fld; simp [fr_, sfr, zu2, hj, fi_, fj_]

theorem r_iaload {a : Nat} {i : Int} (hg : zG g) (hk : kd_ h a = 20) (h0 : 0 ≤ i) (h2 : i ≤ 2147483647) (h1 : i < ln_ h a) (pc' : Nat) (hp : pc + 1 = pc') (d : decode M.2.1 pc = .ok (.iaload, 1)) (k : zX g M mc ms Q pc' lv (.int (zI (ai_ h a i.toNat)) :: st) h bc bs) : zX g M mc ms Q pc lv (.int (zI i) :: .ref a :: st) h bc bs := by
  subst hp
  intro p e s m args below meth c F H locs cells slots ls hP hs hL hc hsl hl
  refine va_iald F.1 F.2.1 (zKa hg F (k := 20) (by decide) (by decide)) (hP.arr hk (by decide) (by decide)) 0 0 rfl rfl (z_in2 h0 h2 h1) d ?_
  rw [zI_clamp h0 h2]
  exact k p e s m args below meth c F H locs cells slots ls hP hs hL hc hsl hl

theorem r_caload {a : Nat} {i : Int} (hg : zG g) (hk : kd_ h a = 21) (h0 : 0 ≤ i) (h2 : i ≤ 2147483647) (h1 : i < ln_ h a) (pc' : Nat) (hp : pc + 1 = pc') (d : decode M.2.1 pc = .ok (.caload, 1)) (k : zX g M mc ms Q pc' lv (.int (zI (ai_ h a i.toNat)) :: st) h bc bs) : zX g M mc ms Q pc lv (.int (zI i) :: .ref a :: st) h bc bs := by
  subst hp
  intro p e s m args below meth c F H locs cells slots ls hP hs hL hc hsl hl
  refine va_cald F.1 F.2.1 (zKa hg F (k := 21) (by decide) (by decide)) (hP.arr hk (by decide) (by decide)) 0 0 rfl rfl (z_in2 h0 h2 h1) d ?_
  rw [zI_clamp h0 h2]
  exact k p e s m args below meth c F H locs cells slots ls hP hs hL hc hsl hl

theorem r_zaload {a : Nat} {i : Int} (hg : zG g) (hk : kd_ h a = 22) (h0 : 0 ≤ i) (h2 : i ≤ 2147483647) (h1 : i < ln_ h a) (pc' : Nat) (hp : pc + 1 = pc') (d : decode M.2.1 pc = .ok (.baload, 1)) (k : zX g M mc ms Q pc' lv (.int (zI (ai_ h a i.toNat)) :: st) h bc bs) : zX g M mc ms Q pc lv (.int (zI i) :: .ref a :: st) h bc bs := by
  subst hp
  intro p e s m args below meth c F H locs cells slots ls hP hs hL hc hsl hl
  refine va_zald F.1 F.2.1 (zKa hg F (k := 22) (by decide) (by decide)) (hP.arr hk (by decide) (by decide)) 0 0 rfl rfl (z_in2 h0 h2 h1) d ?_
  rw [zI_clamp h0 h2]
  exact k p e s m args below meth c F H locs cells slots ls hP hs hL hc hsl hl

theorem r_bbaload {a : Nat} {i : Int} (hg : zG g) (hk : kd_ h a = 24) (h0 : 0 ≤ i) (h2 : i ≤ 2147483647) (h1 : i < ln_ h a) (pc' : Nat) (hp : pc + 1 = pc') (d : decode M.2.1 pc = .ok (.baload, 1)) (k : zX g M mc ms Q pc' lv (.int (zI (ai_ h a i.toNat)) :: st) h bc bs) : zX g M mc ms Q pc lv (.int (zI i) :: .ref a :: st) h bc bs := by
  subst hp
  intro p e s m args below meth c F H locs cells slots ls hP hs hL hc hsl hl
  refine va_bald F.1 F.2.1 (zKa hg F (k := 24) (by decide) (by decide)) (hP.arr hk (by decide) (by decide)) 0 0 rfl rfl (z_in2 h0 h2 h1) d ?_
  rw [zI_clamp h0 h2]
  exact k p e s m args below meth c F H locs cells slots ls hP hs hL hc hsl hl

theorem r_laload {a : Nat} {i : Int} (hg : zG g) (hk : kd_ h a = 23) (h0 : 0 ≤ i) (h2 : i ≤ 2147483647) (h1 : i < ln_ h a) (pc' : Nat) (hp : pc + 1 = pc') (d : decode M.2.1 pc = .ok (.laload, 1)) (k : zX g M mc ms Q pc' lv (.long (zL (aj_ h a i.toNat)) :: st) h bc bs) : zX g M mc ms Q pc lv (.int (zI i) :: .ref a :: st) h bc bs := by
  subst hp
  intro p e s m args below meth c F H locs cells slots ls hP hs hL hc hsl hl
  refine va_lald F.1 F.2.1 (zKa hg F (k := 23) (by decide) (by decide)) (hP.arr hk (by decide) (by decide)) 0 0 rfl rfl (z_in2 h0 h2 h1) d ?_
  rw [zI_clamp h0 h2]
  exact k p e s m args below meth c F H locs cells slots ls hP hs hL hc hsl hl

theorem r_aaload {a : Nat} {i : Int} {v : Value} (hg : zG g) (hk : kd_ h a = 25) (h0 : 0 ≤ i) (h2 : i ≤ 2147483647) (h1 : i < ln_ h a) (hv : va_rf (ar_ h a i.toNat) = v) (pc' : Nat) (hp : pc + 1 = pc') (d : decode M.2.1 pc = .ok (.aaload, 1)) (k : zX g M mc ms Q pc' lv (v :: st) h bc bs) : zX g M mc ms Q pc lv (.int (zI i) :: .ref a :: st) h bc bs := by
  subst hp
  intro p e s m args below meth c F H locs cells slots ls hP hs hL hc hsl hl
  refine va_aldq F.1 F.2.1 (zKa hg F (k := 25) (by decide) (by decide)) (hP.arr hk (by decide) (by decide)) 0 0 rfl rfl (z_in2 h0 h2 h1) d ?_
  rw [zI_clamp h0 h2, hv]
  exact k p e s m args below meth c F H locs cells slots ls hP hs hL hc hsl hl

theorem r_aaloadC {a : Nat} {i : Int} {v : Value} (hg : zG g) (hk : kd_ h a = 26) (h0 : 0 ≤ i) (h2 : i ≤ 2147483647) (h1 : i < ln_ h a) (hv : va_rf (ar_ h a i.toNat) = v) (pc' : Nat) (hp : pc + 1 = pc') (d : decode M.2.1 pc = .ok (.aaload, 1)) (k : zX g M mc ms Q pc' lv (v :: st) h bc bs) : zX g M mc ms Q pc lv (.int (zI i) :: .ref a :: st) h bc bs := by
  subst hp
  intro p e s m args below meth c F H locs cells slots ls hP hs hL hc hsl hl
  refine va_aldq F.1 F.2.1 (zKa hg F (k := 26) (by decide) (by decide)) (hP.arr hk (by decide) (by decide)) 0 0 rfl rfl (z_in2 h0 h2 h1) d ?_
  rw [zI_clamp h0 h2, hv]
  exact k p e s m args below meth c F H locs cells slots ls hP hs hL hc hsl hl

theorem r_arraylength {a k9 : Nat} (hg : zG g) (hk : kd_ h a = k9) (h1 : 20 ≤ k9) (h2 : k9 ≤ 27) (pc' : Nat) (hp : pc + 1 = pc') (d : decode M.2.1 pc = .ok (.arraylength, 1)) (k : zX g M mc ms Q pc' lv (.int (zI (ln_ h a)) :: st) h bc bs) : zX g M mc ms Q pc lv (.ref a :: st) h bc bs := by
  subst hp
  intro p e s m args below meth c F H locs cells slots ls hP hs hL hc hsl hl
  refine va_alen F.1 F.2.1 (zKa hg F h1 h2) (hP.arr hk (by omega) h2) 0 0 rfl rfl (v := zI (ln_ h a)) ?_ d (k p e s m args below meth c F H locs cells slots ls hP hs hL hc hsl hl)
  unfold zI
  rw [← Int32.ofInt_eq_ofNat]

theorem r_iastore {a : Nat} {i x : Int} (hg : zG g) (hk : kd_ h a = 20) (h0 : 0 ≤ i) (h2 : i ≤ 2147483647) (h1 : i < ln_ h a)  (pc' : Nat) (hp : pc + 1 = pc') (d : decode M.2.1 pc = .ok (.iastore, 1)) (k : zX g M mc ms Q pc' lv st (sai h a i.toNat x) bc bs) : zX g M mc ms Q pc lv (.int (zI x) :: .int (zI i) :: .ref a :: st) h bc bs := by
  subst hp
  intro p e s m args below meth c F H locs cells slots ls hP hs hL hc hsl hl
  have ha0 : (gS_ g).heap.size ≤ a := hP.real hk (by decide) (by decide) (by decide) (by decide)
  have hPa := hP.arr hk (by decide) (by decide)
  have hKa := zKa hg F (k := 20) (by decide) (by decide)
  refine W.iast F.1 F.2.1 (hPa 0 _ rfl) ((hKa.2 0 _ rfl).1 (ln_ h a) (fun j => .int (zI (ai_ h a j)))) (fun q => by cases q) (by show ¬ (zI i < 0 ∨ (arrV _ _ _).slots.size ≤ _); rw [arrV_size]; exact z_in2 h0 h2 h1) rfl rfl d fun H1 e9 z oq => ?_
  have hP1 : zP g (sai h a i.toNat x) H1 := by
    refine hP.put ha0 z oq (fun b hb => z_ent_sai hb) rfl rfl (fun e he => ?_)
    rw [z_at_arr (k := 20) (by exact hk) (by decide) (by decide)] at he
    cases he
    show H1[a]? = some (vp_cell _ _)
    rw [e9]
    show some ((vp_cell _ (_, .inl fun j => zI (ai_ h a j))).setSlot _ _) = some (vp_cell _ (_, .inl fun j => zI (ai_ (sai h a i.toNat x) a j)))
    rw [vp_cell_i, vp_cell_i, arrV_store]
    congr 2
    funext q
    rw [zI_clamp h0 h2]
    by_cases hq : q = i.toNat
    · subst hq
      simp [updV, ai_, sai, zu2]
    · simp [updV, ai_, sai, zu2, hq]
  exact k p e s m args below meth c F H1 _ cells slots ls hP1 (by omega) (fun z hz => (List.mem_append.mp hz).elim (hL z) (fun q => by rw [List.mem_singleton.mp q]; exact ha0)) hc hsl hl

theorem r_lastore {a : Nat} {i x : Int} (hg : zG g) (hk : kd_ h a = 23) (h0 : 0 ≤ i) (h2 : i ≤ 2147483647) (h1 : i < ln_ h a)  (pc' : Nat) (hp : pc + 1 = pc') (d : decode M.2.1 pc = .ok (.lastore, 1)) (k : zX g M mc ms Q pc' lv st (saj h a i.toNat x) bc bs) : zX g M mc ms Q pc lv (.long (zL x) :: .int (zI i) :: .ref a :: st) h bc bs := by
  subst hp
  intro p e s m args below meth c F H locs cells slots ls hP hs hL hc hsl hl
  have ha0 : (gS_ g).heap.size ≤ a := hP.real hk (by decide) (by decide) (by decide) (by decide)
  have hPa := hP.arr hk (by decide) (by decide)
  have hKa := zKa hg F (k := 23) (by decide) (by decide)
  refine W.last F.1 F.2.1 (hPa 0 _ rfl) ((hKa.2 0 _ rfl).1 (ln_ h a) (fun j => .long (zL (aj_ h a j)))) (fun q => by cases q) (by show ¬ (zI i < 0 ∨ (arrV _ _ _).slots.size ≤ _); rw [arrV_size]; exact z_in2 h0 h2 h1) rfl rfl d fun H1 e9 z oq => ?_
  have hP1 : zP g (saj h a i.toNat x) H1 := by
    refine hP.put ha0 z oq (fun b hb => z_ent_saj hb) rfl rfl (fun e he => ?_)
    rw [z_at_arr (k := 23) (by exact hk) (by decide) (by decide)] at he
    cases he
    show H1[a]? = some (vp_cell _ _)
    rw [e9]
    show some ((vp_cell _ (_, .inr (.inl fun j => zL (aj_ h a j)))).setSlot _ _) = some (vp_cell _ (_, .inr (.inl fun j => zL (aj_ (saj h a i.toNat x) a j))))
    rw [vp_cell_l, vp_cell_l, arrV_store]
    congr 2
    funext q
    rw [zI_clamp h0 h2]
    by_cases hq : q = i.toNat
    · subst hq
      simp [updV, aj_, saj, zu2]
    · simp [updV, aj_, saj, zu2, hq]
  exact k p e s m args below meth c F H1 _ cells slots ls hP1 (by omega) (fun z hz => (List.mem_append.mp hz).elim (hL z) (fun q => by rw [List.mem_singleton.mp q]; exact ha0)) hc hsl hl

theorem r_castore {a : Nat} {i x : Int} (hg : zG g) (hk : kd_ h a = 21) (h0 : 0 ≤ i) (h2 : i ≤ 2147483647) (h1 : i < ln_ h a) (hx : narrow .char (.int (zI x)) = .int (zI x)) (pc' : Nat) (hp : pc + 1 = pc') (d : decode M.2.1 pc = .ok (.castore, 1)) (k : zX g M mc ms Q pc' lv st (sai h a i.toNat x) bc bs) : zX g M mc ms Q pc lv (.int (zI x) :: .int (zI i) :: .ref a :: st) h bc bs := by
  subst hp
  intro p e s m args below meth c F H locs cells slots ls hP hs hL hc hsl hl
  have ha0 : (gS_ g).heap.size ≤ a := hP.real hk (by decide) (by decide) (by decide) (by decide)
  have hPa := hP.arr hk (by decide) (by decide)
  have hKa := zKa hg F (k := 21) (by decide) (by decide)
  refine W.cast F.1 F.2.1 (hPa 0 _ rfl) ((hKa.2 0 _ rfl).1 (ln_ h a) (fun j => .int (zI (ai_ h a j)))) (fun q => by cases q) (by show ¬ (zI i < 0 ∨ (arrV _ _ _).slots.size ≤ _); rw [arrV_size]; exact z_in2 h0 h2 h1) rfl rfl d fun H1 e9 z oq => ?_
  have hP1 : zP g (sai h a i.toNat x) H1 := by
    refine hP.put ha0 z oq (fun b hb => z_ent_sai hb) rfl rfl (fun e he => ?_)
    rw [z_at_arr (k := 21) (by exact hk) (by decide) (by decide)] at he
    cases he
    show H1[a]? = some (vp_cell _ _)
    rw [e9]
    show some ((vp_cell _ (_, .inl fun j => zI (ai_ h a j))).setSlot _ _) = some (vp_cell _ (_, .inl fun j => zI (ai_ (sai h a i.toNat x) a j)))
    rw [vp_cell_i, vp_cell_i, arrV_store]
    congr 2
    funext q
    rw [zI_clamp h0 h2]
    by_cases hq : q = i.toNat
    · subst hq
      simp [updV, ai_, sai, zu2, hx]
    · simp [updV, ai_, sai, zu2, hq]
  exact k p e s m args below meth c F H1 _ cells slots ls hP1 (by omega) (fun z hz => (List.mem_append.mp hz).elim (hL z) (fun q => by rw [List.mem_singleton.mp q]; exact ha0)) hc hsl hl

theorem r_zastore {a : Nat} {i x : Int} (hg : zG g) (hk : kd_ h a = 22) (h0 : 0 ≤ i) (h2 : i ≤ 2147483647) (h1 : i < ln_ h a) (hx : narrow .boolean (.int (zI x)) = .int (zI x)) (pc' : Nat) (hp : pc + 1 = pc') (d : decode M.2.1 pc = .ok (.bastore, 1)) (k : zX g M mc ms Q pc' lv st (sai h a i.toNat x) bc bs) : zX g M mc ms Q pc lv (.int (zI x) :: .int (zI i) :: .ref a :: st) h bc bs := by
  subst hp
  intro p e s m args below meth c F H locs cells slots ls hP hs hL hc hsl hl
  have ha0 : (gS_ g).heap.size ≤ a := hP.real hk (by decide) (by decide) (by decide) (by decide)
  have hPa := hP.arr hk (by decide) (by decide)
  have hKa := zKa hg F (k := 22) (by decide) (by decide)
  refine W.zast F.1 F.2.1 (hPa 0 _ rfl) ((hKa.2 0 _ rfl).1 (ln_ h a) (fun j => .int (zI (ai_ h a j)))) (fun q => by cases q) (by show ¬ (zI i < 0 ∨ (arrV _ _ _).slots.size ≤ _); rw [arrV_size]; exact z_in2 h0 h2 h1) rfl rfl d fun H1 e9 z oq => ?_
  have hP1 : zP g (sai h a i.toNat x) H1 := by
    refine hP.put ha0 z oq (fun b hb => z_ent_sai hb) rfl rfl (fun e he => ?_)
    rw [z_at_arr (k := 22) (by exact hk) (by decide) (by decide)] at he
    cases he
    show H1[a]? = some (vp_cell _ _)
    rw [e9]
    show some ((vp_cell _ (_, .inl fun j => zI (ai_ h a j))).setSlot _ _) = some (vp_cell _ (_, .inl fun j => zI (ai_ (sai h a i.toNat x) a j)))
    rw [vp_cell_i, vp_cell_i, arrV_store]
    congr 2
    funext q
    rw [zI_clamp h0 h2]
    by_cases hq : q = i.toNat
    · subst hq
      simp [updV, ai_, sai, zu2, hx]
    · simp [updV, ai_, sai, zu2, hq]
  exact k p e s m args below meth c F H1 _ cells slots ls hP1 (by omega) (fun z hz => (List.mem_append.mp hz).elim (hL z) (fun q => by rw [List.mem_singleton.mp q]; exact ha0)) hc hsl hl

end Heap
end
section
def z_kind (w : Cond) : Bool := goodWord w || match w with
  | .castable _ _ => true
  | .declares _ => true
  | .methodLinkNest _ _ _ _ => true
  | _ => false
theorem zw2 {g : zGT} {M : zM} {p : Program} {s : State} {m : MethodId} {meth : Method} {c : Code} (hg : zG g) (F : zF g M p s m meth c) {args : Array Value} {w : Cond} (hw : w ∈ lw_tbl) (hgw : z_kind w = true) : w.before args s = true := by
  have hW := F.2.2.2.2.2.2.2.1
  by_cases h9 : goodWord w = true
  · exact zw hg F hw h9
  · unfold z_kind at hgw
    rw [Bool.eq_false_iff.mpr h9, Bool.false_or] at hgw
    have hb := hg.2.1 w hw
    split at hgw
    · exact va_Nw.use rfl (va_Nw.warmC hW (va_Nw.of rfl hb))
    · exact va_Nw.use rfl (va_Nw.warmD hW (va_Nw.of rfl hb))
    · exact va_Nw.use rfl (va_Nw.warmM hW (va_Nw.of rfl hb))
    · cases hgw
/-- 'throw new E()' by a method of the class: what the tables say of it -/
def z_thr (own : String) (ik ic : Nat) (X : String) : Prop := Cond.classLink own ik X ∈ lw_tbl ∧ Cond.initialized X ∈ lw_tbl ∧ (∀ w ∈ vx_at0 own ic X ["java/lang/RuntimeException", "java/lang/Exception"], w ∈ lw_tbl) ∧ (∀ w ∈ Cond.classLink own ik X :: Cond.initialized X :: vx_at0 own ic X ["java/lang/RuntimeException", "java/lang/Exception"], vx_ot w = true) ∧ (∀ w ∈ vx_at0 own ic X ["java/lang/RuntimeException", "java/lang/Exception"], z_kind w = true) ∧ Bundle.fit X = true ∧ (∀ n ∈ ["java/lang/RuntimeException", "java/lang/Exception"], Bundle.fit n = true)
set_option maxRecDepth 100000 in
theorem zt_ISE : z_thr RX11 60 62 "java/lang/IllegalStateException" := ⟨by decide +kernel, by decide +kernel, by decide +kernel, by decide +kernel, by decide +kernel, by decide +kernel, by decide +kernel⟩
set_option maxRecDepth 100000 in
theorem zt_IAE : z_thr RX11 82 84 "java/lang/IllegalArgumentException" := ⟨by decide +kernel, by decide +kernel, by decide +kernel, by decide +kernel, by decide +kernel, by decide +kernel, by decide +kernel⟩
set_option maxRecDepth 100000 in
theorem zt_IOOBE : z_thr RX11 115 117 "java/lang/IndexOutOfBoundsException" := ⟨by decide +kernel, by decide +kernel, by decide +kernel, by decide +kernel, by decide +kernel, by decide +kernel, by decide +kernel⟩
section Calls
variable {g : zGT} {M : zM} {mc ms : Nat} {Q : zO → zH → Prop} {pc : Nat} {lv : List (Option Value)} {st : List Value} {h : zH} {bc bs : Nat}

theorem r_throw {ik ic : Nat} {E : String} (hg : zG g) (zt : z_thr M.1 ik ic E) (htab : M.2.2.2.2.1 = []) (hlv : 6 ≤ M.2.2.2.2.2.2) (hb1 : 1 ≤ bc) (hb2 : 6 ≤ bs) (hcat : (st.map fun v => v.category).sum ≤ 8) {pc3 pc4 pc7 : Nat} (e3 : pc + 3 = pc3) (e4 : pc + 4 = pc4) (e7 : pc + 7 = pc7)
    (d0 : decode M.2.1 pc = .ok (.new ik, 3)) (d3 : decode M.2.1 pc3 = .ok (.dup, 1)) (d4 : decode M.2.1 pc4 = .ok (.invokespecial ic, 3)) (d7 : decode M.2.1 pc7 = .ok (.athrow, 1)) (q : Q (.inr E) h) : zX g M mc ms Q pc lv st h bc bs := by
  subst e3; subst e4; subst e7
  intro p e s m args below meth c F H locs cells slots ls hP hs hL hc hsl hl
  obtain ⟨z1, z2, z3, z4, z5, z6, z7⟩ := zt
  have hW := F.2.2.2.2.2.2.2.1
  have hS : va_S (fun q => (gS_ g).heap.size ≤ q) s.heap H locs := ⟨hs, fun q hq hn => by rw [hP.2.2.1 q (by omega), F.2.2.2.2.2.2.2.2.2.2 q (by omega)], hL⟩
  have hkeep : ∀ q, q < (gS_ g).heap.size → s.heap[q]? = (gS_ g).heap[q]? := F.2.2.2.2.2.2.2.2.2.2
  refine vx_throw0 F.1 F.2.1 hg.1 F.2.2.2.2.1 z6 z7 (zw2 hg F z1 rfl) (zw2 hg F z2 rfl) (fun w hw => zw2 hg F (z3 w hw) (z5 w hw)) z4
    ((vx_Zq.moved hW.alike hg.2.2.2.2.1).kept (fun a h1 h2 => hkeep a (by omega))) ((vx_Zq.moved hW.alike hg.2.2.2.2.2.1).kept (fun a h1 h2 => hkeep a (by omega))) hS (hl.1.trans F.2.2.1.symm) d0 d3 d4 d7 ?_ ?_ ?_ ?_ ?_ F.2.2.2.2.2.1 ?_ hL ?_ ?_
  · rw [F.2.2.2.2.2.2.1, htab]; intro x hx; cases hx
  · show 2 + 3 < M.2.2.2.2.2.2; omega
  · show _ + (13 * (2 + 1) + 42) ≤ 200 * M.2.2.2.2.2.2; omega
  · show cells + 1 ≤ mc; omega
  · show slots + 6 ≤ ms; omega
  · intro t hal hz hk
    refine ⟨h, ⟨fun a e9 he => ?_, hP.2.1, fun q hq => by rw [hk q (by have := hP.2.2.2.1; omega)]; exact hP.2.2.1 q hq, by have := hP.2.2.2.1; omega, fun a ha => by have := hP.2.2.2.2.1 a ha; omega, hP.2.2.2.2.2.1, hP.2.2.2.2.2.2⟩, q⟩
    have h9 := hP.1 a e9 he
    exact h9.kept (hk a h9.lt)
  · omega
  · omega

theorem r_aastore {a v ci : Nat} {C : String} {T : u_T} {N : Nat} {ty : Nat → FieldType} {i : Int} (hg : zG g) (zc : z_cls ci C T N ty) (hk : kd_ h a = 25) (h0 : 0 ≤ i) (h2 : i ≤ 2147483647) (h1 : i < ln_ h a) (hv : kd_ h v = ci + 1) (hca : Cond.castable C "java/lang/Object" ∈ lw_tbl) (pc' : Nat) (hp : pc + 1 = pc') (d : decode M.2.1 pc = .ok (.aastore, 1)) (k : zX g M mc ms Q pc' lv st (sar h a i.toNat (some v)) bc bs) : zX g M mc ms Q pc lv (.ref v :: .int (zI i) :: .ref a :: st) h bc bs := by
  subst hp
  intro p e s m args below meth c F H locs cells slots ls hP hs hL hc hsl hl
  obtain ⟨z1, z2, z3, z4, z5, z6, z7⟩ := zc
  have ha0 : (gS_ g).heap.size ≤ a := hP.real hk (by decide) (by decide) (by decide) (by decide)
  have hPa := hP.arr hk (by decide) (by decide)
  have hKa := zKa hg F (k := 25) (by decide) (by decide)
  obtain ⟨r', hr', cellV, g1, g2, g3, -⟩ := hP.obj hv z7 0 _ rfl
  have hcls := (hKa.1 ci _ z1).2
  obtain ⟨kA, comp, k1, k2, k3, -⟩ := (hKa.2 0 _ rfl).2
  obtain ⟨kC, hkC, -⟩ := hcls.2
  obtain ⟨kE, hkE, -⟩ := Vm.findClass_spec k3
  obtain ⟨c0, t1, f1, f2, f3⟩ := Cond.castable_spec (zw2 hg F (args := args) hca rfl)
  cases hcls.1.symm.trans f1
  cases k3.symm.trans f2
  refine W.aast F.1 F.2.1 (hPa 0 _ rfl) (fun q h => by cases h) (fun h => by cases h) k1 k2 rfl hkE ⟨zI_nonneg (i := i) (by unfold zR; omega) h0, by show _ < (arrV _ _ _).slots.size; rw [arrV_size, zI_clamp h0 h2]; exact (by omega : i.toNat < ln_ h a)⟩ g1 (fun q h => by rw [g3] at h; cases h) (by rw [g2]; exact hkC) (by rw [g2]; exact f3) rfl rfl d fun H1 e9 z oq => ?_
  have hP1 : zP g (sar h a i.toNat (some v)) H1 := by
    refine hP.put ha0 z oq (fun b hb => z_ent_sar hb) rfl rfl (fun e he => ?_)
    rw [z_at_arr (k := 25) (by exact hk) (by decide) (by decide)] at he
    cases he
    show H1[a]? = some (vp_cell _ _)
    rw [e9]
    show some ((vp_cell _ (_, .inr (.inr (.inr (.inr fun j => ar_ h a j))))).setSlot _ _) = some (vp_cell _ (_, .inr (.inr (.inr (.inr fun j => ar_ (sar h a i.toNat (some v)) a j)))))
    rw [vp_cell_q, vp_cell_q, arrV_store]
    congr 2
    funext q
    rw [zI_clamp h0 h2]
    by_cases hq : q = i.toNat
    · subst hq
      simp [updV, ar_, sar, zu2, va_rf]
    · simp [updV, ar_, sar, zu2, hq]
  exact k p e s m args below meth c F H1 _ cells slots ls hP1 (by omega) (fun z hz => (List.mem_append.mp hz).elim (hL z) (fun q => by rw [List.mem_singleton.mp q]; exact ha0)) hc hsl hl

theorem r_aastoreC {a v ci : Nat} {C : String} {T : u_T} {N : Nat} {ty : Nat → FieldType} {i : Int} (hg : zG g) (zc : z_cls ci C T N ty) (hk : kd_ h a = 26) (h0 : 0 ≤ i) (h2 : i ≤ 2147483647) (h1 : i < ln_ h a) (hv : kd_ h v = ci + 1) (hC : C = "Platehall$Course") (pc' : Nat) (hp : pc + 1 = pc') (d : decode M.2.1 pc = .ok (.aastore, 1)) (k : zX g M mc ms Q pc' lv st (sar h a i.toNat (some v)) bc bs) : zX g M mc ms Q pc lv (.ref v :: .int (zI i) :: .ref a :: st) h bc bs := by
  subst hp
  intro p e s m args below meth c F H locs cells slots ls hP hs hL hc hsl hl
  obtain ⟨z1, z2, z3, z4, z5, z6, z7⟩ := zc
  have ha0 : (gS_ g).heap.size ≤ a := hP.real hk (by decide) (by decide) (by decide) (by decide)
  have hPa := hP.arr hk (by decide) (by decide)
  have hKa := zKa hg F (k := 26) (by decide) (by decide)
  obtain ⟨r', hr', cellV, g1, g2, g3, -⟩ := hP.obj hv z7 0 _ rfl
  have hcls := (hKa.1 ci _ z1).2
  obtain ⟨kA, comp, k1, k2, k3, -⟩ := (hKa.2 0 _ rfl).2
  obtain ⟨kC, hkC, -⟩ := hcls.2
  have hcomp : comp = (gD_ g).1 ci := Option.some.inj (k3.symm.trans (by rw [← hC]; exact hcls.1))
  subst hcomp
  refine W.aast F.1 F.2.1 (hPa 0 _ rfl) (fun q h => by cases h) (fun h => by cases h) k1 k2 rfl hkC ⟨zI_nonneg (i := i) (by unfold zR; omega) h0, by show _ < (arrV _ _ _).slots.size; rw [arrV_size, zI_clamp h0 h2]; exact (by omega : i.toNat < ln_ h a)⟩ g1 (fun q h => by rw [g3] at h; cases h) (by rw [g2]; exact hkC) (by rw [g2]; exact va_assign hcls) rfl rfl d fun H1 e9 z oq => ?_
  have hP1 : zP g (sar h a i.toNat (some v)) H1 := by
    refine hP.put ha0 z oq (fun b hb => z_ent_sar hb) rfl rfl (fun e he => ?_)
    rw [z_at_arr (k := 26) (by exact hk) (by decide) (by decide)] at he
    cases he
    show H1[a]? = some (vp_cell _ _)
    rw [e9]
    show some ((vp_cell _ (_, .inr (.inr (.inr (.inr fun j => ar_ h a j))))).setSlot _ _) = some (vp_cell _ (_, .inr (.inr (.inr (.inr fun j => ar_ (sar h a i.toNat (some v)) a j)))))
    rw [vp_cell_q, vp_cell_q, arrV_store]
    congr 2
    funext q
    rw [zI_clamp h0 h2]
    by_cases hq : q = i.toNat
    · subst hq
      simp [updV, ar_, sar, zu2, va_rf]
    · simp [updV, ar_, sar, zu2, hq]
  exact k p e s m args below meth c F H1 _ cells slots ls hP1 (by omega) (fun z hz => (List.mem_append.mp hz).elim (hL z) (fun q => by rw [List.mem_singleton.mp q]; exact ha0)) hc hsl hl

theorem r_new {ci : Nat} {C : String} {T : u_T} {N : Nat} {ty : Nat → FieldType} {idx : Nat} (bc2 bs2 : Nat) (hg : zG g) (zc : z_cls ci C T N ty) (hcl : Cond.classLink M.1 idx C ∈ lw_tbl) (hinst : Cond.instantiable C N ∈ lw_tbl) (hini : Cond.initialized C ∈ lw_tbl) (hb1 : bc2 + 1 ≤ bc) (hb2 : bs2 + N ≤ bs) (hdv : ∀ j, j < N → defaultValue (ty j) = z_val (ty j) 0 0 none) (pc' : Nat) (hp : pc + 3 = pc') (d : decode M.2.1 pc = .ok (.new idx, 3)) (k : ∀ a : Nat, kd_ h a = 0 → zX g M mc ms Q pc' lv (.ref a :: st) (nob h a ci) bc2 bs2) : zX g M mc ms Q pc lv st h bc bs := by
  subst hp
  intro p e s m args below meth c F H locs cells slots ls hP hs hL hc hsl hl
  obtain ⟨z1, z2, z3, z4, z5, z6, z7⟩ := zc
  have hKs := zK hg F
  have hKn := hKs.1 ci _ z1
  refine W.newcK F.1 F.2.1 F.2.2.2.2.1 (zw hg F hcl rfl) (zw hg F hinst rfl) (zw hg F hini rfl) rfl d (show cells + 1 ≤ mc by omega) (show slots + N ≤ ms by omega) hKn.2.1 rfl fun H1 kC hkC e1 w1 o1 => ?_
  have hP1 : zP g (nob h H.size ci) H1 := by
    refine hP.new rfl w1 o1 (fun b hb => z_ent_nob hb) (fun b hb => by simp [kd_, nob, zu1, hb]) (fun b hb => rfl) (fun e he => ?_)
    rw [z_at_obj (c := ci) (by simp [kd_, nob, zu1]) z7] at he
    cases he
    refine ⟨_, z1, (u_born ty (zts hg F (args := args)) z2 hKn hkC e1 z3).to (fun j hj => ?_)⟩
    rw [hdv j hj]
    unfold vp_V
    rw [List.getD_eq_getElem?_getD, z_obj_get (by rw [z6]; exact hj)]
    simp [z_fld, fi_, fj_, fr_, nob, z5]
  exact k _ hP.fresh p e s m args below meth c F H1 locs (cells + 1) (slots + N) ls hP1 (by omega) hL (by omega) (by omega) hl

theorem r_newarray {atype : ArrayType} {n : Int} (kind bc2 bs2 : Nat) (hg : zG g) (hk1 : 20 ≤ kind) (hk2 : kind ≤ 24) (hty : newarray.typeOf atype = z_aty kind) (harr : Cond.arrayClass (z_aty kind) ∈ lw_tbl) (h0 : 0 ≤ n) (h2 : n ≤ 60000000) (hb1 : bc2 + 1 ≤ bc) (hb2 : bs2 + n.toNat ≤ bs) (pc' : Nat) (hp : pc + 2 = pc') (d : decode M.2.1 pc = .ok (.newarray atype, 2)) (k : ∀ a : Nat, kd_ h a = 0 → zX g M mc ms Q pc' lv (.ref a :: st) (nar h a kind n.toNat) bc2 bs2) : zX g M mc ms Q pc lv (.int (zI n) :: st) h bc bs := by
  subst hp
  intro p e s m args below meth c F H locs cells slots ls hP hs hL hc hsl hl
  have hKa := zKa hg F (k := kind) hk1 (by omega)
  have h9 : kind = 20 ∨ kind = 21 ∨ kind = 22 ∨ kind = 23 ∨ kind = 24 := by omega
  have hcomp : componentBytes (z_aty kind) ≤ 8 := by rcases h9 with rfl | rfl | rfl | rfl | rfl <;> decide
  refine va_newaK F.1 F.2.1 (by rw [hty]; exact zw hg F harr rfl) rfl d rfl (zI_nonneg (by unfold zR; omega) h0) (zI_clamp h0 (by omega)) ?_ (show cells + 1 ≤ mc by omega) (show slots + n.toNat ≤ ms by omega) rfl fun H1 cA e1 w1 o1 hAr hNm => ?_
  · rw [hty]
    calc n.toNat * componentBytes (z_aty kind) ≤ n.toNat * 8 := Nat.mul_le_mul_left _ hcomp
      _ ≤ 536870912 := by omega
  have hcA : cA = gA_ g kind := by
    have hR := (hKa.2 0 _ rfl).2
    rw [hty] at hNm
    have hR2 : s.vm.findClass ("[" ++ (z_aty kind).toString) = some (gA_ g kind) := by
      rcases h9 with rfl | rfl | rfl | rfl | rfl <;> exact hR
    exact Option.some.inj (hNm.symm.trans hR2)
  have hP1 : zP g (nar h H.size kind n.toNat) H1 := by
    refine hP.new rfl w1 o1 (fun b hb => z_ent_nar hb) (fun b hb => by simp [kd_, nar, zu1, hb]) (fun b hb => by simp [ln_, nar, zu1, hb]) (fun e he => ?_)
    rw [z_at_arr (k := kind) (by simp [kd_, nar, zu1]) (by omega) (by omega)] at he
    cases he
    show H1[H.size]? = some (vp_cell _ _)
    have hln : ln_ (nar h H.size kind n.toNat) H.size = n.toNat := by simp [ln_, nar, zu1]
    have q1 : ∀ j, ai_ (nar h H.size kind n.toNat) H.size j = 0 := fun j => by simp [ai_, nar]
    have q2 : ∀ j, aj_ (nar h H.size kind n.toNat) H.size j = 0 := fun j => by simp [aj_, nar]
    rw [e1, hcA, hty, hln]
    rcases h9 with rfl | rfl | rfl | rfl | rfl <;> simp only [z_con, q1, q2] <;> rfl
  exact k _ hP.fresh p e s m args below meth c F H1 locs (cells + 1) (slots + n.toNat) ls hP1 (by omega) hL (by omega) (by omega) hl

theorem r_anewarray {n : Int} {C : String} {idx : Nat} (kind bc2 bs2 : Nat) (hg : zG g) (hk : (kind = 25 ∧ C = "java/lang/Object") ∨ (kind = 26 ∧ C = "Platehall$Course")) (hcl : Cond.classLink M.1 idx C ∈ lw_tbl) (hover : va_AO C (gS_ g)) (h0 : 0 ≤ n) (h2 : n ≤ 60000000) (hb1 : bc2 + 1 ≤ bc) (hb2 : bs2 + n.toNat ≤ bs) (pc' : Nat) (hp : pc + 3 = pc') (d : decode M.2.1 pc = .ok (.anewarray idx, 3)) (k : ∀ a : Nat, kd_ h a = 0 → zX g M mc ms Q pc' lv (.ref a :: st) (nar h a kind n.toNat) bc2 bs2) : zX g M mc ms Q pc lv (.int (zI n) :: st) h bc bs := by
  subst hp
  intro p e s m args below meth c F H locs cells slots ls hP hs hL hc hsl hl
  have hk25 : 20 ≤ kind ∧ kind ≤ 27 := by rcases hk with ⟨rfl, -⟩ | ⟨rfl, -⟩ <;> decide
  have hat : z_aty kind = .object C := by rcases hk with ⟨rfl, rfl⟩ | ⟨rfl, rfl⟩ <;> rfl
  have hKa := zKa hg F (k := kind) hk25.1 hk25.2
  have ecl := zI_clamp h0 (show n ≤ 2147483647 by omega)
  refine W.anew F.1 F.2.1 F.2.2.2.2.1 (zw hg F hcl rfl) (va_AO.use (va_AO.moved F.2.2.2.2.2.2.2.1.alike hover)) rfl d rfl (zI_nonneg (by unfold zR; omega) h0) (by rw [ecl]; omega) (show cells + 1 ≤ mc by omega) (show slots + (zI n).toNatClampNeg ≤ ms by rw [ecl]; omega) fun cA kA comp f1 f2 f3 f4 => ?_
  rw [ecl]
  generalize hH1 : H.push ({ cls := cA, slots := Array.replicate n.toNat .null, vm := .none } : Cell) = H1
  have w1 : H1.size = H.size + 1 := by rw [← hH1, Array.size_push]
  have e1 : H1[H.size]? = some (arrV cA n.toNat (fun _ => .null)) := by rw [← hH1, Array.getElem?_push_size, ← arrV_new]
  have o1 : ∀ q : Nat, q < H.size → H1[q]? = H[q]? := fun q hq => by rw [← hH1, Array.getElem?_push, if_neg (Nat.ne_of_lt hq)]
  have hcA : cA = gA_ g kind := by
    have hR := (hKa.2 0 _ rfl).2
    rw [hat] at hR
    obtain ⟨_, _, -, -, -, hR2⟩ := hR
    exact Option.some.inj (f1.symm.trans hR2)
  have hP1 : zP g (nar h H.size kind n.toNat) H1 := by
    refine hP.new rfl w1 o1 (fun b hb => z_ent_nar hb) (fun b hb => by simp [kd_, nar, zu1, hb]) (fun b hb => by simp [ln_, nar, zu1, hb]) (fun e he => ?_)
    rw [z_at_arr (k := kind) (by simp [kd_, nar, zu1]) (by omega) (by omega)] at he
    cases he
    show H1[H.size]? = some (vp_cell _ _)
    have hln : ln_ (nar h H.size kind n.toNat) H.size = n.toNat := by simp [ln_, nar, zu1]
    have q1 : ∀ j, ar_ (nar h H.size kind n.toNat) H.size j = none := fun j => by simp [ar_, nar]
    rw [e1, hcA, hln]
    rcases hk with ⟨rfl, -⟩ | ⟨rfl, -⟩ <;> simp only [z_con, q1] <;> rfl
  exact k _ hP.fresh p e s m args below meth c F H1 locs (cells + 1) (slots + n.toNat) ls hP1 (by omega) hL (by omega) (by omega) hl

theorem r_checkcast {a ci : Nat} {C nm : String} {T : u_T} {N : Nat} {ty : Nat → FieldType} {idx : Nat} (hg : zG g) (zc : z_cls ci C T N ty) (hk : kd_ h a = ci + 1) (hcl : Cond.classLink M.1 idx nm ∈ lw_tbl) (hca : Cond.castable C nm ∈ lw_tbl) (pc' : Nat) (hp : pc + 3 = pc') (d : decode M.2.1 pc = .ok (.checkcast idx, 3)) (k : zX g M mc ms Q pc' lv (.ref a :: st) h bc bs) : zX g M mc ms Q pc lv (.ref a :: st) h bc bs := by
  subst hp
  intro p e s m args below meth c F H locs cells slots ls hP hs hL hc hsl hl
  obtain ⟨z1, z2, z3, z4, z5, z6, z7⟩ := zc
  exact va_castY F.1 F.2.1 F.2.2.2.2.1 (zw hg F hcl rfl) (va_Nw.of rfl (zw2 hg F (args := args) hca rfl)) (va_recv (zK hg F) (hP.obj hk z7) z1 (q0 := 0) rfl) d (k p e s m args below meth c F H locs cells slots ls hP hs hL hc hsl hl)

theorem r_checkcastN {idx : Nat} (pc' : Nat) (hp : pc + 3 = pc') (d : decode M.2.1 pc = .ok (.checkcast idx, 3)) (k : zX g M mc ms Q pc' lv (.null :: st) h bc bs) : zX g M mc ms Q pc lv (.null :: st) h bc bs := by
  subst hp
  intro p e s m args below meth c F H locs cells slots ls hP hs hL hc hsl hl
  exact lv_castN F.1 F.2.1 d (k p e s m args below meth c F H locs cells slots ls hP hs hL hc hsl hl)

theorem r_getsE {idx : Nat} (hg : zG g) (hlink : Cond.fieldLink M.1 idx "java/util/ArrayList" "DEFAULTCAPACITY_EMPTY_ELEMENTDATA" "[Ljava/lang/Object;" ∈ lw_tbl) (pc' : Nat) (hp : pc + 3 = pc') (d : decode M.2.1 pc = .ok (.getstatic idx, 3)) (k : zX g M mc ms Q pc' lv (.ref (ge_ g) :: st) h bc bs) : zX g M mc ms Q pc lv st h bc bs := by
  subst hp
  intro p e s m args below meth c F H locs cells slots ls hP hs hL hc hsl hl
  have hS : va_S (fun q => (gS_ g).heap.size ≤ q) s.heap H locs := ⟨hs, fun q hq hn => by rw [hP.2.2.1 q (by omega), F.2.2.2.2.2.2.2.2.2.2 q (by omega)], hL⟩
  have hZ := (va_Z.moved F.2.2.2.2.2.2.2.1.alike hg.2.2.2.2.2.2).kept (H1 := s.heap) (fun a h1 h2 => F.2.2.2.2.2.2.2.2.2.2 a (by omega))
  exact va_gets F.1 F.2.1 hZ hS F.2.2.2.2.1 (zw hg F hlink rfl) (fun x hx => hx) d (k p e s m args below meth c F H locs cells slots ls hP hs hL hc hsl hl)

theorem r_ldc {idx : Nat} {v : Int32} (hg : zG g) (hw : Cond.constant M.1 idx v ∈ lw_tbl) (pc' : Nat) (hp : pc + 2 = pc') (d : decode M.2.1 pc = .ok (.ldc idx, 2)) (k : zX g M mc ms Q pc' lv (.int v :: st) h bc bs) : zX g M mc ms Q pc lv st h bc bs := by
  subst hp
  intro p e s m args below meth c F H locs cells slots ls hP hs hL hc hsl hl
  exact lv_ldc F.1 F.2.1 F.2.2.2.2.1 (zw hg F hw rfl) d (k p e s m args below meth c F H locs cells slots ls hP hs hL hc hsl hl)

theorem r_ldcw {idx : Nat} {v : Int32} (hg : zG g) (hw : Cond.constant M.1 idx v ∈ lw_tbl) (pc' : Nat) (hp : pc + 3 = pc') (d : decode M.2.1 pc = .ok (.ldc_w idx, 3)) (k : zX g M mc ms Q pc' lv (.int v :: st) h bc bs) : zX g M mc ms Q pc lv st h bc bs := by
  subst hp
  intro p e s m args below meth c F H locs cells slots ls hP hs hL hc hsl hl
  exact lv_ldcw F.1 F.2.1 F.2.2.2.2.1 (zw hg F hw rfl) d (k p e s m args below meth c F H locs cells slots ls hP hs hL hc hsl hl)

theorem r_ldc2 {idx : Nat} {v : Int64} (hg : zG g) (hw : Cond.constantLong M.1 idx v ∈ lw_tbl) (pc' : Nat) (hp : pc + 3 = pc') (d : decode M.2.1 pc = .ok (.ldc2_w idx, 3)) (k : zX g M mc ms Q pc' lv (.long v :: st) h bc bs) : zX g M mc ms Q pc lv st h bc bs := by
  subst hp
  intro p e s m args below meth c F H locs cells slots ls hP hs hL hc hsl hl
  exact lv_ldc2 F.1 F.2.1 F.2.2.2.2.1 (zw hg F hw rfl) d (k p e s m args below meth c F H locs cells slots ls hP hs hL hc hsl hl)

theorem r_ireturn {x : Int32} {ty : FieldType} (hr : M.2.2.2.1 = some ty) (hn : narrow ty (.int x) = .int x) (d : decode M.2.1 pc = .ok (.ireturn, 1)) (q : Q (.inl (some (.int x))) h) : zX g M mc ms Q pc lv [.int x] h bc bs := by
  intro p e s m args below meth c F H locs cells slots ls hP hs hL hc hsl hl
  refine W.widen (k := mc) (n := ms) (by omega) (by omega) ?_
  refine vx_ret ?_
  exact W.zret F.1 F.2.1 (F.2.2.2.1.trans hr) hn (fun t ht hW => ⟨_, h, rfl, by rw [ht]; exact hP, q⟩) hL d F.2.2.2.2.2.1

theorem r_lreturn {x : Int64} (hr : M.2.2.2.1 = some .long) (d : decode M.2.1 pc = .ok (.lreturn, 1)) (q : Q (.inl (some (.long x))) h) : zX g M mc ms Q pc lv [.long x] h bc bs := by
  intro p e s m args below meth c F H locs cells slots ls hP hs hL hc hsl hl
  refine W.widen (k := mc) (n := ms) (by omega) (by omega) ?_
  refine vx_ret ?_
  exact W.lret F.1 F.2.1 (F.2.2.2.1.trans hr) (fun t ht hW => ⟨_, h, rfl, by rw [ht]; exact hP, q⟩) hL d F.2.2.2.2.2.1

theorem r_areturn {x : Nat} {rt : FieldType} (hr : M.2.2.2.1 = some rt) (hrt : (∃ n, rt = .object n) ∨ ∃ t, rt = .array t) (d : decode M.2.1 pc = .ok (.areturn, 1)) (q : Q (.inl (some (.ref x))) h) : zX g M mc ms Q pc lv [.ref x] h bc bs := by
  intro p e s m args below meth c F H locs cells slots ls hP hs hL hc hsl hl
  refine W.widen (k := mc) (n := ms) (by omega) (by omega) ?_
  refine vx_ret ?_
  exact W.aret F.1 F.2.1 (F.2.2.2.1.trans hr) hrt (Or.inr ⟨_, rfl⟩) (fun t ht hW => ⟨_, h, rfl, by rw [ht]; exact hP, q⟩) hL d F.2.2.2.2.2.1

theorem r_areturnN {rt : FieldType} (hr : M.2.2.2.1 = some rt) (hrt : (∃ n, rt = .object n) ∨ ∃ t, rt = .array t) (d : decode M.2.1 pc = .ok (.areturn, 1)) (q : Q (.inl (some .null)) h) : zX g M mc ms Q pc lv [.null] h bc bs := by
  intro p e s m args below meth c F H locs cells slots ls hP hs hL hc hsl hl
  refine W.widen (k := mc) (n := ms) (by omega) (by omega) ?_
  refine vx_ret ?_
  exact W.aret F.1 F.2.1 (F.2.2.2.1.trans hr) hrt (Or.inl rfl) (fun t ht hW => ⟨_, h, rfl, by rw [ht]; exact hP, q⟩) hL d F.2.2.2.2.2.1

theorem r_vreturn (hr : M.2.2.2.1 = none) (d : decode M.2.1 pc = .ok (.return_, 1)) (q : Q (.inl (none)) h) : zX g M mc ms Q pc lv [] h bc bs := by
  intro p e s m args below meth c F H locs cells slots ls hP hs hL hc hsl hl
  refine W.widen (k := mc) (n := ms) (by omega) (by omega) ?_
  refine vx_ret ?_
  exact W.vret F.1 F.2.1 (F.2.2.2.1.trans hr) (fun t ht hW => ⟨_, h, rfl, by rw [ht]; exact hP, q⟩) hL d F.2.2.2.2.2.1

/-- a method's contract: called with args over the picture h, it comes back (or throws) with Q; cw is its code's word -/
def zC (g : zGT) (cw : Cond) (y : MethodName) (lvl mc ms : Nat) (args : List Value) (h : zH) (Q : zO → zH → Prop) : Prop :=
  vx_Met (gl_ g) y [cw] { frames := lvl, cells := mc, slots := ms, locals := 200 * lvl } (va_Pc args (fun U => (gS_ g).WarmedH U.vm ∧ zP g h U.heap)) (zQc g Q) (zXC g Q) mc ms (fun q => (gS_ g).heap.size ≤ q)
def z_args (n : Nat) (vs : List Value) : List (Option Value) := (vs.flatMap fun v => if v.category = 2 then [some v, none] else [some v]) ++ List.replicate (n - (vs.flatMap fun v => if v.category = 2 then [some v, none] else [some v]).length) none
theorem z_args_mem (vs : List Value) : ∀ (n : Nat) (pre i : Nat) (v : Value), ((vs.flatMap fun v => if v.category = 2 then [some v, none] else [some v]) ++ List.replicate n none)[i]? = some (some v) → (pre + i, v) ∈ lv_args pre vs := by
  induction vs with
  | nil =>
    intro n pre i v h
    simp [List.getElem?_replicate] at h
  | cons a l ih =>
    intro n pre i v h
    rw [List.flatMap_cons, List.append_assoc] at h
    unfold lv_args
    by_cases h2 : a.category = 2
    · rw [if_pos h2] at h ⊢
      match i, h with
      | 0, h => simp at h; subst h; exact List.mem_cons_self
      | 1, h => simp at h
      | j + 2, h =>
        have h9 : ((l.flatMap fun v => if v.category = 2 then [some v, none] else [some v]) ++ List.replicate n none)[j]? = some (some v) := by simpa using h
        have := ih n (pre + 2) j v h9
        rw [show pre + (j + 2) = pre + 2 + j by omega]
        exact List.mem_cons_of_mem _ this
    · rw [if_neg h2] at h ⊢
      match i, h with
      | 0, h => simp at h; subst h; exact List.mem_cons_self
      | j + 1, h =>
        have h9 : ((l.flatMap fun v => if v.category = 2 then [some v, none] else [some v]) ++ List.replicate n none)[j]? = some (some v) := by simpa using h
        have := ih n (pre + 1) j v h9
        rw [show pre + (j + 1) = pre + 1 + j by omega]
        exact List.mem_cons_of_mem _ this
theorem zC_of {g : zGT} {M : zM} {mc ms : Nat} {Q : zO → zH → Prop} {h : zH} {y : MethodName} {avs : List Value} {lv : List (Option Value)} (hy : plainName y.cls = true) (hown : y.cls = M.1) (hnm : y.name = M.2.2.2.2.2.1) (hlen : (lg_sl avs).length ≤ M.2.2.1) (htab : M.2.2.2.2.1 = []) (hlv : z_args M.2.2.1 avs = lv) (k : zX g M mc ms Q 0 lv [] h mc ms) : zC g (.code y M.2.1 M.2.2.1 M.2.2.2.1) y M.2.2.2.2.2.2 mc ms avs h Q := by
  subst hlv
  refine vx_ofW (cc := M.2.1) (maxL := M.2.2.1) (ret := M.2.2.2.1) hy rfl ?_
  intro p e s m args below meth c s₁ B hml ht hv
  obtain ⟨rfl, hW, hP⟩ := hv
  have hl := lv_entry avs (n := M.2.2.1) hlen
  rw [lg_entry_eq]
  generalize (lg_sl avs ++ List.replicate (M.2.2.1 - (lg_sl avs).length) Slot.unset).toArray = ls at hl ⊢
  refine k p e s m _ below meth c ⟨B.exec, B.bytes, hml, B.returns, ?_, B.notSynchronized, ?_, hW, ?_, hP.2.2.2.1, hP.2.2.1⟩ s.heap [] 0 0 ls hP (Nat.le_refl _) (fun z hz => by cases hz) (by omega) (by omega) ?_
  · rw [← hown]; exact findClass_of_methodNamed B.named
  · rw [htab]
    cases hq : c.exceptionTable.toList with
    | nil => rfl
    | cons x t => exact absurd (ht x (by rw [hq]; exact List.mem_cons_self)) id
  · rw [← hnm]; exact (name_of_methodNamed B.named B.method).1
  · refine ⟨hl.1, hl.2.1, fun q hq => hl.2.2 q ?_⟩
    obtain ⟨i, v⟩ := q
    have := z_args_mem avs _ 0 i v (z_as_mem.mp hq)
    rwa [Nat.zero_add] at this
/-- how a call goes on -/
theorem z_run {p : Program} {l : Launch} {e : Env} {R : Room} {s : State} {m : MethodId} {args : Array Value} {below : List Frame} {meth : Method} {c : Code} {H : Heap} {locs : List Loc} {cells slots mc1 ms1 : Nat} {Q9 : State → Prop} {pc : Nat} {ls : Array Slot} {st0 rest : List Value} {a : Array Value} {Q1 : zO → zH → Prop}
    (hr : vx_Run p l e R s m args below meth c H locs cells slots mc1 ms1 (F0 m pc ls st0) rest (zQc g Q1 a) (zXC g Q1) (fun q => (gS_ g).heap.size ≤ q)) (hL : ∀ z ∈ locs, (gS_ g).heap.size ≤ z.base)
    (kk : ∀ (v : Option Value) (h' : zH) (H1 : Heap) (locs1 : List Loc), zP g h' H1 → s.heap.size ≤ H1.size → (∀ z ∈ locs1, (gS_ g).heap.size ≤ z.base) → Q1 (.inl v) h' → W p l e R s m args below meth c H1 locs1 (cells + mc1) (slots + ms1) Q9 (F0 m (pc + 3) ls (v.toList ++ rest)))
    (kx : ∀ (E : String) (ce : Cell) (q9 : Addr) (h' : zH) (H1 : Heap) (locs1 : List Loc), zP g h' H1 → s.heap.size ≤ H1.size → (∀ z ∈ locs1, (gS_ g).heap.size ≤ z.base) → Q1 (.inr E) h' → H1[q9]? = some ce → ce.vm = .none → s.vm.findClass E = some ce.cls → vx_W p l e R s m args below meth c H1 locs1 (cells + mc1) (slots + ms1) Q9 (F0 m pc ls rest) q9) :
    W p l e R s m args below meth c H locs cells slots Q9 (F0 m pc ls st0) := by
  intro T hT X
  rcases hr T hT X with ⟨v, st₀, t, T', L, h0, X', hL2, e1, e2, ⟨v2, h2, hv, hp, hq⟩, st⟩ | ⟨q, st₀, t, T', L, E, ce, h0, X', hL2, e1, e2, ⟨h2, hp, hq⟩, hce, hcv, hcl, st⟩
  · cases hv
    have hz := (vx_frame (U := T'.setVm s.vm) X'.same).1
    obtain ⟨t2, a1, b1⟩ := kk v h2 T'.heap (locs ++ L) (by rw [e1]; exact hp) hz (fun z hz => (List.mem_append.mp hz).elim (hL z) (hL2 z)) hq T' rfl X'
    exact ⟨t2, st t2 a1, b1⟩
  · have hz := (vx_frame (U := T'.setVm s.vm) X'.same).1
    obtain ⟨t2, a1, b1⟩ := kx E ce q h2 T'.heap (locs ++ L) (by rw [e1]; exact hp) hz (fun z hz => (List.mem_append.mp hz).elim (hL z) (hL2 z)) hq (by rw [e1]; exact hce) hcv hcl T' rfl X'
    exact ⟨t2, st.trans a1, b1⟩
/-- what the tables say of a method that is called -/
def z_md (y : MethodName) (bytes : ByteArray) (maxL : Nat) (ret : Option FieldType) (n : Nat) : Prop := Cond.code y bytes maxL ret ∈ lw_tbl ∧ Cond.initialized y.cls ∈ lw_tbl ∧ (y.cls ≠ "java/lang/invoke/MethodHandle" ∧ y.cls ≠ "java/lang/invoke/VarHandle") ∧ (parseMethodDescriptor y.desc).map (fun d => d.parameters.length) = some n
abbrev zCont (g : zGT) (M : zM) (mc ms : Nat) (Q : zO → zH → Prop) (pc' : Nat) (lv : List (Option Value)) (st : List Value) (bc bs : Nat) : zO → zH → Prop := fun o h' => match o with
  | .inl v => zX g M mc ms Q pc' lv (v.toList ++ st) h' bc bs
  | .inr E => Q (.inr E) h'
theorem zC_blind {g : zGT} {args : List Value} {h : zH} : FrameBlind (va_Pc args (fun U => (gS_ g).WarmedH U.vm ∧ zP g h U.heap)) := fun _ _ _ _ q => q
theorem z_callB {p : Program} {s : State} {m : MethodId} {meth : Method} {c : Code} {args : Array Value} {y : MethodName} {bytes : ByteArray} {maxL : Nat} {ret : Option FieldType} {n lvl mc1 ms1 idx : Nat} (hg : zG g) (F : zF g M p s m meth c) (md : z_md y bytes maxL ret n) (hlvl : lvl + 1 ≤ M.2.2.2.2.2.2) (hmaxL : maxL ≤ 150) (hlink : (Cond.methodLink M.1 idx y).before args s = true) :
    CallB (zRoom M mc ms) s args M.1 idx y bytes maxL ret [.code y bytes maxL ret] { frames := lvl, cells := mc1, slots := ms1, locals := 200 * lvl } mc1 ms1 n := by
  obtain ⟨m1, m2, m3, m4⟩ := md
  refine ⟨rfl, rfl, hlvl, by show _ ≤ 200 * M.2.2.2.2.2.2; show 8 + (maxL + 11) + 200 * lvl ≤ _; omega, fun w hw a' U hU => ?_, List.mem_singleton_self _, zw hg F m1 rfl, zw hg F m2 rfl, m3, fun sig hsig => ?_, hlink⟩
  · rw [List.mem_singleton.mp hw]
    exact word_at (F.2.2.2.2.2.2.2.1.trans hU) (good_of_word rfl) (hg.2.1 _ m1)
  · rw [hsig] at m4
    exact (Option.some.inj m4).symm
theorem z_callN {p : Program} {s : State} {m : MethodId} {meth : Method} {c : Code} {args : Array Value} {y : MethodName} {host : String} {bytes : ByteArray} {maxL : Nat} {ret : Option FieldType} {n lvl mc1 ms1 idx : Nat} (hg : zG g) (F : zF g M p s m meth c) (md : z_md y bytes maxL ret n) (hlvl : lvl + 1 ≤ M.2.2.2.2.2.2) (hmaxL : maxL ≤ 150) (hlink : Cond.methodLinkNest M.1 idx y host ∈ lw_tbl) :
    va_CN (zRoom M mc ms) s args M.1 idx y host bytes maxL ret [.code y bytes maxL ret] { frames := lvl, cells := mc1, slots := ms1, locals := 200 * lvl } mc1 ms1 n := by
  obtain ⟨m1, m2, m3, m4⟩ := md
  refine ⟨⟨rfl, rfl, hlvl, by show _ ≤ 200 * M.2.2.2.2.2.2; show 8 + (maxL + 11) + 200 * lvl ≤ _; omega, fun w hw a' U hU => ?_, List.mem_singleton_self _⟩, zw hg F m1 rfl, zw hg F m2 rfl, m3, fun sig hsig => ?_, zw2 hg F hlink rfl⟩
  · rw [List.mem_singleton.mp hw]
    exact word_at (F.2.2.2.2.2.2.2.1.trans hU) (good_of_word rfl) (hg.2.1 _ m1)
  · rw [hsig] at m4
    exact (Option.some.inj m4).symm

theorem r_callV {y : MethodName} {bytes : ByteArray} {maxL : Nat} {ret : Option FieldType} {n lvl mc1 ms1 idx : Nat} {As rest : List Value} {b ci : Nat} {C : String} {T : u_T} {N : Nat} {ty : Nat → FieldType} (bc2 bs2 : Nat) (hg : zG g) (htab : M.2.2.2.2.1 = []) (md : z_md y bytes maxL ret n) (zc : z_cls ci C T N ty) (hkd : kd_ h b = ci + 1) (hin : Cond.instanceMethod y ∈ lw_tbl) (hsel : Cond.selects C y y ∈ lw_tbl) (hlink : Cond.methodLink M.1 idx y ∈ lw_tbl) (hlvl : lvl + 1 ≤ M.2.2.2.2.2.2) (hmaxL : maxL ≤ 150) (hn : As.length = n) (hroom : (rest.map fun v => v.category).sum ≤ 8) (hb1 : bc2 + mc1 ≤ bc) (hb2 : bs2 + ms1 ≤ bs) (hst : st = As.reverse ++ .ref b :: rest) (pc' : Nat) (hp : pc + 3 = pc') (d : decode M.2.1 pc = .ok (.invokevirtual idx, 3))
    (hC : zC g (.code y bytes maxL ret) y lvl mc1 ms1 (.ref b :: As) h (zCont g M mc ms Q pc' lv rest bc2 bs2)) : zX g M mc ms Q pc lv st h bc bs := by
  subst hp; subst hst
  intro p e s m args below meth c F H locs cells slots ls hP hs hL hc hsl hl
  obtain ⟨z1, z2, z3, z4, z5, z6, z7⟩ := zc
  have hrecv := va_recv (zK hg F) (hP.obj hkd z7) z1 (q0 := 0) rfl
  refine z_run (Q1 := zCont g M mc ms Q (pc + 3) lv rest bc2 bs2) (vx_runV ⟨F.1, F.2.1, F.2.2.1, F.2.2.2.2.1, zts hg F⟩ hC ⟨z_callB hg F md hlvl hmaxL (zw hg F hlink rfl), zw hg F hin rfl, zw hg F hsel rfl⟩ ⟨zC_blind, hrecv, fun U hU hW => ⟨rfl, F.2.2.2.2.2.2.2.1.trans hW, by rw [hU]; exact hP⟩⟩ rfl hn hl.1 rfl (lv_room hroom) d (show cells + mc1 ≤ mc ∧ slots + ms1 ≤ ms by omega)) hL (fun v h' H1 locs1 hP1 hz1 hL1 hq => ?_) (fun E ce q9 h' H1 locs1 hP1 hz1 hL1 hq hce hcv hcl => ?_)
  · exact hq p e s m args below meth c F H1 locs1 (cells + mc1) (slots + ms1) ls hP1 hz1 hL1 (by omega) (by omega) hl
  · exact vx_out (by rw [F.2.2.2.2.2.2.1, htab]; intro x hx; cases hx) F.2.2.2.2.2.1 hce hcv hcl (fun t ht hal => ⟨h', by rw [ht]; exact hP1, hq⟩) hL1 (by omega) (by omega)

theorem r_callS {y : MethodName} {bytes : ByteArray} {maxL : Nat} {ret : Option FieldType} {n lvl mc1 ms1 idx : Nat} {As rest : List Value}  (bc2 bs2 : Nat) (hg : zG g) (htab : M.2.2.2.2.1 = []) (md : z_md y bytes maxL ret n) (hstat : Cond.static y ∈ lw_tbl) (hlink : Cond.methodLink M.1 idx y ∈ lw_tbl) (hlvl : lvl + 1 ≤ M.2.2.2.2.2.2) (hmaxL : maxL ≤ 150) (hn : As.length = n) (hroom : (rest.map fun v => v.category).sum ≤ 8) (hb1 : bc2 + mc1 ≤ bc) (hb2 : bs2 + ms1 ≤ bs) (hst : st = As.reverse ++ rest) (pc' : Nat) (hp : pc + 3 = pc') (d : decode M.2.1 pc = .ok (.invokestatic idx, 3))
    (hC : zC g (.code y bytes maxL ret) y lvl mc1 ms1 (As) h (zCont g M mc ms Q pc' lv rest bc2 bs2)) : zX g M mc ms Q pc lv st h bc bs := by
  subst hp; subst hst
  intro p e s m args below meth c F H locs cells slots ls hP hs hL hc hsl hl
  refine z_run (Q1 := zCont g M mc ms Q (pc + 3) lv rest bc2 bs2) (vx_runS ⟨F.1, F.2.1, F.2.2.1, F.2.2.2.2.1, zts hg F⟩ hC ⟨z_callB hg F md hlvl hmaxL (zw hg F hlink rfl), zw hg F hstat rfl⟩ ⟨zC_blind, fun U hU hW => ⟨rfl, F.2.2.2.2.2.2.2.1.trans hW, by rw [hU]; exact hP⟩⟩ rfl hn hl.1 rfl (lv_room hroom) d (show cells + mc1 ≤ mc ∧ slots + ms1 ≤ ms by omega)) hL (fun v h' H1 locs1 hP1 hz1 hL1 hq => ?_) (fun E ce q9 h' H1 locs1 hP1 hz1 hL1 hq hce hcv hcl => ?_)
  · exact hq p e s m args below meth c F H1 locs1 (cells + mc1) (slots + ms1) ls hP1 hz1 hL1 (by omega) (by omega) hl
  · exact vx_out (by rw [F.2.2.2.2.2.2.1, htab]; intro x hx; cases hx) F.2.2.2.2.2.1 hce hcv hcl (fun t ht hal => ⟨h', by rw [ht]; exact hP1, hq⟩) hL1 (by omega) (by omega)

theorem r_callI {y : MethodName} {bytes : ByteArray} {maxL : Nat} {ret : Option FieldType} {n lvl mc1 ms1 idx : Nat} {As rest : List Value} {b : Nat} (bc2 bs2 : Nat) (hg : zG g) (htab : M.2.2.2.2.1 = []) (md : z_md y bytes maxL ret n) (hin : Cond.instanceMethod y ∈ lw_tbl) (hy1 : y.name = "<init>") (hret : ret = none) (hlink : Cond.methodLink M.1 idx y ∈ lw_tbl) (hlvl : lvl + 1 ≤ M.2.2.2.2.2.2) (hmaxL : maxL ≤ 150) (hn : As.length = n) (hroom : (rest.map fun v => v.category).sum ≤ 8) (hb1 : bc2 + mc1 ≤ bc) (hb2 : bs2 + ms1 ≤ bs) (hst : st = As.reverse ++ .ref b :: rest) (pc' : Nat) (hp : pc + 3 = pc') (d : decode M.2.1 pc = .ok (.invokespecial idx, 3))
    (hC : zC g (.code y bytes maxL ret) y lvl mc1 ms1 (.ref b :: As) h (zCont g M mc ms Q pc' lv rest bc2 bs2)) : zX g M mc ms Q pc lv st h bc bs := by
  subst hp; subst hst
  intro p e s m args below meth c F H locs cells slots ls hP hs hL hc hsl hl
  subst hret
  refine z_run (Q1 := zCont g M mc ms Q (pc + 3) lv rest bc2 bs2) (vx_runI ⟨F.1, F.2.1, F.2.2.1, F.2.2.2.2.1, zts hg F⟩ hC ⟨z_callB hg F md hlvl hmaxL (zw hg F hlink rfl), hy1, zw hg F hin rfl⟩ ⟨zC_blind, fun U hU hW => ⟨rfl, F.2.2.2.2.2.2.2.1.trans hW, by rw [hU]; exact hP⟩⟩ rfl hn hl.1 rfl (lv_room hroom) d (show cells + mc1 ≤ mc ∧ slots + ms1 ≤ ms by omega)) hL (fun v h' H1 locs1 hP1 hz1 hL1 hq => ?_) (fun E ce q9 h' H1 locs1 hP1 hz1 hL1 hq hce hcv hcl => ?_)
  · exact hq p e s m args below meth c F H1 locs1 (cells + mc1) (slots + ms1) ls hP1 hz1 hL1 (by omega) (by omega) hl
  · exact vx_out (by rw [F.2.2.2.2.2.2.1, htab]; intro x hx; cases hx) F.2.2.2.2.2.1 hce hcv hcl (fun t ht hal => ⟨h', by rw [ht]; exact hP1, hq⟩) hL1 (by omega) (by omega)

theorem r_callIN {y : MethodName} {bytes : ByteArray} {maxL : Nat} {ret : Option FieldType} {n lvl mc1 ms1 idx : Nat} {As rest : List Value} {b : Nat} {host : String} (bc2 bs2 : Nat) (hg : zG g) (htab : M.2.2.2.2.1 = []) (md : z_md y bytes maxL ret n) (hin : Cond.instanceMethod y ∈ lw_tbl) (hy1 : y.name = "<init>") (hret : ret = none) (hlink : Cond.methodLinkNest M.1 idx y host ∈ lw_tbl) (hlvl : lvl + 1 ≤ M.2.2.2.2.2.2) (hmaxL : maxL ≤ 150) (hn : As.length = n) (hroom : (rest.map fun v => v.category).sum ≤ 8) (hb1 : bc2 + mc1 ≤ bc) (hb2 : bs2 + ms1 ≤ bs) (hst : st = As.reverse ++ .ref b :: rest) (pc' : Nat) (hp : pc + 3 = pc') (d : decode M.2.1 pc = .ok (.invokespecial idx, 3))
    (hC : zC g (.code y bytes maxL ret) y lvl mc1 ms1 (.ref b :: As) h (zCont g M mc ms Q pc' lv rest bc2 bs2)) : zX g M mc ms Q pc lv st h bc bs := by
  subst hp; subst hst
  intro p e s m args below meth c F H locs cells slots ls hP hs hL hc hsl hl
  subst hret
  refine z_run (Q1 := zCont g M mc ms Q (pc + 3) lv rest bc2 bs2) (vx_runIN (host := host) ⟨F.1, F.2.1, F.2.2.1, F.2.2.2.2.1, zts hg F⟩ hC ⟨z_callN hg F md hlvl hmaxL hlink, hy1, zw hg F hin rfl⟩ ⟨zC_blind, fun U hU hW => ⟨rfl, F.2.2.2.2.2.2.2.1.trans hW, by rw [hU]; exact hP⟩⟩ rfl hn hl.1 rfl (lv_room hroom) d (show cells + mc1 ≤ mc ∧ slots + ms1 ≤ ms by omega)) hL (fun v h' H1 locs1 hP1 hz1 hL1 hq => ?_) (fun E ce q9 h' H1 locs1 hP1 hz1 hL1 hq hce hcv hcl => ?_)
  · exact hq p e s m args below meth c F H1 locs1 (cells + mc1) (slots + ms1) ls hP1 hz1 hL1 (by omega) (by omega) hl
  · exact vx_out (by rw [F.2.2.2.2.2.2.1, htab]; intro x hx; cases hx) F.2.2.2.2.2.1 hce hcv hcl (fun t ht hal => ⟨h', by rw [ht]; exact hP1, hq⟩) hL1 (by omega) (by omega)

theorem r_callSN {y : MethodName} {bytes : ByteArray} {maxL : Nat} {ret : Option FieldType} {n lvl mc1 ms1 idx : Nat} {As rest : List Value} {host : String} (bc2 bs2 : Nat) (hg : zG g) (htab : M.2.2.2.2.1 = []) (md : z_md y bytes maxL ret n) (hstat : Cond.static y ∈ lw_tbl) (hlink : Cond.methodLinkNest M.1 idx y host ∈ lw_tbl) (hlvl : lvl + 1 ≤ M.2.2.2.2.2.2) (hmaxL : maxL ≤ 150) (hn : As.length = n) (hroom : (rest.map fun v => v.category).sum ≤ 8) (hb1 : bc2 + mc1 ≤ bc) (hb2 : bs2 + ms1 ≤ bs) (hst : st = As.reverse ++ rest) (pc' : Nat) (hp : pc + 3 = pc') (d : decode M.2.1 pc = .ok (.invokestatic idx, 3))
    (hC : zC g (.code y bytes maxL ret) y lvl mc1 ms1 (As) h (zCont g M mc ms Q pc' lv rest bc2 bs2)) : zX g M mc ms Q pc lv st h bc bs := by
  subst hp; subst hst
  intro p e s m args below meth c F H locs cells slots ls hP hs hL hc hsl hl
  refine z_run (Q1 := zCont g M mc ms Q (pc + 3) lv rest bc2 bs2) (vx_runSN (host := host) ⟨F.1, F.2.1, F.2.2.1, F.2.2.2.2.1, zts hg F⟩ hC ⟨z_callN hg F md hlvl hmaxL hlink, zw hg F hstat rfl, trivial⟩ ⟨zC_blind, fun U hU hW => ⟨rfl, F.2.2.2.2.2.2.2.1.trans hW, by rw [hU]; exact hP⟩⟩ rfl hn hl.1 rfl (lv_room hroom) d (show cells + mc1 ≤ mc ∧ slots + ms1 ≤ ms by omega)) hL (fun v h' H1 locs1 hP1 hz1 hL1 hq => ?_) (fun E ce q9 h' H1 locs1 hP1 hz1 hL1 hq hce hcv hcl => ?_)
  · exact hq p e s m args below meth c F H1 locs1 (cells + mc1) (slots + ms1) ls hP1 hz1 hL1 (by omega) (by omega) hl
  · exact vx_out (by rw [F.2.2.2.2.2.2.1, htab]; intro x hx; cases hx) F.2.2.2.2.2.1 hce hcv hcl (fun t ht hal => ⟨h', by rw [ht]; exact hP1, hq⟩) hL1 (by omega) (by omega)

theorem r_objInit {b idx : Nat} (hg : zG g) (hlink : Cond.methodLink M.1 idx objectInit ∈ lw_tbl) (hin : Cond.instanceMethod objectInit ∈ lw_tbl) (hcode : Cond.code objectInit ⟨#[0xb1]⟩ 1 none ∈ lw_tbl) (hroom : (st.map fun v => v.category).sum ≤ 8) (hlv : 1 ≤ M.2.2.2.2.2.2) (pc' : Nat) (hp : pc + 3 = pc') (d : decode M.2.1 pc = .ok (.invokespecial idx, 3)) (k : zX g M mc ms Q pc' lv st h bc bs) : zX g M mc ms Q pc lv (.ref b :: st) h bc bs := by
  subst hp
  intro p e s m args below meth c F H locs cells slots ls hP hs hL hc hsl hl
  refine W.objInit F.1 F.2.1 F.2.2.2.2.1 (zw hg F hlink rfl) (zw hg F hin rfl) (zw hg F hcode rfl) rfl (hl.1.trans F.2.2.1.symm) rfl d (show 1 ≤ M.2.2.2.2.2.2 from hlv) ?_ (k p e s m args below meth c F H locs cells slots ls hP hs hL hc hsl hl)
  have := lv_room (m := m) (pc := pc) (ls := ls) (rest := .ref b :: st) hroom
  show _ ≤ 200 * M.2.2.2.2.2.2
  have e9 : 2 * (F0 m pc ls (.ref b :: st)).monitorRoom = 0 := rfl
  omega

end Calls
end
section
def z_k1 : Option Value → Bool
  | some (.long _) => false
  | some (.double _) => false
  | _ => true
theorem z_k1_cat {a : Option Value} (h : z_k1 a = true) {v : Value} (hv : a = some v) : v.category = 1 := by
  subst hv
  cases v <;> first | rfl | cases h
section Fam
variable {g : zGT} {M : zM} {mc ms : Nat} {Q : zO → zH → Prop} {pc : Nat} {r : List (Option Value)} {st : List Value} {h : zH} {bc bs : Nat}

theorem r_iload_0 {x : Int32} (pc' : Nat) (hp : pc + 1 = pc') (d : decode M.2.1 pc = .ok (.iload_n 0, 1)) (k : zX g M mc ms Q pc' (some (.int x) :: r) (.int x :: st) h bc bs) : zX g M mc ms Q pc (some (.int x) :: r) st h bc bs := r_iload_n (i := 0) rfl pc' hp d k
theorem r_istore_0 {y : Option Value} {x : Int32} (pc' : Nat) (hp : pc + 1 = pc') (hi : 0 < M.2.2.1) (d : decode M.2.1 pc = .ok (.istore_n 0, 1)) (k : zX g M mc ms Q pc' (some (.int x) :: r) st h bc bs) : zX g M mc ms Q pc (y :: r) (.int x :: st) h bc bs := r_istore_n (i := 0) rfl pc' hp hi trivial rfl d k
theorem r_lload_0 {x : Int64} (pc' : Nat) (hp : pc + 1 = pc') (d : decode M.2.1 pc = .ok (.lload_n 0, 1)) (k : zX g M mc ms Q pc' (some (.long x) :: r) (.long x :: st) h bc bs) : zX g M mc ms Q pc (some (.long x) :: r) st h bc bs := r_lload_n (i := 0) rfl pc' hp d k
theorem r_lstore_0 {y z : Option Value} {x : Int64} (pc' : Nat) (hp : pc + 1 = pc') (hi : 0 + 1 < M.2.2.1) (d : decode M.2.1 pc = .ok (.lstore_n 0, 1)) (k : zX g M mc ms Q pc' (some (.long x) :: none :: r) st h bc bs) : zX g M mc ms Q pc (y :: z :: r) (.long x :: st) h bc bs := r_lstore_n (i := 0) rfl pc' hp hi trivial rfl d k
theorem r_aload_0 {x : Nat} (pc' : Nat) (hp : pc + 1 = pc') (d : decode M.2.1 pc = .ok (.aload_n 0, 1)) (k : zX g M mc ms Q pc' (some (.ref x) :: r) (.ref x :: st) h bc bs) : zX g M mc ms Q pc (some (.ref x) :: r) st h bc bs := r_aload_n (i := 0) rfl pc' hp d k
theorem r_astore_0 {y : Option Value} {x : Nat} (pc' : Nat) (hp : pc + 1 = pc') (hi : 0 < M.2.2.1) (d : decode M.2.1 pc = .ok (.astore_n 0, 1)) (k : zX g M mc ms Q pc' (some (.ref x) :: r) st h bc bs) : zX g M mc ms Q pc (y :: r) (.ref x :: st) h bc bs := r_astore_n (i := 0) rfl pc' hp hi trivial rfl d k
theorem r_astoreN_0 {y : Option Value} (pc' : Nat) (hp : pc + 1 = pc') (hi : 0 < M.2.2.1) (d : decode M.2.1 pc = .ok (.astore_n 0, 1)) (k : zX g M mc ms Q pc' (some .null :: r) st h bc bs) : zX g M mc ms Q pc (y :: r) (.null :: st) h bc bs := r_astore_nN (i := 0) rfl pc' hp hi trivial rfl d k
theorem r_aloadN_0 (pc' : Nat) (hp : pc + 1 = pc') (d : decode M.2.1 pc = .ok (.aload_n 0, 1)) (k : zX g M mc ms Q pc' (some .null :: r) (.null :: st) h bc bs) : zX g M mc ms Q pc (some .null :: r) st h bc bs := r_aload_nN (i := 0) rfl pc' hp d k
theorem r_iinc_0 {x n : Int} (pc' : Nat) (hp : pc + 3 = pc') (hi : 0 < M.2.2.1) (d : decode M.2.1 pc = .ok (.iinc 0 n, 3)) (k : zX g M mc ms Q pc' (some (.int (zI (x + n))) :: r) st h bc bs) : zX g M mc ms Q pc (some (.int (zI x)) :: r) st h bc bs := r_iinc (i := 0) pc' hp hi trivial rfl rfl d k
theorem r_iload_1 {a0 : Option Value} {x : Int32} (pc' : Nat) (hp : pc + 1 = pc') (d : decode M.2.1 pc = .ok (.iload_n 1, 1)) (k : zX g M mc ms Q pc' (a0 :: some (.int x) :: r) (.int x :: st) h bc bs) : zX g M mc ms Q pc (a0 :: some (.int x) :: r) st h bc bs := r_iload_n (i := 1) rfl pc' hp d k
theorem r_istore_1 {a0 : Option Value} {y : Option Value} {x : Int32} (pc' : Nat) (hp : pc + 1 = pc') (hi : 1 < M.2.2.1) (h9 : z_k1 a0 = true) (d : decode M.2.1 pc = .ok (.istore_n 1, 1)) (k : zX g M mc ms Q pc' (a0 :: some (.int x) :: r) st h bc bs) : zX g M mc ms Q pc (a0 :: y :: r) (.int x :: st) h bc bs := r_istore_n (i := 1) rfl pc' hp hi (fun v hv => z_k1_cat h9 (Option.some.inj hv)) rfl d k
theorem r_lload_1 {a0 : Option Value} {x : Int64} (pc' : Nat) (hp : pc + 1 = pc') (d : decode M.2.1 pc = .ok (.lload_n 1, 1)) (k : zX g M mc ms Q pc' (a0 :: some (.long x) :: r) (.long x :: st) h bc bs) : zX g M mc ms Q pc (a0 :: some (.long x) :: r) st h bc bs := r_lload_n (i := 1) rfl pc' hp d k
theorem r_lstore_1 {a0 : Option Value} {y z : Option Value} {x : Int64} (pc' : Nat) (hp : pc + 1 = pc') (hi : 1 + 1 < M.2.2.1) (h9 : z_k1 a0 = true) (d : decode M.2.1 pc = .ok (.lstore_n 1, 1)) (k : zX g M mc ms Q pc' (a0 :: some (.long x) :: none :: r) st h bc bs) : zX g M mc ms Q pc (a0 :: y :: z :: r) (.long x :: st) h bc bs := r_lstore_n (i := 1) rfl pc' hp hi (fun v hv => z_k1_cat h9 (Option.some.inj hv)) rfl d k
theorem r_aload_1 {a0 : Option Value} {x : Nat} (pc' : Nat) (hp : pc + 1 = pc') (d : decode M.2.1 pc = .ok (.aload_n 1, 1)) (k : zX g M mc ms Q pc' (a0 :: some (.ref x) :: r) (.ref x :: st) h bc bs) : zX g M mc ms Q pc (a0 :: some (.ref x) :: r) st h bc bs := r_aload_n (i := 1) rfl pc' hp d k
theorem r_astore_1 {a0 : Option Value} {y : Option Value} {x : Nat} (pc' : Nat) (hp : pc + 1 = pc') (hi : 1 < M.2.2.1) (h9 : z_k1 a0 = true) (d : decode M.2.1 pc = .ok (.astore_n 1, 1)) (k : zX g M mc ms Q pc' (a0 :: some (.ref x) :: r) st h bc bs) : zX g M mc ms Q pc (a0 :: y :: r) (.ref x :: st) h bc bs := r_astore_n (i := 1) rfl pc' hp hi (fun v hv => z_k1_cat h9 (Option.some.inj hv)) rfl d k
theorem r_astoreN_1 {a0 : Option Value} {y : Option Value} (pc' : Nat) (hp : pc + 1 = pc') (hi : 1 < M.2.2.1) (h9 : z_k1 a0 = true) (d : decode M.2.1 pc = .ok (.astore_n 1, 1)) (k : zX g M mc ms Q pc' (a0 :: some .null :: r) st h bc bs) : zX g M mc ms Q pc (a0 :: y :: r) (.null :: st) h bc bs := r_astore_nN (i := 1) rfl pc' hp hi (fun v hv => z_k1_cat h9 (Option.some.inj hv)) rfl d k
theorem r_aloadN_1 {a0 : Option Value} (pc' : Nat) (hp : pc + 1 = pc') (d : decode M.2.1 pc = .ok (.aload_n 1, 1)) (k : zX g M mc ms Q pc' (a0 :: some .null :: r) (.null :: st) h bc bs) : zX g M mc ms Q pc (a0 :: some .null :: r) st h bc bs := r_aload_nN (i := 1) rfl pc' hp d k
theorem r_iinc_1 {a0 : Option Value} {x n : Int} (pc' : Nat) (hp : pc + 3 = pc') (hi : 1 < M.2.2.1) (h9 : z_k1 a0 = true) (d : decode M.2.1 pc = .ok (.iinc 1 n, 3)) (k : zX g M mc ms Q pc' (a0 :: some (.int (zI (x + n))) :: r) st h bc bs) : zX g M mc ms Q pc (a0 :: some (.int (zI x)) :: r) st h bc bs := r_iinc (i := 1) pc' hp hi (fun v hv => z_k1_cat h9 (Option.some.inj hv)) rfl rfl d k
theorem r_iload_2 {a0 a1 : Option Value} {x : Int32} (pc' : Nat) (hp : pc + 1 = pc') (d : decode M.2.1 pc = .ok (.iload_n 2, 1)) (k : zX g M mc ms Q pc' (a0 :: a1 :: some (.int x) :: r) (.int x :: st) h bc bs) : zX g M mc ms Q pc (a0 :: a1 :: some (.int x) :: r) st h bc bs := r_iload_n (i := 2) rfl pc' hp d k
theorem r_istore_2 {a0 a1 : Option Value} {y : Option Value} {x : Int32} (pc' : Nat) (hp : pc + 1 = pc') (hi : 2 < M.2.2.1) (h9 : z_k1 a1 = true) (d : decode M.2.1 pc = .ok (.istore_n 2, 1)) (k : zX g M mc ms Q pc' (a0 :: a1 :: some (.int x) :: r) st h bc bs) : zX g M mc ms Q pc (a0 :: a1 :: y :: r) (.int x :: st) h bc bs := r_istore_n (i := 2) rfl pc' hp hi (fun v hv => z_k1_cat h9 (Option.some.inj hv)) rfl d k
theorem r_lload_2 {a0 a1 : Option Value} {x : Int64} (pc' : Nat) (hp : pc + 1 = pc') (d : decode M.2.1 pc = .ok (.lload_n 2, 1)) (k : zX g M mc ms Q pc' (a0 :: a1 :: some (.long x) :: r) (.long x :: st) h bc bs) : zX g M mc ms Q pc (a0 :: a1 :: some (.long x) :: r) st h bc bs := r_lload_n (i := 2) rfl pc' hp d k
theorem r_lstore_2 {a0 a1 : Option Value} {y z : Option Value} {x : Int64} (pc' : Nat) (hp : pc + 1 = pc') (hi : 2 + 1 < M.2.2.1) (h9 : z_k1 a1 = true) (d : decode M.2.1 pc = .ok (.lstore_n 2, 1)) (k : zX g M mc ms Q pc' (a0 :: a1 :: some (.long x) :: none :: r) st h bc bs) : zX g M mc ms Q pc (a0 :: a1 :: y :: z :: r) (.long x :: st) h bc bs := r_lstore_n (i := 2) rfl pc' hp hi (fun v hv => z_k1_cat h9 (Option.some.inj hv)) rfl d k
theorem r_aload_2 {a0 a1 : Option Value} {x : Nat} (pc' : Nat) (hp : pc + 1 = pc') (d : decode M.2.1 pc = .ok (.aload_n 2, 1)) (k : zX g M mc ms Q pc' (a0 :: a1 :: some (.ref x) :: r) (.ref x :: st) h bc bs) : zX g M mc ms Q pc (a0 :: a1 :: some (.ref x) :: r) st h bc bs := r_aload_n (i := 2) rfl pc' hp d k
theorem r_astore_2 {a0 a1 : Option Value} {y : Option Value} {x : Nat} (pc' : Nat) (hp : pc + 1 = pc') (hi : 2 < M.2.2.1) (h9 : z_k1 a1 = true) (d : decode M.2.1 pc = .ok (.astore_n 2, 1)) (k : zX g M mc ms Q pc' (a0 :: a1 :: some (.ref x) :: r) st h bc bs) : zX g M mc ms Q pc (a0 :: a1 :: y :: r) (.ref x :: st) h bc bs := r_astore_n (i := 2) rfl pc' hp hi (fun v hv => z_k1_cat h9 (Option.some.inj hv)) rfl d k
theorem r_astoreN_2 {a0 a1 : Option Value} {y : Option Value} (pc' : Nat) (hp : pc + 1 = pc') (hi : 2 < M.2.2.1) (h9 : z_k1 a1 = true) (d : decode M.2.1 pc = .ok (.astore_n 2, 1)) (k : zX g M mc ms Q pc' (a0 :: a1 :: some .null :: r) st h bc bs) : zX g M mc ms Q pc (a0 :: a1 :: y :: r) (.null :: st) h bc bs := r_astore_nN (i := 2) rfl pc' hp hi (fun v hv => z_k1_cat h9 (Option.some.inj hv)) rfl d k
theorem r_aloadN_2 {a0 a1 : Option Value} (pc' : Nat) (hp : pc + 1 = pc') (d : decode M.2.1 pc = .ok (.aload_n 2, 1)) (k : zX g M mc ms Q pc' (a0 :: a1 :: some .null :: r) (.null :: st) h bc bs) : zX g M mc ms Q pc (a0 :: a1 :: some .null :: r) st h bc bs := r_aload_nN (i := 2) rfl pc' hp d k
theorem r_iinc_2 {a0 a1 : Option Value} {x n : Int} (pc' : Nat) (hp : pc + 3 = pc') (hi : 2 < M.2.2.1) (h9 : z_k1 a1 = true) (d : decode M.2.1 pc = .ok (.iinc 2 n, 3)) (k : zX g M mc ms Q pc' (a0 :: a1 :: some (.int (zI (x + n))) :: r) st h bc bs) : zX g M mc ms Q pc (a0 :: a1 :: some (.int (zI x)) :: r) st h bc bs := r_iinc (i := 2) pc' hp hi (fun v hv => z_k1_cat h9 (Option.some.inj hv)) rfl rfl d k
theorem r_iload_3 {a0 a1 a2 : Option Value} {x : Int32} (pc' : Nat) (hp : pc + 1 = pc') (d : decode M.2.1 pc = .ok (.iload_n 3, 1)) (k : zX g M mc ms Q pc' (a0 :: a1 :: a2 :: some (.int x) :: r) (.int x :: st) h bc bs) : zX g M mc ms Q pc (a0 :: a1 :: a2 :: some (.int x) :: r) st h bc bs := r_iload_n (i := 3) rfl pc' hp d k
theorem r_istore_3 {a0 a1 a2 : Option Value} {y : Option Value} {x : Int32} (pc' : Nat) (hp : pc + 1 = pc') (hi : 3 < M.2.2.1) (h9 : z_k1 a2 = true) (d : decode M.2.1 pc = .ok (.istore_n 3, 1)) (k : zX g M mc ms Q pc' (a0 :: a1 :: a2 :: some (.int x) :: r) st h bc bs) : zX g M mc ms Q pc (a0 :: a1 :: a2 :: y :: r) (.int x :: st) h bc bs := r_istore_n (i := 3) rfl pc' hp hi (fun v hv => z_k1_cat h9 (Option.some.inj hv)) rfl d k
theorem r_lload_3 {a0 a1 a2 : Option Value} {x : Int64} (pc' : Nat) (hp : pc + 1 = pc') (d : decode M.2.1 pc = .ok (.lload_n 3, 1)) (k : zX g M mc ms Q pc' (a0 :: a1 :: a2 :: some (.long x) :: r) (.long x :: st) h bc bs) : zX g M mc ms Q pc (a0 :: a1 :: a2 :: some (.long x) :: r) st h bc bs := r_lload_n (i := 3) rfl pc' hp d k
theorem r_lstore_3 {a0 a1 a2 : Option Value} {y z : Option Value} {x : Int64} (pc' : Nat) (hp : pc + 1 = pc') (hi : 3 + 1 < M.2.2.1) (h9 : z_k1 a2 = true) (d : decode M.2.1 pc = .ok (.lstore_n 3, 1)) (k : zX g M mc ms Q pc' (a0 :: a1 :: a2 :: some (.long x) :: none :: r) st h bc bs) : zX g M mc ms Q pc (a0 :: a1 :: a2 :: y :: z :: r) (.long x :: st) h bc bs := r_lstore_n (i := 3) rfl pc' hp hi (fun v hv => z_k1_cat h9 (Option.some.inj hv)) rfl d k
theorem r_aload_3 {a0 a1 a2 : Option Value} {x : Nat} (pc' : Nat) (hp : pc + 1 = pc') (d : decode M.2.1 pc = .ok (.aload_n 3, 1)) (k : zX g M mc ms Q pc' (a0 :: a1 :: a2 :: some (.ref x) :: r) (.ref x :: st) h bc bs) : zX g M mc ms Q pc (a0 :: a1 :: a2 :: some (.ref x) :: r) st h bc bs := r_aload_n (i := 3) rfl pc' hp d k
theorem r_astore_3 {a0 a1 a2 : Option Value} {y : Option Value} {x : Nat} (pc' : Nat) (hp : pc + 1 = pc') (hi : 3 < M.2.2.1) (h9 : z_k1 a2 = true) (d : decode M.2.1 pc = .ok (.astore_n 3, 1)) (k : zX g M mc ms Q pc' (a0 :: a1 :: a2 :: some (.ref x) :: r) st h bc bs) : zX g M mc ms Q pc (a0 :: a1 :: a2 :: y :: r) (.ref x :: st) h bc bs := r_astore_n (i := 3) rfl pc' hp hi (fun v hv => z_k1_cat h9 (Option.some.inj hv)) rfl d k
theorem r_astoreN_3 {a0 a1 a2 : Option Value} {y : Option Value} (pc' : Nat) (hp : pc + 1 = pc') (hi : 3 < M.2.2.1) (h9 : z_k1 a2 = true) (d : decode M.2.1 pc = .ok (.astore_n 3, 1)) (k : zX g M mc ms Q pc' (a0 :: a1 :: a2 :: some .null :: r) st h bc bs) : zX g M mc ms Q pc (a0 :: a1 :: a2 :: y :: r) (.null :: st) h bc bs := r_astore_nN (i := 3) rfl pc' hp hi (fun v hv => z_k1_cat h9 (Option.some.inj hv)) rfl d k
theorem r_aloadN_3 {a0 a1 a2 : Option Value} (pc' : Nat) (hp : pc + 1 = pc') (d : decode M.2.1 pc = .ok (.aload_n 3, 1)) (k : zX g M mc ms Q pc' (a0 :: a1 :: a2 :: some .null :: r) (.null :: st) h bc bs) : zX g M mc ms Q pc (a0 :: a1 :: a2 :: some .null :: r) st h bc bs := r_aload_nN (i := 3) rfl pc' hp d k
theorem r_iinc_3 {a0 a1 a2 : Option Value} {x n : Int} (pc' : Nat) (hp : pc + 3 = pc') (hi : 3 < M.2.2.1) (h9 : z_k1 a2 = true) (d : decode M.2.1 pc = .ok (.iinc 3 n, 3)) (k : zX g M mc ms Q pc' (a0 :: a1 :: a2 :: some (.int (zI (x + n))) :: r) st h bc bs) : zX g M mc ms Q pc (a0 :: a1 :: a2 :: some (.int (zI x)) :: r) st h bc bs := r_iinc (i := 3) pc' hp hi (fun v hv => z_k1_cat h9 (Option.some.inj hv)) rfl rfl d k
theorem r_iload_4 {a0 a1 a2 a3 : Option Value} {x : Int32} (pc' : Nat) (hp : pc + 2 = pc') (d : decode M.2.1 pc = .ok (.iload 4, 2)) (k : zX g M mc ms Q pc' (a0 :: a1 :: a2 :: a3 :: some (.int x) :: r) (.int x :: st) h bc bs) : zX g M mc ms Q pc (a0 :: a1 :: a2 :: a3 :: some (.int x) :: r) st h bc bs := r_iload (i := 4) rfl pc' hp d k
theorem r_istore_4 {a0 a1 a2 a3 : Option Value} {y : Option Value} {x : Int32} (pc' : Nat) (hp : pc + 2 = pc') (hi : 4 < M.2.2.1) (h9 : z_k1 a3 = true) (d : decode M.2.1 pc = .ok (.istore 4, 2)) (k : zX g M mc ms Q pc' (a0 :: a1 :: a2 :: a3 :: some (.int x) :: r) st h bc bs) : zX g M mc ms Q pc (a0 :: a1 :: a2 :: a3 :: y :: r) (.int x :: st) h bc bs := r_istore (i := 4) pc' hp hi (fun v hv => z_k1_cat h9 (Option.some.inj hv)) rfl d k
theorem r_lload_4 {a0 a1 a2 a3 : Option Value} {x : Int64} (pc' : Nat) (hp : pc + 2 = pc') (d : decode M.2.1 pc = .ok (.lload 4, 2)) (k : zX g M mc ms Q pc' (a0 :: a1 :: a2 :: a3 :: some (.long x) :: r) (.long x :: st) h bc bs) : zX g M mc ms Q pc (a0 :: a1 :: a2 :: a3 :: some (.long x) :: r) st h bc bs := r_lload (i := 4) rfl pc' hp d k
theorem r_lstore_4 {a0 a1 a2 a3 : Option Value} {y z : Option Value} {x : Int64} (pc' : Nat) (hp : pc + 2 = pc') (hi : 4 + 1 < M.2.2.1) (h9 : z_k1 a3 = true) (d : decode M.2.1 pc = .ok (.lstore 4, 2)) (k : zX g M mc ms Q pc' (a0 :: a1 :: a2 :: a3 :: some (.long x) :: none :: r) st h bc bs) : zX g M mc ms Q pc (a0 :: a1 :: a2 :: a3 :: y :: z :: r) (.long x :: st) h bc bs := r_lstore (i := 4) pc' hp hi (fun v hv => z_k1_cat h9 (Option.some.inj hv)) rfl d k
theorem r_aload_4 {a0 a1 a2 a3 : Option Value} {x : Nat} (pc' : Nat) (hp : pc + 2 = pc') (d : decode M.2.1 pc = .ok (.aload 4, 2)) (k : zX g M mc ms Q pc' (a0 :: a1 :: a2 :: a3 :: some (.ref x) :: r) (.ref x :: st) h bc bs) : zX g M mc ms Q pc (a0 :: a1 :: a2 :: a3 :: some (.ref x) :: r) st h bc bs := r_aload (i := 4) rfl pc' hp d k
theorem r_astore_4 {a0 a1 a2 a3 : Option Value} {y : Option Value} {x : Nat} (pc' : Nat) (hp : pc + 2 = pc') (hi : 4 < M.2.2.1) (h9 : z_k1 a3 = true) (d : decode M.2.1 pc = .ok (.astore 4, 2)) (k : zX g M mc ms Q pc' (a0 :: a1 :: a2 :: a3 :: some (.ref x) :: r) st h bc bs) : zX g M mc ms Q pc (a0 :: a1 :: a2 :: a3 :: y :: r) (.ref x :: st) h bc bs := r_astore (i := 4) pc' hp hi (fun v hv => z_k1_cat h9 (Option.some.inj hv)) rfl d k
theorem r_astoreN_4 {a0 a1 a2 a3 : Option Value} {y : Option Value} (pc' : Nat) (hp : pc + 2 = pc') (hi : 4 < M.2.2.1) (h9 : z_k1 a3 = true) (d : decode M.2.1 pc = .ok (.astore 4, 2)) (k : zX g M mc ms Q pc' (a0 :: a1 :: a2 :: a3 :: some .null :: r) st h bc bs) : zX g M mc ms Q pc (a0 :: a1 :: a2 :: a3 :: y :: r) (.null :: st) h bc bs := r_astoreN (i := 4) pc' hp hi (fun v hv => z_k1_cat h9 (Option.some.inj hv)) rfl d k
theorem r_aloadN_4 {a0 a1 a2 a3 : Option Value} (pc' : Nat) (hp : pc + 2 = pc') (d : decode M.2.1 pc = .ok (.aload 4, 2)) (k : zX g M mc ms Q pc' (a0 :: a1 :: a2 :: a3 :: some .null :: r) (.null :: st) h bc bs) : zX g M mc ms Q pc (a0 :: a1 :: a2 :: a3 :: some .null :: r) st h bc bs := r_aloadN (i := 4) rfl pc' hp d k
theorem r_iinc_4 {a0 a1 a2 a3 : Option Value} {x n : Int} (pc' : Nat) (hp : pc + 3 = pc') (hi : 4 < M.2.2.1) (h9 : z_k1 a3 = true) (d : decode M.2.1 pc = .ok (.iinc 4 n, 3)) (k : zX g M mc ms Q pc' (a0 :: a1 :: a2 :: a3 :: some (.int (zI (x + n))) :: r) st h bc bs) : zX g M mc ms Q pc (a0 :: a1 :: a2 :: a3 :: some (.int (zI x)) :: r) st h bc bs := r_iinc (i := 4) pc' hp hi (fun v hv => z_k1_cat h9 (Option.some.inj hv)) rfl rfl d k
theorem r_iload_5 {a0 a1 a2 a3 a4 : Option Value} {x : Int32} (pc' : Nat) (hp : pc + 2 = pc') (d : decode M.2.1 pc = .ok (.iload 5, 2)) (k : zX g M mc ms Q pc' (a0 :: a1 :: a2 :: a3 :: a4 :: some (.int x) :: r) (.int x :: st) h bc bs) : zX g M mc ms Q pc (a0 :: a1 :: a2 :: a3 :: a4 :: some (.int x) :: r) st h bc bs := r_iload (i := 5) rfl pc' hp d k
theorem r_istore_5 {a0 a1 a2 a3 a4 : Option Value} {y : Option Value} {x : Int32} (pc' : Nat) (hp : pc + 2 = pc') (hi : 5 < M.2.2.1) (h9 : z_k1 a4 = true) (d : decode M.2.1 pc = .ok (.istore 5, 2)) (k : zX g M mc ms Q pc' (a0 :: a1 :: a2 :: a3 :: a4 :: some (.int x) :: r) st h bc bs) : zX g M mc ms Q pc (a0 :: a1 :: a2 :: a3 :: a4 :: y :: r) (.int x :: st) h bc bs := r_istore (i := 5) pc' hp hi (fun v hv => z_k1_cat h9 (Option.some.inj hv)) rfl d k
theorem r_lload_5 {a0 a1 a2 a3 a4 : Option Value} {x : Int64} (pc' : Nat) (hp : pc + 2 = pc') (d : decode M.2.1 pc = .ok (.lload 5, 2)) (k : zX g M mc ms Q pc' (a0 :: a1 :: a2 :: a3 :: a4 :: some (.long x) :: r) (.long x :: st) h bc bs) : zX g M mc ms Q pc (a0 :: a1 :: a2 :: a3 :: a4 :: some (.long x) :: r) st h bc bs := r_lload (i := 5) rfl pc' hp d k
theorem r_lstore_5 {a0 a1 a2 a3 a4 : Option Value} {y z : Option Value} {x : Int64} (pc' : Nat) (hp : pc + 2 = pc') (hi : 5 + 1 < M.2.2.1) (h9 : z_k1 a4 = true) (d : decode M.2.1 pc = .ok (.lstore 5, 2)) (k : zX g M mc ms Q pc' (a0 :: a1 :: a2 :: a3 :: a4 :: some (.long x) :: none :: r) st h bc bs) : zX g M mc ms Q pc (a0 :: a1 :: a2 :: a3 :: a4 :: y :: z :: r) (.long x :: st) h bc bs := r_lstore (i := 5) pc' hp hi (fun v hv => z_k1_cat h9 (Option.some.inj hv)) rfl d k
theorem r_aload_5 {a0 a1 a2 a3 a4 : Option Value} {x : Nat} (pc' : Nat) (hp : pc + 2 = pc') (d : decode M.2.1 pc = .ok (.aload 5, 2)) (k : zX g M mc ms Q pc' (a0 :: a1 :: a2 :: a3 :: a4 :: some (.ref x) :: r) (.ref x :: st) h bc bs) : zX g M mc ms Q pc (a0 :: a1 :: a2 :: a3 :: a4 :: some (.ref x) :: r) st h bc bs := r_aload (i := 5) rfl pc' hp d k
theorem r_astore_5 {a0 a1 a2 a3 a4 : Option Value} {y : Option Value} {x : Nat} (pc' : Nat) (hp : pc + 2 = pc') (hi : 5 < M.2.2.1) (h9 : z_k1 a4 = true) (d : decode M.2.1 pc = .ok (.astore 5, 2)) (k : zX g M mc ms Q pc' (a0 :: a1 :: a2 :: a3 :: a4 :: some (.ref x) :: r) st h bc bs) : zX g M mc ms Q pc (a0 :: a1 :: a2 :: a3 :: a4 :: y :: r) (.ref x :: st) h bc bs := r_astore (i := 5) pc' hp hi (fun v hv => z_k1_cat h9 (Option.some.inj hv)) rfl d k
theorem r_astoreN_5 {a0 a1 a2 a3 a4 : Option Value} {y : Option Value} (pc' : Nat) (hp : pc + 2 = pc') (hi : 5 < M.2.2.1) (h9 : z_k1 a4 = true) (d : decode M.2.1 pc = .ok (.astore 5, 2)) (k : zX g M mc ms Q pc' (a0 :: a1 :: a2 :: a3 :: a4 :: some .null :: r) st h bc bs) : zX g M mc ms Q pc (a0 :: a1 :: a2 :: a3 :: a4 :: y :: r) (.null :: st) h bc bs := r_astoreN (i := 5) pc' hp hi (fun v hv => z_k1_cat h9 (Option.some.inj hv)) rfl d k
theorem r_aloadN_5 {a0 a1 a2 a3 a4 : Option Value} (pc' : Nat) (hp : pc + 2 = pc') (d : decode M.2.1 pc = .ok (.aload 5, 2)) (k : zX g M mc ms Q pc' (a0 :: a1 :: a2 :: a3 :: a4 :: some .null :: r) (.null :: st) h bc bs) : zX g M mc ms Q pc (a0 :: a1 :: a2 :: a3 :: a4 :: some .null :: r) st h bc bs := r_aloadN (i := 5) rfl pc' hp d k
theorem r_iinc_5 {a0 a1 a2 a3 a4 : Option Value} {x n : Int} (pc' : Nat) (hp : pc + 3 = pc') (hi : 5 < M.2.2.1) (h9 : z_k1 a4 = true) (d : decode M.2.1 pc = .ok (.iinc 5 n, 3)) (k : zX g M mc ms Q pc' (a0 :: a1 :: a2 :: a3 :: a4 :: some (.int (zI (x + n))) :: r) st h bc bs) : zX g M mc ms Q pc (a0 :: a1 :: a2 :: a3 :: a4 :: some (.int (zI x)) :: r) st h bc bs := r_iinc (i := 5) pc' hp hi (fun v hv => z_k1_cat h9 (Option.some.inj hv)) rfl rfl d k
theorem r_iload_6 {a0 a1 a2 a3 a4 a5 : Option Value} {x : Int32} (pc' : Nat) (hp : pc + 2 = pc') (d : decode M.2.1 pc = .ok (.iload 6, 2)) (k : zX g M mc ms Q pc' (a0 :: a1 :: a2 :: a3 :: a4 :: a5 :: some (.int x) :: r) (.int x :: st) h bc bs) : zX g M mc ms Q pc (a0 :: a1 :: a2 :: a3 :: a4 :: a5 :: some (.int x) :: r) st h bc bs := r_iload (i := 6) rfl pc' hp d k
theorem r_istore_6 {a0 a1 a2 a3 a4 a5 : Option Value} {y : Option Value} {x : Int32} (pc' : Nat) (hp : pc + 2 = pc') (hi : 6 < M.2.2.1) (h9 : z_k1 a5 = true) (d : decode M.2.1 pc = .ok (.istore 6, 2)) (k : zX g M mc ms Q pc' (a0 :: a1 :: a2 :: a3 :: a4 :: a5 :: some (.int x) :: r) st h bc bs) : zX g M mc ms Q pc (a0 :: a1 :: a2 :: a3 :: a4 :: a5 :: y :: r) (.int x :: st) h bc bs := r_istore (i := 6) pc' hp hi (fun v hv => z_k1_cat h9 (Option.some.inj hv)) rfl d k
theorem r_lload_6 {a0 a1 a2 a3 a4 a5 : Option Value} {x : Int64} (pc' : Nat) (hp : pc + 2 = pc') (d : decode M.2.1 pc = .ok (.lload 6, 2)) (k : zX g M mc ms Q pc' (a0 :: a1 :: a2 :: a3 :: a4 :: a5 :: some (.long x) :: r) (.long x :: st) h bc bs) : zX g M mc ms Q pc (a0 :: a1 :: a2 :: a3 :: a4 :: a5 :: some (.long x) :: r) st h bc bs := r_lload (i := 6) rfl pc' hp d k
theorem r_lstore_6 {a0 a1 a2 a3 a4 a5 : Option Value} {y z : Option Value} {x : Int64} (pc' : Nat) (hp : pc + 2 = pc') (hi : 6 + 1 < M.2.2.1) (h9 : z_k1 a5 = true) (d : decode M.2.1 pc = .ok (.lstore 6, 2)) (k : zX g M mc ms Q pc' (a0 :: a1 :: a2 :: a3 :: a4 :: a5 :: some (.long x) :: none :: r) st h bc bs) : zX g M mc ms Q pc (a0 :: a1 :: a2 :: a3 :: a4 :: a5 :: y :: z :: r) (.long x :: st) h bc bs := r_lstore (i := 6) pc' hp hi (fun v hv => z_k1_cat h9 (Option.some.inj hv)) rfl d k
theorem r_aload_6 {a0 a1 a2 a3 a4 a5 : Option Value} {x : Nat} (pc' : Nat) (hp : pc + 2 = pc') (d : decode M.2.1 pc = .ok (.aload 6, 2)) (k : zX g M mc ms Q pc' (a0 :: a1 :: a2 :: a3 :: a4 :: a5 :: some (.ref x) :: r) (.ref x :: st) h bc bs) : zX g M mc ms Q pc (a0 :: a1 :: a2 :: a3 :: a4 :: a5 :: some (.ref x) :: r) st h bc bs := r_aload (i := 6) rfl pc' hp d k
theorem r_astore_6 {a0 a1 a2 a3 a4 a5 : Option Value} {y : Option Value} {x : Nat} (pc' : Nat) (hp : pc + 2 = pc') (hi : 6 < M.2.2.1) (h9 : z_k1 a5 = true) (d : decode M.2.1 pc = .ok (.astore 6, 2)) (k : zX g M mc ms Q pc' (a0 :: a1 :: a2 :: a3 :: a4 :: a5 :: some (.ref x) :: r) st h bc bs) : zX g M mc ms Q pc (a0 :: a1 :: a2 :: a3 :: a4 :: a5 :: y :: r) (.ref x :: st) h bc bs := r_astore (i := 6) pc' hp hi (fun v hv => z_k1_cat h9 (Option.some.inj hv)) rfl d k
theorem r_astoreN_6 {a0 a1 a2 a3 a4 a5 : Option Value} {y : Option Value} (pc' : Nat) (hp : pc + 2 = pc') (hi : 6 < M.2.2.1) (h9 : z_k1 a5 = true) (d : decode M.2.1 pc = .ok (.astore 6, 2)) (k : zX g M mc ms Q pc' (a0 :: a1 :: a2 :: a3 :: a4 :: a5 :: some .null :: r) st h bc bs) : zX g M mc ms Q pc (a0 :: a1 :: a2 :: a3 :: a4 :: a5 :: y :: r) (.null :: st) h bc bs := r_astoreN (i := 6) pc' hp hi (fun v hv => z_k1_cat h9 (Option.some.inj hv)) rfl d k
theorem r_aloadN_6 {a0 a1 a2 a3 a4 a5 : Option Value} (pc' : Nat) (hp : pc + 2 = pc') (d : decode M.2.1 pc = .ok (.aload 6, 2)) (k : zX g M mc ms Q pc' (a0 :: a1 :: a2 :: a3 :: a4 :: a5 :: some .null :: r) (.null :: st) h bc bs) : zX g M mc ms Q pc (a0 :: a1 :: a2 :: a3 :: a4 :: a5 :: some .null :: r) st h bc bs := r_aloadN (i := 6) rfl pc' hp d k
theorem r_iinc_6 {a0 a1 a2 a3 a4 a5 : Option Value} {x n : Int} (pc' : Nat) (hp : pc + 3 = pc') (hi : 6 < M.2.2.1) (h9 : z_k1 a5 = true) (d : decode M.2.1 pc = .ok (.iinc 6 n, 3)) (k : zX g M mc ms Q pc' (a0 :: a1 :: a2 :: a3 :: a4 :: a5 :: some (.int (zI (x + n))) :: r) st h bc bs) : zX g M mc ms Q pc (a0 :: a1 :: a2 :: a3 :: a4 :: a5 :: some (.int (zI x)) :: r) st h bc bs := r_iinc (i := 6) pc' hp hi (fun v hv => z_k1_cat h9 (Option.some.inj hv)) rfl rfl d k
theorem r_iload_7 {a0 a1 a2 a3 a4 a5 a6 : Option Value} {x : Int32} (pc' : Nat) (hp : pc + 2 = pc') (d : decode M.2.1 pc = .ok (.iload 7, 2)) (k : zX g M mc ms Q pc' (a0 :: a1 :: a2 :: a3 :: a4 :: a5 :: a6 :: some (.int x) :: r) (.int x :: st) h bc bs) : zX g M mc ms Q pc (a0 :: a1 :: a2 :: a3 :: a4 :: a5 :: a6 :: some (.int x) :: r) st h bc bs := r_iload (i := 7) rfl pc' hp d k
theorem r_istore_7 {a0 a1 a2 a3 a4 a5 a6 : Option Value} {y : Option Value} {x : Int32} (pc' : Nat) (hp : pc + 2 = pc') (hi : 7 < M.2.2.1) (h9 : z_k1 a6 = true) (d : decode M.2.1 pc = .ok (.istore 7, 2)) (k : zX g M mc ms Q pc' (a0 :: a1 :: a2 :: a3 :: a4 :: a5 :: a6 :: some (.int x) :: r) st h bc bs) : zX g M mc ms Q pc (a0 :: a1 :: a2 :: a3 :: a4 :: a5 :: a6 :: y :: r) (.int x :: st) h bc bs := r_istore (i := 7) pc' hp hi (fun v hv => z_k1_cat h9 (Option.some.inj hv)) rfl d k
theorem r_lload_7 {a0 a1 a2 a3 a4 a5 a6 : Option Value} {x : Int64} (pc' : Nat) (hp : pc + 2 = pc') (d : decode M.2.1 pc = .ok (.lload 7, 2)) (k : zX g M mc ms Q pc' (a0 :: a1 :: a2 :: a3 :: a4 :: a5 :: a6 :: some (.long x) :: r) (.long x :: st) h bc bs) : zX g M mc ms Q pc (a0 :: a1 :: a2 :: a3 :: a4 :: a5 :: a6 :: some (.long x) :: r) st h bc bs := r_lload (i := 7) rfl pc' hp d k
theorem r_lstore_7 {a0 a1 a2 a3 a4 a5 a6 : Option Value} {y z : Option Value} {x : Int64} (pc' : Nat) (hp : pc + 2 = pc') (hi : 7 + 1 < M.2.2.1) (h9 : z_k1 a6 = true) (d : decode M.2.1 pc = .ok (.lstore 7, 2)) (k : zX g M mc ms Q pc' (a0 :: a1 :: a2 :: a3 :: a4 :: a5 :: a6 :: some (.long x) :: none :: r) st h bc bs) : zX g M mc ms Q pc (a0 :: a1 :: a2 :: a3 :: a4 :: a5 :: a6 :: y :: z :: r) (.long x :: st) h bc bs := r_lstore (i := 7) pc' hp hi (fun v hv => z_k1_cat h9 (Option.some.inj hv)) rfl d k
theorem r_aload_7 {a0 a1 a2 a3 a4 a5 a6 : Option Value} {x : Nat} (pc' : Nat) (hp : pc + 2 = pc') (d : decode M.2.1 pc = .ok (.aload 7, 2)) (k : zX g M mc ms Q pc' (a0 :: a1 :: a2 :: a3 :: a4 :: a5 :: a6 :: some (.ref x) :: r) (.ref x :: st) h bc bs) : zX g M mc ms Q pc (a0 :: a1 :: a2 :: a3 :: a4 :: a5 :: a6 :: some (.ref x) :: r) st h bc bs := r_aload (i := 7) rfl pc' hp d k
theorem r_astore_7 {a0 a1 a2 a3 a4 a5 a6 : Option Value} {y : Option Value} {x : Nat} (pc' : Nat) (hp : pc + 2 = pc') (hi : 7 < M.2.2.1) (h9 : z_k1 a6 = true) (d : decode M.2.1 pc = .ok (.astore 7, 2)) (k : zX g M mc ms Q pc' (a0 :: a1 :: a2 :: a3 :: a4 :: a5 :: a6 :: some (.ref x) :: r) st h bc bs) : zX g M mc ms Q pc (a0 :: a1 :: a2 :: a3 :: a4 :: a5 :: a6 :: y :: r) (.ref x :: st) h bc bs := r_astore (i := 7) pc' hp hi (fun v hv => z_k1_cat h9 (Option.some.inj hv)) rfl d k
theorem r_astoreN_7 {a0 a1 a2 a3 a4 a5 a6 : Option Value} {y : Option Value} (pc' : Nat) (hp : pc + 2 = pc') (hi : 7 < M.2.2.1) (h9 : z_k1 a6 = true) (d : decode M.2.1 pc = .ok (.astore 7, 2)) (k : zX g M mc ms Q pc' (a0 :: a1 :: a2 :: a3 :: a4 :: a5 :: a6 :: some .null :: r) st h bc bs) : zX g M mc ms Q pc (a0 :: a1 :: a2 :: a3 :: a4 :: a5 :: a6 :: y :: r) (.null :: st) h bc bs := r_astoreN (i := 7) pc' hp hi (fun v hv => z_k1_cat h9 (Option.some.inj hv)) rfl d k
theorem r_aloadN_7 {a0 a1 a2 a3 a4 a5 a6 : Option Value} (pc' : Nat) (hp : pc + 2 = pc') (d : decode M.2.1 pc = .ok (.aload 7, 2)) (k : zX g M mc ms Q pc' (a0 :: a1 :: a2 :: a3 :: a4 :: a5 :: a6 :: some .null :: r) (.null :: st) h bc bs) : zX g M mc ms Q pc (a0 :: a1 :: a2 :: a3 :: a4 :: a5 :: a6 :: some .null :: r) st h bc bs := r_aloadN (i := 7) rfl pc' hp d k
theorem r_iinc_7 {a0 a1 a2 a3 a4 a5 a6 : Option Value} {x n : Int} (pc' : Nat) (hp : pc + 3 = pc') (hi : 7 < M.2.2.1) (h9 : z_k1 a6 = true) (d : decode M.2.1 pc = .ok (.iinc 7 n, 3)) (k : zX g M mc ms Q pc' (a0 :: a1 :: a2 :: a3 :: a4 :: a5 :: a6 :: some (.int (zI (x + n))) :: r) st h bc bs) : zX g M mc ms Q pc (a0 :: a1 :: a2 :: a3 :: a4 :: a5 :: a6 :: some (.int (zI x)) :: r) st h bc bs := r_iinc (i := 7) pc' hp hi (fun v hv => z_k1_cat h9 (Option.some.inj hv)) rfl rfl d k
theorem r_iload_8 {a0 a1 a2 a3 a4 a5 a6 a7 : Option Value} {x : Int32} (pc' : Nat) (hp : pc + 2 = pc') (d : decode M.2.1 pc = .ok (.iload 8, 2)) (k : zX g M mc ms Q pc' (a0 :: a1 :: a2 :: a3 :: a4 :: a5 :: a6 :: a7 :: some (.int x) :: r) (.int x :: st) h bc bs) : zX g M mc ms Q pc (a0 :: a1 :: a2 :: a3 :: a4 :: a5 :: a6 :: a7 :: some (.int x) :: r) st h bc bs := r_iload (i := 8) rfl pc' hp d k
theorem r_istore_8 {a0 a1 a2 a3 a4 a5 a6 a7 : Option Value} {y : Option Value} {x : Int32} (pc' : Nat) (hp : pc + 2 = pc') (hi : 8 < M.2.2.1) (h9 : z_k1 a7 = true) (d : decode M.2.1 pc = .ok (.istore 8, 2)) (k : zX g M mc ms Q pc' (a0 :: a1 :: a2 :: a3 :: a4 :: a5 :: a6 :: a7 :: some (.int x) :: r) st h bc bs) : zX g M mc ms Q pc (a0 :: a1 :: a2 :: a3 :: a4 :: a5 :: a6 :: a7 :: y :: r) (.int x :: st) h bc bs := r_istore (i := 8) pc' hp hi (fun v hv => z_k1_cat h9 (Option.some.inj hv)) rfl d k
theorem r_lload_8 {a0 a1 a2 a3 a4 a5 a6 a7 : Option Value} {x : Int64} (pc' : Nat) (hp : pc + 2 = pc') (d : decode M.2.1 pc = .ok (.lload 8, 2)) (k : zX g M mc ms Q pc' (a0 :: a1 :: a2 :: a3 :: a4 :: a5 :: a6 :: a7 :: some (.long x) :: r) (.long x :: st) h bc bs) : zX g M mc ms Q pc (a0 :: a1 :: a2 :: a3 :: a4 :: a5 :: a6 :: a7 :: some (.long x) :: r) st h bc bs := r_lload (i := 8) rfl pc' hp d k
theorem r_lstore_8 {a0 a1 a2 a3 a4 a5 a6 a7 : Option Value} {y z : Option Value} {x : Int64} (pc' : Nat) (hp : pc + 2 = pc') (hi : 8 + 1 < M.2.2.1) (h9 : z_k1 a7 = true) (d : decode M.2.1 pc = .ok (.lstore 8, 2)) (k : zX g M mc ms Q pc' (a0 :: a1 :: a2 :: a3 :: a4 :: a5 :: a6 :: a7 :: some (.long x) :: none :: r) st h bc bs) : zX g M mc ms Q pc (a0 :: a1 :: a2 :: a3 :: a4 :: a5 :: a6 :: a7 :: y :: z :: r) (.long x :: st) h bc bs := r_lstore (i := 8) pc' hp hi (fun v hv => z_k1_cat h9 (Option.some.inj hv)) rfl d k
theorem r_aload_8 {a0 a1 a2 a3 a4 a5 a6 a7 : Option Value} {x : Nat} (pc' : Nat) (hp : pc + 2 = pc') (d : decode M.2.1 pc = .ok (.aload 8, 2)) (k : zX g M mc ms Q pc' (a0 :: a1 :: a2 :: a3 :: a4 :: a5 :: a6 :: a7 :: some (.ref x) :: r) (.ref x :: st) h bc bs) : zX g M mc ms Q pc (a0 :: a1 :: a2 :: a3 :: a4 :: a5 :: a6 :: a7 :: some (.ref x) :: r) st h bc bs := r_aload (i := 8) rfl pc' hp d k
theorem r_astore_8 {a0 a1 a2 a3 a4 a5 a6 a7 : Option Value} {y : Option Value} {x : Nat} (pc' : Nat) (hp : pc + 2 = pc') (hi : 8 < M.2.2.1) (h9 : z_k1 a7 = true) (d : decode M.2.1 pc = .ok (.astore 8, 2)) (k : zX g M mc ms Q pc' (a0 :: a1 :: a2 :: a3 :: a4 :: a5 :: a6 :: a7 :: some (.ref x) :: r) st h bc bs) : zX g M mc ms Q pc (a0 :: a1 :: a2 :: a3 :: a4 :: a5 :: a6 :: a7 :: y :: r) (.ref x :: st) h bc bs := r_astore (i := 8) pc' hp hi (fun v hv => z_k1_cat h9 (Option.some.inj hv)) rfl d k
theorem r_astoreN_8 {a0 a1 a2 a3 a4 a5 a6 a7 : Option Value} {y : Option Value} (pc' : Nat) (hp : pc + 2 = pc') (hi : 8 < M.2.2.1) (h9 : z_k1 a7 = true) (d : decode M.2.1 pc = .ok (.astore 8, 2)) (k : zX g M mc ms Q pc' (a0 :: a1 :: a2 :: a3 :: a4 :: a5 :: a6 :: a7 :: some .null :: r) st h bc bs) : zX g M mc ms Q pc (a0 :: a1 :: a2 :: a3 :: a4 :: a5 :: a6 :: a7 :: y :: r) (.null :: st) h bc bs := r_astoreN (i := 8) pc' hp hi (fun v hv => z_k1_cat h9 (Option.some.inj hv)) rfl d k
theorem r_aloadN_8 {a0 a1 a2 a3 a4 a5 a6 a7 : Option Value} (pc' : Nat) (hp : pc + 2 = pc') (d : decode M.2.1 pc = .ok (.aload 8, 2)) (k : zX g M mc ms Q pc' (a0 :: a1 :: a2 :: a3 :: a4 :: a5 :: a6 :: a7 :: some .null :: r) (.null :: st) h bc bs) : zX g M mc ms Q pc (a0 :: a1 :: a2 :: a3 :: a4 :: a5 :: a6 :: a7 :: some .null :: r) st h bc bs := r_aloadN (i := 8) rfl pc' hp d k
theorem r_iinc_8 {a0 a1 a2 a3 a4 a5 a6 a7 : Option Value} {x n : Int} (pc' : Nat) (hp : pc + 3 = pc') (hi : 8 < M.2.2.1) (h9 : z_k1 a7 = true) (d : decode M.2.1 pc = .ok (.iinc 8 n, 3)) (k : zX g M mc ms Q pc' (a0 :: a1 :: a2 :: a3 :: a4 :: a5 :: a6 :: a7 :: some (.int (zI (x + n))) :: r) st h bc bs) : zX g M mc ms Q pc (a0 :: a1 :: a2 :: a3 :: a4 :: a5 :: a6 :: a7 :: some (.int (zI x)) :: r) st h bc bs := r_iinc (i := 8) pc' hp hi (fun v hv => z_k1_cat h9 (Option.some.inj hv)) rfl rfl d k
theorem r_iload_9 {a0 a1 a2 a3 a4 a5 a6 a7 a8 : Option Value} {x : Int32} (pc' : Nat) (hp : pc + 2 = pc') (d : decode M.2.1 pc = .ok (.iload 9, 2)) (k : zX g M mc ms Q pc' (a0 :: a1 :: a2 :: a3 :: a4 :: a5 :: a6 :: a7 :: a8 :: some (.int x) :: r) (.int x :: st) h bc bs) : zX g M mc ms Q pc (a0 :: a1 :: a2 :: a3 :: a4 :: a5 :: a6 :: a7 :: a8 :: some (.int x) :: r) st h bc bs := r_iload (i := 9) rfl pc' hp d k
theorem r_istore_9 {a0 a1 a2 a3 a4 a5 a6 a7 a8 : Option Value} {y : Option Value} {x : Int32} (pc' : Nat) (hp : pc + 2 = pc') (hi : 9 < M.2.2.1) (h9 : z_k1 a8 = true) (d : decode M.2.1 pc = .ok (.istore 9, 2)) (k : zX g M mc ms Q pc' (a0 :: a1 :: a2 :: a3 :: a4 :: a5 :: a6 :: a7 :: a8 :: some (.int x) :: r) st h bc bs) : zX g M mc ms Q pc (a0 :: a1 :: a2 :: a3 :: a4 :: a5 :: a6 :: a7 :: a8 :: y :: r) (.int x :: st) h bc bs := r_istore (i := 9) pc' hp hi (fun v hv => z_k1_cat h9 (Option.some.inj hv)) rfl d k
theorem r_lload_9 {a0 a1 a2 a3 a4 a5 a6 a7 a8 : Option Value} {x : Int64} (pc' : Nat) (hp : pc + 2 = pc') (d : decode M.2.1 pc = .ok (.lload 9, 2)) (k : zX g M mc ms Q pc' (a0 :: a1 :: a2 :: a3 :: a4 :: a5 :: a6 :: a7 :: a8 :: some (.long x) :: r) (.long x :: st) h bc bs) : zX g M mc ms Q pc (a0 :: a1 :: a2 :: a3 :: a4 :: a5 :: a6 :: a7 :: a8 :: some (.long x) :: r) st h bc bs := r_lload (i := 9) rfl pc' hp d k
theorem r_lstore_9 {a0 a1 a2 a3 a4 a5 a6 a7 a8 : Option Value} {y z : Option Value} {x : Int64} (pc' : Nat) (hp : pc + 2 = pc') (hi : 9 + 1 < M.2.2.1) (h9 : z_k1 a8 = true) (d : decode M.2.1 pc = .ok (.lstore 9, 2)) (k : zX g M mc ms Q pc' (a0 :: a1 :: a2 :: a3 :: a4 :: a5 :: a6 :: a7 :: a8 :: some (.long x) :: none :: r) st h bc bs) : zX g M mc ms Q pc (a0 :: a1 :: a2 :: a3 :: a4 :: a5 :: a6 :: a7 :: a8 :: y :: z :: r) (.long x :: st) h bc bs := r_lstore (i := 9) pc' hp hi (fun v hv => z_k1_cat h9 (Option.some.inj hv)) rfl d k
theorem r_aload_9 {a0 a1 a2 a3 a4 a5 a6 a7 a8 : Option Value} {x : Nat} (pc' : Nat) (hp : pc + 2 = pc') (d : decode M.2.1 pc = .ok (.aload 9, 2)) (k : zX g M mc ms Q pc' (a0 :: a1 :: a2 :: a3 :: a4 :: a5 :: a6 :: a7 :: a8 :: some (.ref x) :: r) (.ref x :: st) h bc bs) : zX g M mc ms Q pc (a0 :: a1 :: a2 :: a3 :: a4 :: a5 :: a6 :: a7 :: a8 :: some (.ref x) :: r) st h bc bs := r_aload (i := 9) rfl pc' hp d k
theorem r_astore_9 {a0 a1 a2 a3 a4 a5 a6 a7 a8 : Option Value} {y : Option Value} {x : Nat} (pc' : Nat) (hp : pc + 2 = pc') (hi : 9 < M.2.2.1) (h9 : z_k1 a8 = true) (d : decode M.2.1 pc = .ok (.astore 9, 2)) (k : zX g M mc ms Q pc' (a0 :: a1 :: a2 :: a3 :: a4 :: a5 :: a6 :: a7 :: a8 :: some (.ref x) :: r) st h bc bs) : zX g M mc ms Q pc (a0 :: a1 :: a2 :: a3 :: a4 :: a5 :: a6 :: a7 :: a8 :: y :: r) (.ref x :: st) h bc bs := r_astore (i := 9) pc' hp hi (fun v hv => z_k1_cat h9 (Option.some.inj hv)) rfl d k
theorem r_astoreN_9 {a0 a1 a2 a3 a4 a5 a6 a7 a8 : Option Value} {y : Option Value} (pc' : Nat) (hp : pc + 2 = pc') (hi : 9 < M.2.2.1) (h9 : z_k1 a8 = true) (d : decode M.2.1 pc = .ok (.astore 9, 2)) (k : zX g M mc ms Q pc' (a0 :: a1 :: a2 :: a3 :: a4 :: a5 :: a6 :: a7 :: a8 :: some .null :: r) st h bc bs) : zX g M mc ms Q pc (a0 :: a1 :: a2 :: a3 :: a4 :: a5 :: a6 :: a7 :: a8 :: y :: r) (.null :: st) h bc bs := r_astoreN (i := 9) pc' hp hi (fun v hv => z_k1_cat h9 (Option.some.inj hv)) rfl d k
theorem r_aloadN_9 {a0 a1 a2 a3 a4 a5 a6 a7 a8 : Option Value} (pc' : Nat) (hp : pc + 2 = pc') (d : decode M.2.1 pc = .ok (.aload 9, 2)) (k : zX g M mc ms Q pc' (a0 :: a1 :: a2 :: a3 :: a4 :: a5 :: a6 :: a7 :: a8 :: some .null :: r) (.null :: st) h bc bs) : zX g M mc ms Q pc (a0 :: a1 :: a2 :: a3 :: a4 :: a5 :: a6 :: a7 :: a8 :: some .null :: r) st h bc bs := r_aloadN (i := 9) rfl pc' hp d k
theorem r_iinc_9 {a0 a1 a2 a3 a4 a5 a6 a7 a8 : Option Value} {x n : Int} (pc' : Nat) (hp : pc + 3 = pc') (hi : 9 < M.2.2.1) (h9 : z_k1 a8 = true) (d : decode M.2.1 pc = .ok (.iinc 9 n, 3)) (k : zX g M mc ms Q pc' (a0 :: a1 :: a2 :: a3 :: a4 :: a5 :: a6 :: a7 :: a8 :: some (.int (zI (x + n))) :: r) st h bc bs) : zX g M mc ms Q pc (a0 :: a1 :: a2 :: a3 :: a4 :: a5 :: a6 :: a7 :: a8 :: some (.int (zI x)) :: r) st h bc bs := r_iinc (i := 9) pc' hp hi (fun v hv => z_k1_cat h9 (Option.some.inj hv)) rfl rfl d k
theorem r_iload_10 {a0 a1 a2 a3 a4 a5 a6 a7 a8 a9 : Option Value} {x : Int32} (pc' : Nat) (hp : pc + 2 = pc') (d : decode M.2.1 pc = .ok (.iload 10, 2)) (k : zX g M mc ms Q pc' (a0 :: a1 :: a2 :: a3 :: a4 :: a5 :: a6 :: a7 :: a8 :: a9 :: some (.int x) :: r) (.int x :: st) h bc bs) : zX g M mc ms Q pc (a0 :: a1 :: a2 :: a3 :: a4 :: a5 :: a6 :: a7 :: a8 :: a9 :: some (.int x) :: r) st h bc bs := r_iload (i := 10) rfl pc' hp d k
theorem r_istore_10 {a0 a1 a2 a3 a4 a5 a6 a7 a8 a9 : Option Value} {y : Option Value} {x : Int32} (pc' : Nat) (hp : pc + 2 = pc') (hi : 10 < M.2.2.1) (h9 : z_k1 a9 = true) (d : decode M.2.1 pc = .ok (.istore 10, 2)) (k : zX g M mc ms Q pc' (a0 :: a1 :: a2 :: a3 :: a4 :: a5 :: a6 :: a7 :: a8 :: a9 :: some (.int x) :: r) st h bc bs) : zX g M mc ms Q pc (a0 :: a1 :: a2 :: a3 :: a4 :: a5 :: a6 :: a7 :: a8 :: a9 :: y :: r) (.int x :: st) h bc bs := r_istore (i := 10) pc' hp hi (fun v hv => z_k1_cat h9 (Option.some.inj hv)) rfl d k
theorem r_lload_10 {a0 a1 a2 a3 a4 a5 a6 a7 a8 a9 : Option Value} {x : Int64} (pc' : Nat) (hp : pc + 2 = pc') (d : decode M.2.1 pc = .ok (.lload 10, 2)) (k : zX g M mc ms Q pc' (a0 :: a1 :: a2 :: a3 :: a4 :: a5 :: a6 :: a7 :: a8 :: a9 :: some (.long x) :: r) (.long x :: st) h bc bs) : zX g M mc ms Q pc (a0 :: a1 :: a2 :: a3 :: a4 :: a5 :: a6 :: a7 :: a8 :: a9 :: some (.long x) :: r) st h bc bs := r_lload (i := 10) rfl pc' hp d k
theorem r_lstore_10 {a0 a1 a2 a3 a4 a5 a6 a7 a8 a9 : Option Value} {y z : Option Value} {x : Int64} (pc' : Nat) (hp : pc + 2 = pc') (hi : 10 + 1 < M.2.2.1) (h9 : z_k1 a9 = true) (d : decode M.2.1 pc = .ok (.lstore 10, 2)) (k : zX g M mc ms Q pc' (a0 :: a1 :: a2 :: a3 :: a4 :: a5 :: a6 :: a7 :: a8 :: a9 :: some (.long x) :: none :: r) st h bc bs) : zX g M mc ms Q pc (a0 :: a1 :: a2 :: a3 :: a4 :: a5 :: a6 :: a7 :: a8 :: a9 :: y :: z :: r) (.long x :: st) h bc bs := r_lstore (i := 10) pc' hp hi (fun v hv => z_k1_cat h9 (Option.some.inj hv)) rfl d k
theorem r_aload_10 {a0 a1 a2 a3 a4 a5 a6 a7 a8 a9 : Option Value} {x : Nat} (pc' : Nat) (hp : pc + 2 = pc') (d : decode M.2.1 pc = .ok (.aload 10, 2)) (k : zX g M mc ms Q pc' (a0 :: a1 :: a2 :: a3 :: a4 :: a5 :: a6 :: a7 :: a8 :: a9 :: some (.ref x) :: r) (.ref x :: st) h bc bs) : zX g M mc ms Q pc (a0 :: a1 :: a2 :: a3 :: a4 :: a5 :: a6 :: a7 :: a8 :: a9 :: some (.ref x) :: r) st h bc bs := r_aload (i := 10) rfl pc' hp d k
theorem r_astore_10 {a0 a1 a2 a3 a4 a5 a6 a7 a8 a9 : Option Value} {y : Option Value} {x : Nat} (pc' : Nat) (hp : pc + 2 = pc') (hi : 10 < M.2.2.1) (h9 : z_k1 a9 = true) (d : decode M.2.1 pc = .ok (.astore 10, 2)) (k : zX g M mc ms Q pc' (a0 :: a1 :: a2 :: a3 :: a4 :: a5 :: a6 :: a7 :: a8 :: a9 :: some (.ref x) :: r) st h bc bs) : zX g M mc ms Q pc (a0 :: a1 :: a2 :: a3 :: a4 :: a5 :: a6 :: a7 :: a8 :: a9 :: y :: r) (.ref x :: st) h bc bs := r_astore (i := 10) pc' hp hi (fun v hv => z_k1_cat h9 (Option.some.inj hv)) rfl d k
theorem r_astoreN_10 {a0 a1 a2 a3 a4 a5 a6 a7 a8 a9 : Option Value} {y : Option Value} (pc' : Nat) (hp : pc + 2 = pc') (hi : 10 < M.2.2.1) (h9 : z_k1 a9 = true) (d : decode M.2.1 pc = .ok (.astore 10, 2)) (k : zX g M mc ms Q pc' (a0 :: a1 :: a2 :: a3 :: a4 :: a5 :: a6 :: a7 :: a8 :: a9 :: some .null :: r) st h bc bs) : zX g M mc ms Q pc (a0 :: a1 :: a2 :: a3 :: a4 :: a5 :: a6 :: a7 :: a8 :: a9 :: y :: r) (.null :: st) h bc bs := r_astoreN (i := 10) pc' hp hi (fun v hv => z_k1_cat h9 (Option.some.inj hv)) rfl d k
theorem r_aloadN_10 {a0 a1 a2 a3 a4 a5 a6 a7 a8 a9 : Option Value} (pc' : Nat) (hp : pc + 2 = pc') (d : decode M.2.1 pc = .ok (.aload 10, 2)) (k : zX g M mc ms Q pc' (a0 :: a1 :: a2 :: a3 :: a4 :: a5 :: a6 :: a7 :: a8 :: a9 :: some .null :: r) (.null :: st) h bc bs) : zX g M mc ms Q pc (a0 :: a1 :: a2 :: a3 :: a4 :: a5 :: a6 :: a7 :: a8 :: a9 :: some .null :: r) st h bc bs := r_aloadN (i := 10) rfl pc' hp d k
theorem r_iinc_10 {a0 a1 a2 a3 a4 a5 a6 a7 a8 a9 : Option Value} {x n : Int} (pc' : Nat) (hp : pc + 3 = pc') (hi : 10 < M.2.2.1) (h9 : z_k1 a9 = true) (d : decode M.2.1 pc = .ok (.iinc 10 n, 3)) (k : zX g M mc ms Q pc' (a0 :: a1 :: a2 :: a3 :: a4 :: a5 :: a6 :: a7 :: a8 :: a9 :: some (.int (zI (x + n))) :: r) st h bc bs) : zX g M mc ms Q pc (a0 :: a1 :: a2 :: a3 :: a4 :: a5 :: a6 :: a7 :: a8 :: a9 :: some (.int (zI x)) :: r) st h bc bs := r_iinc (i := 10) pc' hp hi (fun v hv => z_k1_cat h9 (Option.some.inj hv)) rfl rfl d k
theorem r_iload_11 {a0 a1 a2 a3 a4 a5 a6 a7 a8 a9 a10 : Option Value} {x : Int32} (pc' : Nat) (hp : pc + 2 = pc') (d : decode M.2.1 pc = .ok (.iload 11, 2)) (k : zX g M mc ms Q pc' (a0 :: a1 :: a2 :: a3 :: a4 :: a5 :: a6 :: a7 :: a8 :: a9 :: a10 :: some (.int x) :: r) (.int x :: st) h bc bs) : zX g M mc ms Q pc (a0 :: a1 :: a2 :: a3 :: a4 :: a5 :: a6 :: a7 :: a8 :: a9 :: a10 :: some (.int x) :: r) st h bc bs := r_iload (i := 11) rfl pc' hp d k
theorem r_istore_11 {a0 a1 a2 a3 a4 a5 a6 a7 a8 a9 a10 : Option Value} {y : Option Value} {x : Int32} (pc' : Nat) (hp : pc + 2 = pc') (hi : 11 < M.2.2.1) (h9 : z_k1 a10 = true) (d : decode M.2.1 pc = .ok (.istore 11, 2)) (k : zX g M mc ms Q pc' (a0 :: a1 :: a2 :: a3 :: a4 :: a5 :: a6 :: a7 :: a8 :: a9 :: a10 :: some (.int x) :: r) st h bc bs) : zX g M mc ms Q pc (a0 :: a1 :: a2 :: a3 :: a4 :: a5 :: a6 :: a7 :: a8 :: a9 :: a10 :: y :: r) (.int x :: st) h bc bs := r_istore (i := 11) pc' hp hi (fun v hv => z_k1_cat h9 (Option.some.inj hv)) rfl d k
theorem r_lload_11 {a0 a1 a2 a3 a4 a5 a6 a7 a8 a9 a10 : Option Value} {x : Int64} (pc' : Nat) (hp : pc + 2 = pc') (d : decode M.2.1 pc = .ok (.lload 11, 2)) (k : zX g M mc ms Q pc' (a0 :: a1 :: a2 :: a3 :: a4 :: a5 :: a6 :: a7 :: a8 :: a9 :: a10 :: some (.long x) :: r) (.long x :: st) h bc bs) : zX g M mc ms Q pc (a0 :: a1 :: a2 :: a3 :: a4 :: a5 :: a6 :: a7 :: a8 :: a9 :: a10 :: some (.long x) :: r) st h bc bs := r_lload (i := 11) rfl pc' hp d k
theorem r_lstore_11 {a0 a1 a2 a3 a4 a5 a6 a7 a8 a9 a10 : Option Value} {y z : Option Value} {x : Int64} (pc' : Nat) (hp : pc + 2 = pc') (hi : 11 + 1 < M.2.2.1) (h9 : z_k1 a10 = true) (d : decode M.2.1 pc = .ok (.lstore 11, 2)) (k : zX g M mc ms Q pc' (a0 :: a1 :: a2 :: a3 :: a4 :: a5 :: a6 :: a7 :: a8 :: a9 :: a10 :: some (.long x) :: none :: r) st h bc bs) : zX g M mc ms Q pc (a0 :: a1 :: a2 :: a3 :: a4 :: a5 :: a6 :: a7 :: a8 :: a9 :: a10 :: y :: z :: r) (.long x :: st) h bc bs := r_lstore (i := 11) pc' hp hi (fun v hv => z_k1_cat h9 (Option.some.inj hv)) rfl d k
theorem r_aload_11 {a0 a1 a2 a3 a4 a5 a6 a7 a8 a9 a10 : Option Value} {x : Nat} (pc' : Nat) (hp : pc + 2 = pc') (d : decode M.2.1 pc = .ok (.aload 11, 2)) (k : zX g M mc ms Q pc' (a0 :: a1 :: a2 :: a3 :: a4 :: a5 :: a6 :: a7 :: a8 :: a9 :: a10 :: some (.ref x) :: r) (.ref x :: st) h bc bs) : zX g M mc ms Q pc (a0 :: a1 :: a2 :: a3 :: a4 :: a5 :: a6 :: a7 :: a8 :: a9 :: a10 :: some (.ref x) :: r) st h bc bs := r_aload (i := 11) rfl pc' hp d k
theorem r_astore_11 {a0 a1 a2 a3 a4 a5 a6 a7 a8 a9 a10 : Option Value} {y : Option Value} {x : Nat} (pc' : Nat) (hp : pc + 2 = pc') (hi : 11 < M.2.2.1) (h9 : z_k1 a10 = true) (d : decode M.2.1 pc = .ok (.astore 11, 2)) (k : zX g M mc ms Q pc' (a0 :: a1 :: a2 :: a3 :: a4 :: a5 :: a6 :: a7 :: a8 :: a9 :: a10 :: some (.ref x) :: r) st h bc bs) : zX g M mc ms Q pc (a0 :: a1 :: a2 :: a3 :: a4 :: a5 :: a6 :: a7 :: a8 :: a9 :: a10 :: y :: r) (.ref x :: st) h bc bs := r_astore (i := 11) pc' hp hi (fun v hv => z_k1_cat h9 (Option.some.inj hv)) rfl d k
theorem r_astoreN_11 {a0 a1 a2 a3 a4 a5 a6 a7 a8 a9 a10 : Option Value} {y : Option Value} (pc' : Nat) (hp : pc + 2 = pc') (hi : 11 < M.2.2.1) (h9 : z_k1 a10 = true) (d : decode M.2.1 pc = .ok (.astore 11, 2)) (k : zX g M mc ms Q pc' (a0 :: a1 :: a2 :: a3 :: a4 :: a5 :: a6 :: a7 :: a8 :: a9 :: a10 :: some .null :: r) st h bc bs) : zX g M mc ms Q pc (a0 :: a1 :: a2 :: a3 :: a4 :: a5 :: a6 :: a7 :: a8 :: a9 :: a10 :: y :: r) (.null :: st) h bc bs := r_astoreN (i := 11) pc' hp hi (fun v hv => z_k1_cat h9 (Option.some.inj hv)) rfl d k
theorem r_aloadN_11 {a0 a1 a2 a3 a4 a5 a6 a7 a8 a9 a10 : Option Value} (pc' : Nat) (hp : pc + 2 = pc') (d : decode M.2.1 pc = .ok (.aload 11, 2)) (k : zX g M mc ms Q pc' (a0 :: a1 :: a2 :: a3 :: a4 :: a5 :: a6 :: a7 :: a8 :: a9 :: a10 :: some .null :: r) (.null :: st) h bc bs) : zX g M mc ms Q pc (a0 :: a1 :: a2 :: a3 :: a4 :: a5 :: a6 :: a7 :: a8 :: a9 :: a10 :: some .null :: r) st h bc bs := r_aloadN (i := 11) rfl pc' hp d k
theorem r_iinc_11 {a0 a1 a2 a3 a4 a5 a6 a7 a8 a9 a10 : Option Value} {x n : Int} (pc' : Nat) (hp : pc + 3 = pc') (hi : 11 < M.2.2.1) (h9 : z_k1 a10 = true) (d : decode M.2.1 pc = .ok (.iinc 11 n, 3)) (k : zX g M mc ms Q pc' (a0 :: a1 :: a2 :: a3 :: a4 :: a5 :: a6 :: a7 :: a8 :: a9 :: a10 :: some (.int (zI (x + n))) :: r) st h bc bs) : zX g M mc ms Q pc (a0 :: a1 :: a2 :: a3 :: a4 :: a5 :: a6 :: a7 :: a8 :: a9 :: a10 :: some (.int (zI x)) :: r) st h bc bs := r_iinc (i := 11) pc' hp hi (fun v hv => z_k1_cat h9 (Option.some.inj hv)) rfl rfl d k
theorem r_iload_12 {a0 a1 a2 a3 a4 a5 a6 a7 a8 a9 a10 a11 : Option Value} {x : Int32} (pc' : Nat) (hp : pc + 2 = pc') (d : decode M.2.1 pc = .ok (.iload 12, 2)) (k : zX g M mc ms Q pc' (a0 :: a1 :: a2 :: a3 :: a4 :: a5 :: a6 :: a7 :: a8 :: a9 :: a10 :: a11 :: some (.int x) :: r) (.int x :: st) h bc bs) : zX g M mc ms Q pc (a0 :: a1 :: a2 :: a3 :: a4 :: a5 :: a6 :: a7 :: a8 :: a9 :: a10 :: a11 :: some (.int x) :: r) st h bc bs := r_iload (i := 12) rfl pc' hp d k
theorem r_istore_12 {a0 a1 a2 a3 a4 a5 a6 a7 a8 a9 a10 a11 : Option Value} {y : Option Value} {x : Int32} (pc' : Nat) (hp : pc + 2 = pc') (hi : 12 < M.2.2.1) (h9 : z_k1 a11 = true) (d : decode M.2.1 pc = .ok (.istore 12, 2)) (k : zX g M mc ms Q pc' (a0 :: a1 :: a2 :: a3 :: a4 :: a5 :: a6 :: a7 :: a8 :: a9 :: a10 :: a11 :: some (.int x) :: r) st h bc bs) : zX g M mc ms Q pc (a0 :: a1 :: a2 :: a3 :: a4 :: a5 :: a6 :: a7 :: a8 :: a9 :: a10 :: a11 :: y :: r) (.int x :: st) h bc bs := r_istore (i := 12) pc' hp hi (fun v hv => z_k1_cat h9 (Option.some.inj hv)) rfl d k
theorem r_lload_12 {a0 a1 a2 a3 a4 a5 a6 a7 a8 a9 a10 a11 : Option Value} {x : Int64} (pc' : Nat) (hp : pc + 2 = pc') (d : decode M.2.1 pc = .ok (.lload 12, 2)) (k : zX g M mc ms Q pc' (a0 :: a1 :: a2 :: a3 :: a4 :: a5 :: a6 :: a7 :: a8 :: a9 :: a10 :: a11 :: some (.long x) :: r) (.long x :: st) h bc bs) : zX g M mc ms Q pc (a0 :: a1 :: a2 :: a3 :: a4 :: a5 :: a6 :: a7 :: a8 :: a9 :: a10 :: a11 :: some (.long x) :: r) st h bc bs := r_lload (i := 12) rfl pc' hp d k
theorem r_lstore_12 {a0 a1 a2 a3 a4 a5 a6 a7 a8 a9 a10 a11 : Option Value} {y z : Option Value} {x : Int64} (pc' : Nat) (hp : pc + 2 = pc') (hi : 12 + 1 < M.2.2.1) (h9 : z_k1 a11 = true) (d : decode M.2.1 pc = .ok (.lstore 12, 2)) (k : zX g M mc ms Q pc' (a0 :: a1 :: a2 :: a3 :: a4 :: a5 :: a6 :: a7 :: a8 :: a9 :: a10 :: a11 :: some (.long x) :: none :: r) st h bc bs) : zX g M mc ms Q pc (a0 :: a1 :: a2 :: a3 :: a4 :: a5 :: a6 :: a7 :: a8 :: a9 :: a10 :: a11 :: y :: z :: r) (.long x :: st) h bc bs := r_lstore (i := 12) pc' hp hi (fun v hv => z_k1_cat h9 (Option.some.inj hv)) rfl d k
theorem r_aload_12 {a0 a1 a2 a3 a4 a5 a6 a7 a8 a9 a10 a11 : Option Value} {x : Nat} (pc' : Nat) (hp : pc + 2 = pc') (d : decode M.2.1 pc = .ok (.aload 12, 2)) (k : zX g M mc ms Q pc' (a0 :: a1 :: a2 :: a3 :: a4 :: a5 :: a6 :: a7 :: a8 :: a9 :: a10 :: a11 :: some (.ref x) :: r) (.ref x :: st) h bc bs) : zX g M mc ms Q pc (a0 :: a1 :: a2 :: a3 :: a4 :: a5 :: a6 :: a7 :: a8 :: a9 :: a10 :: a11 :: some (.ref x) :: r) st h bc bs := r_aload (i := 12) rfl pc' hp d k
theorem r_astore_12 {a0 a1 a2 a3 a4 a5 a6 a7 a8 a9 a10 a11 : Option Value} {y : Option Value} {x : Nat} (pc' : Nat) (hp : pc + 2 = pc') (hi : 12 < M.2.2.1) (h9 : z_k1 a11 = true) (d : decode M.2.1 pc = .ok (.astore 12, 2)) (k : zX g M mc ms Q pc' (a0 :: a1 :: a2 :: a3 :: a4 :: a5 :: a6 :: a7 :: a8 :: a9 :: a10 :: a11 :: some (.ref x) :: r) st h bc bs) : zX g M mc ms Q pc (a0 :: a1 :: a2 :: a3 :: a4 :: a5 :: a6 :: a7 :: a8 :: a9 :: a10 :: a11 :: y :: r) (.ref x :: st) h bc bs := r_astore (i := 12) pc' hp hi (fun v hv => z_k1_cat h9 (Option.some.inj hv)) rfl d k
theorem r_astoreN_12 {a0 a1 a2 a3 a4 a5 a6 a7 a8 a9 a10 a11 : Option Value} {y : Option Value} (pc' : Nat) (hp : pc + 2 = pc') (hi : 12 < M.2.2.1) (h9 : z_k1 a11 = true) (d : decode M.2.1 pc = .ok (.astore 12, 2)) (k : zX g M mc ms Q pc' (a0 :: a1 :: a2 :: a3 :: a4 :: a5 :: a6 :: a7 :: a8 :: a9 :: a10 :: a11 :: some .null :: r) st h bc bs) : zX g M mc ms Q pc (a0 :: a1 :: a2 :: a3 :: a4 :: a5 :: a6 :: a7 :: a8 :: a9 :: a10 :: a11 :: y :: r) (.null :: st) h bc bs := r_astoreN (i := 12) pc' hp hi (fun v hv => z_k1_cat h9 (Option.some.inj hv)) rfl d k
theorem r_aloadN_12 {a0 a1 a2 a3 a4 a5 a6 a7 a8 a9 a10 a11 : Option Value} (pc' : Nat) (hp : pc + 2 = pc') (d : decode M.2.1 pc = .ok (.aload 12, 2)) (k : zX g M mc ms Q pc' (a0 :: a1 :: a2 :: a3 :: a4 :: a5 :: a6 :: a7 :: a8 :: a9 :: a10 :: a11 :: some .null :: r) (.null :: st) h bc bs) : zX g M mc ms Q pc (a0 :: a1 :: a2 :: a3 :: a4 :: a5 :: a6 :: a7 :: a8 :: a9 :: a10 :: a11 :: some .null :: r) st h bc bs := r_aloadN (i := 12) rfl pc' hp d k
theorem r_iinc_12 {a0 a1 a2 a3 a4 a5 a6 a7 a8 a9 a10 a11 : Option Value} {x n : Int} (pc' : Nat) (hp : pc + 3 = pc') (hi : 12 < M.2.2.1) (h9 : z_k1 a11 = true) (d : decode M.2.1 pc = .ok (.iinc 12 n, 3)) (k : zX g M mc ms Q pc' (a0 :: a1 :: a2 :: a3 :: a4 :: a5 :: a6 :: a7 :: a8 :: a9 :: a10 :: a11 :: some (.int (zI (x + n))) :: r) st h bc bs) : zX g M mc ms Q pc (a0 :: a1 :: a2 :: a3 :: a4 :: a5 :: a6 :: a7 :: a8 :: a9 :: a10 :: a11 :: some (.int (zI x)) :: r) st h bc bs := r_iinc (i := 12) pc' hp hi (fun v hv => z_k1_cat h9 (Option.some.inj hv)) rfl rfl d k
theorem r_iload_13 {a0 a1 a2 a3 a4 a5 a6 a7 a8 a9 a10 a11 a12 : Option Value} {x : Int32} (pc' : Nat) (hp : pc + 2 = pc') (d : decode M.2.1 pc = .ok (.iload 13, 2)) (k : zX g M mc ms Q pc' (a0 :: a1 :: a2 :: a3 :: a4 :: a5 :: a6 :: a7 :: a8 :: a9 :: a10 :: a11 :: a12 :: some (.int x) :: r) (.int x :: st) h bc bs) : zX g M mc ms Q pc (a0 :: a1 :: a2 :: a3 :: a4 :: a5 :: a6 :: a7 :: a8 :: a9 :: a10 :: a11 :: a12 :: some (.int x) :: r) st h bc bs := r_iload (i := 13) rfl pc' hp d k
theorem r_istore_13 {a0 a1 a2 a3 a4 a5 a6 a7 a8 a9 a10 a11 a12 : Option Value} {y : Option Value} {x : Int32} (pc' : Nat) (hp : pc + 2 = pc') (hi : 13 < M.2.2.1) (h9 : z_k1 a12 = true) (d : decode M.2.1 pc = .ok (.istore 13, 2)) (k : zX g M mc ms Q pc' (a0 :: a1 :: a2 :: a3 :: a4 :: a5 :: a6 :: a7 :: a8 :: a9 :: a10 :: a11 :: a12 :: some (.int x) :: r) st h bc bs) : zX g M mc ms Q pc (a0 :: a1 :: a2 :: a3 :: a4 :: a5 :: a6 :: a7 :: a8 :: a9 :: a10 :: a11 :: a12 :: y :: r) (.int x :: st) h bc bs := r_istore (i := 13) pc' hp hi (fun v hv => z_k1_cat h9 (Option.some.inj hv)) rfl d k
theorem r_lload_13 {a0 a1 a2 a3 a4 a5 a6 a7 a8 a9 a10 a11 a12 : Option Value} {x : Int64} (pc' : Nat) (hp : pc + 2 = pc') (d : decode M.2.1 pc = .ok (.lload 13, 2)) (k : zX g M mc ms Q pc' (a0 :: a1 :: a2 :: a3 :: a4 :: a5 :: a6 :: a7 :: a8 :: a9 :: a10 :: a11 :: a12 :: some (.long x) :: r) (.long x :: st) h bc bs) : zX g M mc ms Q pc (a0 :: a1 :: a2 :: a3 :: a4 :: a5 :: a6 :: a7 :: a8 :: a9 :: a10 :: a11 :: a12 :: some (.long x) :: r) st h bc bs := r_lload (i := 13) rfl pc' hp d k
theorem r_lstore_13 {a0 a1 a2 a3 a4 a5 a6 a7 a8 a9 a10 a11 a12 : Option Value} {y z : Option Value} {x : Int64} (pc' : Nat) (hp : pc + 2 = pc') (hi : 13 + 1 < M.2.2.1) (h9 : z_k1 a12 = true) (d : decode M.2.1 pc = .ok (.lstore 13, 2)) (k : zX g M mc ms Q pc' (a0 :: a1 :: a2 :: a3 :: a4 :: a5 :: a6 :: a7 :: a8 :: a9 :: a10 :: a11 :: a12 :: some (.long x) :: none :: r) st h bc bs) : zX g M mc ms Q pc (a0 :: a1 :: a2 :: a3 :: a4 :: a5 :: a6 :: a7 :: a8 :: a9 :: a10 :: a11 :: a12 :: y :: z :: r) (.long x :: st) h bc bs := r_lstore (i := 13) pc' hp hi (fun v hv => z_k1_cat h9 (Option.some.inj hv)) rfl d k
theorem r_aload_13 {a0 a1 a2 a3 a4 a5 a6 a7 a8 a9 a10 a11 a12 : Option Value} {x : Nat} (pc' : Nat) (hp : pc + 2 = pc') (d : decode M.2.1 pc = .ok (.aload 13, 2)) (k : zX g M mc ms Q pc' (a0 :: a1 :: a2 :: a3 :: a4 :: a5 :: a6 :: a7 :: a8 :: a9 :: a10 :: a11 :: a12 :: some (.ref x) :: r) (.ref x :: st) h bc bs) : zX g M mc ms Q pc (a0 :: a1 :: a2 :: a3 :: a4 :: a5 :: a6 :: a7 :: a8 :: a9 :: a10 :: a11 :: a12 :: some (.ref x) :: r) st h bc bs := r_aload (i := 13) rfl pc' hp d k
theorem r_astore_13 {a0 a1 a2 a3 a4 a5 a6 a7 a8 a9 a10 a11 a12 : Option Value} {y : Option Value} {x : Nat} (pc' : Nat) (hp : pc + 2 = pc') (hi : 13 < M.2.2.1) (h9 : z_k1 a12 = true) (d : decode M.2.1 pc = .ok (.astore 13, 2)) (k : zX g M mc ms Q pc' (a0 :: a1 :: a2 :: a3 :: a4 :: a5 :: a6 :: a7 :: a8 :: a9 :: a10 :: a11 :: a12 :: some (.ref x) :: r) st h bc bs) : zX g M mc ms Q pc (a0 :: a1 :: a2 :: a3 :: a4 :: a5 :: a6 :: a7 :: a8 :: a9 :: a10 :: a11 :: a12 :: y :: r) (.ref x :: st) h bc bs := r_astore (i := 13) pc' hp hi (fun v hv => z_k1_cat h9 (Option.some.inj hv)) rfl d k
theorem r_astoreN_13 {a0 a1 a2 a3 a4 a5 a6 a7 a8 a9 a10 a11 a12 : Option Value} {y : Option Value} (pc' : Nat) (hp : pc + 2 = pc') (hi : 13 < M.2.2.1) (h9 : z_k1 a12 = true) (d : decode M.2.1 pc = .ok (.astore 13, 2)) (k : zX g M mc ms Q pc' (a0 :: a1 :: a2 :: a3 :: a4 :: a5 :: a6 :: a7 :: a8 :: a9 :: a10 :: a11 :: a12 :: some .null :: r) st h bc bs) : zX g M mc ms Q pc (a0 :: a1 :: a2 :: a3 :: a4 :: a5 :: a6 :: a7 :: a8 :: a9 :: a10 :: a11 :: a12 :: y :: r) (.null :: st) h bc bs := r_astoreN (i := 13) pc' hp hi (fun v hv => z_k1_cat h9 (Option.some.inj hv)) rfl d k
theorem r_aloadN_13 {a0 a1 a2 a3 a4 a5 a6 a7 a8 a9 a10 a11 a12 : Option Value} (pc' : Nat) (hp : pc + 2 = pc') (d : decode M.2.1 pc = .ok (.aload 13, 2)) (k : zX g M mc ms Q pc' (a0 :: a1 :: a2 :: a3 :: a4 :: a5 :: a6 :: a7 :: a8 :: a9 :: a10 :: a11 :: a12 :: some .null :: r) (.null :: st) h bc bs) : zX g M mc ms Q pc (a0 :: a1 :: a2 :: a3 :: a4 :: a5 :: a6 :: a7 :: a8 :: a9 :: a10 :: a11 :: a12 :: some .null :: r) st h bc bs := r_aloadN (i := 13) rfl pc' hp d k
theorem r_iinc_13 {a0 a1 a2 a3 a4 a5 a6 a7 a8 a9 a10 a11 a12 : Option Value} {x n : Int} (pc' : Nat) (hp : pc + 3 = pc') (hi : 13 < M.2.2.1) (h9 : z_k1 a12 = true) (d : decode M.2.1 pc = .ok (.iinc 13 n, 3)) (k : zX g M mc ms Q pc' (a0 :: a1 :: a2 :: a3 :: a4 :: a5 :: a6 :: a7 :: a8 :: a9 :: a10 :: a11 :: a12 :: some (.int (zI (x + n))) :: r) st h bc bs) : zX g M mc ms Q pc (a0 :: a1 :: a2 :: a3 :: a4 :: a5 :: a6 :: a7 :: a8 :: a9 :: a10 :: a11 :: a12 :: some (.int (zI x)) :: r) st h bc bs := r_iinc (i := 13) pc' hp hi (fun v hv => z_k1_cat h9 (Option.some.inj hv)) rfl rfl d k
def z_sub : List (Option Value) → List (Option Value) → Prop
  | [], _ => True
  | none :: a, [] => z_sub a []
  | some _ :: _, [] => False
  | none :: a, _ :: b => z_sub a b
  | some v :: a, w :: b => w = some v ∧ z_sub a b
theorem z_sub_le : ∀ (a b : List (Option Value)), z_sub a b → ∀ (i : Nat) (v : Value), a[i]? = some (some v) → b[i]? = some (some v)
  | [], _, _, i, v, h => by simp at h
  | none :: a, [], hs, i, v, h => by
    cases i with
    | zero => simp at h
    | succ j => have := z_sub_le a [] hs j v (by simpa using h); simp at this
  | none :: a, w :: b, hs, i, v, h => by
    cases i with
    | zero => simp at h
    | succ j => simpa using z_sub_le a b hs j v (by simpa using h)
  | some v0 :: a, w :: b, hs, i, v, h => by
    cases i with
    | zero => simp at h; subst h; simp [hs.1]
    | succ j => simpa using z_sub_le a b hs.2 j v (by simpa using h)
theorem r_sub {lv : List (Option Value)} (lv2 : List (Option Value)) (hle : z_sub lv2 lv) (k : zX g M mc ms Q pc lv2 st h bc bs) : zX g M mc ms Q pc lv st h bc bs := r_lv (z_sub_le _ _ hle) k
end Fam
end
section
theorem md_X0_init : z_md yX0_init cX0_init 1 (Option.none : Option Jvm.ClassFile.FieldType) 0 := ⟨(tb_1 48 _ rfl), (tb_1 2 _ rfl), ⟨by decide +kernel, by decide +kernel⟩, by decide +kernel⟩
theorem wi_X0_init : Cond.instanceMethod yX0_init ∈ lw_tbl := tb_1 47 _ rfl
theorem md_X0_append : z_md yX0_append cX0_append 2 (Option.some Jvm.ClassFile.FieldType.boolean) 1 := ⟨(tb_1 172 _ rfl), (tb_1 2 _ rfl), ⟨by decide +kernel, by decide +kernel⟩, by decide +kernel⟩
theorem wi_X0_append : Cond.instanceMethod yX0_append ∈ lw_tbl := tb_1 170 _ rfl
theorem wv_X0_append : Cond.selects RX0 yX0_append yX0_append ∈ lw_tbl := tb_1 171 _ rfl
theorem md_X0_empty : z_md yX0_empty cX0_empty 2 (Option.some Jvm.ClassFile.FieldType.int) 0 := ⟨(tb_1 160 _ rfl), (tb_1 2 _ rfl), ⟨by decide +kernel, by decide +kernel⟩, by decide +kernel⟩
theorem wi_X0_empty : Cond.instanceMethod yX0_empty ∈ lw_tbl := tb_1 158 _ rfl
theorem wv_X0_empty : Cond.selects RX0 yX0_empty yX0_empty ∈ lw_tbl := tb_1 159 _ rfl
theorem md_X0_isOfPlateSigns : z_md yX0_isOfPlateSigns cX0_isOfPlateSigns 4 (Option.some Jvm.ClassFile.FieldType.boolean) 1 := ⟨(tb_4 238 _ rfl), (tb_1 2 _ rfl), ⟨by decide +kernel, by decide +kernel⟩, by decide +kernel⟩
theorem wi_X0_isOfPlateSigns : Cond.instanceMethod yX0_isOfPlateSigns ∈ lw_tbl := tb_4 236 _ rfl
theorem wv_X0_isOfPlateSigns : Cond.selects RX0 yX0_isOfPlateSigns yX0_isOfPlateSigns ∈ lw_tbl := tb_4 237 _ rfl
theorem md_X0_plateInIt : z_md yX0_plateInIt cX0_plateInIt 2 (Option.some Jvm.ClassFile.FieldType.int) 0 := ⟨(tb_4 234 _ rfl), (tb_1 2 _ rfl), ⟨by decide +kernel, by decide +kernel⟩, by decide +kernel⟩
theorem wi_X0_plateInIt : Cond.instanceMethod yX0_plateInIt ∈ lw_tbl := tb_4 232 _ rfl
theorem wv_X0_plateInIt : Cond.selects RX0 yX0_plateInIt yX0_plateInIt ∈ lw_tbl := tb_4 233 _ rfl
theorem md_X0_spells : z_md yX0_spells cX0_spells 3 (Option.some Jvm.ClassFile.FieldType.boolean) 1 := ⟨(tb_6 5 _ rfl), (tb_1 2 _ rfl), ⟨by decide +kernel, by decide +kernel⟩, by decide +kernel⟩
theorem wi_X0_spells : Cond.instanceMethod yX0_spells ∈ lw_tbl := tb_6 3 _ rfl
theorem wv_X0_spells : Cond.selects RX0 yX0_spells yX0_spells ∈ lw_tbl := tb_6 4 _ rfl
theorem md_X0_copyTo : z_md yX0_copyTo cX0_copyTo 3 (Option.none : Option Jvm.ClassFile.FieldType) 1 := ⟨(tb_5 150 _ rfl), (tb_1 2 _ rfl), ⟨by decide +kernel, by decide +kernel⟩, by decide +kernel⟩
theorem wi_X0_copyTo : Cond.instanceMethod yX0_copyTo ∈ lw_tbl := tb_5 148 _ rfl
theorem wv_X0_copyTo : Cond.selects RX0 yX0_copyTo yX0_copyTo ∈ lw_tbl := tb_5 149 _ rfl
theorem md_X1_init : z_md yX1_init cX1_init 1 (Option.none : Option Jvm.ClassFile.FieldType) 0 := ⟨(tb_1 109 _ rfl), (tb_1 7 _ rfl), ⟨by decide +kernel, by decide +kernel⟩, by decide +kernel⟩
theorem wi_X1_init : Cond.instanceMethod yX1_init ∈ lw_tbl := tb_1 108 _ rfl
theorem md_X1_put : z_md yX1_put cX1_put 4 (Option.none : Option Jvm.ClassFile.FieldType) 2 := ⟨(tb_4 207 _ rfl), (tb_1 7 _ rfl), ⟨by decide +kernel, by decide +kernel⟩, by decide +kernel⟩
theorem wi_X1_put : Cond.instanceMethod yX1_put ∈ lw_tbl := tb_4 205 _ rfl
theorem wv_X1_put : Cond.selects RX1 yX1_put yX1_put ∈ lw_tbl := tb_4 206 _ rfl
theorem md_X1_valueOn : z_md yX1_valueOn cX1_valueOn 4 (Option.some Jvm.ClassFile.FieldType.int) 2 := ⟨(tb_5 16 _ rfl), (tb_1 7 _ rfl), ⟨by decide +kernel, by decide +kernel⟩, by decide +kernel⟩
theorem wi_X1_valueOn : Cond.instanceMethod yX1_valueOn ∈ lw_tbl := tb_5 14 _ rfl
theorem wv_X1_valueOn : Cond.selects RX1 yX1_valueOn yX1_valueOn ∈ lw_tbl := tb_5 15 _ rfl
theorem md_X1_daysReached : z_md yX1_daysReached cX1_daysReached 6 (Option.some Jvm.ClassFile.FieldType.int) 2 := ⟨(tb_5 94 _ rfl), (tb_1 7 _ rfl), ⟨by decide +kernel, by decide +kernel⟩, by decide +kernel⟩
theorem wi_X1_daysReached : Cond.instanceMethod yX1_daysReached ∈ lw_tbl := tb_5 92 _ rfl
theorem wv_X1_daysReached : Cond.selects RX1 yX1_daysReached yX1_daysReached ∈ lw_tbl := tb_5 93 _ rfl
theorem md_X1_rowOn : z_md yX1_rowOn cX1_rowOn 3 (Option.some Jvm.ClassFile.FieldType.int) 1 := ⟨(tb_4 211 _ rfl), (tb_1 7 _ rfl), ⟨by decide +kernel, by decide +kernel⟩, by decide +kernel⟩
theorem wi_X1_rowOn : Cond.instanceMethod yX1_rowOn ∈ lw_tbl := tb_4 210 _ rfl
theorem wv_X1_rowOn : Cond.selects RX1 yX1_rowOn yX1_rowOn ∈ lw_tbl := tb_0 14 _ rfl
theorem md_X1_makeRoomAt : z_md yX1_makeRoomAt cX1_makeRoomAt 3 (Option.none : Option Jvm.ClassFile.FieldType) 1 := ⟨(tb_4 215 _ rfl), (tb_1 7 _ rfl), ⟨by decide +kernel, by decide +kernel⟩, by decide +kernel⟩
theorem wi_X1_makeRoomAt : Cond.instanceMethod yX1_makeRoomAt ∈ lw_tbl := tb_4 214 _ rfl
theorem wv_X1_makeRoomAt : Cond.selects RX1 yX1_makeRoomAt yX1_makeRoomAt ∈ lw_tbl := tb_0 15 _ rfl
theorem md_X2_init : z_md yX2_init cX2_init 4 (Option.none : Option Jvm.ClassFile.FieldType) 3 := ⟨(tb_3 66 _ rfl), (tb_1 26 _ rfl), ⟨by decide +kernel, by decide +kernel⟩, by decide +kernel⟩
theorem wi_X2_init : Cond.instanceMethod yX2_init ∈ lw_tbl := tb_3 65 _ rfl
theorem md_X3_init : z_md yX3_init cX3_init 4 (Option.none : Option Jvm.ClassFile.FieldType) 3 := ⟨(tb_5 178 _ rfl), (tb_1 35 _ rfl), ⟨by decide +kernel, by decide +kernel⟩, by decide +kernel⟩
theorem wi_X3_init : Cond.instanceMethod yX3_init ∈ lw_tbl := tb_5 177 _ rfl
theorem md_X3_passTo : z_md yX3_passTo cX3_passTo 3 (Option.none : Option Jvm.ClassFile.FieldType) 2 := ⟨(tb_5 219 _ rfl), (tb_1 35 _ rfl), ⟨by decide +kernel, by decide +kernel⟩, by decide +kernel⟩
theorem wi_X3_passTo : Cond.instanceMethod yX3_passTo ∈ lw_tbl := tb_5 217 _ rfl
theorem wv_X3_passTo : Cond.selects RX3 yX3_passTo yX3_passTo ∈ lw_tbl := tb_5 218 _ rfl
theorem md_X4_init : z_md yX4_init cX4_init 2 (Option.none : Option Jvm.ClassFile.FieldType) 1 := ⟨(tb_2 63 _ rfl), (tb_1 17 _ rfl), ⟨by decide +kernel, by decide +kernel⟩, by decide +kernel⟩
theorem wi_X4_init : Cond.instanceMethod yX4_init ∈ lw_tbl := tb_2 62 _ rfl
theorem md_X4_size : z_md yX4_size cX4_size 1 (Option.some Jvm.ClassFile.FieldType.int) 0 := ⟨(tb_3 60 _ rfl), (tb_1 17 _ rfl), ⟨by decide +kernel, by decide +kernel⟩, by decide +kernel⟩
theorem wi_X4_size : Cond.instanceMethod yX4_size ∈ lw_tbl := tb_3 58 _ rfl
theorem wv_X4_size : Cond.selects RX4 yX4_size yX4_size ∈ lw_tbl := tb_3 59 _ rfl
theorem md_X4_at : z_md yX4_at cX4_at 2 (Option.some (Jvm.ClassFile.FieldType.object "Platehall$Event")) 1 := ⟨(tb_5 43 _ rfl), (tb_1 17 _ rfl), ⟨by decide +kernel, by decide +kernel⟩, by decide +kernel⟩
theorem wi_X4_at : Cond.instanceMethod yX4_at ∈ lw_tbl := tb_5 41 _ rfl
theorem wv_X4_at : Cond.selects RX4 yX4_at yX4_at ∈ lw_tbl := tb_5 42 _ rfl
theorem md_X4_insert : z_md yX4_insert cX4_insert 3 (Option.some Jvm.ClassFile.FieldType.int) 1 := ⟨(tb_3 92 _ rfl), (tb_1 17 _ rfl), ⟨by decide +kernel, by decide +kernel⟩, by decide +kernel⟩
theorem wi_X4_insert : Cond.instanceMethod yX4_insert ∈ lw_tbl := tb_3 90 _ rfl
theorem wv_X4_insert : Cond.selects RX4 yX4_insert yX4_insert ∈ lw_tbl := tb_3 91 _ rfl
theorem md_X4_followFrom : z_md yX4_followFrom cX4_followFrom 5 (Option.none : Option Jvm.ClassFile.FieldType) 1 := ⟨(tb_4 119 _ rfl), (tb_1 17 _ rfl), ⟨by decide +kernel, by decide +kernel⟩, by decide +kernel⟩
theorem wi_X4_followFrom : Cond.instanceMethod yX4_followFrom ∈ lw_tbl := tb_4 118 _ rfl
theorem wv_X4_followFrom : Cond.selects RX4 yX4_followFrom yX4_followFrom ∈ lw_tbl := tb_0 9 _ rfl
theorem md_X4_standingOn : z_md yX4_standingOn cX4_standingOn 3 (Option.some (Jvm.ClassFile.FieldType.object "Platehall$Standing")) 1 := ⟨(tb_4 146 _ rfl), (tb_1 17 _ rfl), ⟨by decide +kernel, by decide +kernel⟩, by decide +kernel⟩
theorem wi_X4_standingOn : Cond.instanceMethod yX4_standingOn ∈ lw_tbl := tb_4 144 _ rfl
theorem wv_X4_standingOn : Cond.selects RX4 yX4_standingOn yX4_standingOn ∈ lw_tbl := tb_4 145 _ rfl
theorem md_X4_replayedTo : z_md yX4_replayedTo cX4_replayedTo 4 (Option.some (Jvm.ClassFile.FieldType.object "Platehall$Standing")) 1 := ⟨(tb_4 161 _ rfl), (tb_1 17 _ rfl), ⟨by decide +kernel, by decide +kernel⟩, by decide +kernel⟩
theorem wi_X4_replayedTo : Cond.instanceMethod yX4_replayedTo ∈ lw_tbl := tb_4 159 _ rfl
theorem wv_X4_replayedTo : Cond.selects RX4 yX4_replayedTo yX4_replayedTo ∈ lw_tbl := tb_4 160 _ rfl
theorem md_X4_endOf : z_md yX4_endOf cX4_endOf 3 (Option.some Jvm.ClassFile.FieldType.int) 2 := ⟨(tb_5 47 _ rfl), (tb_1 17 _ rfl), ⟨by decide +kernel, by decide +kernel⟩, by decide +kernel⟩
theorem wi_X4_endOf : Cond.instanceMethod yX4_endOf ∈ lw_tbl := tb_5 45 _ rfl
theorem wv_X4_endOf : Cond.selects RX4 yX4_endOf yX4_endOf ∈ lw_tbl := tb_5 46 _ rfl
theorem md_X5_init : z_md yX5_init cX5_init 1 (Option.none : Option Jvm.ClassFile.FieldType) 0 := ⟨(tb_3 5 _ rfl), (tb_1 24 _ rfl), ⟨by decide +kernel, by decide +kernel⟩, by decide +kernel⟩
theorem wi_X5_init : Cond.instanceMethod yX5_init ∈ lw_tbl := tb_3 4 _ rfl
theorem md_X6_init : z_md yX6_init cX6_init 1 (Option.none : Option Jvm.ClassFile.FieldType) 0 := ⟨(tb_1 63 _ rfl), (tb_1 3 _ rfl), ⟨by decide +kernel, by decide +kernel⟩, by decide +kernel⟩
theorem wi_X6_init : Cond.instanceMethod yX6_init ∈ lw_tbl := tb_1 62 _ rfl
theorem md_X6_setBarred : z_md yX6_setBarred cX6_setBarred 4 (Option.some Jvm.ClassFile.FieldType.boolean) 2 := ⟨(tb_4 175 _ rfl), (tb_1 3 _ rfl), ⟨by decide +kernel, by decide +kernel⟩, by decide +kernel⟩
theorem wi_X6_setBarred : Cond.instanceMethod yX6_setBarred ∈ lw_tbl := tb_4 173 _ rfl
theorem wv_X6_setBarred : Cond.selects RX6 yX6_setBarred yX6_setBarred ∈ lw_tbl := tb_4 174 _ rfl
theorem md_X6_isFree : z_md yX6_isFree cX6_isFree 2 (Option.some Jvm.ClassFile.FieldType.boolean) 1 := ⟨(tb_4 191 _ rfl), (tb_1 3 _ rfl), ⟨by decide +kernel, by decide +kernel⟩, by decide +kernel⟩
theorem wi_X6_isFree : Cond.instanceMethod yX6_isFree ∈ lw_tbl := tb_4 189 _ rfl
theorem wv_X6_isFree : Cond.selects RX6 yX6_isFree yX6_isFree ∈ lw_tbl := tb_4 190 _ rfl
theorem md_X6_markGiven : z_md yX6_markGiven cX6_markGiven 2 (Option.none : Option Jvm.ClassFile.FieldType) 1 := ⟨(tb_4 203 _ rfl), (tb_1 3 _ rfl), ⟨by decide +kernel, by decide +kernel⟩, by decide +kernel⟩
theorem wi_X6_markGiven : Cond.instanceMethod yX6_markGiven ∈ lw_tbl := tb_4 201 _ rfl
theorem wv_X6_markGiven : Cond.selects RX6 yX6_markGiven yX6_markGiven ∈ lw_tbl := tb_4 202 _ rfl
theorem md_X6_next : z_md yX6_next cX6_next 2 (Option.some Jvm.ClassFile.FieldType.int) 0 := ⟨(tb_4 186 _ rfl), (tb_1 3 _ rfl), ⟨by decide +kernel, by decide +kernel⟩, by decide +kernel⟩
theorem wi_X6_next : Cond.instanceMethod yX6_next ∈ lw_tbl := tb_4 184 _ rfl
theorem wv_X6_next : Cond.selects RX6 yX6_next yX6_next ∈ lw_tbl := tb_4 185 _ rfl
theorem md_X7_init : z_md yX7_init cX7_init 4 (Option.none : Option Jvm.ClassFile.FieldType) 3 := ⟨(tb_5 129 _ rfl), (tb_1 34 _ rfl), ⟨by decide +kernel, by decide +kernel⟩, by decide +kernel⟩
theorem wi_X7_init : Cond.instanceMethod yX7_init ∈ lw_tbl := tb_5 128 _ rfl
theorem md_X7_agreesWith : z_md yX7_agreesWith cX7_agreesWith 3 (Option.some Jvm.ClassFile.FieldType.boolean) 1 := ⟨(tb_5 109 _ rfl), (tb_1 34 _ rfl), ⟨by decide +kernel, by decide +kernel⟩, by decide +kernel⟩
theorem wi_X7_agreesWith : Cond.instanceMethod yX7_agreesWith ∈ lw_tbl := tb_5 107 _ rfl
theorem wv_X7_agreesWith : Cond.selects RX7 yX7_agreesWith yX7_agreesWith ∈ lw_tbl := tb_5 108 _ rfl
theorem md_X7_isTooSoonBehind : z_md yX7_isTooSoonBehind cX7_isTooSoonBehind 2 (Option.some Jvm.ClassFile.FieldType.boolean) 1 := ⟨(tb_5 114 _ rfl), (tb_1 34 _ rfl), ⟨by decide +kernel, by decide +kernel⟩, by decide +kernel⟩
theorem wi_X7_isTooSoonBehind : Cond.instanceMethod yX7_isTooSoonBehind ∈ lw_tbl := tb_5 112 _ rfl
theorem wv_X7_isTooSoonBehind : Cond.selects RX7 yX7_isTooSoonBehind yX7_isTooSoonBehind ∈ lw_tbl := tb_5 113 _ rfl
theorem md_X8_init : z_md yX8_init cX8_init 2 (Option.none : Option Jvm.ClassFile.FieldType) 1 := ⟨(tb_2 71 _ rfl), (tb_1 18 _ rfl), ⟨by decide +kernel, by decide +kernel⟩, by decide +kernel⟩
theorem wi_X8_init : Cond.instanceMethod yX8_init ∈ lw_tbl := tb_2 70 _ rfl
theorem md_X8_copyFrom : z_md yX8_copyFrom cX8_copyFrom 2 (Option.none : Option Jvm.ClassFile.FieldType) 1 := ⟨(tb_4 123 _ rfl), (tb_1 18 _ rfl), ⟨by decide +kernel, by decide +kernel⟩, by decide +kernel⟩
theorem wi_X8_copyFrom : Cond.instanceMethod yX8_copyFrom ∈ lw_tbl := tb_4 121 _ rfl
theorem wv_X8_copyFrom : Cond.selects RX8 yX8_copyFrom yX8_copyFrom ∈ lw_tbl := tb_4 122 _ rfl
theorem md_X8_follow : z_md yX8_follow cX8_follow 2 (Option.none : Option Jvm.ClassFile.FieldType) 1 := ⟨(tb_4 127 _ rfl), (tb_1 18 _ rfl), ⟨by decide +kernel, by decide +kernel⟩, by decide +kernel⟩
theorem wi_X8_follow : Cond.instanceMethod yX8_follow ∈ lw_tbl := tb_4 125 _ rfl
theorem wv_X8_follow : Cond.selects RX8 yX8_follow yX8_follow ∈ lw_tbl := tb_4 126 _ rfl
theorem md_X8_changeState : z_md yX8_changeState cX8_changeState 2 (Option.none : Option Jvm.ClassFile.FieldType) 1 := ⟨(tb_4 131 _ rfl), (tb_1 18 _ rfl), ⟨by decide +kernel, by decide +kernel⟩, by decide +kernel⟩
theorem wi_X8_changeState : Cond.instanceMethod yX8_changeState ∈ lw_tbl := tb_4 130 _ rfl
theorem wv_X8_changeState : Cond.selects RX8 yX8_changeState yX8_changeState ∈ lw_tbl := tb_0 10 _ rfl
theorem md_X8_part : z_md yX8_part cX8_part 2 (Option.some Jvm.ClassFile.FieldType.int) 1 := ⟨(tb_4 150 _ rfl), (tb_1 18 _ rfl), ⟨by decide +kernel, by decide +kernel⟩, by decide +kernel⟩
theorem wi_X8_part : Cond.instanceMethod yX8_part ∈ lw_tbl := tb_4 148 _ rfl
theorem wv_X8_part : Cond.selects RX8 yX8_part yX8_part ∈ lw_tbl := tb_4 149 _ rfl
theorem md_X9_init : z_md yX9_init cX9_init 2 (Option.none : Option Jvm.ClassFile.FieldType) 1 := ⟨(tb_2 106 _ rfl), (tb_1 19 _ rfl), ⟨by decide +kernel, by decide +kernel⟩, by decide +kernel⟩
theorem wi_X9_init : Cond.instanceMethod yX9_init ∈ lw_tbl := tb_2 105 _ rfl
theorem md_X9_take : z_md yX9_take cX9_take 4 (Option.none : Option Jvm.ClassFile.FieldType) 3 := ⟨(tb_5 70 _ rfl), (tb_1 19 _ rfl), ⟨by decide +kernel, by decide +kernel⟩, by decide +kernel⟩
theorem wi_X9_take : Cond.instanceMethod yX9_take ∈ lw_tbl := tb_5 68 _ rfl
theorem wv_X9_take : Cond.selects RX9 yX9_take yX9_take ∈ lw_tbl := tb_5 69 _ rfl
theorem md_X10_init : z_md yX10_init cX10_init 4 (Option.none : Option Jvm.ClassFile.FieldType) 3 := ⟨(tb_2 55 _ rfl), (tb_1 16 _ rfl), ⟨by decide +kernel, by decide +kernel⟩, by decide +kernel⟩
theorem wi_X10_init : Cond.instanceMethod yX10_init ∈ lw_tbl := tb_2 54 _ rfl
theorem md_X11_init : z_md yX11_init cX11_init 2 (Option.none : Option Jvm.ClassFile.FieldType) 0 := ⟨(tb_1 40 _ rfl), (tb_1 1 _ rfl), ⟨by decide +kernel, by decide +kernel⟩, by decide +kernel⟩
theorem wi_X11_init : Cond.instanceMethod yX11_init ∈ lw_tbl := tb_1 39 _ rfl
theorem md_X11_type : z_md yX11_type cX11_type 2 (Option.some Jvm.ClassFile.FieldType.int) 1 := ⟨(tb_1 168 _ rfl), (tb_1 1 _ rfl), ⟨by decide +kernel, by decide +kernel⟩, by decide +kernel⟩
theorem wi_X11_type : Cond.instanceMethod yX11_type ∈ lw_tbl := tb_1 166 _ rfl
theorem wv_X11_type : Cond.selects RX11 yX11_type yX11_type ∈ lw_tbl := tb_1 167 _ rfl
theorem md_X11_clear : z_md yX11_clear cX11_clear 1 (Option.some Jvm.ClassFile.FieldType.int) 0 := ⟨(tb_1 156 _ rfl), (tb_1 1 _ rfl), ⟨by decide +kernel, by decide +kernel⟩, by decide +kernel⟩
theorem wi_X11_clear : Cond.instanceMethod yX11_clear ∈ lw_tbl := tb_1 154 _ rfl
theorem wv_X11_clear : Cond.selects RX11 yX11_clear yX11_clear ∈ lw_tbl := tb_1 155 _ rfl
theorem md_X11_vehicle : z_md yX11_vehicle cX11_vehicle 4 (Option.some Jvm.ClassFile.FieldType.int) 3 := ⟨(tb_2 4 _ rfl), (tb_1 1 _ rfl), ⟨by decide +kernel, by decide +kernel⟩, by decide +kernel⟩
theorem wi_X11_vehicle : Cond.instanceMethod yX11_vehicle ∈ lw_tbl := tb_2 2 _ rfl
theorem wv_X11_vehicle : Cond.selects RX11 yX11_vehicle yX11_vehicle ∈ lw_tbl := tb_2 3 _ rfl
theorem md_X11_stamped : z_md yX11_stamped cX11_stamped 2 (Option.some Jvm.ClassFile.FieldType.int) 1 := ⟨(tb_2 229 _ rfl), (tb_1 1 _ rfl), ⟨by decide +kernel, by decide +kernel⟩, by decide +kernel⟩
theorem wi_X11_stamped : Cond.instanceMethod yX11_stamped ∈ lw_tbl := tb_2 227 _ rfl
theorem wv_X11_stamped : Cond.selects RX11 yX11_stamped yX11_stamped ∈ lw_tbl := tb_2 228 _ rfl
theorem md_X11_person : z_md yX11_person cX11_person 1 (Option.some Jvm.ClassFile.FieldType.int) 0 := ⟨(tb_3 0 _ rfl), (tb_1 1 _ rfl), ⟨by decide +kernel, by decide +kernel⟩, by decide +kernel⟩
theorem wi_X11_person : Cond.instanceMethod yX11_person ∈ lw_tbl := tb_2 238 _ rfl
theorem wv_X11_person : Cond.selects RX11 yX11_person yX11_person ∈ lw_tbl := tb_2 239 _ rfl
theorem md_X11_protect : z_md yX11_protect cX11_protect 5 (Option.some Jvm.ClassFile.FieldType.boolean) 2 := ⟨(tb_3 23 _ rfl), (tb_1 1 _ rfl), ⟨by decide +kernel, by decide +kernel⟩, by decide +kernel⟩
theorem wi_X11_protect : Cond.instanceMethod yX11_protect ∈ lw_tbl := tb_3 21 _ rfl
theorem wv_X11_protect : Cond.selects RX11 yX11_protect yX11_protect ∈ lw_tbl := tb_3 22 _ rfl
theorem md_X11_vehicleAt : z_md yX11_vehicleAt cX11_vehicleAt 2 (Option.some (Jvm.ClassFile.FieldType.object "Platehall$Vehicle")) 1 := ⟨(tb_3 53 _ rfl), (tb_1 1 _ rfl), ⟨by decide +kernel, by decide +kernel⟩, by decide +kernel⟩
theorem wi_X11_vehicleAt : Cond.instanceMethod yX11_vehicleAt ∈ lw_tbl := tb_3 52 _ rfl
theorem wv_X11_vehicleAt : Cond.selects RX11 yX11_vehicleAt yX11_vehicleAt ∈ lw_tbl := tb_0 6 _ rfl
theorem md_X11_personAt : z_md yX11_personAt cX11_personAt 2 (Option.some (Jvm.ClassFile.FieldType.object "Platehall$Person")) 1 := ⟨(tb_3 27 _ rfl), (tb_1 1 _ rfl), ⟨by decide +kernel, by decide +kernel⟩, by decide +kernel⟩
theorem wi_X11_personAt : Cond.instanceMethod yX11_personAt ∈ lw_tbl := tb_3 26 _ rfl
theorem wv_X11_personAt : Cond.selects RX11 yX11_personAt yX11_personAt ∈ lw_tbl := tb_0 5 _ rfl
theorem md_X11_vehicleOfSerial : z_md yX11_vehicleOfSerial cX11_vehicleOfSerial 3 (Option.some Jvm.ClassFile.FieldType.int) 1 := ⟨(tb_2 32 _ rfl), (tb_1 1 _ rfl), ⟨by decide +kernel, by decide +kernel⟩, by decide +kernel⟩
theorem wi_X11_vehicleOfSerial : Cond.instanceMethod yX11_vehicleOfSerial ∈ lw_tbl := tb_2 31 _ rfl
theorem wv_X11_vehicleOfSerial : Cond.selects RX11 yX11_vehicleOfSerial yX11_vehicleOfSerial ∈ lw_tbl := tb_0 1 _ rfl
theorem md_X11_checkDigit : z_md yX11_checkDigit cX11_checkDigit 2 (Option.some Jvm.ClassFile.FieldType.int) 1 := ⟨(tb_2 13 _ rfl), (tb_1 1 _ rfl), ⟨by decide +kernel, by decide +kernel⟩, by decide +kernel⟩
theorem ws_X11_checkDigit : Cond.static yX11_checkDigit ∈ lw_tbl := tb_2 12 _ rfl
theorem md_X11_stampedNumber : z_md yX11_stampedNumber cX11_stampedNumber 2 (Option.some Jvm.ClassFile.FieldType.int) 1 := ⟨(tb_2 233 _ rfl), (tb_1 1 _ rfl), ⟨by decide +kernel, by decide +kernel⟩, by decide +kernel⟩
theorem ws_X11_stampedNumber : Cond.static yX11_stampedNumber ∈ lw_tbl := tb_2 232 _ rfl
theorem md_X11_isWithin : z_md yX11_isWithin cX11_isWithin 3 (Option.some Jvm.ClassFile.FieldType.boolean) 3 := ⟨(tb_2 7 _ rfl), (tb_1 1 _ rfl), ⟨by decide +kernel, by decide +kernel⟩, by decide +kernel⟩
theorem ws_X11_isWithin : Cond.static yX11_isWithin ∈ lw_tbl := tb_2 6 _ rfl
theorem md_X11_isClass : z_md yX11_isClass cX11_isClass 1 (Option.some Jvm.ClassFile.FieldType.boolean) 1 := ⟨(tb_2 10 _ rfl), (tb_1 1 _ rfl), ⟨by decide +kernel, by decide +kernel⟩, by decide +kernel⟩
theorem ws_X11_isClass : Cond.static yX11_isClass ∈ lw_tbl := tb_2 9 _ rfl
theorem md_X11_tell : z_md yX11_tell cX11_tell 6 (Option.some Jvm.ClassFile.FieldType.int) 4 := ⟨(tb_3 49 _ rfl), (tb_1 1 _ rfl), ⟨by decide +kernel, by decide +kernel⟩, by decide +kernel⟩
theorem wi_X11_tell : Cond.instanceMethod yX11_tell ∈ lw_tbl := tb_3 47 _ rfl
theorem wv_X11_tell : Cond.selects RX11 yX11_tell yX11_tell ∈ lw_tbl := tb_3 48 _ rfl
theorem md_X11_on : z_md yX11_on cX11_on 5 (Option.some Jvm.ClassFile.FieldType.int) 3 := ⟨(tb_4 138 _ rfl), (tb_1 1 _ rfl), ⟨by decide +kernel, by decide +kernel⟩, by decide +kernel⟩
theorem wi_X11_on : Cond.instanceMethod yX11_on ∈ lw_tbl := tb_4 136 _ rfl
theorem wv_X11_on : Cond.selects RX11 yX11_on yX11_on ∈ lw_tbl := tb_4 137 _ rfl
theorem md_X11_onAnew : z_md yX11_onAnew cX11_onAnew 5 (Option.some Jvm.ClassFile.FieldType.int) 3 := ⟨(tb_4 157 _ rfl), (tb_1 1 _ rfl), ⟨by decide +kernel, by decide +kernel⟩, by decide +kernel⟩
theorem wi_X11_onAnew : Cond.instanceMethod yX11_onAnew ∈ lw_tbl := tb_4 155 _ rfl
theorem wv_X11_onAnew : Cond.selects RX11 yX11_onAnew yX11_onAnew ∈ lw_tbl := tb_4 156 _ rfl
theorem md_X11_fitsKind : z_md yX11_fitsKind cX11_fitsKind 2 (Option.some Jvm.ClassFile.FieldType.boolean) 2 := ⟨(tb_3 56 _ rfl), (tb_1 1 _ rfl), ⟨by decide +kernel, by decide +kernel⟩, by decide +kernel⟩
theorem ws_X11_fitsKind : Cond.static yX11_fitsKind ∈ lw_tbl := tb_3 55 _ rfl
theorem md_X11_refuseStandingAsked : z_md yX11_refuseStandingAsked cX11_refuseStandingAsked 3 (Option.none : Option Jvm.ClassFile.FieldType) 2 := ⟨(tb_4 142 _ rfl), (tb_1 1 _ rfl), ⟨by decide +kernel, by decide +kernel⟩, by decide +kernel⟩
theorem wi_X11_refuseStandingAsked : Cond.instanceMethod yX11_refuseStandingAsked ∈ lw_tbl := tb_4 141 _ rfl
theorem wv_X11_refuseStandingAsked : Cond.selects RX11 yX11_refuseStandingAsked yX11_refuseStandingAsked ∈ lw_tbl := tb_0 11 _ rfl
theorem md_X11_bar : z_md yX11_bar cX11_bar 4 (Option.some Jvm.ClassFile.FieldType.boolean) 3 := ⟨(tb_4 168 _ rfl), (tb_1 1 _ rfl), ⟨by decide +kernel, by decide +kernel⟩, by decide +kernel⟩
theorem wi_X11_bar : Cond.instanceMethod yX11_bar ∈ lw_tbl := tb_4 166 _ rfl
theorem wv_X11_bar : Cond.selects RX11 yX11_bar yX11_bar ∈ lw_tbl := tb_4 167 _ rfl
theorem md_X11_allot : z_md yX11_allot cX11_allot 4 (Option.some Jvm.ClassFile.FieldType.int) 1 := ⟨(tb_4 182 _ rfl), (tb_1 1 _ rfl), ⟨by decide +kernel, by decide +kernel⟩, by decide +kernel⟩
theorem wi_X11_allot : Cond.instanceMethod yX11_allot ∈ lw_tbl := tb_4 180 _ rfl
theorem wv_X11_allot : Cond.selects RX11 yX11_allot yX11_allot ∈ lw_tbl := tb_4 181 _ rfl
theorem md_X11_wish : z_md yX11_wish cX11_wish 4 (Option.some Jvm.ClassFile.FieldType.int) 1 := ⟨(tb_4 230 _ rfl), (tb_1 1 _ rfl), ⟨by decide +kernel, by decide +kernel⟩, by decide +kernel⟩
theorem wi_X11_wish : Cond.instanceMethod yX11_wish ∈ lw_tbl := tb_4 228 _ rfl
theorem wv_X11_wish : Cond.selects RX11 yX11_wish yX11_wish ∈ lw_tbl := tb_4 229 _ rfl
theorem md_X11_plate : z_md yX11_plate cX11_plate 6 (Option.some Jvm.ClassFile.FieldType.char) 3 := ⟨(tb_5 12 _ rfl), (tb_1 1 _ rfl), ⟨by decide +kernel, by decide +kernel⟩, by decide +kernel⟩
theorem wi_X11_plate : Cond.instanceMethod yX11_plate ∈ lw_tbl := tb_5 10 _ rfl
theorem wv_X11_plate : Cond.selects RX11 yX11_plate yX11_plate ∈ lw_tbl := tb_5 11 _ rfl
theorem md_X11_give : z_md yX11_give cX11_give 3 (Option.none : Option Jvm.ClassFile.FieldType) 2 := ⟨(tb_4 199 _ rfl), (tb_1 1 _ rfl), ⟨by decide +kernel, by decide +kernel⟩, by decide +kernel⟩
theorem wi_X11_give : Cond.instanceMethod yX11_give ∈ lw_tbl := tb_4 198 _ rfl
theorem wv_X11_give : Cond.selects RX11 yX11_give yX11_give ∈ lw_tbl := tb_0 13 _ rfl
theorem md_X11_isGoneToday : z_md yX11_isGoneToday cX11_isGoneToday 2 (Option.some Jvm.ClassFile.FieldType.boolean) 1 := ⟨(tb_4 195 _ rfl), (tb_1 1 _ rfl), ⟨by decide +kernel, by decide +kernel⟩, by decide +kernel⟩
theorem wi_X11_isGoneToday : Cond.instanceMethod yX11_isGoneToday ∈ lw_tbl := tb_4 194 _ rfl
theorem wv_X11_isGoneToday : Cond.selects RX11 yX11_isGoneToday yX11_isGoneToday ∈ lw_tbl := tb_0 12 _ rfl
theorem md_X11_isLetter : z_md yX11_isLetter cX11_isLetter 1 (Option.some Jvm.ClassFile.FieldType.boolean) 1 := ⟨(tb_4 171 _ rfl), (tb_1 1 _ rfl), ⟨by decide +kernel, by decide +kernel⟩, by decide +kernel⟩
theorem ws_X11_isLetter : Cond.static yX11_isLetter ∈ lw_tbl := tb_4 170 _ rfl
theorem md_X11_isDigit : z_md yX11_isDigit cX11_isDigit 1 (Option.some Jvm.ClassFile.FieldType.boolean) 1 := ⟨(tb_5 4 _ rfl), (tb_1 1 _ rfl), ⟨by decide +kernel, by decide +kernel⟩, by decide +kernel⟩
theorem ws_X11_isDigit : Cond.static yX11_isDigit ∈ lw_tbl := tb_5 3 _ rfl
theorem md_X11_fitsPlate : z_md yX11_fitsPlate cX11_fitsPlate 2 (Option.some Jvm.ClassFile.FieldType.boolean) 2 := ⟨(tb_5 1 _ rfl), (tb_1 1 _ rfl), ⟨by decide +kernel, by decide +kernel⟩, by decide +kernel⟩
theorem ws_X11_fitsPlate : Cond.static yX11_fitsPlate ∈ lw_tbl := tb_5 0 _ rfl
theorem md_X11_signOf : z_md yX11_signOf cX11_signOf 2 (Option.some Jvm.ClassFile.FieldType.char) 2 := ⟨(tb_5 19 _ rfl), (tb_1 1 _ rfl), ⟨by decide +kernel, by decide +kernel⟩, by decide +kernel⟩
theorem ws_X11_signOf : Cond.static yX11_signOf ∈ lw_tbl := tb_5 18 _ rfl
theorem md_X11_rate : z_md yX11_rate cX11_rate 4 (Option.some Jvm.ClassFile.FieldType.int) 3 := ⟨(tb_5 26 _ rfl), (tb_1 1 _ rfl), ⟨by decide +kernel, by decide +kernel⟩, by decide +kernel⟩
theorem wi_X11_rate : Cond.instanceMethod yX11_rate ∈ lw_tbl := tb_5 24 _ rfl
theorem wv_X11_rate : Cond.selects RX11 yX11_rate yX11_rate ∈ lw_tbl := tb_5 25 _ rfl
theorem md_X11_pay : z_md yX11_pay cX11_pay 4 (Option.some Jvm.ClassFile.FieldType.long) 2 := ⟨(tb_5 34 _ rfl), (tb_1 1 _ rfl), ⟨by decide +kernel, by decide +kernel⟩, by decide +kernel⟩
theorem wi_X11_pay : Cond.instanceMethod yX11_pay ∈ lw_tbl := tb_5 32 _ rfl
theorem wv_X11_pay : Cond.selects RX11 yX11_pay yX11_pay ∈ lw_tbl := tb_5 33 _ rfl
theorem md_X11_owes : z_md yX11_owes cX11_owes 3 (Option.some Jvm.ClassFile.FieldType.long) 1 := ⟨(tb_5 58 _ rfl), (tb_1 1 _ rfl), ⟨by decide +kernel, by decide +kernel⟩, by decide +kernel⟩
theorem wi_X11_owes : Cond.instanceMethod yX11_owes ∈ lw_tbl := tb_5 56 _ rfl
theorem wv_X11_owes : Cond.selects RX11 yX11_owes yX11_owes ∈ lw_tbl := tb_5 57 _ rfl
theorem md_X11_taxOf : z_md yX11_taxOf cX11_taxOf 6 (Option.some Jvm.ClassFile.FieldType.long) 1 := ⟨(tb_5 39 _ rfl), (tb_1 1 _ rfl), ⟨by decide +kernel, by decide +kernel⟩, by decide +kernel⟩
theorem wi_X11_taxOf : Cond.instanceMethod yX11_taxOf ∈ lw_tbl := tb_5 38 _ rfl
theorem wv_X11_taxOf : Cond.selects RX11 yX11_taxOf yX11_taxOf ∈ lw_tbl := tb_0 16 _ rfl
theorem md_X11_taxBetween : z_md yX11_taxBetween cX11_taxBetween 8 (Option.some Jvm.ClassFile.FieldType.long) 3 := ⟨(tb_5 51 _ rfl), (tb_1 1 _ rfl), ⟨by decide +kernel, by decide +kernel⟩, by decide +kernel⟩
theorem wi_X11_taxBetween : Cond.instanceMethod yX11_taxBetween ∈ lw_tbl := tb_5 50 _ rfl
theorem wv_X11_taxBetween : Cond.selects RX11 yX11_taxBetween yX11_taxBetween ∈ lw_tbl := tb_0 17 _ rfl
theorem md_X11_test : z_md yX11_test cX11_test 6 (Option.some Jvm.ClassFile.FieldType.int) 4 := ⟨(tb_5 65 _ rfl), (tb_1 1 _ rfl), ⟨by decide +kernel, by decide +kernel⟩, by decide +kernel⟩
theorem wi_X11_test : Cond.instanceMethod yX11_test ∈ lw_tbl := tb_5 63 _ rfl
theorem wv_X11_test : Cond.selects RX11 yX11_test yX11_test ∈ lw_tbl := tb_5 64 _ rfl
theorem md_X11_insure : z_md yX11_insure cX11_insure 5 (Option.some Jvm.ClassFile.FieldType.boolean) 2 := ⟨(tb_5 79 _ rfl), (tb_1 1 _ rfl), ⟨by decide +kernel, by decide +kernel⟩, by decide +kernel⟩
theorem wi_X11_insure : Cond.instanceMethod yX11_insure ∈ lw_tbl := tb_5 77 _ rfl
theorem wv_X11_insure : Cond.selects RX11 yX11_insure yX11_insure ∈ lw_tbl := tb_5 78 _ rfl
theorem md_X11_ofVehicle : z_md yX11_ofVehicle cX11_ofVehicle 4 (Option.some Jvm.ClassFile.FieldType.int) 2 := ⟨(tb_5 86 _ rfl), (tb_1 1 _ rfl), ⟨by decide +kernel, by decide +kernel⟩, by decide +kernel⟩
theorem wi_X11_ofVehicle : Cond.instanceMethod yX11_ofVehicle ∈ lw_tbl := tb_5 84 _ rfl
theorem wv_X11_ofVehicle : Cond.selects RX11 yX11_ofVehicle yX11_ofVehicle ∈ lw_tbl := tb_5 85 _ rfl
theorem md_X11_gapOf : z_md yX11_gapOf cX11_gapOf 7 (Option.some Jvm.ClassFile.FieldType.int) 1 := ⟨(tb_5 90 _ rfl), (tb_1 1 _ rfl), ⟨by decide +kernel, by decide +kernel⟩, by decide +kernel⟩
theorem wi_X11_gapOf : Cond.instanceMethod yX11_gapOf ∈ lw_tbl := tb_5 89 _ rfl
theorem wv_X11_gapOf : Cond.selects RX11 yX11_gapOf yX11_gapOf ∈ lw_tbl := tb_0 18 _ rfl
theorem md_X11_sight : z_md yX11_sight cX11_sight 4 (Option.some Jvm.ClassFile.FieldType.int) 2 := ⟨(tb_5 124 _ rfl), (tb_1 1 _ rfl), ⟨by decide +kernel, by decide +kernel⟩, by decide +kernel⟩
theorem wi_X11_sight : Cond.instanceMethod yX11_sight ∈ lw_tbl := tb_5 122 _ rfl
theorem wv_X11_sight : Cond.selects RX11 yX11_sight yX11_sight ∈ lw_tbl := tb_5 123 _ rfl
theorem md_X11_seen : z_md yX11_seen cX11_seen 2 (Option.some Jvm.ClassFile.FieldType.int) 1 := ⟨(tb_5 162 _ rfl), (tb_1 1 _ rfl), ⟨by decide +kernel, by decide +kernel⟩, by decide +kernel⟩
theorem wi_X11_seen : Cond.instanceMethod yX11_seen ∈ lw_tbl := tb_5 160 _ rfl
theorem wv_X11_seen : Cond.selects RX11 yX11_seen yX11_seen ∈ lw_tbl := tb_5 161 _ rfl
theorem md_X11_sightingAt : z_md yX11_sightingAt cX11_sightingAt 2 (Option.some (Jvm.ClassFile.FieldType.object "Platehall$Sighting")) 1 := ⟨(tb_5 166 _ rfl), (tb_1 1 _ rfl), ⟨by decide +kernel, by decide +kernel⟩, by decide +kernel⟩
theorem wi_X11_sightingAt : Cond.instanceMethod yX11_sightingAt ∈ lw_tbl := tb_5 165 _ rfl
theorem wv_X11_sightingAt : Cond.selects RX11 yX11_sightingAt yX11_sightingAt ∈ lw_tbl := tb_0 22 _ rfl
theorem md_X11_fileByTime : z_md yX11_fileByTime cX11_fileByTime 3 (Option.none : Option Jvm.ClassFile.FieldType) 1 := ⟨(tb_5 154 _ rfl), (tb_1 1 _ rfl), ⟨by decide +kernel, by decide +kernel⟩, by decide +kernel⟩
theorem wi_X11_fileByTime : Cond.instanceMethod yX11_fileByTime ∈ lw_tbl := tb_5 153 _ rfl
theorem wv_X11_fileByTime : Cond.selects RX11 yX11_fileByTime yX11_fileByTime ∈ lw_tbl := tb_0 21 _ rfl
theorem md_X11_vehicleSeen : z_md yX11_vehicleSeen cX11_vehicleSeen 5 (Option.some Jvm.ClassFile.FieldType.int) 1 := ⟨(tb_5 105 _ rfl), (tb_1 1 _ rfl), ⟨by decide +kernel, by decide +kernel⟩, by decide +kernel⟩
theorem wi_X11_vehicleSeen : Cond.instanceMethod yX11_vehicleSeen ∈ lw_tbl := tb_5 104 _ rfl
theorem wv_X11_vehicleSeen : Cond.selects RX11 yX11_vehicleSeen yX11_vehicleSeen ∈ lw_tbl := tb_0 20 _ rfl
theorem md_X11_clonesOf : z_md yX11_clonesOf cX11_clonesOf 6 (Option.some Jvm.ClassFile.FieldType.int) 1 := ⟨(tb_5 100 _ rfl), (tb_1 1 _ rfl), ⟨by decide +kernel, by decide +kernel⟩, by decide +kernel⟩
theorem wi_X11_clonesOf : Cond.instanceMethod yX11_clonesOf ∈ lw_tbl := tb_5 99 _ rfl
theorem wv_X11_clonesOf : Cond.selects RX11 yX11_clonesOf yX11_clonesOf ∈ lw_tbl := tb_0 19 _ rfl
theorem md_X11_fine : z_md yX11_fine cX11_fine 4 (Option.some Jvm.ClassFile.FieldType.int) 2 := ⟨(tb_5 173 _ rfl), (tb_1 1 _ rfl), ⟨by decide +kernel, by decide +kernel⟩, by decide +kernel⟩
theorem wi_X11_fine : Cond.instanceMethod yX11_fine ∈ lw_tbl := tb_5 171 _ rfl
theorem wv_X11_fine : Cond.selects RX11 yX11_fine yX11_fine ∈ lw_tbl := tb_5 172 _ rfl
theorem md_X11_name : z_md yX11_name cX11_name 5 (Option.some Jvm.ClassFile.FieldType.int) 2 := ⟨(tb_5 207 _ rfl), (tb_1 1 _ rfl), ⟨by decide +kernel, by decide +kernel⟩, by decide +kernel⟩
theorem wi_X11_name : Cond.instanceMethod yX11_name ∈ lw_tbl := tb_5 205 _ rfl
theorem wv_X11_name : Cond.selects RX11 yX11_name yX11_name ∈ lw_tbl := tb_5 206 _ rfl
theorem md_X11_whose : z_md yX11_whose cX11_whose 2 (Option.some Jvm.ClassFile.FieldType.int) 1 := ⟨(tb_5 226 _ rfl), (tb_1 1 _ rfl), ⟨by decide +kernel, by decide +kernel⟩, by decide +kernel⟩
theorem wi_X11_whose : Cond.instanceMethod yX11_whose ∈ lw_tbl := tb_5 224 _ rfl
theorem wv_X11_whose : Cond.selects RX11 yX11_whose yX11_whose ∈ lw_tbl := tb_5 225 _ rfl
theorem md_X11_fines : z_md yX11_fines cX11_fines 4 (Option.some Jvm.ClassFile.FieldType.int) 1 := ⟨(tb_5 233 _ rfl), (tb_1 1 _ rfl), ⟨by decide +kernel, by decide +kernel⟩, by decide +kernel⟩
theorem wi_X11_fines : Cond.instanceMethod yX11_fines ∈ lw_tbl := tb_5 231 _ rfl
theorem wv_X11_fines : Cond.selects RX11 yX11_fines yX11_fines ∈ lw_tbl := tb_5 232 _ rfl
theorem md_X11_fineAt : z_md yX11_fineAt cX11_fineAt 2 (Option.some (Jvm.ClassFile.FieldType.object "Platehall$Fine")) 1 := ⟨(tb_5 211 _ rfl), (tb_1 1 _ rfl), ⟨by decide +kernel, by decide +kernel⟩, by decide +kernel⟩
theorem wi_X11_fineAt : Cond.instanceMethod yX11_fineAt ∈ lw_tbl := tb_5 210 _ rfl
theorem wv_X11_fineAt : Cond.selects RX11 yX11_fineAt yX11_fineAt ∈ lw_tbl := tb_0 23 _ rfl
theorem md_X11_payerOf : z_md yX11_payerOf cX11_payerOf 3 (Option.some Jvm.ClassFile.FieldType.int) 1 := ⟨(tb_5 215 _ rfl), (tb_1 1 _ rfl), ⟨by decide +kernel, by decide +kernel⟩, by decide +kernel⟩
theorem wi_X11_payerOf : Cond.instanceMethod yX11_payerOf ∈ lw_tbl := tb_5 214 _ rfl
theorem wv_X11_payerOf : Cond.selects RX11 yX11_payerOf yX11_payerOf ∈ lw_tbl := tb_0 24 _ rfl
theorem md_X11_look : z_md yX11_look cX11_look 7 (Option.some Jvm.ClassFile.FieldType.int) 1 := ⟨(tb_6 0 _ rfl), (tb_1 1 _ rfl), ⟨by decide +kernel, by decide +kernel⟩, by decide +kernel⟩
theorem wi_X11_look : Cond.instanceMethod yX11_look ∈ lw_tbl := tb_5 238 _ rfl
theorem wv_X11_look : Cond.selects RX11 yX11_look yX11_look ∈ lw_tbl := tb_5 239 _ rfl
theorem md_X11_looked : z_md yX11_looked cX11_looked 2 (Option.some Jvm.ClassFile.FieldType.int) 1 := ⟨(tb_6 41 _ rfl), (tb_1 1 _ rfl), ⟨by decide +kernel, by decide +kernel⟩, by decide +kernel⟩
theorem wi_X11_looked : Cond.instanceMethod yX11_looked ∈ lw_tbl := tb_6 39 _ rfl
theorem wv_X11_looked : Cond.selects RX11 yX11_looked yX11_looked ∈ lw_tbl := tb_6 40 _ rfl
theorem md_X11_isAllowedByState : z_md yX11_isAllowedByState cX11_isAllowedByState 2 (Option.some Jvm.ClassFile.FieldType.boolean) 1 := ⟨(tb_6 32 _ rfl), (tb_1 1 _ rfl), ⟨by decide +kernel, by decide +kernel⟩, by decide +kernel⟩
theorem wi_X11_isAllowedByState : Cond.instanceMethod yX11_isAllowedByState ∈ lw_tbl := tb_6 31 _ rfl
theorem wv_X11_isAllowedByState : Cond.selects RX11 yX11_isAllowedByState yX11_isAllowedByState ∈ lw_tbl := tb_0 25 _ rfl
theorem md_X11_pass : z_md yX11_pass cX11_pass 2 (Option.some Jvm.ClassFile.FieldType.int) 1 := ⟨(tb_6 48 _ rfl), (tb_1 1 _ rfl), ⟨by decide +kernel, by decide +kernel⟩, by decide +kernel⟩
theorem wi_X11_pass : Cond.instanceMethod yX11_pass ∈ lw_tbl := tb_6 46 _ rfl
theorem wv_X11_pass : Cond.selects RX11 yX11_pass yX11_pass ∈ lw_tbl := tb_6 47 _ rfl
theorem md_X12_init : z_md yX12_init cX12_init 1 (Option.none : Option Jvm.ClassFile.FieldType) 0 := ⟨(tb_6 53 _ rfl), (tb_1 8 _ rfl), ⟨by decide +kernel, by decide +kernel⟩, by decide +kernel⟩
theorem wi_X12_init : Cond.instanceMethod yX12_init ∈ lw_tbl := tb_6 52 _ rfl
theorem md_X12_thrown : z_md yX12_thrown cX12_thrown 1 (Option.some Jvm.ClassFile.FieldType.int) 0 := ⟨(tb_6 192 _ rfl), (tb_1 8 _ rfl), ⟨by decide +kernel, by decide +kernel⟩, by decide +kernel⟩
theorem wi_X12_thrown : Cond.instanceMethod yX12_thrown ∈ lw_tbl := tb_6 190 _ rfl
theorem wv_X12_thrown : Cond.selects RX12 yX12_thrown yX12_thrown ∈ lw_tbl := tb_6 191 _ rfl
theorem md_X12_goesWell : z_md yX12_goesWell cX12_goesWell 2 (Option.some Jvm.ClassFile.FieldType.boolean) 1 := ⟨(tb_6 200 _ rfl), (tb_1 8 _ rfl), ⟨by decide +kernel, by decide +kernel⟩, by decide +kernel⟩
theorem wi_X12_goesWell : Cond.instanceMethod yX12_goesWell ∈ lw_tbl := tb_6 199 _ rfl
theorem wv_X12_goesWell : Cond.selects RX12 yX12_goesWell yX12_goesWell ∈ lw_tbl := tb_0 26 _ rfl
theorem md_X12_in : z_md yX12_in cX12_in 3 (Option.some Jvm.ClassFile.FieldType.boolean) 3 := ⟨(tb_6 211 _ rfl), (tb_1 8 _ rfl), ⟨by decide +kernel, by decide +kernel⟩, by decide +kernel⟩
theorem ws_X12_in : Cond.static yX12_in ∈ lw_tbl := tb_6 210 _ rfl
theorem md_X12_isVehicle : z_md yX12_isVehicle cX12_isVehicle 2 (Option.some Jvm.ClassFile.FieldType.boolean) 1 := ⟨(tb_7 3 _ rfl), (tb_1 8 _ rfl), ⟨by decide +kernel, by decide +kernel⟩, by decide +kernel⟩
theorem wi_X12_isVehicle : Cond.instanceMethod yX12_isVehicle ∈ lw_tbl := tb_7 2 _ rfl
theorem wv_X12_isVehicle : Cond.selects RX12 yX12_isVehicle yX12_isVehicle ∈ lw_tbl := tb_0 29 _ rfl
theorem md_X12_isPerson : z_md yX12_isPerson cX12_isPerson 2 (Option.some Jvm.ClassFile.FieldType.boolean) 1 := ⟨(tb_6 235 _ rfl), (tb_1 8 _ rfl), ⟨by decide +kernel, by decide +kernel⟩, by decide +kernel⟩
theorem wi_X12_isPerson : Cond.instanceMethod yX12_isPerson ∈ lw_tbl := tb_6 234 _ rfl
theorem wv_X12_isPerson : Cond.selects RX12 yX12_isPerson yX12_isPerson ∈ lw_tbl := tb_0 28 _ rfl
theorem md_X12_type : z_md yX12_type cX12_type 2 (Option.some Jvm.ClassFile.FieldType.int) 1 := ⟨(tb_6 196 _ rfl), (tb_1 8 _ rfl), ⟨by decide +kernel, by decide +kernel⟩, by decide +kernel⟩
theorem wi_X12_type : Cond.instanceMethod yX12_type ∈ lw_tbl := tb_6 194 _ rfl
theorem wv_X12_type : Cond.selects RX12 yX12_type yX12_type ∈ lw_tbl := tb_6 195 _ rfl
theorem md_X12_clear : z_md yX12_clear cX12_clear 2 (Option.some Jvm.ClassFile.FieldType.int) 0 := ⟨(tb_6 204 _ rfl), (tb_1 8 _ rfl), ⟨by decide +kernel, by decide +kernel⟩, by decide +kernel⟩
theorem wi_X12_clear : Cond.instanceMethod yX12_clear ∈ lw_tbl := tb_6 202 _ rfl
theorem wv_X12_clear : Cond.selects RX12 yX12_clear yX12_clear ∈ lw_tbl := tb_6 203 _ rfl
theorem md_X12_check : z_md yX12_check cX12_check 1 (Option.some Jvm.ClassFile.FieldType.int) 1 := ⟨(tb_6 214 _ rfl), (tb_1 8 _ rfl), ⟨by decide +kernel, by decide +kernel⟩, by decide +kernel⟩
theorem ws_X12_check : Cond.static yX12_check ∈ lw_tbl := tb_6 213 _ rfl
theorem md_X12_vehicleOf : z_md yX12_vehicleOf cX12_vehicleOf 4 (Option.some Jvm.ClassFile.FieldType.int) 1 := ⟨(tb_6 218 _ rfl), (tb_1 8 _ rfl), ⟨by decide +kernel, by decide +kernel⟩, by decide +kernel⟩
theorem wi_X12_vehicleOf : Cond.instanceMethod yX12_vehicleOf ∈ lw_tbl := tb_6 217 _ rfl
theorem wv_X12_vehicleOf : Cond.selects RX12 yX12_vehicleOf yX12_vehicleOf ∈ lw_tbl := tb_0 27 _ rfl
theorem md_X12_vehicle : z_md yX12_vehicle cX12_vehicle 5 (Option.some Jvm.ClassFile.FieldType.int) 3 := ⟨(tb_6 208 _ rfl), (tb_1 8 _ rfl), ⟨by decide +kernel, by decide +kernel⟩, by decide +kernel⟩
theorem wi_X12_vehicle : Cond.instanceMethod yX12_vehicle ∈ lw_tbl := tb_6 206 _ rfl
theorem wv_X12_vehicle : Cond.selects RX12 yX12_vehicle yX12_vehicle ∈ lw_tbl := tb_6 207 _ rfl
theorem md_X12_stamped : z_md yX12_stamped cX12_stamped 3 (Option.some Jvm.ClassFile.FieldType.int) 1 := ⟨(tb_6 222 _ rfl), (tb_1 8 _ rfl), ⟨by decide +kernel, by decide +kernel⟩, by decide +kernel⟩
theorem wi_X12_stamped : Cond.instanceMethod yX12_stamped ∈ lw_tbl := tb_6 220 _ rfl
theorem wv_X12_stamped : Cond.selects RX12 yX12_stamped yX12_stamped ∈ lw_tbl := tb_6 221 _ rfl
theorem md_X12_person : z_md yX12_person cX12_person 1 (Option.some Jvm.ClassFile.FieldType.int) 0 := ⟨(tb_6 227 _ rfl), (tb_1 8 _ rfl), ⟨by decide +kernel, by decide +kernel⟩, by decide +kernel⟩
theorem wi_X12_person : Cond.instanceMethod yX12_person ∈ lw_tbl := tb_6 225 _ rfl
theorem wv_X12_person : Cond.selects RX12 yX12_person yX12_person ∈ lw_tbl := tb_6 226 _ rfl
theorem md_X12_protect : z_md yX12_protect cX12_protect 4 (Option.some Jvm.ClassFile.FieldType.boolean) 2 := ⟨(tb_6 231 _ rfl), (tb_1 8 _ rfl), ⟨by decide +kernel, by decide +kernel⟩, by decide +kernel⟩
theorem wi_X12_protect : Cond.instanceMethod yX12_protect ∈ lw_tbl := tb_6 229 _ rfl
theorem wv_X12_protect : Cond.selects RX12 yX12_protect yX12_protect ∈ lw_tbl := tb_6 230 _ rfl
theorem md_X12_isAbout : z_md yX12_isAbout cX12_isAbout 3 (Option.some Jvm.ClassFile.FieldType.boolean) 2 := ⟨(tb_7 7 _ rfl), (tb_1 8 _ rfl), ⟨by decide +kernel, by decide +kernel⟩, by decide +kernel⟩
theorem wi_X12_isAbout : Cond.instanceMethod yX12_isAbout ∈ lw_tbl := tb_7 6 _ rfl
theorem wv_X12_isAbout : Cond.selects RX12 yX12_isAbout yX12_isAbout ∈ lw_tbl := tb_0 30 _ rfl
theorem md_X12_tell : z_md yX12_tell cX12_tell 9 (Option.some Jvm.ClassFile.FieldType.int) 4 := ⟨(tb_6 239 _ rfl), (tb_1 8 _ rfl), ⟨by decide +kernel, by decide +kernel⟩, by decide +kernel⟩
theorem wi_X12_tell : Cond.instanceMethod yX12_tell ∈ lw_tbl := tb_6 237 _ rfl
theorem wv_X12_tell : Cond.selects RX12 yX12_tell yX12_tell ∈ lw_tbl := tb_6 238 _ rfl
theorem md_X12_change : z_md yX12_change cX12_change 2 (Option.none : Option Jvm.ClassFile.FieldType) 1 := ⟨(tb_7 23 _ rfl), (tb_1 8 _ rfl), ⟨by decide +kernel, by decide +kernel⟩, by decide +kernel⟩
theorem wi_X12_change : Cond.instanceMethod yX12_change ∈ lw_tbl := tb_7 22 _ rfl
theorem wv_X12_change : Cond.selects RX12 yX12_change yX12_change ∈ lw_tbl := tb_0 33 _ rfl
theorem md_X12_stateOn : z_md yX12_stateOn cX12_stateOn 4 (Option.some Jvm.ClassFile.FieldType.int) 2 := ⟨(tb_7 19 _ rfl), (tb_1 8 _ rfl), ⟨by decide +kernel, by decide +kernel⟩, by decide +kernel⟩
theorem wi_X12_stateOn : Cond.instanceMethod yX12_stateOn ∈ lw_tbl := tb_7 18 _ rfl
theorem wv_X12_stateOn : Cond.selects RX12 yX12_stateOn yX12_stateOn ∈ lw_tbl := tb_0 32 _ rfl
theorem md_X12_latest : z_md yX12_latest cX12_latest 7 (Option.some Jvm.ClassFile.FieldType.int) 4 := ⟨(tb_7 27 _ rfl), (tb_1 8 _ rfl), ⟨by decide +kernel, by decide +kernel⟩, by decide +kernel⟩
theorem wi_X12_latest : Cond.instanceMethod yX12_latest ∈ lw_tbl := tb_7 26 _ rfl
theorem wv_X12_latest : Cond.selects RX12 yX12_latest yX12_latest ∈ lw_tbl := tb_0 34 _ rfl
theorem md_X12_isOn : z_md yX12_isOn cX12_isOn 5 (Option.some Jvm.ClassFile.FieldType.int) 3 := ⟨(tb_7 15 _ rfl), (tb_1 8 _ rfl), ⟨by decide +kernel, by decide +kernel⟩, by decide +kernel⟩
theorem wi_X12_isOn : Cond.instanceMethod yX12_isOn ∈ lw_tbl := tb_7 14 _ rfl
theorem wv_X12_isOn : Cond.selects RX12 yX12_isOn yX12_isOn ∈ lw_tbl := tb_0 31 _ rfl
theorem md_X12_on : z_md yX12_on cX12_on 4 (Option.some Jvm.ClassFile.FieldType.int) 3 := ⟨(tb_7 11 _ rfl), (tb_1 8 _ rfl), ⟨by decide +kernel, by decide +kernel⟩, by decide +kernel⟩
theorem wi_X12_on : Cond.instanceMethod yX12_on ∈ lw_tbl := tb_7 9 _ rfl
theorem wv_X12_on : Cond.selects RX12 yX12_on yX12_on ∈ lw_tbl := tb_7 10 _ rfl
theorem md_X12_onAnew : z_md yX12_onAnew cX12_onAnew 4 (Option.some Jvm.ClassFile.FieldType.int) 3 := ⟨(tb_7 31 _ rfl), (tb_1 8 _ rfl), ⟨by decide +kernel, by decide +kernel⟩, by decide +kernel⟩
theorem wi_X12_onAnew : Cond.instanceMethod yX12_onAnew ∈ lw_tbl := tb_7 29 _ rfl
theorem wv_X12_onAnew : Cond.selects RX12 yX12_onAnew yX12_onAnew ∈ lw_tbl := tb_7 30 _ rfl
theorem md_X12_isLetter : z_md yX12_isLetter cX12_isLetter 1 (Option.some Jvm.ClassFile.FieldType.boolean) 1 := ⟨(tb_7 38 _ rfl), (tb_1 8 _ rfl), ⟨by decide +kernel, by decide +kernel⟩, by decide +kernel⟩
theorem ws_X12_isLetter : Cond.static yX12_isLetter ∈ lw_tbl := tb_7 37 _ rfl
theorem md_X12_bar : z_md yX12_bar cX12_bar 6 (Option.some Jvm.ClassFile.FieldType.boolean) 3 := ⟨(tb_7 35 _ rfl), (tb_1 8 _ rfl), ⟨by decide +kernel, by decide +kernel⟩, by decide +kernel⟩
theorem wi_X12_bar : Cond.instanceMethod yX12_bar ∈ lw_tbl := tb_7 33 _ rfl
theorem wv_X12_bar : Cond.selects RX12 yX12_bar yX12_bar ∈ lw_tbl := tb_7 34 _ rfl
theorem md_X12_isFree : z_md yX12_isFree cX12_isFree 2 (Option.some Jvm.ClassFile.FieldType.boolean) 1 := ⟨(tb_7 46 _ rfl), (tb_1 8 _ rfl), ⟨by decide +kernel, by decide +kernel⟩, by decide +kernel⟩
theorem wi_X12_isFree : Cond.instanceMethod yX12_isFree ∈ lw_tbl := tb_7 45 _ rfl
theorem wv_X12_isFree : Cond.selects RX12 yX12_isFree yX12_isFree ∈ lw_tbl := tb_0 35 _ rfl
theorem md_X12_give : z_md yX12_give cX12_give 3 (Option.some Jvm.ClassFile.FieldType.int) 2 := ⟨(tb_7 50 _ rfl), (tb_1 8 _ rfl), ⟨by decide +kernel, by decide +kernel⟩, by decide +kernel⟩
theorem wi_X12_give : Cond.instanceMethod yX12_give ∈ lw_tbl := tb_7 49 _ rfl
theorem wv_X12_give : Cond.selects RX12 yX12_give yX12_give ∈ lw_tbl := tb_0 36 _ rfl
theorem md_X12_allot : z_md yX12_allot cX12_allot 4 (Option.some Jvm.ClassFile.FieldType.int) 1 := ⟨(tb_7 42 _ rfl), (tb_1 8 _ rfl), ⟨by decide +kernel, by decide +kernel⟩, by decide +kernel⟩
theorem wi_X12_allot : Cond.instanceMethod yX12_allot ∈ lw_tbl := tb_7 40 _ rfl
theorem wv_X12_allot : Cond.selects RX12 yX12_allot yX12_allot ∈ lw_tbl := tb_7 41 _ rfl
theorem md_X12_plateIn : z_md yX12_plateIn cX12_plateIn 2 (Option.some Jvm.ClassFile.FieldType.int) 0 := ⟨(tb_7 58 _ rfl), (tb_1 8 _ rfl), ⟨by decide +kernel, by decide +kernel⟩, by decide +kernel⟩
theorem wi_X12_plateIn : Cond.instanceMethod yX12_plateIn ∈ lw_tbl := tb_7 57 _ rfl
theorem wv_X12_plateIn : Cond.selects RX12 yX12_plateIn yX12_plateIn ∈ lw_tbl := tb_0 37 _ rfl
theorem md_X12_wish : z_md yX12_wish cX12_wish 4 (Option.some Jvm.ClassFile.FieldType.int) 1 := ⟨(tb_7 54 _ rfl), (tb_1 8 _ rfl), ⟨by decide +kernel, by decide +kernel⟩, by decide +kernel⟩
theorem wi_X12_wish : Cond.instanceMethod yX12_wish ∈ lw_tbl := tb_7 52 _ rfl
theorem wv_X12_wish : Cond.selects RX12 yX12_wish yX12_wish ∈ lw_tbl := tb_7 53 _ rfl
theorem md_X12_plateOn : z_md yX12_plateOn cX12_plateOn 6 (Option.some Jvm.ClassFile.FieldType.int) 2 := ⟨(tb_7 66 _ rfl), (tb_1 8 _ rfl), ⟨by decide +kernel, by decide +kernel⟩, by decide +kernel⟩
theorem wi_X12_plateOn : Cond.instanceMethod yX12_plateOn ∈ lw_tbl := tb_7 65 _ rfl
theorem wv_X12_plateOn : Cond.selects RX12 yX12_plateOn yX12_plateOn ∈ lw_tbl := tb_0 38 _ rfl
theorem md_X12_signOf : z_md yX12_signOf cX12_signOf 2 (Option.some Jvm.ClassFile.FieldType.char) 2 := ⟨(tb_7 71 _ rfl), (tb_1 8 _ rfl), ⟨by decide +kernel, by decide +kernel⟩, by decide +kernel⟩
theorem ws_X12_signOf : Cond.static yX12_signOf ∈ lw_tbl := tb_7 70 _ rfl
theorem md_X12_plate : z_md yX12_plate cX12_plate 6 (Option.some Jvm.ClassFile.FieldType.char) 3 := ⟨(tb_7 62 _ rfl), (tb_1 8 _ rfl), ⟨by decide +kernel, by decide +kernel⟩, by decide +kernel⟩
theorem wi_X12_plate : Cond.instanceMethod yX12_plate ∈ lw_tbl := tb_7 60 _ rfl
theorem wv_X12_plate : Cond.selects RX12 yX12_plate yX12_plate ∈ lw_tbl := tb_7 61 _ rfl
theorem md_X12_rate : z_md yX12_rate cX12_rate 5 (Option.some Jvm.ClassFile.FieldType.int) 3 := ⟨(tb_7 75 _ rfl), (tb_1 8 _ rfl), ⟨by decide +kernel, by decide +kernel⟩, by decide +kernel⟩
theorem wi_X12_rate : Cond.instanceMethod yX12_rate ∈ lw_tbl := tb_7 73 _ rfl
theorem wv_X12_rate : Cond.selects RX12 yX12_rate yX12_rate ∈ lw_tbl := tb_7 74 _ rfl
theorem md_X12_rateOn : z_md yX12_rateOn cX12_rateOn 6 (Option.some Jvm.ClassFile.FieldType.int) 2 := ⟨(tb_7 89 _ rfl), (tb_1 8 _ rfl), ⟨by decide +kernel, by decide +kernel⟩, by decide +kernel⟩
theorem wi_X12_rateOn : Cond.instanceMethod yX12_rateOn ∈ lw_tbl := tb_7 88 _ rfl
theorem wv_X12_rateOn : Cond.selects RX12 yX12_rateOn yX12_rateOn ∈ lw_tbl := tb_0 40 _ rfl
theorem md_X12_owed : z_md yX12_owed cX12_owed 5 (Option.some Jvm.ClassFile.FieldType.long) 1 := ⟨(tb_7 85 _ rfl), (tb_1 8 _ rfl), ⟨by decide +kernel, by decide +kernel⟩, by decide +kernel⟩
theorem wi_X12_owed : Cond.instanceMethod yX12_owed ∈ lw_tbl := tb_7 84 _ rfl
theorem wv_X12_owed : Cond.selects RX12 yX12_owed yX12_owed ∈ lw_tbl := tb_0 39 _ rfl
theorem md_X12_pay : z_md yX12_pay cX12_pay 4 (Option.some Jvm.ClassFile.FieldType.long) 2 := ⟨(tb_7 80 _ rfl), (tb_1 8 _ rfl), ⟨by decide +kernel, by decide +kernel⟩, by decide +kernel⟩
theorem wi_X12_pay : Cond.instanceMethod yX12_pay ∈ lw_tbl := tb_7 78 _ rfl
theorem wv_X12_pay : Cond.selects RX12 yX12_pay yX12_pay ∈ lw_tbl := tb_7 79 _ rfl
theorem md_X12_owes : z_md yX12_owes cX12_owes 2 (Option.some Jvm.ClassFile.FieldType.long) 1 := ⟨(tb_7 93 _ rfl), (tb_1 8 _ rfl), ⟨by decide +kernel, by decide +kernel⟩, by decide +kernel⟩
theorem wi_X12_owes : Cond.instanceMethod yX12_owes ∈ lw_tbl := tb_7 91 _ rfl
theorem wv_X12_owes : Cond.selects RX12 yX12_owes yX12_owes ∈ lw_tbl := tb_7 92 _ rfl
theorem md_X12_test : z_md yX12_test cX12_test 8 (Option.some Jvm.ClassFile.FieldType.int) 4 := ⟨(tb_7 97 _ rfl), (tb_1 8 _ rfl), ⟨by decide +kernel, by decide +kernel⟩, by decide +kernel⟩
theorem wi_X12_test : Cond.instanceMethod yX12_test ∈ lw_tbl := tb_7 95 _ rfl
theorem wv_X12_test : Cond.selects RX12 yX12_test yX12_test ∈ lw_tbl := tb_7 96 _ rfl
theorem md_X12_isInsured : z_md yX12_isInsured cX12_isInsured 3 (Option.some Jvm.ClassFile.FieldType.boolean) 2 := ⟨(tb_7 106 _ rfl), (tb_1 8 _ rfl), ⟨by decide +kernel, by decide +kernel⟩, by decide +kernel⟩
theorem wi_X12_isInsured : Cond.instanceMethod yX12_isInsured ∈ lw_tbl := tb_7 105 _ rfl
theorem wv_X12_isInsured : Cond.selects RX12 yX12_isInsured yX12_isInsured ∈ lw_tbl := tb_0 41 _ rfl
theorem md_X12_insure : z_md yX12_insure cX12_insure 9 (Option.some Jvm.ClassFile.FieldType.boolean) 2 := ⟨(tb_7 102 _ rfl), (tb_1 8 _ rfl), ⟨by decide +kernel, by decide +kernel⟩, by decide +kernel⟩
theorem wi_X12_insure : Cond.instanceMethod yX12_insure ∈ lw_tbl := tb_7 100 _ rfl
theorem wv_X12_insure : Cond.selects RX12 yX12_insure yX12_insure ∈ lw_tbl := tb_7 101 _ rfl
theorem md_X12_gap : z_md yX12_gap cX12_gap 5 (Option.some Jvm.ClassFile.FieldType.int) 1 := ⟨(tb_7 115 _ rfl), (tb_1 8 _ rfl), ⟨by decide +kernel, by decide +kernel⟩, by decide +kernel⟩
theorem wi_X12_gap : Cond.instanceMethod yX12_gap ∈ lw_tbl := tb_7 114 _ rfl
theorem wv_X12_gap : Cond.selects RX12 yX12_gap yX12_gap ∈ lw_tbl := tb_0 42 _ rfl
theorem md_X12_ofVehicle : z_md yX12_ofVehicle cX12_ofVehicle 4 (Option.some Jvm.ClassFile.FieldType.int) 2 := ⟨(tb_7 111 _ rfl), (tb_1 8 _ rfl), ⟨by decide +kernel, by decide +kernel⟩, by decide +kernel⟩
theorem wi_X12_ofVehicle : Cond.instanceMethod yX12_ofVehicle ∈ lw_tbl := tb_7 109 _ rfl
theorem wv_X12_ofVehicle : Cond.selects RX12 yX12_ofVehicle yX12_ofVehicle ∈ lw_tbl := tb_7 110 _ rfl
theorem md_X12_isSight : z_md yX12_isSight cX12_isSight 3 (Option.some Jvm.ClassFile.FieldType.boolean) 0 := ⟨(tb_7 143 _ rfl), (tb_1 8 _ rfl), ⟨by decide +kernel, by decide +kernel⟩, by decide +kernel⟩
theorem wi_X12_isSight : Cond.instanceMethod yX12_isSight ∈ lw_tbl := tb_7 142 _ rfl
theorem wv_X12_isSight : Cond.selects RX12 yX12_isSight yX12_isSight ∈ lw_tbl := tb_0 48 _ rfl
theorem md_X12_sight : z_md yX12_sight cX12_sight 5 (Option.some Jvm.ClassFile.FieldType.int) 2 := ⟨(tb_7 139 _ rfl), (tb_1 8 _ rfl), ⟨by decide +kernel, by decide +kernel⟩, by decide +kernel⟩
theorem wi_X12_sight : Cond.instanceMethod yX12_sight ∈ lw_tbl := tb_7 137 _ rfl
theorem wv_X12_sight : Cond.selects RX12 yX12_sight yX12_sight ∈ lw_tbl := tb_7 138 _ rfl
theorem md_X12_agrees : z_md yX12_agrees cX12_agrees 5 (Option.some Jvm.ClassFile.FieldType.boolean) 2 := ⟨(tb_7 127 _ rfl), (tb_1 8 _ rfl), ⟨by decide +kernel, by decide +kernel⟩, by decide +kernel⟩
theorem wi_X12_agrees : Cond.instanceMethod yX12_agrees ∈ lw_tbl := tb_7 126 _ rfl
theorem wv_X12_agrees : Cond.selects RX12 yX12_agrees yX12_agrees ∈ lw_tbl := tb_0 45 _ rfl
theorem md_X12_seenBy : z_md yX12_seenBy cX12_seenBy 6 (Option.some Jvm.ClassFile.FieldType.int) 1 := ⟨(tb_7 123 _ rfl), (tb_1 8 _ rfl), ⟨by decide +kernel, by decide +kernel⟩, by decide +kernel⟩
theorem wi_X12_seenBy : Cond.instanceMethod yX12_seenBy ∈ lw_tbl := tb_7 122 _ rfl
theorem wv_X12_seenBy : Cond.selects RX12 yX12_seenBy yX12_seenBy ∈ lw_tbl := tb_0 44 _ rfl
theorem md_X12_isSighting : z_md yX12_isSighting cX12_isSighting 2 (Option.some Jvm.ClassFile.FieldType.boolean) 1 := ⟨(tb_7 151 _ rfl), (tb_1 8 _ rfl), ⟨by decide +kernel, by decide +kernel⟩, by decide +kernel⟩
theorem wi_X12_isSighting : Cond.instanceMethod yX12_isSighting ∈ lw_tbl := tb_7 150 _ rfl
theorem wv_X12_isSighting : Cond.selects RX12 yX12_isSighting yX12_isSighting ∈ lw_tbl := tb_0 49 _ rfl
theorem md_X12_seen : z_md yX12_seen cX12_seen 2 (Option.some Jvm.ClassFile.FieldType.int) 1 := ⟨(tb_7 147 _ rfl), (tb_1 8 _ rfl), ⟨by decide +kernel, by decide +kernel⟩, by decide +kernel⟩
theorem wi_X12_seen : Cond.instanceMethod yX12_seen ∈ lw_tbl := tb_7 145 _ rfl
theorem wv_X12_seen : Cond.selects RX12 yX12_seen yX12_seen ∈ lw_tbl := tb_7 146 _ rfl
theorem md_X12_minutes : z_md yX12_minutes cX12_minutes 2 (Option.some Jvm.ClassFile.FieldType.int) 1 := ⟨(tb_7 135 _ rfl), (tb_1 8 _ rfl), ⟨by decide +kernel, by decide +kernel⟩, by decide +kernel⟩
theorem wi_X12_minutes : Cond.instanceMethod yX12_minutes ∈ lw_tbl := tb_7 134 _ rfl
theorem wv_X12_minutes : Cond.selects RX12 yX12_minutes yX12_minutes ∈ lw_tbl := tb_0 47 _ rfl
theorem md_X12_isBehind : z_md yX12_isBehind cX12_isBehind 3 (Option.some Jvm.ClassFile.FieldType.boolean) 2 := ⟨(tb_7 131 _ rfl), (tb_1 8 _ rfl), ⟨by decide +kernel, by decide +kernel⟩, by decide +kernel⟩
theorem wi_X12_isBehind : Cond.instanceMethod yX12_isBehind ∈ lw_tbl := tb_7 130 _ rfl
theorem wv_X12_isBehind : Cond.selects RX12 yX12_isBehind yX12_isBehind ∈ lw_tbl := tb_0 46 _ rfl
theorem md_X12_clones : z_md yX12_clones cX12_clones 7 (Option.some Jvm.ClassFile.FieldType.int) 1 := ⟨(tb_7 119 _ rfl), (tb_1 8 _ rfl), ⟨by decide +kernel, by decide +kernel⟩, by decide +kernel⟩
theorem wi_X12_clones : Cond.instanceMethod yX12_clones ∈ lw_tbl := tb_7 118 _ rfl
theorem wv_X12_clones : Cond.selects RX12 yX12_clones yX12_clones ∈ lw_tbl := tb_0 43 _ rfl
theorem md_X12_fine : z_md yX12_fine cX12_fine 5 (Option.some Jvm.ClassFile.FieldType.int) 2 := ⟨(tb_7 155 _ rfl), (tb_1 8 _ rfl), ⟨by decide +kernel, by decide +kernel⟩, by decide +kernel⟩
theorem wi_X12_fine : Cond.instanceMethod yX12_fine ∈ lw_tbl := tb_7 153 _ rfl
theorem wv_X12_fine : Cond.selects RX12 yX12_fine yX12_fine ∈ lw_tbl := tb_7 154 _ rfl
theorem md_X12_whoseIs : z_md yX12_whoseIs cX12_whoseIs 3 (Option.some Jvm.ClassFile.FieldType.int) 1 := ⟨(tb_7 167 _ rfl), (tb_1 8 _ rfl), ⟨by decide +kernel, by decide +kernel⟩, by decide +kernel⟩
theorem wi_X12_whoseIs : Cond.instanceMethod yX12_whoseIs ∈ lw_tbl := tb_7 166 _ rfl
theorem wv_X12_whoseIs : Cond.selects RX12 yX12_whoseIs yX12_whoseIs ∈ lw_tbl := tb_0 51 _ rfl
theorem md_X12_isFine : z_md yX12_isFine cX12_isFine 2 (Option.some Jvm.ClassFile.FieldType.boolean) 1 := ⟨(tb_7 163 _ rfl), (tb_1 8 _ rfl), ⟨by decide +kernel, by decide +kernel⟩, by decide +kernel⟩
theorem wi_X12_isFine : Cond.instanceMethod yX12_isFine ∈ lw_tbl := tb_7 162 _ rfl
theorem wv_X12_isFine : Cond.selects RX12 yX12_isFine yX12_isFine ∈ lw_tbl := tb_0 50 _ rfl
theorem md_X12_name : z_md yX12_name cX12_name 6 (Option.some Jvm.ClassFile.FieldType.int) 2 := ⟨(tb_7 159 _ rfl), (tb_1 8 _ rfl), ⟨by decide +kernel, by decide +kernel⟩, by decide +kernel⟩
theorem wi_X12_name : Cond.instanceMethod yX12_name ∈ lw_tbl := tb_7 157 _ rfl
theorem wv_X12_name : Cond.selects RX12 yX12_name yX12_name ∈ lw_tbl := tb_7 158 _ rfl
theorem md_X12_whose : z_md yX12_whose cX12_whose 2 (Option.some Jvm.ClassFile.FieldType.int) 1 := ⟨(tb_7 171 _ rfl), (tb_1 8 _ rfl), ⟨by decide +kernel, by decide +kernel⟩, by decide +kernel⟩
theorem wi_X12_whose : Cond.instanceMethod yX12_whose ∈ lw_tbl := tb_7 169 _ rfl
theorem wv_X12_whose : Cond.selects RX12 yX12_whose yX12_whose ∈ lw_tbl := tb_7 170 _ rfl
theorem md_X12_fines : z_md yX12_fines cX12_fines 4 (Option.some Jvm.ClassFile.FieldType.int) 1 := ⟨(tb_7 175 _ rfl), (tb_1 8 _ rfl), ⟨by decide +kernel, by decide +kernel⟩, by decide +kernel⟩
theorem wi_X12_fines : Cond.instanceMethod yX12_fines ∈ lw_tbl := tb_7 173 _ rfl
theorem wv_X12_fines : Cond.selects RX12 yX12_fines yX12_fines ∈ lw_tbl := tb_7 174 _ rfl
theorem md_X12_isWord : z_md yX12_isWord cX12_isWord 6 (Option.some Jvm.ClassFile.FieldType.boolean) 2 := ⟨(tb_7 186 _ rfl), (tb_1 8 _ rfl), ⟨by decide +kernel, by decide +kernel⟩, by decide +kernel⟩
theorem wi_X12_isWord : Cond.instanceMethod yX12_isWord ∈ lw_tbl := tb_7 185 _ rfl
theorem wv_X12_isWord : Cond.selects RX12 yX12_isWord yX12_isWord ∈ lw_tbl := tb_0 52 _ rfl
theorem md_X12_word : z_md yX12_word cX12_word 9 (Option.some Jvm.ClassFile.FieldType.long) 7 := ⟨(tb_7 182 _ rfl), (tb_1 8 _ rfl), ⟨by decide +kernel, by decide +kernel⟩, by decide +kernel⟩
theorem ws_X12_word : Cond.static yX12_word ∈ lw_tbl := tb_7 181 _ rfl
theorem md_X12_look : z_md yX12_look cX12_look 8 (Option.some Jvm.ClassFile.FieldType.int) 1 := ⟨(tb_7 179 _ rfl), (tb_1 8 _ rfl), ⟨by decide +kernel, by decide +kernel⟩, by decide +kernel⟩
theorem wi_X12_look : Cond.instanceMethod yX12_look ∈ lw_tbl := tb_7 177 _ rfl
theorem wv_X12_look : Cond.selects RX12 yX12_look yX12_look ∈ lw_tbl := tb_7 178 _ rfl
theorem md_X12_looked : z_md yX12_looked cX12_looked 2 (Option.some Jvm.ClassFile.FieldType.int) 1 := ⟨(tb_7 191 _ rfl), (tb_1 8 _ rfl), ⟨by decide +kernel, by decide +kernel⟩, by decide +kernel⟩
theorem wi_X12_looked : Cond.instanceMethod yX12_looked ∈ lw_tbl := tb_7 189 _ rfl
theorem wv_X12_looked : Cond.selects RX12 yX12_looked yX12_looked ∈ lw_tbl := tb_7 190 _ rfl
theorem md_X12_pass : z_md yX12_pass cX12_pass 3 (Option.some Jvm.ClassFile.FieldType.int) 1 := ⟨(tb_7 195 _ rfl), (tb_1 8 _ rfl), ⟨by decide +kernel, by decide +kernel⟩, by decide +kernel⟩
theorem wi_X12_pass : Cond.instanceMethod yX12_pass ∈ lw_tbl := tb_7 193 _ rfl
theorem wv_X12_pass : Cond.selects RX12 yX12_pass yX12_pass ∈ lw_tbl := tb_7 194 _ rfl
theorem md_J9_abs_0f7a4 : z_md yJ9_abs_0f7a4 cJ9_abs_0f7a4 1 (Option.some Jvm.ClassFile.FieldType.int) 1 := ⟨(tb_5 117 _ rfl), (tb_1 21 _ rfl), ⟨by decide +kernel, by decide +kernel⟩, by decide +kernel⟩
theorem ws_J9_abs_0f7a4 : Cond.static yJ9_abs_0f7a4 ∈ lw_tbl := tb_5 116 _ rfl
theorem md_J9_max_7cf53 : z_md yJ9_max_7cf53 cJ9_max_7cf53 2 (Option.some Jvm.ClassFile.FieldType.int) 2 := ⟨(tb_2 178 _ rfl), (tb_1 21 _ rfl), ⟨by decide +kernel, by decide +kernel⟩, by decide +kernel⟩
theorem ws_J9_max_7cf53 : Cond.static yJ9_max_7cf53 ∈ lw_tbl := tb_2 177 _ rfl
theorem md_J9_min_7cf53 : z_md yJ9_min_7cf53 cJ9_min_7cf53 2 (Option.some Jvm.ClassFile.FieldType.int) 2 := ⟨(tb_2 217 _ rfl), (tb_1 21 _ rfl), ⟨by decide +kernel, by decide +kernel⟩, by decide +kernel⟩
theorem ws_J9_min_7cf53 : Cond.static yJ9_min_7cf53 ∈ lw_tbl := tb_2 216 _ rfl
theorem md_J0_length_8abf5 : z_md yJ0_length_8abf5 cJ0_length_8abf5 1 (Option.some Jvm.ClassFile.FieldType.int) 0 := ⟨(tb_3 206 _ rfl), (tb_1 29 _ rfl), ⟨by decide +kernel, by decide +kernel⟩, by decide +kernel⟩
theorem wi_J0_length_8abf5 : Cond.instanceMethod yJ0_length_8abf5 ∈ lw_tbl := tb_3 204 _ rfl
theorem wv_J0_length_8abf5 : Cond.selects RJ0 yJ0_length_8abf5 yJ0_length_8abf5 ∈ lw_tbl := tb_3 205 _ rfl
theorem md_J0_charAt_5068e : z_md yJ0_charAt_5068e cJ0_charAt_5068e 2 (Option.some Jvm.ClassFile.FieldType.char) 1 := ⟨(tb_6 10 _ rfl), (tb_1 29 _ rfl), ⟨by decide +kernel, by decide +kernel⟩, by decide +kernel⟩
theorem wi_J0_charAt_5068e : Cond.instanceMethod yJ0_charAt_5068e ∈ lw_tbl := tb_6 8 _ rfl
theorem wv_J0_charAt_5068e : Cond.selects RJ0 yJ0_charAt_5068e yJ0_charAt_5068e ∈ lw_tbl := tb_6 9 _ rfl
theorem md_J0_coder_7d493 : z_md yJ0_coder_7d493 cJ0_coder_7d493 1 (Option.some Jvm.ClassFile.FieldType.byte) 0 := ⟨(tb_3 210 _ rfl), (tb_1 29 _ rfl), ⟨by decide +kernel, by decide +kernel⟩, by decide +kernel⟩
theorem wi_J0_coder_7d493 : Cond.instanceMethod yJ0_coder_7d493 ∈ lw_tbl := tb_3 208 _ rfl
theorem wv_J0_coder_7d493 : Cond.selects RJ0 yJ0_coder_7d493 yJ0_coder_7d493 ∈ lw_tbl := tb_3 209 _ rfl
theorem md_J0_isLatin1_aae02 : z_md yJ0_isLatin1_aae02 cJ0_isLatin1_aae02 1 (Option.some Jvm.ClassFile.FieldType.boolean) 0 := ⟨(tb_6 14 _ rfl), (tb_1 29 _ rfl), ⟨by decide +kernel, by decide +kernel⟩, by decide +kernel⟩
theorem wi_J0_isLatin1_aae02 : Cond.instanceMethod yJ0_isLatin1_aae02 ∈ lw_tbl := tb_6 12 _ rfl
theorem wv_J0_isLatin1_aae02 : Cond.selects RJ0 yJ0_isLatin1_aae02 yJ0_isLatin1_aae02 ∈ lw_tbl := tb_6 13 _ rfl
theorem md_J0_checkIndex_df160 : z_md yJ0_checkIndex_df160 cJ0_checkIndex_df160 2 (Option.none : Option Jvm.ClassFile.FieldType) 2 := ⟨(tb_6 20 _ rfl), (tb_1 29 _ rfl), ⟨by decide +kernel, by decide +kernel⟩, by decide +kernel⟩
theorem ws_J0_checkIndex_df160 : Cond.static yJ0_checkIndex_df160 ∈ lw_tbl := tb_6 19 _ rfl
theorem md_J1_charAt_3b067 : z_md yJ1_charAt_3b067 cJ1_charAt_3b067 2 (Option.some Jvm.ClassFile.FieldType.char) 2 := ⟨(tb_6 17 _ rfl), (tb_1 31 _ rfl), ⟨by decide +kernel, by decide +kernel⟩, by decide +kernel⟩
theorem ws_J1_charAt_3b067 : Cond.static yJ1_charAt_3b067 ∈ lw_tbl := tb_6 16 _ rfl
theorem md_Jxa1e45_init_da8c8 : z_md yJxa1e45_init_da8c8 cJxa1e45_init_da8c8 1 (Option.none : Option Jvm.ClassFile.FieldType) 0 := ⟨(tb_1 88 _ rfl), (tb_1 4 _ rfl), ⟨by decide +kernel, by decide +kernel⟩, by decide +kernel⟩
theorem wi_Jxa1e45_init_da8c8 : Cond.instanceMethod yJxa1e45_init_da8c8 ∈ lw_tbl := tb_1 87 _ rfl
theorem md_Jxc12de_init_da8c8 : z_md yJxc12de_init_da8c8 cJxc12de_init_da8c8 1 (Option.none : Option Jvm.ClassFile.FieldType) 0 := ⟨(tb_1 85 _ rfl), (tb_1 5 _ rfl), ⟨by decide +kernel, by decide +kernel⟩, by decide +kernel⟩
theorem wi_Jxc12de_init_da8c8 : Cond.instanceMethod yJxc12de_init_da8c8 ∈ lw_tbl := tb_1 84 _ rfl
theorem md_Jx4a65c_init_da8c8 : z_md yJx4a65c_init_da8c8 cJx4a65c_init_da8c8 1 (Option.none : Option Jvm.ClassFile.FieldType) 0 := ⟨(tb_1 82 _ rfl), (tb_1 6 _ rfl), ⟨by decide +kernel, by decide +kernel⟩, by decide +kernel⟩
theorem wi_Jx4a65c_init_da8c8 : Cond.instanceMethod yJx4a65c_init_da8c8 ∈ lw_tbl := tb_1 81 _ rfl
theorem md_Jx4a65c_grow_92f84 : z_md yJx4a65c_grow_92f84 cJx4a65c_grow_92f84 4 (Option.some (Jvm.ClassFile.FieldType.array (Jvm.ClassFile.FieldType.object "java/lang/Object"))) 1 := ⟨(tb_2 172 _ rfl), (tb_1 6 _ rfl), ⟨by decide +kernel, by decide +kernel⟩, by decide +kernel⟩
theorem wi_Jx4a65c_grow_92f84 : Cond.instanceMethod yJx4a65c_grow_92f84 ∈ lw_tbl := tb_2 171 _ rfl
theorem wv_Jx4a65c_grow_92f84 : Cond.selects RJx4a65c yJx4a65c_grow_92f84 yJx4a65c_grow_92f84 ∈ lw_tbl := tb_0 4 _ rfl
theorem md_Jx4a65c_grow_d5877 : z_md yJx4a65c_grow_d5877 cJx4a65c_grow_d5877 1 (Option.some (Jvm.ClassFile.FieldType.array (Jvm.ClassFile.FieldType.object "java/lang/Object"))) 0 := ⟨(tb_2 168 _ rfl), (tb_1 6 _ rfl), ⟨by decide +kernel, by decide +kernel⟩, by decide +kernel⟩
theorem wi_Jx4a65c_grow_d5877 : Cond.instanceMethod yJx4a65c_grow_d5877 ∈ lw_tbl := tb_2 167 _ rfl
theorem wv_Jx4a65c_grow_d5877 : Cond.selects RJx4a65c yJx4a65c_grow_d5877 yJx4a65c_grow_d5877 ∈ lw_tbl := tb_0 3 _ rfl
theorem md_Jx4a65c_size_8abf5 : z_md yJx4a65c_size_8abf5 cJx4a65c_size_8abf5 1 (Option.some Jvm.ClassFile.FieldType.int) 0 := ⟨(tb_2 36 _ rfl), (tb_1 6 _ rfl), ⟨by decide +kernel, by decide +kernel⟩, by decide +kernel⟩
theorem wi_Jx4a65c_size_8abf5 : Cond.instanceMethod yJx4a65c_size_8abf5 ∈ lw_tbl := tb_2 34 _ rfl
theorem wv_Jx4a65c_size_8abf5 : Cond.selects RJx4a65c yJx4a65c_size_8abf5 yJx4a65c_size_8abf5 ∈ lw_tbl := tb_2 35 _ rfl
theorem md_Jx4a65c_elementData_915e3 : z_md yJx4a65c_elementData_915e3 cJx4a65c_elementData_915e3 2 (Option.some (Jvm.ClassFile.FieldType.object "java/lang/Object")) 1 := ⟨(tb_2 50 _ rfl), (tb_1 6 _ rfl), ⟨by decide +kernel, by decide +kernel⟩, by decide +kernel⟩
theorem wi_Jx4a65c_elementData_915e3 : Cond.instanceMethod yJx4a65c_elementData_915e3 ∈ lw_tbl := tb_2 48 _ rfl
theorem wv_Jx4a65c_elementData_915e3 : Cond.selects RJx4a65c yJx4a65c_elementData_915e3 yJx4a65c_elementData_915e3 ∈ lw_tbl := tb_2 49 _ rfl
theorem md_Jx4a65c_get_915e3 : z_md yJx4a65c_get_915e3 cJx4a65c_get_915e3 2 (Option.some (Jvm.ClassFile.FieldType.object "java/lang/Object")) 1 := ⟨(tb_2 40 _ rfl), (tb_1 6 _ rfl), ⟨by decide +kernel, by decide +kernel⟩, by decide +kernel⟩
theorem wi_Jx4a65c_get_915e3 : Cond.instanceMethod yJx4a65c_get_915e3 ∈ lw_tbl := tb_2 38 _ rfl
theorem wv_Jx4a65c_get_915e3 : Cond.selects RJx4a65c yJx4a65c_get_915e3 yJx4a65c_get_915e3 ∈ lw_tbl := tb_2 39 _ rfl
theorem md_Jx4a65c_add_72be8 : z_md yJx4a65c_add_72be8 cJx4a65c_add_72be8 4 (Option.none : Option Jvm.ClassFile.FieldType) 3 := ⟨(tb_2 164 _ rfl), (tb_1 6 _ rfl), ⟨by decide +kernel, by decide +kernel⟩, by decide +kernel⟩
theorem wi_Jx4a65c_add_72be8 : Cond.instanceMethod yJx4a65c_add_72be8 ∈ lw_tbl := tb_2 163 _ rfl
theorem wv_Jx4a65c_add_72be8 : Cond.selects RJx4a65c yJx4a65c_add_72be8 yJx4a65c_add_72be8 ∈ lw_tbl := tb_0 2 _ rfl
theorem md_Jx4a65c_add_9ea2d : z_md yJx4a65c_add_9ea2d cJx4a65c_add_9ea2d 2 (Option.some Jvm.ClassFile.FieldType.boolean) 1 := ⟨(tb_2 160 _ rfl), (tb_1 6 _ rfl), ⟨by decide +kernel, by decide +kernel⟩, by decide +kernel⟩
theorem wi_Jx4a65c_add_9ea2d : Cond.instanceMethod yJx4a65c_add_9ea2d ∈ lw_tbl := tb_2 158 _ rfl
theorem wv_Jx4a65c_add_9ea2d : Cond.selects RJx4a65c yJx4a65c_add_9ea2d yJx4a65c_add_9ea2d ∈ lw_tbl := tb_2 159 _ rfl
theorem md_Jx4a65c_add_7a177 : z_md yJx4a65c_add_7a177 cJx4a65c_add_7a177 5 (Option.none : Option Jvm.ClassFile.FieldType) 2 := ⟨(tb_3 98 _ rfl), (tb_1 6 _ rfl), ⟨by decide +kernel, by decide +kernel⟩, by decide +kernel⟩
theorem wi_Jx4a65c_add_7a177 : Cond.instanceMethod yJx4a65c_add_7a177 ∈ lw_tbl := tb_3 96 _ rfl
theorem wv_Jx4a65c_add_7a177 : Cond.selects RJx4a65c yJx4a65c_add_7a177 yJx4a65c_add_7a177 ∈ lw_tbl := tb_3 97 _ rfl
theorem md_Jx4a65c_rangeCheckForAdd_d00df : z_md yJx4a65c_rangeCheckForAdd_d00df cJx4a65c_rangeCheckForAdd_d00df 2 (Option.none : Option Jvm.ClassFile.FieldType) 1 := ⟨(tb_3 102 _ rfl), (tb_1 6 _ rfl), ⟨by decide +kernel, by decide +kernel⟩, by decide +kernel⟩
theorem wi_Jx4a65c_rangeCheckForAdd_d00df : Cond.instanceMethod yJx4a65c_rangeCheckForAdd_d00df ∈ lw_tbl := tb_3 101 _ rfl
theorem wv_Jx4a65c_rangeCheckForAdd_d00df : Cond.selects RJx4a65c yJx4a65c_rangeCheckForAdd_d00df yJx4a65c_rangeCheckForAdd_d00df ∈ lw_tbl := tb_0 7 _ rfl
theorem md_J7_copyOf_1904c : z_md yJ7_copyOf_1904c cJ7_copyOf_1904c 2 (Option.some (Jvm.ClassFile.FieldType.array (Jvm.ClassFile.FieldType.object "java/lang/Object"))) 2 := ⟨(tb_2 185 _ rfl), (tb_1 22 _ rfl), ⟨by decide +kernel, by decide +kernel⟩, by decide +kernel⟩
theorem ws_J7_copyOf_1904c : Cond.static yJ7_copyOf_1904c ∈ lw_tbl := tb_2 184 _ rfl
theorem md_J7_copyOf_6403c : z_md yJ7_copyOf_6403c cJ7_copyOf_6403c 4 (Option.some (Jvm.ClassFile.FieldType.array (Jvm.ClassFile.FieldType.object "java/lang/Object"))) 3 := ⟨(tb_2 211 _ rfl), (tb_1 22 _ rfl), ⟨by decide +kernel, by decide +kernel⟩, by decide +kernel⟩
theorem ws_J7_copyOf_6403c : Cond.static yJ7_copyOf_6403c ∈ lw_tbl := tb_2 210 _ rfl
theorem md_J7_copyOf_59c91 : z_md yJ7_copyOf_59c91 cJ7_copyOf_59c91 3 (Option.some (Jvm.ClassFile.FieldType.array Jvm.ClassFile.FieldType.int)) 2 := ⟨(tb_4 218 _ rfl), (tb_1 22 _ rfl), ⟨by decide +kernel, by decide +kernel⟩, by decide +kernel⟩
theorem ws_J7_copyOf_59c91 : Cond.static yJ7_copyOf_59c91 ∈ lw_tbl := tb_4 217 _ rfl
theorem md_J15_checkIndex_7cf53 : z_md yJ15_checkIndex_7cf53 cJ15_checkIndex_7cf53 2 (Option.some Jvm.ClassFile.FieldType.int) 2 := ⟨(tb_2 43 _ rfl), (tb_1 14 _ rfl), ⟨by decide +kernel, by decide +kernel⟩, by decide +kernel⟩
theorem ws_J15_checkIndex_7cf53 : Cond.static yJ15_checkIndex_7cf53 ∈ lw_tbl := tb_2 42 _ rfl
theorem md_J8_newLength_cabcc : z_md yJ8_newLength_cabcc cJ8_newLength_cabcc 4 (Option.some Jvm.ClassFile.FieldType.int) 3 := ⟨(tb_2 175 _ rfl), (tb_1 20 _ rfl), ⟨by decide +kernel, by decide +kernel⟩, by decide +kernel⟩
theorem ws_J8_newLength_cabcc : Cond.static yJ8_newLength_cabcc ∈ lw_tbl := tb_2 174 _ rfl
theorem md_J3_checkIndex_8e157 : z_md yJ3_checkIndex_8e157 cJ3_checkIndex_8e157 3 (Option.some Jvm.ClassFile.FieldType.int) 3 := ⟨(tb_2 46 _ rfl), (tb_1 15 _ rfl), ⟨by decide +kernel, by decide +kernel⟩, by decide +kernel⟩
theorem ws_J3_checkIndex_8e157 : Cond.static yJ3_checkIndex_8e157 ∈ lw_tbl := tb_2 45 _ rfl
theorem ws_L_type : Cond.static yL_type ∈ lw_tbl := tb_1 162 _ rfl
theorem ws_L_vehicle : Cond.static yL_vehicle ∈ lw_tbl := tb_1 238 _ rfl
theorem ws_L_stamped : Cond.static yL_stamped ∈ lw_tbl := tb_2 224 _ rfl
theorem ws_L_person : Cond.static yL_person ∈ lw_tbl := tb_2 235 _ rfl
theorem ws_L_protect : Cond.static yL_protect ∈ lw_tbl := tb_3 17 _ rfl
theorem ws_L_tell : Cond.static yL_tell ∈ lw_tbl := tb_3 44 _ rfl
theorem ws_L_on : Cond.static yL_on ∈ lw_tbl := tb_4 133 _ rfl
theorem ws_L_onAnew : Cond.static yL_onAnew ∈ lw_tbl := tb_4 152 _ rfl
theorem ws_L_bar : Cond.static yL_bar ∈ lw_tbl := tb_4 163 _ rfl
theorem ws_L_allot : Cond.static yL_allot ∈ lw_tbl := tb_4 177 _ rfl
theorem ws_L_wish : Cond.static yL_wish ∈ lw_tbl := tb_4 225 _ rfl
theorem ws_L_plate : Cond.static yL_plate ∈ lw_tbl := tb_5 7 _ rfl
theorem ws_L_rate : Cond.static yL_rate ∈ lw_tbl := tb_5 21 _ rfl
theorem ws_L_pay : Cond.static yL_pay ∈ lw_tbl := tb_5 29 _ rfl
theorem ws_L_owes : Cond.static yL_owes ∈ lw_tbl := tb_5 53 _ rfl
theorem ws_L_test : Cond.static yL_test ∈ lw_tbl := tb_5 60 _ rfl
theorem ws_L_insure : Cond.static yL_insure ∈ lw_tbl := tb_5 74 _ rfl
theorem ws_L_ofVehicle : Cond.static yL_ofVehicle ∈ lw_tbl := tb_5 81 _ rfl
theorem ws_L_sight : Cond.static yL_sight ∈ lw_tbl := tb_5 119 _ rfl
theorem ws_L_seen : Cond.static yL_seen ∈ lw_tbl := tb_5 157 _ rfl
theorem ws_L_fine : Cond.static yL_fine ∈ lw_tbl := tb_5 168 _ rfl
theorem ws_L_name : Cond.static yL_name ∈ lw_tbl := tb_5 202 _ rfl
theorem ws_L_whose : Cond.static yL_whose ∈ lw_tbl := tb_5 221 _ rfl
theorem ws_L_fines : Cond.static yL_fines ∈ lw_tbl := tb_5 228 _ rfl
theorem ws_L_look : Cond.static yL_look ∈ lw_tbl := tb_5 235 _ rfl
theorem ws_L_looked : Cond.static yL_looked ∈ lw_tbl := tb_6 36 _ rfl
theorem ws_L_pass : Cond.static yL_pass ∈ lw_tbl := tb_6 43 _ rfl
end
section
/-- the two pictures are alike off P -/
def z_agree (P : Nat → Prop) (h h1 : zH) : Prop := ∀ b, ¬ P b → kd_ h b ≠ 0 → kd_ h1 b = kd_ h b ∧ ln_ h1 b = ln_ h b ∧ (∀ j, fi_ h1 b j = fi_ h b j) ∧ (∀ j, fj_ h1 b j = fj_ h b j) ∧ (∀ j, fr_ h1 b j = fr_ h b j) ∧ (∀ j, ai_ h1 b j = ai_ h b j) ∧ (∀ j, aj_ h1 b j = aj_ h b j) ∧ (∀ j, ar_ h1 b j = ar_ h b j)
theorem z_agree.refl {P : Nat → Prop} {h : zH} : z_agree P h h := fun b _ _ => ⟨rfl, rfl, fun _ => rfl, fun _ => rfl, fun _ => rfl, fun _ => rfl, fun _ => rfl, fun _ => rfl⟩
theorem z_agree.trans {P : Nat → Prop} {h h1 h2 : zH} (x : z_agree P h h1) (y : z_agree P h1 h2) : z_agree P h h2 := by
  intro b hb h0
  obtain ⟨a1, a2, a3, a4, a5, a6, a7, a8⟩ := x b hb h0
  obtain ⟨b1, b2, b3, b4, b5, b6, b7, b8⟩ := y b hb (by rw [a1]; exact h0)
  exact ⟨b1.trans a1, b2.trans a2, fun j => (b3 j).trans (a3 j), fun j => (b4 j).trans (a4 j), fun j => (b5 j).trans (a5 j), fun j => (b6 j).trans (a6 j), fun j => (b7 j).trans (a7 j), fun j => (b8 j).trans (a8 j)⟩
theorem z_agree.mono {P P' : Nat → Prop} {h h1 : zH} (x : z_agree P h h1) (hp : ∀ b, P b → P' b) : z_agree P' h h1 := fun b hb h0 => x b (fun q => hb (hp b q)) h0
theorem zu2_at {α : Type} {f : Nat → Nat → α} {a k : Nat} {v : α} : zu2 f a k v a k = v := by simp [zu2]
theorem zu2_ne {α : Type} {f : Nat → Nat → α} {a k b j : Nat} {v : α} (hn : ¬ (b = a ∧ j = k)) : zu2 f a k v b j = f b j := by unfold zu2; rw [if_neg hn]
theorem zu1_at {α : Type} {f : Nat → α} {a : Nat} {v : α} : zu1 f a v a = v := by simp [zu1]
theorem zu1_ne {α : Type} {f : Nat → α} {a b : Nat} {v : α} (hn : ¬ b = a) : zu1 f a v b = f b := by unfold zu1; rw [if_neg hn]
theorem agree_sfi {P : Nat → Prop} {h : zH} {a k : Nat} {v : Int} (ha : P a) : z_agree P h (sfi h a k v) := fun b hb _ => ⟨rfl, rfl, fun j => zu2_ne (fun q => hb (by rw [q.1]; exact ha)), fun _ => rfl, fun _ => rfl, fun _ => rfl, fun _ => rfl, fun _ => rfl⟩
theorem agree_sfj {P : Nat → Prop} {h : zH} {a k : Nat} {v : Int} (ha : P a) : z_agree P h (sfj h a k v) := fun b hb _ => ⟨rfl, rfl, fun _ => rfl, fun j => zu2_ne (fun q => hb (by rw [q.1]; exact ha)), fun _ => rfl, fun _ => rfl, fun _ => rfl, fun _ => rfl⟩
theorem agree_sfr {P : Nat → Prop} {h : zH} {a k : Nat} {v : Option Nat} (ha : P a) : z_agree P h (sfr h a k v) := fun b hb _ => ⟨rfl, rfl, fun _ => rfl, fun _ => rfl, fun j => zu2_ne (fun q => hb (by rw [q.1]; exact ha)), fun _ => rfl, fun _ => rfl, fun _ => rfl⟩
theorem agree_sai {P : Nat → Prop} {h : zH} {a k : Nat} {v : Int} (ha : P a) : z_agree P h (sai h a k v) := fun b hb _ => ⟨rfl, rfl, fun _ => rfl, fun _ => rfl, fun _ => rfl, fun j => zu2_ne (fun q => hb (by rw [q.1]; exact ha)), fun _ => rfl, fun _ => rfl⟩
theorem agree_saj {P : Nat → Prop} {h : zH} {a k : Nat} {v : Int} (ha : P a) : z_agree P h (saj h a k v) := fun b hb _ => ⟨rfl, rfl, fun _ => rfl, fun _ => rfl, fun _ => rfl, fun _ => rfl, fun j => zu2_ne (fun q => hb (by rw [q.1]; exact ha)), fun _ => rfl⟩
theorem agree_sar {P : Nat → Prop} {h : zH} {a k : Nat} {v : Option Nat} (ha : P a) : z_agree P h (sar h a k v) := fun b hb _ => ⟨rfl, rfl, fun _ => rfl, fun _ => rfl, fun _ => rfl, fun _ => rfl, fun _ => rfl, fun j => zu2_ne (fun q => hb (by rw [q.1]; exact ha))⟩
theorem agree_nob {P : Nat → Prop} {h : zH} {a c : Nat} (ha : kd_ h a = 0) : z_agree P h (nob h a c) := fun b _ h0 => by
  have hn : ¬ b = a := fun q => h0 (by rw [q]; exact ha)
  exact ⟨zu1_ne hn, rfl, fun _ => if_neg hn, fun _ => if_neg hn, fun _ => if_neg hn, fun _ => rfl, fun _ => rfl, fun _ => rfl⟩
theorem agree_nar {P : Nat → Prop} {h : zH} {a k n : Nat} (ha : kd_ h a = 0) : z_agree P h (nar h a k n) := fun b _ h0 => by
  have hn : ¬ b = a := fun q => h0 (by rw [q]; exact ha)
  exact ⟨zu1_ne hn, zu1_ne hn, fun _ => rfl, fun _ => rfl, fun _ => rfl, fun _ => if_neg hn, fun _ => if_neg hn, fun _ => if_neg hn⟩
section Geti
variable {g : zGT} {M : zM} {mc ms : Nat} {Q : zO → zH → Prop} {pc : Nat} {lv : List (Option Value)} {st : List Value} {h : zH} {bc bs : Nat}
theorem r_geti {ci C T N ty a idx} {ref : String} {z : Int} (hg : zG g) (zc : z_cls ci C T N ty) (k : Nat) (hk : k < N) (hv : ∀ i j r, z_val (ty k) i j r = .int (zI i)) (hz : fi_ h a k = z) (hkd : kd_ h a = ci + 1) (href : ref = (T k).1 ∨ Cond.sameField ref (T k).1 (T k).2.1 (T k).2.2.1 ∈ lw_tbl) (hlink : Cond.fieldLink M.1 idx ref (T k).2.1 (T k).2.2.1 ∈ lw_tbl) (pc' : Nat) (hp : pc + 3 = pc') (d : decode M.2.1 pc = .ok (.getfield idx, 3)) (kk : zX g M mc ms Q pc' lv (.int (zI z) :: st) h bc bs) : zX g M mc ms Q pc lv (.ref a :: st) h bc bs := by
  refine r_getf hg zc k hk ?_ hkd href hlink pc' hp d kk
  unfold z_fld
  rw [zc.2.2.2.2.1, hv, hz]
theorem r_getj {ci C T N ty a idx} {ref : String} {z : Int} (hg : zG g) (zc : z_cls ci C T N ty) (k : Nat) (hk : k < N) (hv : ∀ i j r, z_val (ty k) i j r = .long (zL j)) (hz : fj_ h a k = z) (hkd : kd_ h a = ci + 1) (href : ref = (T k).1 ∨ Cond.sameField ref (T k).1 (T k).2.1 (T k).2.2.1 ∈ lw_tbl) (hlink : Cond.fieldLink M.1 idx ref (T k).2.1 (T k).2.2.1 ∈ lw_tbl) (pc' : Nat) (hp : pc + 3 = pc') (d : decode M.2.1 pc = .ok (.getfield idx, 3)) (kk : zX g M mc ms Q pc' lv (.long (zL z) :: st) h bc bs) : zX g M mc ms Q pc lv (.ref a :: st) h bc bs := by
  refine r_getf hg zc k hk ?_ hkd href hlink pc' hp d kk
  unfold z_fld
  rw [zc.2.2.2.2.1, hv, hz]
theorem r_getr {ci C T N ty a idx} {ref : String} {b : Nat} (hg : zG g) (zc : z_cls ci C T N ty) (k : Nat) (hk : k < N) (hv : ∀ i j r, z_val (ty k) i j r = va_rf r) (hz : fr_ h a k = some b) (hkd : kd_ h a = ci + 1) (href : ref = (T k).1 ∨ Cond.sameField ref (T k).1 (T k).2.1 (T k).2.2.1 ∈ lw_tbl) (hlink : Cond.fieldLink M.1 idx ref (T k).2.1 (T k).2.2.1 ∈ lw_tbl) (pc' : Nat) (hp : pc + 3 = pc') (d : decode M.2.1 pc = .ok (.getfield idx, 3)) (kk : zX g M mc ms Q pc' lv (.ref b :: st) h bc bs) : zX g M mc ms Q pc lv (.ref a :: st) h bc bs := by
  refine r_getf hg zc k hk ?_ hkd href hlink pc' hp d kk
  unfold z_fld
  rw [zc.2.2.2.2.1, hv, hz]
  rfl
end Geti

def z_mk : Nat → Nat := fun k => [0, 0, 0, 21, 0, 20, 20, 20, 20, 20, 20, 20, 0, 22, 20, 22, 0, 23, 0, 23, 0, 20, 20, 20, 23, 20, 20, 20, 20, 20, 23, 0, 21, 20, 20, 20, 0, 20, 20, 20, 20, 20, 0, 0].getD k 0
def z_ml : Nat → Nat := fun k => [0, 0, 0, 8, 0, 12, 12, 12, 12, 360, 360, 360, 0, 10, 10, 676, 0, 1057, 0, 67600, 0, 40, 40, 40, 12, 12, 12, 12, 12, 12, 3756, 0, 160, 40, 40, 40, 0, 20, 20, 20, 20, 20, 0, 0].getD k 0
/-- the reference's state: its numbers by the places of its fields, its rows -/
abbrev zS : Type := (Nat → Int) × (Nat → Nat → Int)
def MOwn (m : Nat) (A : Nat → Nat) : Nat → Prop := fun b => b = m ∨ ∃ k, z_mk k ≠ 0 ∧ b = A k
def MOK (h : zH) (m : Nat) (A : Nat → Nat) : Prop := kd_ h m = 16 ∧ (∀ k, z_mk k ≠ 0 → fr_ h m k = some (A k) ∧ kd_ h (A k) = z_mk k ∧ ln_ h (A k) = z_ml k) ∧ (∀ j k, z_mk j ≠ 0 → z_mk k ≠ 0 → A j = A k → j = k)
def z_free (k : Nat) : Prop := k = 0 ∨ k = 42 ∨ k = 43
def MRep (h : zH) (m : Nat) (A : Nat → Nat) (S : zS) : Prop := MOK h m A ∧ (∀ k, ¬ z_free k → z_mk k = 0 → fi_ h m k = S.1 k) ∧ (∀ k i, z_mk k ≠ 0 → z_mk k ≠ 23 → ai_ h (A k) i = S.2 k i) ∧ (∀ k i, z_mk k = 23 → aj_ h (A k) i = S.2 k i)
/-- the reference m stands in h for S; since h0 nothing but its own has changed -/
def MI (h0 : zH) (m : Nat) (A : Nat → Nat) (S : zS) (t : Int) (h : zH) : Prop := MRep h m A S ∧ z_agree (MOwn m A) h0 h ∧ fi_ h m 0 = t
theorem MOwn.me {m : Nat} {A : Nat → Nat} : MOwn m A m := Or.inl rfl
theorem MOwn.arr {m : Nat} {A : Nat → Nat} {k : Nat} (hk : z_mk k ≠ 0) : MOwn m A (A k) := Or.inr ⟨k, hk, rfl⟩
theorem MI.refl {h : zH} {m : Nat} {A : Nat → Nat} {S : zS} (x : MRep h m A S) : MI h m A S (fi_ h m 0) h := ⟨x, .refl, rfl⟩
theorem MI.from {h0 h h1 : zH} {m : Nat} {A : Nat → Nat} {S S1 : zS} {t t1 : Int} (x : MI h0 m A S t h) (y : MI h m A S1 t1 h1) : MI h0 m A S1 t1 h1 := ⟨y.1, x.2.1.trans y.2.1, y.2.2⟩
theorem MI.sc {h0 h : zH} {m : Nat} {A : Nat → Nat} {S : zS} {t : Int} (x : MI h0 m A S t h) (k : Nat) (hf : ¬ z_free k) (hk : z_mk k = 0) : fi_ h m k = S.1 k := x.1.2.1 k hf hk
theorem MI.fr {h0 h : zH} {m : Nat} {A : Nat → Nat} {S : zS} {t : Int} (x : MI h0 m A S t h) (k : Nat) (hk : z_mk k ≠ 0) : fr_ h m k = some (A k) := (x.1.1.2.1 k hk).1
theorem MI.kd {h0 h : zH} {m : Nat} {A : Nat → Nat} {S : zS} {t : Int} (x : MI h0 m A S t h) : kd_ h m = 15 + 1 := x.1.1.1
theorem MI.ne {h0 h : zH} {m : Nat} {A : Nat → Nat} {S : zS} {t : Int} (x : MI h0 m A S t h) (k : Nat) (hk : z_mk k ≠ 0) (h9 : z_mk k ≠ 16) : A k ≠ m := fun q => h9 (by rw [← (x.1.1.2.1 k hk).2.1, q]; exact x.1.1.1)
theorem z_mk_16 (k : Nat) : z_mk k ≠ 16 := by
  unfold z_mk
  by_cases hk : k < 44
  · have : ∀ k, k < 44 → ([0, 0, 0, 21, 0, 20, 20, 20, 20, 20, 20, 20, 0, 22, 20, 22, 0, 23, 0, 23, 0, 20, 20, 20, 23, 20, 20, 20, 20, 20, 23, 0, 21, 20, 20, 20, 0, 20, 20, 20, 20, 20, 0, 0] : List Nat).getD k 0 ≠ 16 := by decide +kernel
    exact this k hk
  · rw [List.getD_eq_getElem?_getD, List.getElem?_eq_none (by simpa using Nat.not_lt.mp hk)]
    decide
theorem MI.puti {h0 h : zH} {m : Nat} {A : Nat → Nat} {S : zS} {t : Int} (x : MI h0 m A S t h) (k : Nat) (hk : z_mk k = 0) (hf : k ≠ 0) (v : Int) : MI h0 m A (zu1 S.1 k v, S.2) t (sfi h m k v) := by
  obtain ⟨⟨⟨a1, a2, a3⟩, b, c, d⟩, e, f⟩ := x
  refine ⟨⟨⟨a1, a2, a3⟩, fun j hf hj => ?_, fun j i h1 h2 => c j i h1 h2, fun j i h1 => d j i h1⟩, e.trans (agree_sfi MOwn.me), (zu2_ne (fun q => hf q.2.symm)).trans f⟩
  by_cases hjk : j = k
  · subst hjk; exact (zu2_at).trans (zu1_at).symm
  · exact ((zu2_ne (fun q => hjk q.2)).trans (b j hf hj)).trans (zu1_ne hjk).symm
theorem MI.putx {h0 h : zH} {m : Nat} {A : Nat → Nat} {S : zS} {t : Int} (x : MI h0 m A S t h) (k : Nat) (hk : k = 42 ∨ k = 43) (v : Int) : MI h0 m A S t (sfi h m k v) := by
  obtain ⟨⟨⟨a1, a2, a3⟩, b, c, d⟩, e, f⟩ := x
  refine ⟨⟨⟨a1, a2, a3⟩, fun j hf hj => ?_, fun j i h1 h2 => c j i h1 h2, fun j i h1 => d j i h1⟩, e.trans (agree_sfi MOwn.me), (zu2_ne (fun q => by omega)).trans f⟩
  exact ((zu2_ne (fun q => hf (by unfold z_free; omega))).trans (b j hf hj))
theorem MI.putt {h0 h : zH} {m : Nat} {A : Nat → Nat} {S : zS} {t : Int} (x : MI h0 m A S t h) (v : Int) : MI h0 m A S v (sfi h m 0 v) := by
  obtain ⟨⟨⟨a1, a2, a3⟩, b, c, d⟩, e, f⟩ := x
  refine ⟨⟨⟨a1, a2, a3⟩, fun j hf hj => ?_, fun j i h1 h2 => c j i h1 h2, fun j i h1 => d j i h1⟩, e.trans (agree_sfi MOwn.me), zu2_at⟩
  exact ((zu2_ne (fun q => hf (by unfold z_free; omega))).trans (b j hf hj))
theorem MI.asti {h0 h : zH} {m : Nat} {A : Nat → Nat} {S : zS} {t : Int} (x : MI h0 m A S t h) (k i : Nat) (hk : z_mk k ≠ 0) (h9 : z_mk k ≠ 23) (v : Int) : MI h0 m A (S.1, zu2 S.2 k i v) t (sai h (A k) i v) := by
  have hne := x.ne k hk (z_mk_16 k)
  obtain ⟨⟨⟨a1, a2, a3⟩, b, c, d⟩, e, f⟩ := x
  refine ⟨⟨⟨a1, a2, a3⟩, fun j hf hj => b j hf hj, fun j i2 h1 h2 => ?_, fun j i2 h1 => (d j i2 h1).trans (zu2_ne (fun q => h9 (by rw [← q.1]; exact h1))).symm⟩, e.trans (agree_sai (MOwn.arr hk)), f⟩
  by_cases hjk : j = k ∧ i2 = i
  · obtain ⟨rfl, rfl⟩ := hjk; exact (zu2_at).trans (zu2_at).symm
  · exact ((zu2_ne (fun q => hjk ⟨a3 _ _ h1 hk q.1, q.2⟩)).trans (c j i2 h1 h2)).trans (zu2_ne hjk).symm
theorem MI.astj {h0 h : zH} {m : Nat} {A : Nat → Nat} {S : zS} {t : Int} (x : MI h0 m A S t h) (k i : Nat) (hk : z_mk k = 23) (v : Int) : MI h0 m A (S.1, zu2 S.2 k i v) t (saj h (A k) i v) := by
  have hk0 : z_mk k ≠ 0 := by rw [hk]; decide
  obtain ⟨⟨⟨a1, a2, a3⟩, b, c, d⟩, e, f⟩ := x
  refine ⟨⟨⟨a1, a2, a3⟩, fun j hf hj => b j hf hj, fun j i2 h1 h2 => ?_, fun j i2 h1 => ?_⟩, e.trans (agree_saj (MOwn.arr hk0)), f⟩
  · exact (c j i2 h1 h2).trans (zu2_ne (fun q => h2 (by rw [q.1]; exact hk))).symm
  · by_cases hjk : j = k ∧ i2 = i
    · obtain ⟨rfl, rfl⟩ := hjk; exact (zu2_at).trans (zu2_at).symm
    · exact ((zu2_ne (fun q => hjk ⟨a3 _ _ (by rw [h1]; decide) hk0 q.1, q.2⟩)).trans (d j i2 h1)).trans (zu2_ne hjk).symm
section MRows
variable {g : zGT} {M : zM} {mc ms : Nat} {Q : zO → zH → Prop} {pc : Nat} {lv : List (Option Value)} {st : List Value} {h h0 : zH} {bc bs : Nat} {m : Nat} {A : Nat → Nat} {sc : Nat → Int} {ar : Nat → Nat → Int}

theorem m_get {idx : Nat} (k : Nat) (hg : zG g) {t : Int} (hM : MI h0 m A (sc, ar) t h) (hf : ¬ z_free k) (hk : z_mk k = 0) (hk2 : k < 44) (hlink : Cond.fieldLink M.1 idx (TX12 k).1 (TX12 k).2.1 (TX12 k).2.2.1 ∈ lw_tbl) (pc' : Nat) (hp : pc + 3 = pc') (d : decode M.2.1 pc = .ok (.getfield idx, 3)) (kk : zX g M mc ms Q pc' lv (.int (zI (sc k)) :: st) h bc bs) (hv : ∀ i j r, z_val (tyX12 k) i j r = .int (zI i)) : zX g M mc ms Q pc lv (.ref m :: st) h bc bs :=
  r_geti hg zc_X12 k hk2 hv (hM.sc k hf hk) hM.kd (Or.inl rfl) hlink pc' hp d kk
theorem m_getx {idx : Nat} {z : Int} (k : Nat) (hg : zG g) {t : Int} (hM : MI h0 m A (sc, ar) t h) (hz : fi_ h m k = z) (hk2 : k < 44) (hlink : Cond.fieldLink M.1 idx (TX12 k).1 (TX12 k).2.1 (TX12 k).2.2.1 ∈ lw_tbl) (pc' : Nat) (hp : pc + 3 = pc') (d : decode M.2.1 pc = .ok (.getfield idx, 3)) (kk : zX g M mc ms Q pc' lv (.int (zI z) :: st) h bc bs) (hv : ∀ i j r, z_val (tyX12 k) i j r = .int (zI i)) : zX g M mc ms Q pc lv (.ref m :: st) h bc bs :=
  r_geti hg zc_X12 k hk2 hv hz hM.kd (Or.inl rfl) hlink pc' hp d kk
theorem m_arr {idx : Nat} (k : Nat) (hg : zG g) {t : Int} (hM : MI h0 m A (sc, ar) t h) (hk : z_mk k ≠ 0) (hk2 : k < 44) (hlink : Cond.fieldLink M.1 idx (TX12 k).1 (TX12 k).2.1 (TX12 k).2.2.1 ∈ lw_tbl) (pc' : Nat) (hp : pc + 3 = pc') (d : decode M.2.1 pc = .ok (.getfield idx, 3)) (kk : zX g M mc ms Q pc' lv (.ref (A k) :: st) h bc bs) (hv : ∀ i j r, z_val (tyX12 k) i j r = va_rf r) : zX g M mc ms Q pc lv (.ref m :: st) h bc bs :=
  r_getr hg zc_X12 k hk2 hv (hM.fr k hk) hM.kd (Or.inl rfl) hlink pc' hp d kk
theorem m_put {idx : Nat} {v : Int} (k : Nat) (hg : zG g) {t : Int} (hM : MI h0 m A (sc, ar) t h) (hk : z_mk k = 0) (hf : k ≠ 0) (hk2 : k < 44) (hfin : (TX12 k).2.2.2 = false) (hv : ∀ i j r, z_val (tyX12 k) i j r = .int (zI i)) (hn : narrow (tyX12 k) (.int (zI v)) = .int (zI v)) (hfit : fits (tyX12 k) (.int (zI v)) = true) (hlink : Cond.fieldLink M.1 idx (TX12 k).1 (TX12 k).2.1 (TX12 k).2.2.1 ∈ lw_tbl) (pc' : Nat) (hp : pc + 3 = pc') (d : decode M.2.1 pc = .ok (.putfield idx, 3)) (kk : ∀ h1, MI h0 m A (zu1 sc k v, ar) t h1 → zX g M mc ms Q pc' lv st h1 bc bs) : zX g M mc ms Q pc lv (.int (zI v) :: .ref m :: st) h bc bs :=
  r_puti hg zc_X12 k hk2 hfin hv hn hfit (by decide) hM.kd (Or.inl rfl) hlink pc' hp d (kk _ (hM.puti k hk hf v))
theorem m_putx {idx : Nat} {v : Int} (k : Nat) (hg : zG g) {t : Int} (hM : MI h0 m A (sc, ar) t h) (hk : k = 42 ∨ k = 43) (hk2 : k < 44) (hfin : (TX12 k).2.2.2 = false) (hv : ∀ i j r, z_val (tyX12 k) i j r = .int (zI i)) (hn : narrow (tyX12 k) (.int (zI v)) = .int (zI v)) (hfit : fits (tyX12 k) (.int (zI v)) = true) (hlink : Cond.fieldLink M.1 idx (TX12 k).1 (TX12 k).2.1 (TX12 k).2.2.1 ∈ lw_tbl) (pc' : Nat) (hp : pc + 3 = pc') (d : decode M.2.1 pc = .ok (.putfield idx, 3)) (kk : ∀ h1, MI h0 m A (sc, ar) t h1 → fi_ h1 m k = v → (∀ j, j ≠ k → fi_ h1 m j = fi_ h m j) → zX g M mc ms Q pc' lv st h1 bc bs) : zX g M mc ms Q pc lv (.int (zI v) :: .ref m :: st) h bc bs :=
  r_puti hg zc_X12 k hk2 hfin hv hn hfit (by decide) hM.kd (Or.inl rfl) hlink pc' hp d (kk _ (hM.putx k hk v) zu2_at (fun j hj => zu2_ne (fun q => hj q.2)))
theorem m_putt {idx : Nat} {t : Int} {v : Int} (hg : zG g) (hM : MI h0 m A (sc, ar) t h) (hlink : Cond.fieldLink M.1 idx (TX12 0).1 (TX12 0).2.1 (TX12 0).2.2.1 ∈ lw_tbl) (pc' : Nat) (hp : pc + 3 = pc') (d : decode M.2.1 pc = .ok (.putfield idx, 3)) (kk : ∀ h1, MI h0 m A (sc, ar) v h1 → zX g M mc ms Q pc' lv st h1 bc bs) : zX g M mc ms Q pc lv (.int (zI v) :: .ref m :: st) h bc bs :=
  r_puti hg zc_X12 0 (by decide) rfl (fun _ _ _ => rfl) rfl rfl (by decide) hM.kd (Or.inl rfl) hlink pc' hp d (kk _ (hM.putt v))

theorem m_iald {i : Int} (k j : Nat) (hj : i.toNat = j) (hg : zG g) {t : Int} (hM : MI h0 m A (sc, ar) t h) (hk : z_mk k = 20) (hi : 0 ≤ i) (hl : i < z_ml k) (hb : z_ml k ≤ 100000) (pc' : Nat) (hp : pc + 1 = pc') (d : decode M.2.1 pc = .ok (.iaload, 1)) (kk : zX g M mc ms Q pc' lv (.int (zI (ar k j)) :: st) h bc bs) : zX g M mc ms Q pc lv (.int (zI i) :: .ref (A k) :: st) h bc bs := by
  subst hj
  have hk0 : z_mk k ≠ 0 := by rw [hk]; decide
  have q := hM.1.1.2.1 k hk0
  refine r_iaload hg (q.2.1.trans hk) hi (by omega) (by rw [q.2.2]; exact hl) pc' hp d ?_
  rw [hM.1.2.2.1 k i.toNat hk0 (by rw [hk]; decide)]
  exact kk

theorem m_cald {i : Int} (k j : Nat) (hj : i.toNat = j) (hg : zG g) {t : Int} (hM : MI h0 m A (sc, ar) t h) (hk : z_mk k = 21) (hi : 0 ≤ i) (hl : i < z_ml k) (hb : z_ml k ≤ 100000) (pc' : Nat) (hp : pc + 1 = pc') (d : decode M.2.1 pc = .ok (.caload, 1)) (kk : zX g M mc ms Q pc' lv (.int (zI (ar k j)) :: st) h bc bs) : zX g M mc ms Q pc lv (.int (zI i) :: .ref (A k) :: st) h bc bs := by
  subst hj
  have hk0 : z_mk k ≠ 0 := by rw [hk]; decide
  have q := hM.1.1.2.1 k hk0
  refine r_caload hg (q.2.1.trans hk) hi (by omega) (by rw [q.2.2]; exact hl) pc' hp d ?_
  rw [hM.1.2.2.1 k i.toNat hk0 (by rw [hk]; decide)]
  exact kk

theorem m_zald {i : Int} (k j : Nat) (hj : i.toNat = j) (hg : zG g) {t : Int} (hM : MI h0 m A (sc, ar) t h) (hk : z_mk k = 22) (hi : 0 ≤ i) (hl : i < z_ml k) (hb : z_ml k ≤ 100000) (pc' : Nat) (hp : pc + 1 = pc') (d : decode M.2.1 pc = .ok (.baload, 1)) (kk : zX g M mc ms Q pc' lv (.int (zI (ar k j)) :: st) h bc bs) : zX g M mc ms Q pc lv (.int (zI i) :: .ref (A k) :: st) h bc bs := by
  subst hj
  have hk0 : z_mk k ≠ 0 := by rw [hk]; decide
  have q := hM.1.1.2.1 k hk0
  refine r_zaload hg (q.2.1.trans hk) hi (by omega) (by rw [q.2.2]; exact hl) pc' hp d ?_
  rw [hM.1.2.2.1 k i.toNat hk0 (by rw [hk]; decide)]
  exact kk

theorem m_lald {i : Int} (k j : Nat) (hj : i.toNat = j) (hg : zG g) {t : Int} (hM : MI h0 m A (sc, ar) t h) (hk : z_mk k = 23) (hi : 0 ≤ i) (hl : i < z_ml k) (hb : z_ml k ≤ 100000) (pc' : Nat) (hp : pc + 1 = pc') (d : decode M.2.1 pc = .ok (.laload, 1)) (kk : zX g M mc ms Q pc' lv (.long (zL (ar k j)) :: st) h bc bs) : zX g M mc ms Q pc lv (.int (zI i) :: .ref (A k) :: st) h bc bs := by
  subst hj
  have hk0 : z_mk k ≠ 0 := by rw [hk]; decide
  have q := hM.1.1.2.1 k hk0
  refine r_laload hg (q.2.1.trans hk) hi (by omega) (by rw [q.2.2]; exact hl) pc' hp d ?_
  rw [hM.1.2.2.2 k i.toNat hk]
  exact kk

theorem m_iast {i v : Int} (k j : Nat) (hj : i.toNat = j) (hg : zG g) {t : Int} (hM : MI h0 m A (sc, ar) t h) (hk : z_mk k = 20) (hi : 0 ≤ i) (hl : i < z_ml k) (hb : z_ml k ≤ 100000) (pc' : Nat) (hp : pc + 1 = pc') (d : decode M.2.1 pc = .ok (.iastore, 1)) (kk : ∀ h1, MI h0 m A (sc, zu2 ar k j v) t h1 → zX g M mc ms Q pc' lv st h1 bc bs) : zX g M mc ms Q pc lv (.int (zI v) :: .int (zI i) :: .ref (A k) :: st) h bc bs := by
  subst hj
  have hk0 : z_mk k ≠ 0 := by rw [hk]; decide
  have q := hM.1.1.2.1 k hk0
  exact r_iastore hg (q.2.1.trans hk) hi (by omega) (by rw [q.2.2]; exact hl) pc' hp d (kk _ (hM.asti k i.toNat hk0 (by rw [hk]; decide) v))

theorem m_cast {i v : Int} (k j : Nat) (hj : i.toNat = j) (hg : zG g) {t : Int} (hM : MI h0 m A (sc, ar) t h) (hk : z_mk k = 21) (hi : 0 ≤ i) (hl : i < z_ml k) (hb : z_ml k ≤ 100000) (hx : narrow .char (.int (zI v)) = .int (zI v)) (pc' : Nat) (hp : pc + 1 = pc') (d : decode M.2.1 pc = .ok (.castore, 1)) (kk : ∀ h1, MI h0 m A (sc, zu2 ar k j v) t h1 → zX g M mc ms Q pc' lv st h1 bc bs) : zX g M mc ms Q pc lv (.int (zI v) :: .int (zI i) :: .ref (A k) :: st) h bc bs := by
  subst hj
  have hk0 : z_mk k ≠ 0 := by rw [hk]; decide
  have q := hM.1.1.2.1 k hk0
  exact r_castore hg (q.2.1.trans hk) hi (by omega) (by rw [q.2.2]; exact hl) hx pc' hp d (kk _ (hM.asti k i.toNat hk0 (by rw [hk]; decide) v))

theorem m_zast {i v : Int} (k j : Nat) (hj : i.toNat = j) (hg : zG g) {t : Int} (hM : MI h0 m A (sc, ar) t h) (hk : z_mk k = 22) (hi : 0 ≤ i) (hl : i < z_ml k) (hb : z_ml k ≤ 100000) (hx : narrow .boolean (.int (zI v)) = .int (zI v)) (pc' : Nat) (hp : pc + 1 = pc') (d : decode M.2.1 pc = .ok (.bastore, 1)) (kk : ∀ h1, MI h0 m A (sc, zu2 ar k j v) t h1 → zX g M mc ms Q pc' lv st h1 bc bs) : zX g M mc ms Q pc lv (.int (zI v) :: .int (zI i) :: .ref (A k) :: st) h bc bs := by
  subst hj
  have hk0 : z_mk k ≠ 0 := by rw [hk]; decide
  have q := hM.1.1.2.1 k hk0
  exact r_zastore hg (q.2.1.trans hk) hi (by omega) (by rw [q.2.2]; exact hl) hx pc' hp d (kk _ (hM.asti k i.toNat hk0 (by rw [hk]; decide) v))

theorem m_last {i v : Int} (k j : Nat) (hj : i.toNat = j) (hg : zG g) {t : Int} (hM : MI h0 m A (sc, ar) t h) (hk : z_mk k = 23) (hi : 0 ≤ i) (hl : i < z_ml k) (hb : z_ml k ≤ 100000) (pc' : Nat) (hp : pc + 1 = pc') (d : decode M.2.1 pc = .ok (.lastore, 1)) (kk : ∀ h1, MI h0 m A (sc, zu2 ar k j v) t h1 → zX g M mc ms Q pc' lv st h1 bc bs) : zX g M mc ms Q pc lv (.long (zL v) :: .int (zI i) :: .ref (A k) :: st) h bc bs := by
  subst hj
  have hk0 : z_mk k ≠ 0 := by rw [hk]; decide
  have q := hM.1.1.2.1 k hk0
  exact r_lastore hg (q.2.1.trans hk) hi (by omega) (by rw [q.2.2]; exact hl) pc' hp d (kk _ (hM.astj k i.toNat hk v))
end MRows
end
section
theorem z_sN {b : List (Option Value)} : z_sub [] b := trivial
theorem z_s1 {v : Value} {a b : List (Option Value)} (h : z_sub a b) : z_sub (some v :: a) (some v :: b) := ⟨rfl, h⟩
theorem z_s0 {w : Option Value} {a b : List (Option Value)} (h : z_sub a b) : z_sub (none :: a) (w :: b) := h
theorem z_lt {i : Int} {n n2 : Nat} (e : n = n2) (hi : i < (n2 : Int)) : i < (n : Int) := by rw [e]; exact hi
theorem z_nchar {c : Int} (h0 : 0 ≤ c) (h1 : c < 65536) : narrow .char (.int (zI c)) = .int (zI c) := by
  rw [zI_nI h0]
  exact (pk_charN (by omega)).1
theorem z_nbool {P : Prop} [Decidable P] : narrow .boolean (.int (zI (if P then 1 else 0))) = .int (zI (if P then 1 else 0)) := by split <;> rfl
section Arity
variable {g : zGT} {M : zM} {mc ms : Nat} {Q : zO → zH → Prop} {pc : Nat} {lv : List (Option Value)} {rest : List Value} {h : zH} {bc bs : Nat}

theorem r_callS0 {y : MethodName} {bytes : ByteArray} {maxL : Nat} {ret : Option FieldType} {lvl mc1 ms1 idx : Nat} (bc2 bs2 : Nat) (hg : zG g) (htab : M.2.2.2.2.1 = []) (md : z_md y bytes maxL ret 0) (hstat : Cond.static y ∈ lw_tbl) (hlink : Cond.methodLink M.1 idx y ∈ lw_tbl) (hlvl : lvl + 1 ≤ M.2.2.2.2.2.2) (hmaxL : maxL ≤ 150) (hn : 0 = 0) (hroom : (rest.map fun v => v.category).sum ≤ 8) (hb1 : bc2 + mc1 ≤ bc) (hb2 : bs2 + ms1 ≤ bs) (pc' : Nat) (hp : pc + 3 = pc') (d : decode M.2.1 pc = .ok (.invokestatic idx, 3)) (hC : zC g (.code y bytes maxL ret) y lvl mc1 ms1 ([]) h (zCont g M mc ms Q pc' lv rest bc2 bs2)) : zX g M mc ms Q pc lv (rest) h bc bs := r_callS bc2 bs2 hg htab md hstat hlink hlvl hmaxL (As := []) (by first | rfl | simp) hroom hb1 hb2 rfl pc' hp d hC
theorem r_callV0 {y : MethodName} {bytes : ByteArray} {maxL : Nat} {ret : Option FieldType} {lvl mc1 ms1 idx : Nat} {b ci : Nat} {C : String} {T : u_T} {N : Nat} {ty : Nat → FieldType} (bc2 bs2 : Nat) (hg : zG g) (htab : M.2.2.2.2.1 = []) (md : z_md y bytes maxL ret 0) (zc : z_cls ci C T N ty) (hkd : kd_ h b = ci + 1) (hin : Cond.instanceMethod y ∈ lw_tbl) (hsel : Cond.selects C y y ∈ lw_tbl) (hlink : Cond.methodLink M.1 idx y ∈ lw_tbl) (hlvl : lvl + 1 ≤ M.2.2.2.2.2.2) (hmaxL : maxL ≤ 150) (hn : 0 = 0) (hroom : (rest.map fun v => v.category).sum ≤ 8) (hb1 : bc2 + mc1 ≤ bc) (hb2 : bs2 + ms1 ≤ bs) (pc' : Nat) (hp : pc + 3 = pc') (d : decode M.2.1 pc = .ok (.invokevirtual idx, 3)) (hC : zC g (.code y bytes maxL ret) y lvl mc1 ms1 (.ref b :: []) h (zCont g M mc ms Q pc' lv rest bc2 bs2)) : zX g M mc ms Q pc lv (.ref b :: rest) h bc bs := r_callV bc2 bs2 hg htab md zc hkd hin hsel hlink hlvl hmaxL (As := []) (by first | rfl | simp) hroom hb1 hb2 rfl pc' hp d hC
theorem r_callI0 {y : MethodName} {bytes : ByteArray} {maxL : Nat} {ret : Option FieldType} {lvl mc1 ms1 idx : Nat} {b : Nat} (bc2 bs2 : Nat) (hg : zG g) (htab : M.2.2.2.2.1 = []) (md : z_md y bytes maxL ret 0) (hin : Cond.instanceMethod y ∈ lw_tbl) (hy1 : y.name = "<init>") (hret : ret = none) (hlink : Cond.methodLink M.1 idx y ∈ lw_tbl) (hlvl : lvl + 1 ≤ M.2.2.2.2.2.2) (hmaxL : maxL ≤ 150) (hn : 0 = 0) (hroom : (rest.map fun v => v.category).sum ≤ 8) (hb1 : bc2 + mc1 ≤ bc) (hb2 : bs2 + ms1 ≤ bs) (pc' : Nat) (hp : pc + 3 = pc') (d : decode M.2.1 pc = .ok (.invokespecial idx, 3)) (hC : zC g (.code y bytes maxL ret) y lvl mc1 ms1 (.ref b :: []) h (zCont g M mc ms Q pc' lv rest bc2 bs2)) : zX g M mc ms Q pc lv (.ref b :: rest) h bc bs := r_callI bc2 bs2 hg htab md hin hy1 hret hlink hlvl hmaxL (As := []) (by first | rfl | simp) hroom hb1 hb2 rfl pc' hp d hC
theorem r_callIN0 {y : MethodName} {bytes : ByteArray} {maxL : Nat} {ret : Option FieldType} {lvl mc1 ms1 idx : Nat} {b : Nat} {host : String} (bc2 bs2 : Nat) (hg : zG g) (htab : M.2.2.2.2.1 = []) (md : z_md y bytes maxL ret 0) (hin : Cond.instanceMethod y ∈ lw_tbl) (hy1 : y.name = "<init>") (hret : ret = none) (hlink : Cond.methodLinkNest M.1 idx y host ∈ lw_tbl) (hlvl : lvl + 1 ≤ M.2.2.2.2.2.2) (hmaxL : maxL ≤ 150) (hn : 0 = 0) (hroom : (rest.map fun v => v.category).sum ≤ 8) (hb1 : bc2 + mc1 ≤ bc) (hb2 : bs2 + ms1 ≤ bs) (pc' : Nat) (hp : pc + 3 = pc') (d : decode M.2.1 pc = .ok (.invokespecial idx, 3)) (hC : zC g (.code y bytes maxL ret) y lvl mc1 ms1 (.ref b :: []) h (zCont g M mc ms Q pc' lv rest bc2 bs2)) : zX g M mc ms Q pc lv (.ref b :: rest) h bc bs := r_callIN bc2 bs2 hg htab md hin hy1 hret hlink hlvl hmaxL (As := []) (by first | rfl | simp) hroom hb1 hb2 rfl pc' hp d hC
theorem r_callSN0 {y : MethodName} {bytes : ByteArray} {maxL : Nat} {ret : Option FieldType} {lvl mc1 ms1 idx : Nat} {host : String} (bc2 bs2 : Nat) (hg : zG g) (htab : M.2.2.2.2.1 = []) (md : z_md y bytes maxL ret 0) (hstat : Cond.static y ∈ lw_tbl) (hlink : Cond.methodLinkNest M.1 idx y host ∈ lw_tbl) (hlvl : lvl + 1 ≤ M.2.2.2.2.2.2) (hmaxL : maxL ≤ 150) (hn : 0 = 0) (hroom : (rest.map fun v => v.category).sum ≤ 8) (hb1 : bc2 + mc1 ≤ bc) (hb2 : bs2 + ms1 ≤ bs) (pc' : Nat) (hp : pc + 3 = pc') (d : decode M.2.1 pc = .ok (.invokestatic idx, 3)) (hC : zC g (.code y bytes maxL ret) y lvl mc1 ms1 ([]) h (zCont g M mc ms Q pc' lv rest bc2 bs2)) : zX g M mc ms Q pc lv (rest) h bc bs := r_callSN bc2 bs2 hg htab md hstat hlink hlvl hmaxL (As := []) (by first | rfl | simp) hroom hb1 hb2 rfl pc' hp d hC
theorem r_callS1 {y : MethodName} {bytes : ByteArray} {maxL : Nat} {ret : Option FieldType} {lvl mc1 ms1 idx : Nat} {v0 : Value} (bc2 bs2 : Nat) (hg : zG g) (htab : M.2.2.2.2.1 = []) (md : z_md y bytes maxL ret 1) (hstat : Cond.static y ∈ lw_tbl) (hlink : Cond.methodLink M.1 idx y ∈ lw_tbl) (hlvl : lvl + 1 ≤ M.2.2.2.2.2.2) (hmaxL : maxL ≤ 150) (hn : 1 = 1) (hroom : (rest.map fun v => v.category).sum ≤ 8) (hb1 : bc2 + mc1 ≤ bc) (hb2 : bs2 + ms1 ≤ bs) (pc' : Nat) (hp : pc + 3 = pc') (d : decode M.2.1 pc = .ok (.invokestatic idx, 3)) (hC : zC g (.code y bytes maxL ret) y lvl mc1 ms1 ([v0]) h (zCont g M mc ms Q pc' lv rest bc2 bs2)) : zX g M mc ms Q pc lv (v0 :: rest) h bc bs := r_callS bc2 bs2 hg htab md hstat hlink hlvl hmaxL (As := [v0]) (by first | rfl | simp) hroom hb1 hb2 rfl pc' hp d hC
theorem r_callV1 {y : MethodName} {bytes : ByteArray} {maxL : Nat} {ret : Option FieldType} {lvl mc1 ms1 idx : Nat} {b ci : Nat} {C : String} {T : u_T} {N : Nat} {ty : Nat → FieldType} {v0 : Value} (bc2 bs2 : Nat) (hg : zG g) (htab : M.2.2.2.2.1 = []) (md : z_md y bytes maxL ret 1) (zc : z_cls ci C T N ty) (hkd : kd_ h b = ci + 1) (hin : Cond.instanceMethod y ∈ lw_tbl) (hsel : Cond.selects C y y ∈ lw_tbl) (hlink : Cond.methodLink M.1 idx y ∈ lw_tbl) (hlvl : lvl + 1 ≤ M.2.2.2.2.2.2) (hmaxL : maxL ≤ 150) (hn : 1 = 1) (hroom : (rest.map fun v => v.category).sum ≤ 8) (hb1 : bc2 + mc1 ≤ bc) (hb2 : bs2 + ms1 ≤ bs) (pc' : Nat) (hp : pc + 3 = pc') (d : decode M.2.1 pc = .ok (.invokevirtual idx, 3)) (hC : zC g (.code y bytes maxL ret) y lvl mc1 ms1 (.ref b :: [v0]) h (zCont g M mc ms Q pc' lv rest bc2 bs2)) : zX g M mc ms Q pc lv (v0 :: .ref b :: rest) h bc bs := r_callV bc2 bs2 hg htab md zc hkd hin hsel hlink hlvl hmaxL (As := [v0]) (by first | rfl | simp) hroom hb1 hb2 rfl pc' hp d hC
theorem r_callI1 {y : MethodName} {bytes : ByteArray} {maxL : Nat} {ret : Option FieldType} {lvl mc1 ms1 idx : Nat} {b : Nat} {v0 : Value} (bc2 bs2 : Nat) (hg : zG g) (htab : M.2.2.2.2.1 = []) (md : z_md y bytes maxL ret 1) (hin : Cond.instanceMethod y ∈ lw_tbl) (hy1 : y.name = "<init>") (hret : ret = none) (hlink : Cond.methodLink M.1 idx y ∈ lw_tbl) (hlvl : lvl + 1 ≤ M.2.2.2.2.2.2) (hmaxL : maxL ≤ 150) (hn : 1 = 1) (hroom : (rest.map fun v => v.category).sum ≤ 8) (hb1 : bc2 + mc1 ≤ bc) (hb2 : bs2 + ms1 ≤ bs) (pc' : Nat) (hp : pc + 3 = pc') (d : decode M.2.1 pc = .ok (.invokespecial idx, 3)) (hC : zC g (.code y bytes maxL ret) y lvl mc1 ms1 (.ref b :: [v0]) h (zCont g M mc ms Q pc' lv rest bc2 bs2)) : zX g M mc ms Q pc lv (v0 :: .ref b :: rest) h bc bs := r_callI bc2 bs2 hg htab md hin hy1 hret hlink hlvl hmaxL (As := [v0]) (by first | rfl | simp) hroom hb1 hb2 rfl pc' hp d hC
theorem r_callIN1 {y : MethodName} {bytes : ByteArray} {maxL : Nat} {ret : Option FieldType} {lvl mc1 ms1 idx : Nat} {b : Nat} {host : String} {v0 : Value} (bc2 bs2 : Nat) (hg : zG g) (htab : M.2.2.2.2.1 = []) (md : z_md y bytes maxL ret 1) (hin : Cond.instanceMethod y ∈ lw_tbl) (hy1 : y.name = "<init>") (hret : ret = none) (hlink : Cond.methodLinkNest M.1 idx y host ∈ lw_tbl) (hlvl : lvl + 1 ≤ M.2.2.2.2.2.2) (hmaxL : maxL ≤ 150) (hn : 1 = 1) (hroom : (rest.map fun v => v.category).sum ≤ 8) (hb1 : bc2 + mc1 ≤ bc) (hb2 : bs2 + ms1 ≤ bs) (pc' : Nat) (hp : pc + 3 = pc') (d : decode M.2.1 pc = .ok (.invokespecial idx, 3)) (hC : zC g (.code y bytes maxL ret) y lvl mc1 ms1 (.ref b :: [v0]) h (zCont g M mc ms Q pc' lv rest bc2 bs2)) : zX g M mc ms Q pc lv (v0 :: .ref b :: rest) h bc bs := r_callIN bc2 bs2 hg htab md hin hy1 hret hlink hlvl hmaxL (As := [v0]) (by first | rfl | simp) hroom hb1 hb2 rfl pc' hp d hC
theorem r_callSN1 {y : MethodName} {bytes : ByteArray} {maxL : Nat} {ret : Option FieldType} {lvl mc1 ms1 idx : Nat} {host : String} {v0 : Value} (bc2 bs2 : Nat) (hg : zG g) (htab : M.2.2.2.2.1 = []) (md : z_md y bytes maxL ret 1) (hstat : Cond.static y ∈ lw_tbl) (hlink : Cond.methodLinkNest M.1 idx y host ∈ lw_tbl) (hlvl : lvl + 1 ≤ M.2.2.2.2.2.2) (hmaxL : maxL ≤ 150) (hn : 1 = 1) (hroom : (rest.map fun v => v.category).sum ≤ 8) (hb1 : bc2 + mc1 ≤ bc) (hb2 : bs2 + ms1 ≤ bs) (pc' : Nat) (hp : pc + 3 = pc') (d : decode M.2.1 pc = .ok (.invokestatic idx, 3)) (hC : zC g (.code y bytes maxL ret) y lvl mc1 ms1 ([v0]) h (zCont g M mc ms Q pc' lv rest bc2 bs2)) : zX g M mc ms Q pc lv (v0 :: rest) h bc bs := r_callSN bc2 bs2 hg htab md hstat hlink hlvl hmaxL (As := [v0]) (by first | rfl | simp) hroom hb1 hb2 rfl pc' hp d hC
theorem r_callS2 {y : MethodName} {bytes : ByteArray} {maxL : Nat} {ret : Option FieldType} {lvl mc1 ms1 idx : Nat} {v0 v1 : Value} (bc2 bs2 : Nat) (hg : zG g) (htab : M.2.2.2.2.1 = []) (md : z_md y bytes maxL ret 2) (hstat : Cond.static y ∈ lw_tbl) (hlink : Cond.methodLink M.1 idx y ∈ lw_tbl) (hlvl : lvl + 1 ≤ M.2.2.2.2.2.2) (hmaxL : maxL ≤ 150) (hn : 2 = 2) (hroom : (rest.map fun v => v.category).sum ≤ 8) (hb1 : bc2 + mc1 ≤ bc) (hb2 : bs2 + ms1 ≤ bs) (pc' : Nat) (hp : pc + 3 = pc') (d : decode M.2.1 pc = .ok (.invokestatic idx, 3)) (hC : zC g (.code y bytes maxL ret) y lvl mc1 ms1 ([v0, v1]) h (zCont g M mc ms Q pc' lv rest bc2 bs2)) : zX g M mc ms Q pc lv (v1 :: v0 :: rest) h bc bs := r_callS bc2 bs2 hg htab md hstat hlink hlvl hmaxL (As := [v0, v1]) (by first | rfl | simp) hroom hb1 hb2 rfl pc' hp d hC
theorem r_callV2 {y : MethodName} {bytes : ByteArray} {maxL : Nat} {ret : Option FieldType} {lvl mc1 ms1 idx : Nat} {b ci : Nat} {C : String} {T : u_T} {N : Nat} {ty : Nat → FieldType} {v0 v1 : Value} (bc2 bs2 : Nat) (hg : zG g) (htab : M.2.2.2.2.1 = []) (md : z_md y bytes maxL ret 2) (zc : z_cls ci C T N ty) (hkd : kd_ h b = ci + 1) (hin : Cond.instanceMethod y ∈ lw_tbl) (hsel : Cond.selects C y y ∈ lw_tbl) (hlink : Cond.methodLink M.1 idx y ∈ lw_tbl) (hlvl : lvl + 1 ≤ M.2.2.2.2.2.2) (hmaxL : maxL ≤ 150) (hn : 2 = 2) (hroom : (rest.map fun v => v.category).sum ≤ 8) (hb1 : bc2 + mc1 ≤ bc) (hb2 : bs2 + ms1 ≤ bs) (pc' : Nat) (hp : pc + 3 = pc') (d : decode M.2.1 pc = .ok (.invokevirtual idx, 3)) (hC : zC g (.code y bytes maxL ret) y lvl mc1 ms1 (.ref b :: [v0, v1]) h (zCont g M mc ms Q pc' lv rest bc2 bs2)) : zX g M mc ms Q pc lv (v1 :: v0 :: .ref b :: rest) h bc bs := r_callV bc2 bs2 hg htab md zc hkd hin hsel hlink hlvl hmaxL (As := [v0, v1]) (by first | rfl | simp) hroom hb1 hb2 rfl pc' hp d hC
theorem r_callI2 {y : MethodName} {bytes : ByteArray} {maxL : Nat} {ret : Option FieldType} {lvl mc1 ms1 idx : Nat} {b : Nat} {v0 v1 : Value} (bc2 bs2 : Nat) (hg : zG g) (htab : M.2.2.2.2.1 = []) (md : z_md y bytes maxL ret 2) (hin : Cond.instanceMethod y ∈ lw_tbl) (hy1 : y.name = "<init>") (hret : ret = none) (hlink : Cond.methodLink M.1 idx y ∈ lw_tbl) (hlvl : lvl + 1 ≤ M.2.2.2.2.2.2) (hmaxL : maxL ≤ 150) (hn : 2 = 2) (hroom : (rest.map fun v => v.category).sum ≤ 8) (hb1 : bc2 + mc1 ≤ bc) (hb2 : bs2 + ms1 ≤ bs) (pc' : Nat) (hp : pc + 3 = pc') (d : decode M.2.1 pc = .ok (.invokespecial idx, 3)) (hC : zC g (.code y bytes maxL ret) y lvl mc1 ms1 (.ref b :: [v0, v1]) h (zCont g M mc ms Q pc' lv rest bc2 bs2)) : zX g M mc ms Q pc lv (v1 :: v0 :: .ref b :: rest) h bc bs := r_callI bc2 bs2 hg htab md hin hy1 hret hlink hlvl hmaxL (As := [v0, v1]) (by first | rfl | simp) hroom hb1 hb2 rfl pc' hp d hC
theorem r_callIN2 {y : MethodName} {bytes : ByteArray} {maxL : Nat} {ret : Option FieldType} {lvl mc1 ms1 idx : Nat} {b : Nat} {host : String} {v0 v1 : Value} (bc2 bs2 : Nat) (hg : zG g) (htab : M.2.2.2.2.1 = []) (md : z_md y bytes maxL ret 2) (hin : Cond.instanceMethod y ∈ lw_tbl) (hy1 : y.name = "<init>") (hret : ret = none) (hlink : Cond.methodLinkNest M.1 idx y host ∈ lw_tbl) (hlvl : lvl + 1 ≤ M.2.2.2.2.2.2) (hmaxL : maxL ≤ 150) (hn : 2 = 2) (hroom : (rest.map fun v => v.category).sum ≤ 8) (hb1 : bc2 + mc1 ≤ bc) (hb2 : bs2 + ms1 ≤ bs) (pc' : Nat) (hp : pc + 3 = pc') (d : decode M.2.1 pc = .ok (.invokespecial idx, 3)) (hC : zC g (.code y bytes maxL ret) y lvl mc1 ms1 (.ref b :: [v0, v1]) h (zCont g M mc ms Q pc' lv rest bc2 bs2)) : zX g M mc ms Q pc lv (v1 :: v0 :: .ref b :: rest) h bc bs := r_callIN bc2 bs2 hg htab md hin hy1 hret hlink hlvl hmaxL (As := [v0, v1]) (by first | rfl | simp) hroom hb1 hb2 rfl pc' hp d hC
theorem r_callSN2 {y : MethodName} {bytes : ByteArray} {maxL : Nat} {ret : Option FieldType} {lvl mc1 ms1 idx : Nat} {host : String} {v0 v1 : Value} (bc2 bs2 : Nat) (hg : zG g) (htab : M.2.2.2.2.1 = []) (md : z_md y bytes maxL ret 2) (hstat : Cond.static y ∈ lw_tbl) (hlink : Cond.methodLinkNest M.1 idx y host ∈ lw_tbl) (hlvl : lvl + 1 ≤ M.2.2.2.2.2.2) (hmaxL : maxL ≤ 150) (hn : 2 = 2) (hroom : (rest.map fun v => v.category).sum ≤ 8) (hb1 : bc2 + mc1 ≤ bc) (hb2 : bs2 + ms1 ≤ bs) (pc' : Nat) (hp : pc + 3 = pc') (d : decode M.2.1 pc = .ok (.invokestatic idx, 3)) (hC : zC g (.code y bytes maxL ret) y lvl mc1 ms1 ([v0, v1]) h (zCont g M mc ms Q pc' lv rest bc2 bs2)) : zX g M mc ms Q pc lv (v1 :: v0 :: rest) h bc bs := r_callSN bc2 bs2 hg htab md hstat hlink hlvl hmaxL (As := [v0, v1]) (by first | rfl | simp) hroom hb1 hb2 rfl pc' hp d hC
theorem r_callS3 {y : MethodName} {bytes : ByteArray} {maxL : Nat} {ret : Option FieldType} {lvl mc1 ms1 idx : Nat} {v0 v1 v2 : Value} (bc2 bs2 : Nat) (hg : zG g) (htab : M.2.2.2.2.1 = []) (md : z_md y bytes maxL ret 3) (hstat : Cond.static y ∈ lw_tbl) (hlink : Cond.methodLink M.1 idx y ∈ lw_tbl) (hlvl : lvl + 1 ≤ M.2.2.2.2.2.2) (hmaxL : maxL ≤ 150) (hn : 3 = 3) (hroom : (rest.map fun v => v.category).sum ≤ 8) (hb1 : bc2 + mc1 ≤ bc) (hb2 : bs2 + ms1 ≤ bs) (pc' : Nat) (hp : pc + 3 = pc') (d : decode M.2.1 pc = .ok (.invokestatic idx, 3)) (hC : zC g (.code y bytes maxL ret) y lvl mc1 ms1 ([v0, v1, v2]) h (zCont g M mc ms Q pc' lv rest bc2 bs2)) : zX g M mc ms Q pc lv (v2 :: v1 :: v0 :: rest) h bc bs := r_callS bc2 bs2 hg htab md hstat hlink hlvl hmaxL (As := [v0, v1, v2]) (by first | rfl | simp) hroom hb1 hb2 rfl pc' hp d hC
theorem r_callV3 {y : MethodName} {bytes : ByteArray} {maxL : Nat} {ret : Option FieldType} {lvl mc1 ms1 idx : Nat} {b ci : Nat} {C : String} {T : u_T} {N : Nat} {ty : Nat → FieldType} {v0 v1 v2 : Value} (bc2 bs2 : Nat) (hg : zG g) (htab : M.2.2.2.2.1 = []) (md : z_md y bytes maxL ret 3) (zc : z_cls ci C T N ty) (hkd : kd_ h b = ci + 1) (hin : Cond.instanceMethod y ∈ lw_tbl) (hsel : Cond.selects C y y ∈ lw_tbl) (hlink : Cond.methodLink M.1 idx y ∈ lw_tbl) (hlvl : lvl + 1 ≤ M.2.2.2.2.2.2) (hmaxL : maxL ≤ 150) (hn : 3 = 3) (hroom : (rest.map fun v => v.category).sum ≤ 8) (hb1 : bc2 + mc1 ≤ bc) (hb2 : bs2 + ms1 ≤ bs) (pc' : Nat) (hp : pc + 3 = pc') (d : decode M.2.1 pc = .ok (.invokevirtual idx, 3)) (hC : zC g (.code y bytes maxL ret) y lvl mc1 ms1 (.ref b :: [v0, v1, v2]) h (zCont g M mc ms Q pc' lv rest bc2 bs2)) : zX g M mc ms Q pc lv (v2 :: v1 :: v0 :: .ref b :: rest) h bc bs := r_callV bc2 bs2 hg htab md zc hkd hin hsel hlink hlvl hmaxL (As := [v0, v1, v2]) (by first | rfl | simp) hroom hb1 hb2 rfl pc' hp d hC
theorem r_callI3 {y : MethodName} {bytes : ByteArray} {maxL : Nat} {ret : Option FieldType} {lvl mc1 ms1 idx : Nat} {b : Nat} {v0 v1 v2 : Value} (bc2 bs2 : Nat) (hg : zG g) (htab : M.2.2.2.2.1 = []) (md : z_md y bytes maxL ret 3) (hin : Cond.instanceMethod y ∈ lw_tbl) (hy1 : y.name = "<init>") (hret : ret = none) (hlink : Cond.methodLink M.1 idx y ∈ lw_tbl) (hlvl : lvl + 1 ≤ M.2.2.2.2.2.2) (hmaxL : maxL ≤ 150) (hn : 3 = 3) (hroom : (rest.map fun v => v.category).sum ≤ 8) (hb1 : bc2 + mc1 ≤ bc) (hb2 : bs2 + ms1 ≤ bs) (pc' : Nat) (hp : pc + 3 = pc') (d : decode M.2.1 pc = .ok (.invokespecial idx, 3)) (hC : zC g (.code y bytes maxL ret) y lvl mc1 ms1 (.ref b :: [v0, v1, v2]) h (zCont g M mc ms Q pc' lv rest bc2 bs2)) : zX g M mc ms Q pc lv (v2 :: v1 :: v0 :: .ref b :: rest) h bc bs := r_callI bc2 bs2 hg htab md hin hy1 hret hlink hlvl hmaxL (As := [v0, v1, v2]) (by first | rfl | simp) hroom hb1 hb2 rfl pc' hp d hC
theorem r_callIN3 {y : MethodName} {bytes : ByteArray} {maxL : Nat} {ret : Option FieldType} {lvl mc1 ms1 idx : Nat} {b : Nat} {host : String} {v0 v1 v2 : Value} (bc2 bs2 : Nat) (hg : zG g) (htab : M.2.2.2.2.1 = []) (md : z_md y bytes maxL ret 3) (hin : Cond.instanceMethod y ∈ lw_tbl) (hy1 : y.name = "<init>") (hret : ret = none) (hlink : Cond.methodLinkNest M.1 idx y host ∈ lw_tbl) (hlvl : lvl + 1 ≤ M.2.2.2.2.2.2) (hmaxL : maxL ≤ 150) (hn : 3 = 3) (hroom : (rest.map fun v => v.category).sum ≤ 8) (hb1 : bc2 + mc1 ≤ bc) (hb2 : bs2 + ms1 ≤ bs) (pc' : Nat) (hp : pc + 3 = pc') (d : decode M.2.1 pc = .ok (.invokespecial idx, 3)) (hC : zC g (.code y bytes maxL ret) y lvl mc1 ms1 (.ref b :: [v0, v1, v2]) h (zCont g M mc ms Q pc' lv rest bc2 bs2)) : zX g M mc ms Q pc lv (v2 :: v1 :: v0 :: .ref b :: rest) h bc bs := r_callIN bc2 bs2 hg htab md hin hy1 hret hlink hlvl hmaxL (As := [v0, v1, v2]) (by first | rfl | simp) hroom hb1 hb2 rfl pc' hp d hC
theorem r_callSN3 {y : MethodName} {bytes : ByteArray} {maxL : Nat} {ret : Option FieldType} {lvl mc1 ms1 idx : Nat} {host : String} {v0 v1 v2 : Value} (bc2 bs2 : Nat) (hg : zG g) (htab : M.2.2.2.2.1 = []) (md : z_md y bytes maxL ret 3) (hstat : Cond.static y ∈ lw_tbl) (hlink : Cond.methodLinkNest M.1 idx y host ∈ lw_tbl) (hlvl : lvl + 1 ≤ M.2.2.2.2.2.2) (hmaxL : maxL ≤ 150) (hn : 3 = 3) (hroom : (rest.map fun v => v.category).sum ≤ 8) (hb1 : bc2 + mc1 ≤ bc) (hb2 : bs2 + ms1 ≤ bs) (pc' : Nat) (hp : pc + 3 = pc') (d : decode M.2.1 pc = .ok (.invokestatic idx, 3)) (hC : zC g (.code y bytes maxL ret) y lvl mc1 ms1 ([v0, v1, v2]) h (zCont g M mc ms Q pc' lv rest bc2 bs2)) : zX g M mc ms Q pc lv (v2 :: v1 :: v0 :: rest) h bc bs := r_callSN bc2 bs2 hg htab md hstat hlink hlvl hmaxL (As := [v0, v1, v2]) (by first | rfl | simp) hroom hb1 hb2 rfl pc' hp d hC
theorem r_callS4 {y : MethodName} {bytes : ByteArray} {maxL : Nat} {ret : Option FieldType} {lvl mc1 ms1 idx : Nat} {v0 v1 v2 v3 : Value} (bc2 bs2 : Nat) (hg : zG g) (htab : M.2.2.2.2.1 = []) (md : z_md y bytes maxL ret 4) (hstat : Cond.static y ∈ lw_tbl) (hlink : Cond.methodLink M.1 idx y ∈ lw_tbl) (hlvl : lvl + 1 ≤ M.2.2.2.2.2.2) (hmaxL : maxL ≤ 150) (hn : 4 = 4) (hroom : (rest.map fun v => v.category).sum ≤ 8) (hb1 : bc2 + mc1 ≤ bc) (hb2 : bs2 + ms1 ≤ bs) (pc' : Nat) (hp : pc + 3 = pc') (d : decode M.2.1 pc = .ok (.invokestatic idx, 3)) (hC : zC g (.code y bytes maxL ret) y lvl mc1 ms1 ([v0, v1, v2, v3]) h (zCont g M mc ms Q pc' lv rest bc2 bs2)) : zX g M mc ms Q pc lv (v3 :: v2 :: v1 :: v0 :: rest) h bc bs := r_callS bc2 bs2 hg htab md hstat hlink hlvl hmaxL (As := [v0, v1, v2, v3]) (by first | rfl | simp) hroom hb1 hb2 rfl pc' hp d hC
theorem r_callV4 {y : MethodName} {bytes : ByteArray} {maxL : Nat} {ret : Option FieldType} {lvl mc1 ms1 idx : Nat} {b ci : Nat} {C : String} {T : u_T} {N : Nat} {ty : Nat → FieldType} {v0 v1 v2 v3 : Value} (bc2 bs2 : Nat) (hg : zG g) (htab : M.2.2.2.2.1 = []) (md : z_md y bytes maxL ret 4) (zc : z_cls ci C T N ty) (hkd : kd_ h b = ci + 1) (hin : Cond.instanceMethod y ∈ lw_tbl) (hsel : Cond.selects C y y ∈ lw_tbl) (hlink : Cond.methodLink M.1 idx y ∈ lw_tbl) (hlvl : lvl + 1 ≤ M.2.2.2.2.2.2) (hmaxL : maxL ≤ 150) (hn : 4 = 4) (hroom : (rest.map fun v => v.category).sum ≤ 8) (hb1 : bc2 + mc1 ≤ bc) (hb2 : bs2 + ms1 ≤ bs) (pc' : Nat) (hp : pc + 3 = pc') (d : decode M.2.1 pc = .ok (.invokevirtual idx, 3)) (hC : zC g (.code y bytes maxL ret) y lvl mc1 ms1 (.ref b :: [v0, v1, v2, v3]) h (zCont g M mc ms Q pc' lv rest bc2 bs2)) : zX g M mc ms Q pc lv (v3 :: v2 :: v1 :: v0 :: .ref b :: rest) h bc bs := r_callV bc2 bs2 hg htab md zc hkd hin hsel hlink hlvl hmaxL (As := [v0, v1, v2, v3]) (by first | rfl | simp) hroom hb1 hb2 rfl pc' hp d hC
theorem r_callI4 {y : MethodName} {bytes : ByteArray} {maxL : Nat} {ret : Option FieldType} {lvl mc1 ms1 idx : Nat} {b : Nat} {v0 v1 v2 v3 : Value} (bc2 bs2 : Nat) (hg : zG g) (htab : M.2.2.2.2.1 = []) (md : z_md y bytes maxL ret 4) (hin : Cond.instanceMethod y ∈ lw_tbl) (hy1 : y.name = "<init>") (hret : ret = none) (hlink : Cond.methodLink M.1 idx y ∈ lw_tbl) (hlvl : lvl + 1 ≤ M.2.2.2.2.2.2) (hmaxL : maxL ≤ 150) (hn : 4 = 4) (hroom : (rest.map fun v => v.category).sum ≤ 8) (hb1 : bc2 + mc1 ≤ bc) (hb2 : bs2 + ms1 ≤ bs) (pc' : Nat) (hp : pc + 3 = pc') (d : decode M.2.1 pc = .ok (.invokespecial idx, 3)) (hC : zC g (.code y bytes maxL ret) y lvl mc1 ms1 (.ref b :: [v0, v1, v2, v3]) h (zCont g M mc ms Q pc' lv rest bc2 bs2)) : zX g M mc ms Q pc lv (v3 :: v2 :: v1 :: v0 :: .ref b :: rest) h bc bs := r_callI bc2 bs2 hg htab md hin hy1 hret hlink hlvl hmaxL (As := [v0, v1, v2, v3]) (by first | rfl | simp) hroom hb1 hb2 rfl pc' hp d hC
theorem r_callIN4 {y : MethodName} {bytes : ByteArray} {maxL : Nat} {ret : Option FieldType} {lvl mc1 ms1 idx : Nat} {b : Nat} {host : String} {v0 v1 v2 v3 : Value} (bc2 bs2 : Nat) (hg : zG g) (htab : M.2.2.2.2.1 = []) (md : z_md y bytes maxL ret 4) (hin : Cond.instanceMethod y ∈ lw_tbl) (hy1 : y.name = "<init>") (hret : ret = none) (hlink : Cond.methodLinkNest M.1 idx y host ∈ lw_tbl) (hlvl : lvl + 1 ≤ M.2.2.2.2.2.2) (hmaxL : maxL ≤ 150) (hn : 4 = 4) (hroom : (rest.map fun v => v.category).sum ≤ 8) (hb1 : bc2 + mc1 ≤ bc) (hb2 : bs2 + ms1 ≤ bs) (pc' : Nat) (hp : pc + 3 = pc') (d : decode M.2.1 pc = .ok (.invokespecial idx, 3)) (hC : zC g (.code y bytes maxL ret) y lvl mc1 ms1 (.ref b :: [v0, v1, v2, v3]) h (zCont g M mc ms Q pc' lv rest bc2 bs2)) : zX g M mc ms Q pc lv (v3 :: v2 :: v1 :: v0 :: .ref b :: rest) h bc bs := r_callIN bc2 bs2 hg htab md hin hy1 hret hlink hlvl hmaxL (As := [v0, v1, v2, v3]) (by first | rfl | simp) hroom hb1 hb2 rfl pc' hp d hC
theorem r_callSN4 {y : MethodName} {bytes : ByteArray} {maxL : Nat} {ret : Option FieldType} {lvl mc1 ms1 idx : Nat} {host : String} {v0 v1 v2 v3 : Value} (bc2 bs2 : Nat) (hg : zG g) (htab : M.2.2.2.2.1 = []) (md : z_md y bytes maxL ret 4) (hstat : Cond.static y ∈ lw_tbl) (hlink : Cond.methodLinkNest M.1 idx y host ∈ lw_tbl) (hlvl : lvl + 1 ≤ M.2.2.2.2.2.2) (hmaxL : maxL ≤ 150) (hn : 4 = 4) (hroom : (rest.map fun v => v.category).sum ≤ 8) (hb1 : bc2 + mc1 ≤ bc) (hb2 : bs2 + ms1 ≤ bs) (pc' : Nat) (hp : pc + 3 = pc') (d : decode M.2.1 pc = .ok (.invokestatic idx, 3)) (hC : zC g (.code y bytes maxL ret) y lvl mc1 ms1 ([v0, v1, v2, v3]) h (zCont g M mc ms Q pc' lv rest bc2 bs2)) : zX g M mc ms Q pc lv (v3 :: v2 :: v1 :: v0 :: rest) h bc bs := r_callSN bc2 bs2 hg htab md hstat hlink hlvl hmaxL (As := [v0, v1, v2, v3]) (by first | rfl | simp) hroom hb1 hb2 rfl pc' hp d hC
theorem r_callS5 {y : MethodName} {bytes : ByteArray} {maxL : Nat} {ret : Option FieldType} {lvl mc1 ms1 idx : Nat} {v0 v1 v2 v3 v4 : Value} (bc2 bs2 : Nat) (hg : zG g) (htab : M.2.2.2.2.1 = []) (md : z_md y bytes maxL ret 5) (hstat : Cond.static y ∈ lw_tbl) (hlink : Cond.methodLink M.1 idx y ∈ lw_tbl) (hlvl : lvl + 1 ≤ M.2.2.2.2.2.2) (hmaxL : maxL ≤ 150) (hn : 5 = 5) (hroom : (rest.map fun v => v.category).sum ≤ 8) (hb1 : bc2 + mc1 ≤ bc) (hb2 : bs2 + ms1 ≤ bs) (pc' : Nat) (hp : pc + 3 = pc') (d : decode M.2.1 pc = .ok (.invokestatic idx, 3)) (hC : zC g (.code y bytes maxL ret) y lvl mc1 ms1 ([v0, v1, v2, v3, v4]) h (zCont g M mc ms Q pc' lv rest bc2 bs2)) : zX g M mc ms Q pc lv (v4 :: v3 :: v2 :: v1 :: v0 :: rest) h bc bs := r_callS bc2 bs2 hg htab md hstat hlink hlvl hmaxL (As := [v0, v1, v2, v3, v4]) (by first | rfl | simp) hroom hb1 hb2 rfl pc' hp d hC
theorem r_callV5 {y : MethodName} {bytes : ByteArray} {maxL : Nat} {ret : Option FieldType} {lvl mc1 ms1 idx : Nat} {b ci : Nat} {C : String} {T : u_T} {N : Nat} {ty : Nat → FieldType} {v0 v1 v2 v3 v4 : Value} (bc2 bs2 : Nat) (hg : zG g) (htab : M.2.2.2.2.1 = []) (md : z_md y bytes maxL ret 5) (zc : z_cls ci C T N ty) (hkd : kd_ h b = ci + 1) (hin : Cond.instanceMethod y ∈ lw_tbl) (hsel : Cond.selects C y y ∈ lw_tbl) (hlink : Cond.methodLink M.1 idx y ∈ lw_tbl) (hlvl : lvl + 1 ≤ M.2.2.2.2.2.2) (hmaxL : maxL ≤ 150) (hn : 5 = 5) (hroom : (rest.map fun v => v.category).sum ≤ 8) (hb1 : bc2 + mc1 ≤ bc) (hb2 : bs2 + ms1 ≤ bs) (pc' : Nat) (hp : pc + 3 = pc') (d : decode M.2.1 pc = .ok (.invokevirtual idx, 3)) (hC : zC g (.code y bytes maxL ret) y lvl mc1 ms1 (.ref b :: [v0, v1, v2, v3, v4]) h (zCont g M mc ms Q pc' lv rest bc2 bs2)) : zX g M mc ms Q pc lv (v4 :: v3 :: v2 :: v1 :: v0 :: .ref b :: rest) h bc bs := r_callV bc2 bs2 hg htab md zc hkd hin hsel hlink hlvl hmaxL (As := [v0, v1, v2, v3, v4]) (by first | rfl | simp) hroom hb1 hb2 rfl pc' hp d hC
theorem r_callI5 {y : MethodName} {bytes : ByteArray} {maxL : Nat} {ret : Option FieldType} {lvl mc1 ms1 idx : Nat} {b : Nat} {v0 v1 v2 v3 v4 : Value} (bc2 bs2 : Nat) (hg : zG g) (htab : M.2.2.2.2.1 = []) (md : z_md y bytes maxL ret 5) (hin : Cond.instanceMethod y ∈ lw_tbl) (hy1 : y.name = "<init>") (hret : ret = none) (hlink : Cond.methodLink M.1 idx y ∈ lw_tbl) (hlvl : lvl + 1 ≤ M.2.2.2.2.2.2) (hmaxL : maxL ≤ 150) (hn : 5 = 5) (hroom : (rest.map fun v => v.category).sum ≤ 8) (hb1 : bc2 + mc1 ≤ bc) (hb2 : bs2 + ms1 ≤ bs) (pc' : Nat) (hp : pc + 3 = pc') (d : decode M.2.1 pc = .ok (.invokespecial idx, 3)) (hC : zC g (.code y bytes maxL ret) y lvl mc1 ms1 (.ref b :: [v0, v1, v2, v3, v4]) h (zCont g M mc ms Q pc' lv rest bc2 bs2)) : zX g M mc ms Q pc lv (v4 :: v3 :: v2 :: v1 :: v0 :: .ref b :: rest) h bc bs := r_callI bc2 bs2 hg htab md hin hy1 hret hlink hlvl hmaxL (As := [v0, v1, v2, v3, v4]) (by first | rfl | simp) hroom hb1 hb2 rfl pc' hp d hC
theorem r_callIN5 {y : MethodName} {bytes : ByteArray} {maxL : Nat} {ret : Option FieldType} {lvl mc1 ms1 idx : Nat} {b : Nat} {host : String} {v0 v1 v2 v3 v4 : Value} (bc2 bs2 : Nat) (hg : zG g) (htab : M.2.2.2.2.1 = []) (md : z_md y bytes maxL ret 5) (hin : Cond.instanceMethod y ∈ lw_tbl) (hy1 : y.name = "<init>") (hret : ret = none) (hlink : Cond.methodLinkNest M.1 idx y host ∈ lw_tbl) (hlvl : lvl + 1 ≤ M.2.2.2.2.2.2) (hmaxL : maxL ≤ 150) (hn : 5 = 5) (hroom : (rest.map fun v => v.category).sum ≤ 8) (hb1 : bc2 + mc1 ≤ bc) (hb2 : bs2 + ms1 ≤ bs) (pc' : Nat) (hp : pc + 3 = pc') (d : decode M.2.1 pc = .ok (.invokespecial idx, 3)) (hC : zC g (.code y bytes maxL ret) y lvl mc1 ms1 (.ref b :: [v0, v1, v2, v3, v4]) h (zCont g M mc ms Q pc' lv rest bc2 bs2)) : zX g M mc ms Q pc lv (v4 :: v3 :: v2 :: v1 :: v0 :: .ref b :: rest) h bc bs := r_callIN bc2 bs2 hg htab md hin hy1 hret hlink hlvl hmaxL (As := [v0, v1, v2, v3, v4]) (by first | rfl | simp) hroom hb1 hb2 rfl pc' hp d hC
theorem r_callSN5 {y : MethodName} {bytes : ByteArray} {maxL : Nat} {ret : Option FieldType} {lvl mc1 ms1 idx : Nat} {host : String} {v0 v1 v2 v3 v4 : Value} (bc2 bs2 : Nat) (hg : zG g) (htab : M.2.2.2.2.1 = []) (md : z_md y bytes maxL ret 5) (hstat : Cond.static y ∈ lw_tbl) (hlink : Cond.methodLinkNest M.1 idx y host ∈ lw_tbl) (hlvl : lvl + 1 ≤ M.2.2.2.2.2.2) (hmaxL : maxL ≤ 150) (hn : 5 = 5) (hroom : (rest.map fun v => v.category).sum ≤ 8) (hb1 : bc2 + mc1 ≤ bc) (hb2 : bs2 + ms1 ≤ bs) (pc' : Nat) (hp : pc + 3 = pc') (d : decode M.2.1 pc = .ok (.invokestatic idx, 3)) (hC : zC g (.code y bytes maxL ret) y lvl mc1 ms1 ([v0, v1, v2, v3, v4]) h (zCont g M mc ms Q pc' lv rest bc2 bs2)) : zX g M mc ms Q pc lv (v4 :: v3 :: v2 :: v1 :: v0 :: rest) h bc bs := r_callSN bc2 bs2 hg htab md hstat hlink hlvl hmaxL (As := [v0, v1, v2, v3, v4]) (by first | rfl | simp) hroom hb1 hb2 rfl pc' hp d hC
theorem r_callS6 {y : MethodName} {bytes : ByteArray} {maxL : Nat} {ret : Option FieldType} {lvl mc1 ms1 idx : Nat} {v0 v1 v2 v3 v4 v5 : Value} (bc2 bs2 : Nat) (hg : zG g) (htab : M.2.2.2.2.1 = []) (md : z_md y bytes maxL ret 6) (hstat : Cond.static y ∈ lw_tbl) (hlink : Cond.methodLink M.1 idx y ∈ lw_tbl) (hlvl : lvl + 1 ≤ M.2.2.2.2.2.2) (hmaxL : maxL ≤ 150) (hn : 6 = 6) (hroom : (rest.map fun v => v.category).sum ≤ 8) (hb1 : bc2 + mc1 ≤ bc) (hb2 : bs2 + ms1 ≤ bs) (pc' : Nat) (hp : pc + 3 = pc') (d : decode M.2.1 pc = .ok (.invokestatic idx, 3)) (hC : zC g (.code y bytes maxL ret) y lvl mc1 ms1 ([v0, v1, v2, v3, v4, v5]) h (zCont g M mc ms Q pc' lv rest bc2 bs2)) : zX g M mc ms Q pc lv (v5 :: v4 :: v3 :: v2 :: v1 :: v0 :: rest) h bc bs := r_callS bc2 bs2 hg htab md hstat hlink hlvl hmaxL (As := [v0, v1, v2, v3, v4, v5]) (by first | rfl | simp) hroom hb1 hb2 rfl pc' hp d hC
theorem r_callV6 {y : MethodName} {bytes : ByteArray} {maxL : Nat} {ret : Option FieldType} {lvl mc1 ms1 idx : Nat} {b ci : Nat} {C : String} {T : u_T} {N : Nat} {ty : Nat → FieldType} {v0 v1 v2 v3 v4 v5 : Value} (bc2 bs2 : Nat) (hg : zG g) (htab : M.2.2.2.2.1 = []) (md : z_md y bytes maxL ret 6) (zc : z_cls ci C T N ty) (hkd : kd_ h b = ci + 1) (hin : Cond.instanceMethod y ∈ lw_tbl) (hsel : Cond.selects C y y ∈ lw_tbl) (hlink : Cond.methodLink M.1 idx y ∈ lw_tbl) (hlvl : lvl + 1 ≤ M.2.2.2.2.2.2) (hmaxL : maxL ≤ 150) (hn : 6 = 6) (hroom : (rest.map fun v => v.category).sum ≤ 8) (hb1 : bc2 + mc1 ≤ bc) (hb2 : bs2 + ms1 ≤ bs) (pc' : Nat) (hp : pc + 3 = pc') (d : decode M.2.1 pc = .ok (.invokevirtual idx, 3)) (hC : zC g (.code y bytes maxL ret) y lvl mc1 ms1 (.ref b :: [v0, v1, v2, v3, v4, v5]) h (zCont g M mc ms Q pc' lv rest bc2 bs2)) : zX g M mc ms Q pc lv (v5 :: v4 :: v3 :: v2 :: v1 :: v0 :: .ref b :: rest) h bc bs := r_callV bc2 bs2 hg htab md zc hkd hin hsel hlink hlvl hmaxL (As := [v0, v1, v2, v3, v4, v5]) (by first | rfl | simp) hroom hb1 hb2 rfl pc' hp d hC
theorem r_callS7 {y : MethodName} {bytes : ByteArray} {maxL : Nat} {ret : Option FieldType} {lvl mc1 ms1 idx : Nat} {v0 v1 v2 v3 v4 v5 v6 : Value} (bc2 bs2 : Nat) (hg : zG g) (htab : M.2.2.2.2.1 = []) (md : z_md y bytes maxL ret 7) (hstat : Cond.static y ∈ lw_tbl) (hlink : Cond.methodLink M.1 idx y ∈ lw_tbl) (hlvl : lvl + 1 ≤ M.2.2.2.2.2.2) (hmaxL : maxL ≤ 150) (hn : 7 = 7) (hroom : (rest.map fun v => v.category).sum ≤ 8) (hb1 : bc2 + mc1 ≤ bc) (hb2 : bs2 + ms1 ≤ bs) (pc' : Nat) (hp : pc + 3 = pc') (d : decode M.2.1 pc = .ok (.invokestatic idx, 3)) (hC : zC g (.code y bytes maxL ret) y lvl mc1 ms1 ([v0, v1, v2, v3, v4, v5, v6]) h (zCont g M mc ms Q pc' lv rest bc2 bs2)) : zX g M mc ms Q pc lv (v6 :: v5 :: v4 :: v3 :: v2 :: v1 :: v0 :: rest) h bc bs := r_callS bc2 bs2 hg htab md hstat hlink hlvl hmaxL (As := [v0, v1, v2, v3, v4, v5, v6]) (by first | rfl | simp) hroom hb1 hb2 rfl pc' hp d hC
theorem r_callV7 {y : MethodName} {bytes : ByteArray} {maxL : Nat} {ret : Option FieldType} {lvl mc1 ms1 idx : Nat} {b ci : Nat} {C : String} {T : u_T} {N : Nat} {ty : Nat → FieldType} {v0 v1 v2 v3 v4 v5 v6 : Value} (bc2 bs2 : Nat) (hg : zG g) (htab : M.2.2.2.2.1 = []) (md : z_md y bytes maxL ret 7) (zc : z_cls ci C T N ty) (hkd : kd_ h b = ci + 1) (hin : Cond.instanceMethod y ∈ lw_tbl) (hsel : Cond.selects C y y ∈ lw_tbl) (hlink : Cond.methodLink M.1 idx y ∈ lw_tbl) (hlvl : lvl + 1 ≤ M.2.2.2.2.2.2) (hmaxL : maxL ≤ 150) (hn : 7 = 7) (hroom : (rest.map fun v => v.category).sum ≤ 8) (hb1 : bc2 + mc1 ≤ bc) (hb2 : bs2 + ms1 ≤ bs) (pc' : Nat) (hp : pc + 3 = pc') (d : decode M.2.1 pc = .ok (.invokevirtual idx, 3)) (hC : zC g (.code y bytes maxL ret) y lvl mc1 ms1 (.ref b :: [v0, v1, v2, v3, v4, v5, v6]) h (zCont g M mc ms Q pc' lv rest bc2 bs2)) : zX g M mc ms Q pc lv (v6 :: v5 :: v4 :: v3 :: v2 :: v1 :: v0 :: .ref b :: rest) h bc bs := r_callV bc2 bs2 hg htab md zc hkd hin hsel hlink hlvl hmaxL (As := [v0, v1, v2, v3, v4, v5, v6]) (by first | rfl | simp) hroom hb1 hb2 rfl pc' hp d hC
end Arity
end
section
/-- what holds of the numbers of a state behind n calls -/
def MInv (n : Nat) (S : zS) : Prop := (0 ≤ S.1 1 ∧ S.1 1 ≤ 20000) ∧ (0 ≤ S.1 2 ∧ S.1 2 ≤ 8) ∧ (0 ≤ S.1 4 ∧ S.1 4 ≤ 12) ∧ (0 ≤ S.1 12 ∧ S.1 12 ≤ 10) ∧ (-1 ≤ S.1 16 ∧ S.1 16 < 67600) ∧ (0 ≤ S.1 18 ∧ S.1 18 ≤ n) ∧ (0 ≤ S.1 20 ∧ S.1 20 ≤ 40) ∧ (0 ≤ S.1 31 ∧ S.1 31 ≤ 40) ∧ (0 ≤ S.1 36 ∧ S.1 36 ≤ 20) ∧ (∀ i, 0 ≤ S.2 3 i ∧ S.2 3 i < 65536) ∧ (∀ i, 0 ≤ S.2 5 i ∧ S.2 5 i ≤ 9999) ∧ (∀ i, 0 ≤ S.2 6 i ∧ S.2 6 i ≤ 20000) ∧ (∀ i, 0 ≤ S.2 7 i ∧ S.2 7 i ≤ 3) ∧ (∀ i, 0 ≤ S.2 8 i ∧ S.2 8 i ≤ 30) ∧ (∀ i, 0 ≤ S.2 9 i ∧ S.2 9 i ≤ 7) ∧ (∀ i, 0 ≤ S.2 10 i ∧ S.2 10 i ≤ 9) ∧ (∀ i, 0 ≤ S.2 11 i ∧ S.2 11 i ≤ 20000) ∧ (∀ i, S.2 13 i = 0 ∨ S.2 13 i = 1) ∧ (∀ i, 0 ≤ S.2 14 i ∧ S.2 14 i ≤ n) ∧ (∀ i, S.2 15 i = 0 ∨ S.2 15 i = 1) ∧ (∀ i, zQ (S.2 17 i)) ∧ (∀ i, 0 ≤ S.2 19 i ∧ S.2 19 i < 1099511627776) ∧ (∀ i, 0 ≤ S.2 21 i ∧ S.2 21 i ≤ 3) ∧ (∀ i, 0 ≤ S.2 22 i ∧ S.2 22 i ≤ 20000) ∧ (∀ i, 0 ≤ S.2 23 i ∧ S.2 23 i ≤ 100000) ∧ (∀ i, 0 ≤ S.2 24 i ∧ S.2 24 i ≤ 1000000 * n) ∧ (∀ i, 0 ≤ S.2 25 i ∧ S.2 25 i ≤ 20) ∧ (∀ i, 0 ≤ S.2 26 i ∧ S.2 26 i ≤ 20000) ∧ (∀ i, 0 ≤ S.2 27 i ∧ S.2 27 i ≤ 10000000) ∧ (∀ i, 0 ≤ S.2 28 i ∧ S.2 28 i ≤ n) ∧ (∀ i, 0 ≤ S.2 29 i ∧ S.2 29 i ≤ 21080) ∧ (∀ i, zQ (S.2 30 i)) ∧ (∀ i, 0 ≤ S.2 32 i ∧ S.2 32 i < 65536) ∧ (∀ i, 0 ≤ S.2 33 i ∧ S.2 33 i ≤ 9) ∧ (∀ i, 0 ≤ S.2 34 i ∧ S.2 34 i ≤ 20000) ∧ (∀ i, 0 ≤ S.2 35 i ∧ S.2 35 i ≤ 1439) ∧ (∀ i, 0 ≤ S.2 37 i ∧ S.2 37 i ≤ 39) ∧ (∀ i, 0 ≤ S.2 38 i ∧ S.2 38 i ≤ 100000) ∧ (∀ i, 0 ≤ S.2 39 i ∧ S.2 39 i ≤ 20000) ∧ (∀ i, 0 ≤ S.2 40 i ∧ S.2 40 i ≤ 3) ∧ (∀ i, 0 ≤ S.2 41 i ∧ S.2 41 i ≤ 9) ∧ (n ≤ 512)
theorem MInv.today {n : Nat} {S : zS} (x : MInv n S) : 0 ≤ S.1 1 ∧ S.1 1 ≤ 20000 := x.1
theorem MInv.signs {n : Nat} {S : zS} (x : MInv n S) : 0 ≤ S.1 2 ∧ S.1 2 ≤ 8 := x.2.1
theorem MInv.vehicles {n : Nat} {S : zS} (x : MInv n S) : 0 ≤ S.1 4 ∧ S.1 4 ≤ 12 := x.2.2.1
theorem MInv.people {n : Nat} {S : zS} (x : MInv n S) : 0 ≤ S.1 12 ∧ S.1 12 ≤ 10 := x.2.2.2.1
theorem MInv.series {n : Nat} {S : zS} (x : MInv n S) : -1 ≤ S.1 16 ∧ S.1 16 < 67600 := x.2.2.2.2.1
theorem MInv.allotted {n : Nat} {S : zS} (x : MInv n S) : 0 ≤ S.1 18 ∧ S.1 18 ≤ n := x.2.2.2.2.2.1
theorem MInv.rates {n : Nat} {S : zS} (x : MInv n S) : 0 ≤ S.1 20 ∧ S.1 20 ≤ 40 := x.2.2.2.2.2.2.1
theorem MInv.sightings {n : Nat} {S : zS} (x : MInv n S) : 0 ≤ S.1 31 ∧ S.1 31 ≤ 40 := x.2.2.2.2.2.2.2.1
theorem MInv.fines {n : Nat} {S : zS} (x : MInv n S) : 0 ≤ S.1 36 ∧ S.1 36 ≤ 20 := x.2.2.2.2.2.2.2.2.1
theorem MInv.buffer {n : Nat} {S : zS} (x : MInv n S) : ∀ i, 0 ≤ S.2 3 i ∧ S.2 3 i < 65536 := x.2.2.2.2.2.2.2.2.2.1
theorem MInv.serial {n : Nat} {S : zS} (x : MInv n S) : ∀ i, 0 ≤ S.2 5 i ∧ S.2 5 i ≤ 9999 := x.2.2.2.2.2.2.2.2.2.2.1
theorem MInv.built {n : Nat} {S : zS} (x : MInv n S) : ∀ i, 0 ≤ S.2 6 i ∧ S.2 6 i ≤ 20000 := x.2.2.2.2.2.2.2.2.2.2.2.1
theorem MInv.ofClass {n : Nat} {S : zS} (x : MInv n S) : ∀ i, 0 ≤ S.2 7 i ∧ S.2 7 i ≤ 3 := x.2.2.2.2.2.2.2.2.2.2.2.2.1
theorem MInv.events {n : Nat} {S : zS} (x : MInv n S) : ∀ i, 0 ≤ S.2 8 i ∧ S.2 8 i ≤ 30 := x.2.2.2.2.2.2.2.2.2.2.2.2.2.1
theorem MInv.kind {n : Nat} {S : zS} (x : MInv n S) : ∀ i, 0 ≤ S.2 9 i ∧ S.2 9 i ≤ 7 := x.2.2.2.2.2.2.2.2.2.2.2.2.2.2.1
theorem MInv.about {n : Nat} {S : zS} (x : MInv n S) : ∀ i, 0 ≤ S.2 10 i ∧ S.2 10 i ≤ 9 := x.2.2.2.2.2.2.2.2.2.2.2.2.2.2.2.1
theorem MInv.day {n : Nat} {S : zS} (x : MInv n S) : ∀ i, 0 ≤ S.2 11 i ∧ S.2 11 i ≤ 20000 := x.2.2.2.2.2.2.2.2.2.2.2.2.2.2.2.2.1
theorem MInv.prot {n : Nat} {S : zS} (x : MInv n S) : ∀ i, S.2 13 i = 0 ∨ S.2 13 i = 1 := x.2.2.2.2.2.2.2.2.2.2.2.2.2.2.2.2.2.1
theorem MInv.looked {n : Nat} {S : zS} (x : MInv n S) : ∀ i, 0 ≤ S.2 14 i ∧ S.2 14 i ≤ n := x.2.2.2.2.2.2.2.2.2.2.2.2.2.2.2.2.2.2.1
theorem MInv.barred {n : Nat} {S : zS} (x : MInv n S) : ∀ i, S.2 15 i = 0 ∨ S.2 15 i = 1 := x.2.2.2.2.2.2.2.2.2.2.2.2.2.2.2.2.2.2.2.1
theorem MInv.given {n : Nat} {S : zS} (x : MInv n S) : ∀ i, zQ (S.2 17 i) := x.2.2.2.2.2.2.2.2.2.2.2.2.2.2.2.2.2.2.2.2.1
theorem MInv.plate {n : Nat} {S : zS} (x : MInv n S) : ∀ i, 0 ≤ S.2 19 i ∧ S.2 19 i < 1099511627776 := x.2.2.2.2.2.2.2.2.2.2.2.2.2.2.2.2.2.2.2.2.2.1
theorem MInv.rateClass {n : Nat} {S : zS} (x : MInv n S) : ∀ i, 0 ≤ S.2 21 i ∧ S.2 21 i ≤ 3 := x.2.2.2.2.2.2.2.2.2.2.2.2.2.2.2.2.2.2.2.2.2.2.1
theorem MInv.rateFrom {n : Nat} {S : zS} (x : MInv n S) : ∀ i, 0 ≤ S.2 22 i ∧ S.2 22 i ≤ 20000 := x.2.2.2.2.2.2.2.2.2.2.2.2.2.2.2.2.2.2.2.2.2.2.2.1
theorem MInv.rateIs {n : Nat} {S : zS} (x : MInv n S) : ∀ i, 0 ≤ S.2 23 i ∧ S.2 23 i ≤ 100000 := x.2.2.2.2.2.2.2.2.2.2.2.2.2.2.2.2.2.2.2.2.2.2.2.2.1
theorem MInv.paid {n : Nat} {S : zS} (x : MInv n S) : ∀ i, 0 ≤ S.2 24 i ∧ S.2 24 i ≤ 1000000 * n := x.2.2.2.2.2.2.2.2.2.2.2.2.2.2.2.2.2.2.2.2.2.2.2.2.2.1
theorem MInv.tests {n : Nat} {S : zS} (x : MInv n S) : ∀ i, 0 ≤ S.2 25 i ∧ S.2 25 i ≤ 20 := x.2.2.2.2.2.2.2.2.2.2.2.2.2.2.2.2.2.2.2.2.2.2.2.2.2.2.1
theorem MInv.testDay {n : Nat} {S : zS} (x : MInv n S) : ∀ i, 0 ≤ S.2 26 i ∧ S.2 26 i ≤ 20000 := x.2.2.2.2.2.2.2.2.2.2.2.2.2.2.2.2.2.2.2.2.2.2.2.2.2.2.2.1
theorem MInv.mileage {n : Nat} {S : zS} (x : MInv n S) : ∀ i, 0 ≤ S.2 27 i ∧ S.2 27 i ≤ 10000000 := x.2.2.2.2.2.2.2.2.2.2.2.2.2.2.2.2.2.2.2.2.2.2.2.2.2.2.2.2.1
theorem MInv.back {n : Nat} {S : zS} (x : MInv n S) : ∀ i, 0 ≤ S.2 28 i ∧ S.2 28 i ≤ n := x.2.2.2.2.2.2.2.2.2.2.2.2.2.2.2.2.2.2.2.2.2.2.2.2.2.2.2.2.2.1
theorem MInv.until {n : Nat} {S : zS} (x : MInv n S) : ∀ i, 0 ≤ S.2 29 i ∧ S.2 29 i ≤ 21080 := x.2.2.2.2.2.2.2.2.2.2.2.2.2.2.2.2.2.2.2.2.2.2.2.2.2.2.2.2.2.2.1
theorem MInv.insured {n : Nat} {S : zS} (x : MInv n S) : ∀ i, zQ (S.2 30 i) := x.2.2.2.2.2.2.2.2.2.2.2.2.2.2.2.2.2.2.2.2.2.2.2.2.2.2.2.2.2.2.2.1
theorem MInv.seenSigns {n : Nat} {S : zS} (x : MInv n S) : ∀ i, 0 ≤ S.2 32 i ∧ S.2 32 i < 65536 := x.2.2.2.2.2.2.2.2.2.2.2.2.2.2.2.2.2.2.2.2.2.2.2.2.2.2.2.2.2.2.2.2.1
theorem MInv.place {n : Nat} {S : zS} (x : MInv n S) : ∀ i, 0 ≤ S.2 33 i ∧ S.2 33 i ≤ 9 := x.2.2.2.2.2.2.2.2.2.2.2.2.2.2.2.2.2.2.2.2.2.2.2.2.2.2.2.2.2.2.2.2.2.1
theorem MInv.sightDay {n : Nat} {S : zS} (x : MInv n S) : ∀ i, 0 ≤ S.2 34 i ∧ S.2 34 i ≤ 20000 := x.2.2.2.2.2.2.2.2.2.2.2.2.2.2.2.2.2.2.2.2.2.2.2.2.2.2.2.2.2.2.2.2.2.2.1
theorem MInv.minute {n : Nat} {S : zS} (x : MInv n S) : ∀ i, 0 ≤ S.2 35 i ∧ S.2 35 i ≤ 1439 := x.2.2.2.2.2.2.2.2.2.2.2.2.2.2.2.2.2.2.2.2.2.2.2.2.2.2.2.2.2.2.2.2.2.2.2.1
theorem MInv.fineSight {n : Nat} {S : zS} (x : MInv n S) : ∀ i, 0 ≤ S.2 37 i ∧ S.2 37 i ≤ 39 := x.2.2.2.2.2.2.2.2.2.2.2.2.2.2.2.2.2.2.2.2.2.2.2.2.2.2.2.2.2.2.2.2.2.2.2.2.1
theorem MInv.amount {n : Nat} {S : zS} (x : MInv n S) : ∀ i, 0 ≤ S.2 38 i ∧ S.2 38 i ≤ 100000 := x.2.2.2.2.2.2.2.2.2.2.2.2.2.2.2.2.2.2.2.2.2.2.2.2.2.2.2.2.2.2.2.2.2.2.2.2.2.1
theorem MInv.since {n : Nat} {S : zS} (x : MInv n S) : ∀ i, 0 ≤ S.2 39 i ∧ S.2 39 i ≤ 20000 := x.2.2.2.2.2.2.2.2.2.2.2.2.2.2.2.2.2.2.2.2.2.2.2.2.2.2.2.2.2.2.2.2.2.2.2.2.2.2.1
theorem MInv.names {n : Nat} {S : zS} (x : MInv n S) : ∀ i, 0 ≤ S.2 40 i ∧ S.2 40 i ≤ 3 := x.2.2.2.2.2.2.2.2.2.2.2.2.2.2.2.2.2.2.2.2.2.2.2.2.2.2.2.2.2.2.2.2.2.2.2.2.2.2.2.1
theorem MInv.named {n : Nat} {S : zS} (x : MInv n S) : ∀ i, 0 ≤ S.2 41 i ∧ S.2 41 i ≤ 9 := x.2.2.2.2.2.2.2.2.2.2.2.2.2.2.2.2.2.2.2.2.2.2.2.2.2.2.2.2.2.2.2.2.2.2.2.2.2.2.2.2.1
theorem MInv.calls {n : Nat} {S : zS} (x : MInv n S) : n ≤ 512 := x.2.2.2.2.2.2.2.2.2.2.2.2.2.2.2.2.2.2.2.2.2.2.2.2.2.2.2.2.2.2.2.2.2.2.2.2.2.2.2.2.2
/-- how many of the first n places, from the first one on, hold P -/
def zpre (P : Nat → Bool) : Nat → Nat
  | 0 => 0
  | n + 1 => if zpre P n = n ∧ P n = true then n + 1 else zpre P n
theorem zpre_le (P : Nat → Bool) : ∀ n, zpre P n ≤ n
  | 0 => Nat.le_refl _
  | n + 1 => by unfold zpre; have := zpre_le P n; split <;> omega
theorem zpre_all (P : Nat → Bool) : ∀ n j, j < zpre P n → P j = true
  | 0, j, h => by simp [zpre] at h
  | n + 1, j, h => by
    unfold zpre at h
    split at h
    · rename_i hc
      by_cases hj : j = n
      · subst hj; exact hc.2
      · exact zpre_all P n j (by omega)
    · exact zpre_all P n j h
theorem zpre_stop (P : Nat → Bool) : ∀ n, zpre P n < n → P (zpre P n) = false
  | 0, h => by simp at h
  | n + 1, h => by
    unfold zpre at h ⊢
    split at h
    · omega
    · rename_i hc
      rw [if_neg hc]
      by_cases hn : zpre P n = n
      · rw [hn]
        cases hp : P n with
        | false => rfl
        | true => exact absurd ⟨hn, hp⟩ hc
      · exact zpre_stop P n (by have := zpre_le P n; omega)
theorem zpre_eq {P : Nat → Bool} {n j : Nat} (hj : j ≤ n) (ha : ∀ i, i < j → P i = true) (hs : j < n → P j = false) : zpre P n = j := by
  rcases Nat.lt_trichotomy (zpre P n) j with q | q | q
  · have := zpre_stop P n (by omega)
    rw [ha _ q] at this; cases this
  · exact q
  · have h1 := zpre_all P n j q
    have h2 := zpre_le P n
    rw [hs (by omega)] at h1; cases h1
/-- an event changes the state: the state, and what it was ahead of the theft -/
def zchg (q : Int × Int) (its : Int) : Int × Int := if q.1 = 4 then q else if its = 6 then (4, q.2) else if q.1 = 3 then (if its = 5 then (q.2, q.2) else q) else if its = 4 then (3, q.1) else if its = 2 then (1, q.2) else if its = 3 then (2, q.2) else q
def zst (S : zS) (v : Nat) : Nat → Int × Int
  | 0 => (0, 0)
  | j + 1 => zchg (zst S v j) (S.2 9 (30 * v + j))
def zlat (S : zS) (v : Nat) (its wo : Int) : Nat → Int
  | 0 => wo
  | j + 1 => if S.2 9 (30 * v + j) = its then S.2 10 (30 * v + j) else zlat S v its wo j
/-- how many events of a vehicle are of days up to w -/
def zev (S : zS) (v : Nat) (w : Int) : Nat := zpre (fun j => decide (S.2 11 (30 * v + j) ≤ w)) (S.2 8 v).toNat
def zstate (S : zS) (v : Nat) (w : Int) : Int := (zst S v (zev S v w)).1
def zlast (S : zS) (v : Nat) (w its wo : Int) : Int := zlat S v its wo (zev S v w)
def zdigit (s : Int) : Int := (s / 1000 * 2 + s / 100 % 10 * 3 + s / 10 % 10 * 4 + s % 10 * 5) % 11
/-- the vehicle of a serial, the last one of several -/
def zvof (S : zS) (s : Int) : Nat → Int
  | 0 => -1
  | v + 1 => if S.2 5 v = s then (v : Int) else zvof S s v
def zsign (p : Int) (k : Int) : Int := if k = 0 then 65 + p / 2600 else if k = 1 then 65 + p / 100 % 26 else if k = 2 then 48 + p / 10 % 10 else 48 + p % 10
end
section
abbrev mX12_in : zM := (RX12, cX12_in, 3, (Option.some Jvm.ClassFile.FieldType.boolean), [], "in", 10)
set_option maxRecDepth 20000 in
theorem c_X12_in {g : zGT} {Q : zO → zH → Prop} {h : zH} (hg : zG g) {a b c : Int} (ha : zR a) (hb : zR b) (hc : zR c) (k1 : b ≤ a ∧ a ≤ c → Q (.inl (some (.int (zI 1)))) h) (k0 : ¬ (b ≤ a ∧ a ≤ c) → Q (.inl (some (.int (zI 0)))) h) : zC g (.code yX12_in cX12_in 3 (Option.some Jvm.ClassFile.FieldType.boolean)) yX12_in 10 0 0 [.int (zI a), .int (zI b), .int (zI c)] h Q := by
  refine zC_of (M := mX12_in) (lv := [some (.int (zI a)), some (.int (zI b)), some (.int (zI c))]) (by decide) rfl rfl (Nat.le_of_ble_eq_true rfl) rfl rfl ?_
  refine r_iload_0 1 rfl (dd_X12_in 0 _ _ _ rfl) ?_
  refine r_iload_1 2 rfl (dd_X12_in 1 _ _ _ rfl) ?_
  refine r_if_icmplt (by omega) (by omega) 5 rfl 14 rfl (dd_X12_in 2 _ _ _ rfl) (fun hc1 => ?_) (fun hc1 => ?_)
  · refine r_iconst 15 rfl (dd_X12_in 8 _ _ _ rfl) ?_
    refine r_ireturn rfl rfl (dd_X12_in 9 _ _ _ rfl) ?_
    exact k0 (by omega)
  · refine r_iload_0 6 rfl (dd_X12_in 3 _ _ _ rfl) ?_
    refine r_iload_2 7 rfl (dd_X12_in 4 _ _ _ rfl) ?_
    refine r_if_icmpgt (by omega) (by omega) 10 rfl 14 rfl (dd_X12_in 5 _ _ _ rfl) (fun hc2 => ?_) (fun hc2 => ?_)
    · refine r_iconst 15 rfl (dd_X12_in 8 _ _ _ rfl) ?_
      refine r_ireturn rfl rfl (dd_X12_in 9 _ _ _ rfl) ?_
      exact k0 (by omega)
    · refine r_iconst 11 rfl (dd_X12_in 6 _ _ _ rfl) ?_
      refine r_goto 15 rfl (dd_X12_in 7 _ _ _ rfl) ?_
      refine r_ireturn rfl rfl (dd_X12_in 9 _ _ _ rfl) ?_
      exact k1 (by omega)

abbrev mX12_isVehicle : zM := (RX12, cX12_isVehicle, 2, (Option.some Jvm.ClassFile.FieldType.boolean), [], "isVehicle", 11)
set_option maxRecDepth 20000 in
theorem c_X12_isVehicle {g : zGT} {Q : zO → zH → Prop} {h : zH} (hg : zG g) {h0 : zH} {m : Nat} {A : Nat → Nat} {S : zS} {n : Nat} {t : Int} (hI : MInv n S) (hM : MI h0 m A S t h) {a : Int} (ha : zR a) (k1 : 0 ≤ a ∧ a < S.1 4 → Q (.inl (some (.int (zI 1)))) h) (k0 : ¬ (0 ≤ a ∧ a < S.1 4) → Q (.inl (some (.int (zI 0)))) h) : zC g (.code yX12_isVehicle cX12_isVehicle 2 (Option.some Jvm.ClassFile.FieldType.boolean)) yX12_isVehicle 11 0 0 [.ref m, .int (zI a)] h Q := by
  refine zC_of (M := mX12_isVehicle) (lv := [some (.ref m), some (.int (zI a))]) (by decide) rfl rfl (Nat.le_of_ble_eq_true rfl) rfl rfl ?_
  have e1 := hI.vehicles
  refine r_iload_1 1 rfl (dd_X12_isVehicle 0 _ _ _ rfl) ?_
  refine r_iconst 2 rfl (dd_X12_isVehicle 1 _ _ _ rfl) ?_
  refine r_aload_0 3 rfl (dd_X12_isVehicle 2 _ _ _ rfl) ?_
  refine m_get 4 hg hM (by unfold z_free; decide) rfl (by decide) (tb_6 60 _ rfl) 6 rfl (dd_X12_isVehicle 3 _ _ _ rfl) ?_ (fun _ _ _ => rfl)
  refine r_iconst 7 rfl (dd_X12_isVehicle 4 _ _ _ rfl) ?_
  refine r_isub 8 rfl (dd_X12_isVehicle 5 _ _ _ rfl) ?_
  refine r_callS3 (lvl := 10) (mc1 := 0) (ms1 := 0) 0 0 hg rfl md_X12_in ws_X12_in (tb_6 209 _ rfl) (by decide) (by decide) rfl (Nat.le_of_ble_eq_true rfl) (by decide) (by decide) 11 rfl (dd_X12_isVehicle 6 _ _ _ rfl) ?_
  refine c_X12_in hg (by omega) (by omega) (by omega) (fun hb1 => ?_) (fun hb1 => ?_)
  · dsimp only [zCont, Option.toList, List.cons_append, List.nil_append]
    refine r_ireturn rfl rfl (dd_X12_isVehicle 7 _ _ _ rfl) ?_
    exact k1 (by omega)
  · dsimp only [zCont, Option.toList, List.cons_append, List.nil_append]
    refine r_ireturn rfl rfl (dd_X12_isVehicle 7 _ _ _ rfl) ?_
    exact k0 (by omega)

abbrev mX12_isPerson : zM := (RX12, cX12_isPerson, 2, (Option.some Jvm.ClassFile.FieldType.boolean), [], "isPerson", 11)
set_option maxRecDepth 20000 in
theorem c_X12_isPerson {g : zGT} {Q : zO → zH → Prop} {h : zH} (hg : zG g) {h0 : zH} {m : Nat} {A : Nat → Nat} {S : zS} {n : Nat} {t : Int} (hI : MInv n S) (hM : MI h0 m A S t h) {a : Int} (ha : zR a) (k1 : 0 ≤ a ∧ a < S.1 12 → Q (.inl (some (.int (zI 1)))) h) (k0 : ¬ (0 ≤ a ∧ a < S.1 12) → Q (.inl (some (.int (zI 0)))) h) : zC g (.code yX12_isPerson cX12_isPerson 2 (Option.some Jvm.ClassFile.FieldType.boolean)) yX12_isPerson 11 0 0 [.ref m, .int (zI a)] h Q := by
  refine zC_of (M := mX12_isPerson) (lv := [some (.ref m), some (.int (zI a))]) (by decide) rfl rfl (Nat.le_of_ble_eq_true rfl) rfl rfl ?_
  have e1 := hI.people
  refine r_iload_1 1 rfl (dd_X12_isPerson 0 _ _ _ rfl) ?_
  refine r_iconst 2 rfl (dd_X12_isPerson 1 _ _ _ rfl) ?_
  refine r_aload_0 3 rfl (dd_X12_isPerson 2 _ _ _ rfl) ?_
  refine m_get 12 hg hM (by unfold z_free; decide) rfl (by decide) (tb_6 68 _ rfl) 6 rfl (dd_X12_isPerson 3 _ _ _ rfl) ?_ (fun _ _ _ => rfl)
  refine r_iconst 7 rfl (dd_X12_isPerson 4 _ _ _ rfl) ?_
  refine r_isub 8 rfl (dd_X12_isPerson 5 _ _ _ rfl) ?_
  refine r_callS3 (lvl := 10) (mc1 := 0) (ms1 := 0) 0 0 hg rfl md_X12_in ws_X12_in (tb_6 209 _ rfl) (by decide) (by decide) rfl (Nat.le_of_ble_eq_true rfl) (by decide) (by decide) 11 rfl (dd_X12_isPerson 6 _ _ _ rfl) ?_
  refine c_X12_in hg (by omega) (by omega) (by omega) (fun hb1 => ?_) (fun hb1 => ?_)
  · dsimp only [zCont, Option.toList, List.cons_append, List.nil_append]
    refine r_ireturn rfl rfl (dd_X12_isPerson 7 _ _ _ rfl) ?_
    exact k1 (by omega)
  · dsimp only [zCont, Option.toList, List.cons_append, List.nil_append]
    refine r_ireturn rfl rfl (dd_X12_isPerson 7 _ _ _ rfl) ?_
    exact k0 (by omega)

abbrev mX12_isSighting : zM := (RX12, cX12_isSighting, 2, (Option.some Jvm.ClassFile.FieldType.boolean), [], "isSighting", 11)
set_option maxRecDepth 20000 in
theorem c_X12_isSighting {g : zGT} {Q : zO → zH → Prop} {h : zH} (hg : zG g) {h0 : zH} {m : Nat} {A : Nat → Nat} {S : zS} {n : Nat} {t : Int} (hI : MInv n S) (hM : MI h0 m A S t h) {a : Int} (ha : zR a) (k1 : 0 ≤ a ∧ a < S.1 31 → Q (.inl (some (.int (zI 1)))) h) (k0 : ¬ (0 ≤ a ∧ a < S.1 31) → Q (.inl (some (.int (zI 0)))) h) : zC g (.code yX12_isSighting cX12_isSighting 2 (Option.some Jvm.ClassFile.FieldType.boolean)) yX12_isSighting 11 0 0 [.ref m, .int (zI a)] h Q := by
  refine zC_of (M := mX12_isSighting) (lv := [some (.ref m), some (.int (zI a))]) (by decide) rfl rfl (Nat.le_of_ble_eq_true rfl) rfl rfl ?_
  have e1 := hI.sightings
  refine r_iload_1 1 rfl (dd_X12_isSighting 0 _ _ _ rfl) ?_
  refine r_iconst 2 rfl (dd_X12_isSighting 1 _ _ _ rfl) ?_
  refine r_aload_0 3 rfl (dd_X12_isSighting 2 _ _ _ rfl) ?_
  refine m_get 31 hg hM (by unfold z_free; decide) rfl (by decide) (tb_6 87 _ rfl) 6 rfl (dd_X12_isSighting 3 _ _ _ rfl) ?_ (fun _ _ _ => rfl)
  refine r_iconst 7 rfl (dd_X12_isSighting 4 _ _ _ rfl) ?_
  refine r_isub 8 rfl (dd_X12_isSighting 5 _ _ _ rfl) ?_
  refine r_callS3 (lvl := 10) (mc1 := 0) (ms1 := 0) 0 0 hg rfl md_X12_in ws_X12_in (tb_6 209 _ rfl) (by decide) (by decide) rfl (Nat.le_of_ble_eq_true rfl) (by decide) (by decide) 11 rfl (dd_X12_isSighting 6 _ _ _ rfl) ?_
  refine c_X12_in hg (by omega) (by omega) (by omega) (fun hb1 => ?_) (fun hb1 => ?_)
  · dsimp only [zCont, Option.toList, List.cons_append, List.nil_append]
    refine r_ireturn rfl rfl (dd_X12_isSighting 7 _ _ _ rfl) ?_
    exact k1 (by omega)
  · dsimp only [zCont, Option.toList, List.cons_append, List.nil_append]
    refine r_ireturn rfl rfl (dd_X12_isSighting 7 _ _ _ rfl) ?_
    exact k0 (by omega)

abbrev mX12_isFine : zM := (RX12, cX12_isFine, 2, (Option.some Jvm.ClassFile.FieldType.boolean), [], "isFine", 11)
set_option maxRecDepth 20000 in
theorem c_X12_isFine {g : zGT} {Q : zO → zH → Prop} {h : zH} (hg : zG g) {h0 : zH} {m : Nat} {A : Nat → Nat} {S : zS} {n : Nat} {t : Int} (hI : MInv n S) (hM : MI h0 m A S t h) {a : Int} (ha : zR a) (k1 : 0 ≤ a ∧ a < S.1 36 → Q (.inl (some (.int (zI 1)))) h) (k0 : ¬ (0 ≤ a ∧ a < S.1 36) → Q (.inl (some (.int (zI 0)))) h) : zC g (.code yX12_isFine cX12_isFine 2 (Option.some Jvm.ClassFile.FieldType.boolean)) yX12_isFine 11 0 0 [.ref m, .int (zI a)] h Q := by
  refine zC_of (M := mX12_isFine) (lv := [some (.ref m), some (.int (zI a))]) (by decide) rfl rfl (Nat.le_of_ble_eq_true rfl) rfl rfl ?_
  have e1 := hI.fines
  refine r_iload_1 1 rfl (dd_X12_isFine 0 _ _ _ rfl) ?_
  refine r_iconst 2 rfl (dd_X12_isFine 1 _ _ _ rfl) ?_
  refine r_aload_0 3 rfl (dd_X12_isFine 2 _ _ _ rfl) ?_
  refine m_get 36 hg hM (by unfold z_free; decide) rfl (by decide) (tb_6 92 _ rfl) 6 rfl (dd_X12_isFine 3 _ _ _ rfl) ?_ (fun _ _ _ => rfl)
  refine r_iconst 7 rfl (dd_X12_isFine 4 _ _ _ rfl) ?_
  refine r_isub 8 rfl (dd_X12_isFine 5 _ _ _ rfl) ?_
  refine r_callS3 (lvl := 10) (mc1 := 0) (ms1 := 0) 0 0 hg rfl md_X12_in ws_X12_in (tb_6 209 _ rfl) (by decide) (by decide) rfl (Nat.le_of_ble_eq_true rfl) (by decide) (by decide) 11 rfl (dd_X12_isFine 6 _ _ _ rfl) ?_
  refine c_X12_in hg (by omega) (by omega) (by omega) (fun hb1 => ?_) (fun hb1 => ?_)
  · dsimp only [zCont, Option.toList, List.cons_append, List.nil_append]
    refine r_ireturn rfl rfl (dd_X12_isFine 7 _ _ _ rfl) ?_
    exact k1 (by omega)
  · dsimp only [zCont, Option.toList, List.cons_append, List.nil_append]
    refine r_ireturn rfl rfl (dd_X12_isFine 7 _ _ _ rfl) ?_
    exact k0 (by omega)

abbrev mX12_goesWell : zM := (RX12, cX12_goesWell, 2, (Option.some Jvm.ClassFile.FieldType.boolean), [], "goesWell", 10)
set_option maxRecDepth 20000 in
theorem c_X12_goesWell {g : zGT} {Q : zO → zH → Prop} {h : zH} (hg : zG g) {h0 : zH} {m : Nat} {A : Nat → Nat} {S : zS} {t : Int} (hM : MI h0 m A S t h) {w : Int} (hw : zR w) (k1 : w = 0 → ∀ h1, MI h0 m A S w h1 → Q (.inl (some (.int (zI 1)))) h1) (k0 : w ≠ 0 → ∀ h1, MI h0 m A S w h1 → Q (.inl (some (.int (zI 0)))) h1) : zC g (.code yX12_goesWell cX12_goesWell 2 (Option.some Jvm.ClassFile.FieldType.boolean)) yX12_goesWell 10 0 0 [.ref m, .int (zI w)] h Q := by
  refine zC_of (M := mX12_goesWell) (lv := [some (.ref m), some (.int (zI w))]) (by decide) rfl rfl (Nat.le_of_ble_eq_true rfl) rfl rfl ?_
  refine r_aload_0 1 rfl (dd_X12_goesWell 0 _ _ _ rfl) ?_
  refine r_iload_1 2 rfl (dd_X12_goesWell 1 _ _ _ rfl) ?_
  refine m_putt hg hM (tb_6 56 _ rfl) 5 rfl (dd_X12_goesWell 2 _ _ _ rfl) (fun h1 hM => ?_)
  refine r_iload_1 6 rfl (dd_X12_goesWell 3 _ _ _ rfl) ?_
  refine r_ifne (by omega) 9 rfl 13 rfl (dd_X12_goesWell 4 _ _ _ rfl) (fun hc2 => ?_) (fun hc2 => ?_)
  · refine r_iconst 14 rfl (dd_X12_goesWell 7 _ _ _ rfl) ?_
    refine r_ireturn rfl rfl (dd_X12_goesWell 8 _ _ _ rfl) ?_
    exact k0 (by omega) _ hM
  · refine r_iconst 10 rfl (dd_X12_goesWell 5 _ _ _ rfl) ?_
    refine r_goto 14 rfl (dd_X12_goesWell 6 _ _ _ rfl) ?_
    refine r_ireturn rfl rfl (dd_X12_goesWell 8 _ _ _ rfl) ?_
    exact k1 (by omega) _ hM

abbrev mX12_check : zM := (RX12, cX12_check, 1, (Option.some Jvm.ClassFile.FieldType.int), [], "check", 10)
set_option maxRecDepth 20000 in
theorem c_X12_check {g : zGT} {Q : zO → zH → Prop} {h : zH} (hg : zG g) {a : Int} (ha : 0 ≤ a) (hb : a ≤ 100000) (k : Q (.inl (some (.int (zI (zdigit a))))) h) : zC g (.code yX12_check cX12_check 1 (Option.some Jvm.ClassFile.FieldType.int)) yX12_check 10 0 0 [.int (zI a)] h Q := by
  refine zC_of (M := mX12_check) (lv := [some (.int (zI a))]) (by decide) rfl rfl (Nat.le_of_ble_eq_true rfl) rfl rfl ?_
  refine r_iload_0 1 rfl (dd_X12_check 0 _ _ _ rfl) ?_
  refine r_sipush (by decide) 4 rfl (dd_X12_check 1 _ _ _ rfl) ?_
  refine r_idiv (by omega) (by omega) (by omega) (by omega) 5 rfl (dd_X12_check 2 _ _ _ rfl) ?_
  refine r_iconst 6 rfl (dd_X12_check 3 _ _ _ rfl) ?_
  refine r_imul 7 rfl (dd_X12_check 4 _ _ _ rfl) ?_
  refine r_iload_0 8 rfl (dd_X12_check 5 _ _ _ rfl) ?_
  refine r_bipush (by decide) 10 rfl (dd_X12_check 6 _ _ _ rfl) ?_
  refine r_idiv (by omega) (by omega) (by omega) (by omega) 11 rfl (dd_X12_check 7 _ _ _ rfl) ?_
  refine r_bipush (by decide) 13 rfl (dd_X12_check 8 _ _ _ rfl) ?_
  refine r_irem (by omega) (by omega) (by omega) (by omega) 14 rfl (dd_X12_check 9 _ _ _ rfl) ?_
  refine r_iconst 15 rfl (dd_X12_check 10 _ _ _ rfl) ?_
  refine r_imul 16 rfl (dd_X12_check 11 _ _ _ rfl) ?_
  refine r_iadd 17 rfl (dd_X12_check 12 _ _ _ rfl) ?_
  refine r_iload_0 18 rfl (dd_X12_check 13 _ _ _ rfl) ?_
  refine r_bipush (by decide) 20 rfl (dd_X12_check 14 _ _ _ rfl) ?_
  refine r_idiv (by omega) (by omega) (by omega) (by omega) 21 rfl (dd_X12_check 15 _ _ _ rfl) ?_
  refine r_bipush (by decide) 23 rfl (dd_X12_check 16 _ _ _ rfl) ?_
  refine r_irem (by omega) (by omega) (by omega) (by omega) 24 rfl (dd_X12_check 17 _ _ _ rfl) ?_
  refine r_iconst 25 rfl (dd_X12_check 18 _ _ _ rfl) ?_
  refine r_imul 26 rfl (dd_X12_check 19 _ _ _ rfl) ?_
  refine r_iadd 27 rfl (dd_X12_check 20 _ _ _ rfl) ?_
  refine r_iload_0 28 rfl (dd_X12_check 21 _ _ _ rfl) ?_
  refine r_bipush (by decide) 30 rfl (dd_X12_check 22 _ _ _ rfl) ?_
  refine r_irem (by omega) (by omega) (by omega) (by omega) 31 rfl (dd_X12_check 23 _ _ _ rfl) ?_
  refine r_iconst 32 rfl (dd_X12_check 24 _ _ _ rfl) ?_
  refine r_imul 33 rfl (dd_X12_check 25 _ _ _ rfl) ?_
  refine r_iadd 34 rfl (dd_X12_check 26 _ _ _ rfl) ?_
  refine r_bipush (by decide) 36 rfl (dd_X12_check 27 _ _ _ rfl) ?_
  refine r_irem (by omega) (by omega) (by omega) (by omega) 37 rfl (dd_X12_check 28 _ _ _ rfl) ?_
  refine r_ireturn rfl rfl (dd_X12_check 29 _ _ _ rfl) ?_
  exact k

abbrev mX12_isLetter : zM := (RX12, cX12_isLetter, 1, (Option.some Jvm.ClassFile.FieldType.boolean), [], "isLetter", 11)
set_option maxRecDepth 20000 in
theorem c_X12_isLetter {g : zGT} {Q : zO → zH → Prop} {h : zH} (hg : zG g) {a : Int} (ha : zR a) (k1 : 65 ≤ a ∧ a ≤ 90 → Q (.inl (some (.int (zI 1)))) h) (k0 : ¬ (65 ≤ a ∧ a ≤ 90) → Q (.inl (some (.int (zI 0)))) h) : zC g (.code yX12_isLetter cX12_isLetter 1 (Option.some Jvm.ClassFile.FieldType.boolean)) yX12_isLetter 11 0 0 [.int (zI a)] h Q := by
  refine zC_of (M := mX12_isLetter) (lv := [some (.int (zI a))]) (by decide) rfl rfl (Nat.le_of_ble_eq_true rfl) rfl rfl ?_
  refine r_iload_0 1 rfl (dd_X12_isLetter 0 _ _ _ rfl) ?_
  refine r_bipush (by decide) 3 rfl (dd_X12_isLetter 1 _ _ _ rfl) ?_
  refine r_bipush (by decide) 5 rfl (dd_X12_isLetter 2 _ _ _ rfl) ?_
  refine r_callS3 (lvl := 10) (mc1 := 0) (ms1 := 0) 0 0 hg rfl md_X12_in ws_X12_in (tb_6 209 _ rfl) (by decide) (by decide) rfl (Nat.le_of_ble_eq_true rfl) (by decide) (by decide) 8 rfl (dd_X12_isLetter 3 _ _ _ rfl) ?_
  refine c_X12_in hg (by omega) (by omega) (by omega) (fun hb1 => ?_) (fun hb1 => ?_)
  · dsimp only [zCont, Option.toList, List.cons_append, List.nil_append]
    refine r_ireturn rfl rfl (dd_X12_isLetter 4 _ _ _ rfl) ?_
    exact k1 (by omega)
  · dsimp only [zCont, Option.toList, List.cons_append, List.nil_append]
    refine r_ireturn rfl rfl (dd_X12_isLetter 4 _ _ _ rfl) ?_
    exact k0 (by omega)

abbrev mX12_isAbout : zM := (RX12, cX12_isAbout, 3, (Option.some Jvm.ClassFile.FieldType.boolean), [], "isAbout", 11)
set_option maxRecDepth 20000 in
theorem c_X12_isAbout {g : zGT} {Q : zO → zH → Prop} {h : zH} (hg : zG g) {h0 : zH} {m : Nat} {A : Nat → Nat} {S : zS} {t : Int} (hM : MI h0 m A S t h) {a b : Int} (ha : zR a) (hb : zR b) (k1 : a ≤ 1 ∨ a = 7 ∧ 0 ≤ b ∧ b ≤ 3 ∨ a ≠ 7 ∧ b = 0 → Q (.inl (some (.int (zI 1)))) h) (k0 : ¬ (a ≤ 1 ∨ a = 7 ∧ 0 ≤ b ∧ b ≤ 3 ∨ a ≠ 7 ∧ b = 0) → Q (.inl (some (.int (zI 0)))) h) : zC g (.code yX12_isAbout cX12_isAbout 3 (Option.some Jvm.ClassFile.FieldType.boolean)) yX12_isAbout 11 0 0 [.ref m, .int (zI a), .int (zI b)] h Q := by
  refine zC_of (M := mX12_isAbout) (lv := [some (.ref m), some (.int (zI a)), some (.int (zI b))]) (by decide) rfl rfl (Nat.le_of_ble_eq_true rfl) rfl rfl ?_
  refine r_iload_1 1 rfl (dd_X12_isAbout 0 _ _ _ rfl) ?_
  refine r_iconst 2 rfl (dd_X12_isAbout 1 _ _ _ rfl) ?_
  refine r_if_icmple (by omega) (by omega) 5 rfl 27 rfl (dd_X12_isAbout 2 _ _ _ rfl) (fun hc1 => ?_) (fun hc1 => ?_)
  · refine r_iconst 28 rfl (dd_X12_isAbout 14 _ _ _ rfl) ?_
    refine r_goto 32 rfl (dd_X12_isAbout 15 _ _ _ rfl) ?_
    refine r_ireturn rfl rfl (dd_X12_isAbout 17 _ _ _ rfl) ?_
    exact k1 (by omega)
  · refine r_iload_1 6 rfl (dd_X12_isAbout 3 _ _ _ rfl) ?_
    refine r_bipush (by decide) 8 rfl (dd_X12_isAbout 4 _ _ _ rfl) ?_
    refine r_if_icmpne (by omega) (by omega) 11 rfl 23 rfl (dd_X12_isAbout 5 _ _ _ rfl) (fun hc2 => ?_) (fun hc2 => ?_)
    · refine r_iload_2 24 rfl (dd_X12_isAbout 12 _ _ _ rfl) ?_
      refine r_ifne (by omega) 27 rfl 31 rfl (dd_X12_isAbout 13 _ _ _ rfl) (fun hc3 => ?_) (fun hc3 => ?_)
      · refine r_iconst 32 rfl (dd_X12_isAbout 16 _ _ _ rfl) ?_
        refine r_ireturn rfl rfl (dd_X12_isAbout 17 _ _ _ rfl) ?_
        exact k0 (by omega)
      · refine r_iconst 28 rfl (dd_X12_isAbout 14 _ _ _ rfl) ?_
        refine r_goto 32 rfl (dd_X12_isAbout 15 _ _ _ rfl) ?_
        refine r_ireturn rfl rfl (dd_X12_isAbout 17 _ _ _ rfl) ?_
        exact k1 (by omega)
    · refine r_iload_2 12 rfl (dd_X12_isAbout 6 _ _ _ rfl) ?_
      refine r_iconst 13 rfl (dd_X12_isAbout 7 _ _ _ rfl) ?_
      refine r_iconst 14 rfl (dd_X12_isAbout 8 _ _ _ rfl) ?_
      refine r_callS3 (lvl := 10) (mc1 := 0) (ms1 := 0) 0 0 hg rfl md_X12_in ws_X12_in (tb_6 209 _ rfl) (by decide) (by decide) rfl (Nat.le_of_ble_eq_true rfl) (by decide) (by decide) 17 rfl (dd_X12_isAbout 9 _ _ _ rfl) ?_
      refine c_X12_in hg (by omega) (by omega) (by omega) (fun hb4 => ?_) (fun hb4 => ?_)
      · dsimp only [zCont, Option.toList, List.cons_append, List.nil_append]
        refine r_ifeq (by omega) 20 rfl 31 rfl (dd_X12_isAbout 10 _ _ _ rfl) (fun q => absurd q (by decide)) (fun _ => ?_)
        refine r_goto 27 rfl (dd_X12_isAbout 11 _ _ _ rfl) ?_
        refine r_iconst 28 rfl (dd_X12_isAbout 14 _ _ _ rfl) ?_
        refine r_goto 32 rfl (dd_X12_isAbout 15 _ _ _ rfl) ?_
        refine r_ireturn rfl rfl (dd_X12_isAbout 17 _ _ _ rfl) ?_
        exact k1 (by omega)
      · dsimp only [zCont, Option.toList, List.cons_append, List.nil_append]
        refine r_ifeq (by omega) 20 rfl 31 rfl (dd_X12_isAbout 10 _ _ _ rfl) (fun _ => ?_) (fun q => absurd q (by decide))
        refine r_iconst 32 rfl (dd_X12_isAbout 16 _ _ _ rfl) ?_
        refine r_ireturn rfl rfl (dd_X12_isAbout 17 _ _ _ rfl) ?_
        exact k0 (by omega)

abbrev mX12_thrown : zM := (RX12, cX12_thrown, 1, (Option.some Jvm.ClassFile.FieldType.int), [], "thrown", 10)
set_option maxRecDepth 20000 in
theorem c_X12_thrown {g : zGT} {Q : zO → zH → Prop} {h : zH} (hg : zG g) {h0 : zH} {m : Nat} {A : Nat → Nat} {S : zS} {t : Int} (hM : MI h0 m A S t h)  (k : Q (.inl (some (.int (zI t)))) h) : zC g (.code yX12_thrown cX12_thrown 1 (Option.some Jvm.ClassFile.FieldType.int)) yX12_thrown 10 0 0 [.ref m] h Q := by
  refine zC_of (M := mX12_thrown) (lv := [some (.ref m)]) (by decide) rfl rfl (Nat.le_of_ble_eq_true rfl) rfl rfl ?_
  refine r_aload_0 1 rfl (dd_X12_thrown 0 _ _ _ rfl) ?_
  refine m_getx 0 hg hM hM.2.2 (by decide) (tb_6 56 _ rfl) 4 rfl (dd_X12_thrown 1 _ _ _ rfl) ?_ (fun _ _ _ => rfl)
  refine r_ireturn rfl rfl (dd_X12_thrown 2 _ _ _ rfl) ?_
  exact k

abbrev mX12_clear : zM := (RX12, cX12_clear, 2, (Option.some Jvm.ClassFile.FieldType.int), [], "clear", 10)
set_option maxRecDepth 20000 in
theorem c_X12_clear {g : zGT} {Q : zO → zH → Prop} {h : zH} (hg : zG g) {h0 : zH} {m : Nat} {A : Nat → Nat} {S : zS} {n : Nat} {t : Int} (hI : MInv n S) (hM : MI h0 m A S t h) (k : ∀ h1, MI h0 m A (zu1 S.1 2 0, S.2) 0 h1 → Q (.inl (some (.int (zI (S.1 2))))) h1) : zC g (.code yX12_clear cX12_clear 2 (Option.some Jvm.ClassFile.FieldType.int)) yX12_clear 10 0 0 [.ref m] h Q := by
  refine zC_of (M := mX12_clear) (lv := [some (.ref m), none]) (by decide) rfl rfl (Nat.le_of_ble_eq_true rfl) rfl rfl ?_
  refine r_aload_0 1 rfl (dd_X12_clear 0 _ _ _ rfl) ?_
  refine r_iconst 2 rfl (dd_X12_clear 1 _ _ _ rfl) ?_
  refine m_putt hg hM (tb_6 56 _ rfl) 5 rfl (dd_X12_clear 2 _ _ _ rfl) (fun h1 hM => ?_)
  refine r_aload_0 6 rfl (dd_X12_clear 3 _ _ _ rfl) ?_
  refine m_get 2 hg hM (by unfold z_free; decide) rfl (by decide) (tb_6 58 _ rfl) 9 rfl (dd_X12_clear 4 _ _ _ rfl) ?_ (fun _ _ _ => rfl)
  refine r_istore_1 10 rfl (by decide) rfl (dd_X12_clear 5 _ _ _ rfl) ?_
  refine r_aload_0 11 rfl (dd_X12_clear 6 _ _ _ rfl) ?_
  refine r_iconst 12 rfl (dd_X12_clear 7 _ _ _ rfl) ?_
  refine m_put 2 hg hM rfl (by decide) (by decide) rfl (fun _ _ _ => rfl) rfl rfl (tb_6 58 _ rfl) 15 rfl (dd_X12_clear 8 _ _ _ rfl) (fun h3 hM => ?_)
  refine r_iload_1 16 rfl (dd_X12_clear 9 _ _ _ rfl) ?_
  refine r_ireturn rfl rfl (dd_X12_clear 10 _ _ _ rfl) ?_
  exact k _ hM

abbrev mX12_type : zM := (RX12, cX12_type, 2, (Option.some Jvm.ClassFile.FieldType.int), [], "type", 12)
set_option maxRecDepth 20000 in
theorem c_X12_type {g : zGT} {Q : zO → zH → Prop} {h : zH} (hg : zG g) {h0 : zH} {m : Nat} {A : Nat → Nat} {S : zS} {n : Nat} {t : Int} (hI : MInv n S) (hM : MI h0 m A S t h) {a : Int} (ha : 0 ≤ a) (hb : a < 65536) (k0 : S.1 2 = 8 → ∀ h1, MI h0 m A S 1 h1 → Q (.inl (some (.int (zI 0)))) h1) (k1 : S.1 2 ≠ 8 → ∀ h1, MI h0 m A (zu1 S.1 2 (S.1 2 + 1), zu2 S.2 3 (S.1 2).toNat a) 0 h1 → Q (.inl (some (.int (zI (S.1 2 + 1))))) h1) : zC g (.code yX12_type cX12_type 2 (Option.some Jvm.ClassFile.FieldType.int)) yX12_type 12 0 0 [.ref m, .int (zI a)] h Q := by
  refine zC_of (M := mX12_type) (lv := [some (.ref m), some (.int (zI a))]) (by decide) rfl rfl (Nat.le_of_ble_eq_true rfl) rfl rfl ?_
  have e1 := hI.signs
  refine r_aload_0 1 rfl (dd_X12_type 0 _ _ _ rfl) ?_
  refine r_aload_0 2 rfl (dd_X12_type 1 _ _ _ rfl) ?_
  refine m_get 2 hg hM (by unfold z_free; decide) rfl (by decide) (tb_6 58 _ rfl) 5 rfl (dd_X12_type 2 _ _ _ rfl) ?_ (fun _ _ _ => rfl)
  refine r_bipush (by decide) 7 rfl (dd_X12_type 3 _ _ _ rfl) ?_
  refine r_if_icmpne (by omega) (by omega) 10 rfl 14 rfl (dd_X12_type 4 _ _ _ rfl) (fun hc1 => ?_) (fun hc1 => ?_)
  · refine r_iconst 15 rfl (dd_X12_type 7 _ _ _ rfl) ?_
    refine r_callV1 (lvl := 10) (mc1 := 0) (ms1 := 0) 0 0 hg rfl md_X12_goesWell zc_X12 hM.kd wi_X12_goesWell wv_X12_goesWell (tb_6 197 _ rfl) (by decide) (by decide) rfl (Nat.le_of_ble_eq_true rfl) (by decide) (by decide) 18 rfl (dd_X12_type 8 _ _ _ rfl) ?_
    refine c_X12_goesWell hg hM (by decide) (fun _ h2 hM => ?_) (fun q => absurd rfl q)
    dsimp only [zCont, Option.toList, List.cons_append, List.nil_append]
    refine r_ifne (by omega) 21 rfl 23 rfl (dd_X12_type 9 _ _ _ rfl) (fun _ => ?_) (fun q => absurd q (by decide))
    refine r_aload_0 24 rfl (dd_X12_type 12 _ _ _ rfl) ?_
    refine m_arr 3 hg hM (by decide) (by decide) (tb_6 59 _ rfl) 27 rfl (dd_X12_type 13 _ _ _ rfl) ?_ (fun _ _ _ => rfl)
    refine r_aload_0 28 rfl (dd_X12_type 14 _ _ _ rfl) ?_
    refine m_get 2 hg hM (by unfold z_free; decide) rfl (by decide) (tb_6 58 _ rfl) 31 rfl (dd_X12_type 15 _ _ _ rfl) ?_ (fun _ _ _ => rfl)
    refine r_iload_1 32 rfl (dd_X12_type 16 _ _ _ rfl) ?_
    refine m_cast 3 _ rfl hg hM rfl (by omega) (z_lt (n2 := 8) rfl (by omega)) (by decide) (z_nchar (by omega) (by omega)) 33 rfl (dd_X12_type 17 _ _ _ rfl) (fun h3 hM => ?_)
    refine r_aload_0 34 rfl (dd_X12_type 18 _ _ _ rfl) ?_
    refine r_dup rfl 35 rfl (dd_X12_type 19 _ _ _ rfl) ?_
    refine m_get 2 hg hM (by unfold z_free; decide) rfl (by decide) (tb_6 58 _ rfl) 38 rfl (dd_X12_type 20 _ _ _ rfl) ?_ (fun _ _ _ => rfl)
    refine r_iconst 39 rfl (dd_X12_type 21 _ _ _ rfl) ?_
    refine r_iadd 40 rfl (dd_X12_type 22 _ _ _ rfl) ?_
    refine m_put 2 hg hM rfl (by decide) (by decide) rfl (fun _ _ _ => rfl) rfl rfl (tb_6 58 _ rfl) 43 rfl (dd_X12_type 23 _ _ _ rfl) (fun h5 hM => ?_)
    refine r_aload_0 44 rfl (dd_X12_type 24 _ _ _ rfl) ?_
    refine m_get 2 hg hM (by unfold z_free; decide) rfl (by decide) (tb_6 58 _ rfl) 47 rfl (dd_X12_type 25 _ _ _ rfl) ?_ (fun _ _ _ => rfl)
    refine r_ireturn rfl rfl (dd_X12_type 26 _ _ _ rfl) ?_
    exact k1 (by omega) _ hM
  · refine r_iconst 11 rfl (dd_X12_type 5 _ _ _ rfl) ?_
    refine r_goto 15 rfl (dd_X12_type 6 _ _ _ rfl) ?_
    refine r_callV1 (lvl := 10) (mc1 := 0) (ms1 := 0) 0 0 hg rfl md_X12_goesWell zc_X12 hM.kd wi_X12_goesWell wv_X12_goesWell (tb_6 197 _ rfl) (by decide) (by decide) rfl (Nat.le_of_ble_eq_true rfl) (by decide) (by decide) 18 rfl (dd_X12_type 8 _ _ _ rfl) ?_
    refine c_X12_goesWell hg hM (by decide) (fun q => absurd q (by decide)) (fun _ h6 hM => ?_)
    dsimp only [zCont, Option.toList, List.cons_append, List.nil_append]
    refine r_ifne (by omega) 21 rfl 23 rfl (dd_X12_type 9 _ _ _ rfl) (fun q => absurd q (by decide)) (fun _ => ?_)
    refine r_iconst 22 rfl (dd_X12_type 10 _ _ _ rfl) ?_
    refine r_ireturn rfl rfl (dd_X12_type 11 _ _ _ rfl) ?_
    exact k0 (by omega) _ hM
end
section
theorem zchg_range {s a its : Int} (h : 0 ≤ s ∧ s ≤ 4) (h2 : 0 ≤ a ∧ a ≤ 4) : (0 ≤ (zchg (s, a) its).1 ∧ (zchg (s, a) its).1 ≤ 4) ∧ (0 ≤ (zchg (s, a) its).2 ∧ (zchg (s, a) its).2 ≤ 4) := by
  unfold zchg
  dsimp only
  split
  · dsimp only; omega
  split
  · dsimp only; omega
  split
  · split <;> (dsimp only; omega)
  split
  · dsimp only; omega
  split
  · dsimp only; omega
  split <;> (dsimp only; omega)
theorem zst_range (S : zS) (v : Nat) : ∀ j, (0 ≤ (zst S v j).1 ∧ (zst S v j).1 ≤ 4) ∧ (0 ≤ (zst S v j).2 ∧ (zst S v j).2 ≤ 4)
  | 0 => by unfold zst; dsimp only; omega
  | j + 1 => by
    unfold zst
    have := zst_range S v j
    exact zchg_range this.1 this.2
theorem zstate_range (S : zS) (v : Nat) (w : Int) : 0 ≤ zstate S v w ∧ zstate S v w ≤ 4 := (zst_range S v _).1
theorem zev_eq {S : zS} {v j : Nat} {w : Int} (hj : (j : Int) ≤ S.2 8 v) (ha : ∀ i, i < j → S.2 11 (30 * v + i) ≤ w) (hs : (j : Int) < S.2 8 v → ¬ S.2 11 (30 * v + j) ≤ w) : zev S v w = j := by
  unfold zev
  exact zpre_eq (by omega) (fun i hi => by simpa using ha i hi) (fun q => by simpa using hs (by omega))
theorem zlat_range {S : zS} {n v : Nat} {its wo : Int} (hI : MInv n S) (hw : -1 ≤ wo ∧ wo ≤ 9) : ∀ j, -1 ≤ zlat S v its wo j ∧ zlat S v its wo j ≤ 9
  | 0 => hw
  | j + 1 => by
    unfold zlat
    have := hI.about (30 * v + j)
    split
    · omega
    · exact zlat_range hI hw j
theorem zlast_range {S : zS} {n v : Nat} {w its wo : Int} (hI : MInv n S) (hw : -1 ≤ wo ∧ wo ≤ 9) : -1 ≤ zlast S v w its wo ∧ zlast S v w its wo ≤ 9 := zlat_range hI hw _
theorem zvof_range {S : zS} {s : Int} : ∀ v, -1 ≤ zvof S s v ∧ zvof S s v < (v : Int) + 1 ∧ zvof S s v ≤ v
  | 0 => by unfold zvof; omega
  | v + 1 => by
    unfold zvof
    have := zvof_range (S := S) (s := s) v
    split <;> omega
theorem zdigit_range (s : Int) : 0 ≤ zdigit s ∧ zdigit s ≤ 10 := by unfold zdigit; omega
end
section
abbrev mX12_vehicleOf : zM := (RX12, cX12_vehicleOf, 4, (Option.some Jvm.ClassFile.FieldType.int), [], "vehicleOf", 10)
set_option maxRecDepth 20000 in
theorem c_X12_vehicleOf {g : zGT} {Q : zO → zH → Prop} {h : zH} (hg : zG g) {h0 : zH} {m : Nat} {A : Nat → Nat} {S : zS} {n : Nat} {t : Int} (hI : MInv n S) (hM : MI h0 m A S t h) {a : Int} (ha : zR a) (k : Q (.inl (some (.int (zI (zvof S a (S.1 4).toNat))))) h) : zC g (.code yX12_vehicleOf cX12_vehicleOf 4 (Option.some Jvm.ClassFile.FieldType.int)) yX12_vehicleOf 10 0 0 [.ref m, .int (zI a)] h Q := by
  refine zC_of (M := mX12_vehicleOf) (lv := [some (.ref m), some (.int (zI a)), none, none]) (by decide) rfl rfl (Nat.le_of_ble_eq_true rfl) rfl rfl ?_
  have e1 := hI.vehicles
  refine r_iconst 1 rfl (dd_X12_vehicleOf 0 _ _ _ rfl) ?_
  refine r_istore_2 2 rfl (by decide) rfl (dd_X12_vehicleOf 1 _ _ _ rfl) ?_
  refine r_iconst 3 rfl (dd_X12_vehicleOf 2 _ _ _ rfl) ?_
  refine r_istore_3 4 rfl (by decide) rfl (dd_X12_vehicleOf 3 _ _ _ rfl) ?_
  have L4 : ∀ (tt : Nat), ∀ (j : Nat) (f b : Int), 12 - j < tt → (j ≤ 12) → ((j : Int) ≤ S.1 4) → (f = zvof S a j) → (b = j) → zX g mX12_vehicleOf 0 0 Q 4 [some (.ref m), some (.int (zI a)), some (.int (zI f)), some (.int (zI b))] [] h 0 0 := by
    intro tt
    induction tt with
    | zero => intros; exfalso; omega
    | succ tt ih =>
      intro j f b hlt hj hj2 hf hb
      have e2 := hI.serial j
      refine r_iload_3 5 rfl (dd_X12_vehicleOf 4 _ _ _ rfl) ?_
      refine r_aload_0 6 rfl (dd_X12_vehicleOf 5 _ _ _ rfl) ?_
      refine m_get 4 hg hM (by unfold z_free; decide) rfl (by decide) (tb_6 60 _ rfl) 9 rfl (dd_X12_vehicleOf 6 _ _ _ rfl) ?_ (fun _ _ _ => rfl)
      refine r_if_icmpge (by omega) (by omega) 12 rfl 34 rfl (dd_X12_vehicleOf 7 _ _ _ rfl) (fun hc1 => ?_) (fun hc1 => ?_)
      · refine r_iload_2 35 rfl (dd_X12_vehicleOf 20 _ _ _ rfl) ?_
        refine r_ireturn rfl rfl (dd_X12_vehicleOf 21 _ _ _ rfl) ?_
        rw [show (S.1 4).toNat = j by omega, ← hf] at k
        exact k
      · refine r_aload_0 13 rfl (dd_X12_vehicleOf 8 _ _ _ rfl) ?_
        refine m_arr 5 hg hM (by decide) (by decide) (tb_6 61 _ rfl) 16 rfl (dd_X12_vehicleOf 9 _ _ _ rfl) ?_ (fun _ _ _ => rfl)
        refine r_iload_3 17 rfl (dd_X12_vehicleOf 10 _ _ _ rfl) ?_
        refine m_iald 5 (j) (by omega) hg hM rfl (by omega) (z_lt (n2 := 12) rfl (by omega)) (by decide) 18 rfl (dd_X12_vehicleOf 11 _ _ _ rfl) ?_
        refine r_iload_1 19 rfl (dd_X12_vehicleOf 12 _ _ _ rfl) ?_
        refine r_if_icmpne (by omega) (by omega) 22 rfl 26 rfl (dd_X12_vehicleOf 13 _ _ _ rfl) (fun hc2 => ?_) (fun hc2 => ?_)
        · refine r_iload_2 27 rfl (dd_X12_vehicleOf 16 _ _ _ rfl) ?_
          refine r_istore_2 28 rfl (by decide) rfl (dd_X12_vehicleOf 17 _ _ _ rfl) ?_
          refine r_iinc_3 31 rfl (by decide) rfl (dd_X12_vehicleOf 18 _ _ _ rfl) ?_
          refine r_goto 4 rfl (dd_X12_vehicleOf 19 _ _ _ rfl) ?_
          exact r_sub _ (z_s1 (z_s1 (z_s1 (z_s1 z_sN)))) (ih (j + 1) _ _ (by omega) (by omega) (by omega) (by unfold zvof; first | (rw [if_pos (by omega)]; omega) | (rw [if_neg (by omega)]; exact hf)) (by omega))
        · refine r_iload_3 23 rfl (dd_X12_vehicleOf 14 _ _ _ rfl) ?_
          refine r_goto 27 rfl (dd_X12_vehicleOf 15 _ _ _ rfl) ?_
          refine r_istore_2 28 rfl (by decide) rfl (dd_X12_vehicleOf 17 _ _ _ rfl) ?_
          refine r_iinc_3 31 rfl (by decide) rfl (dd_X12_vehicleOf 18 _ _ _ rfl) ?_
          refine r_goto 4 rfl (dd_X12_vehicleOf 19 _ _ _ rfl) ?_
          exact r_sub _ (z_s1 (z_s1 (z_s1 (z_s1 z_sN)))) (ih (j + 1) _ _ (by omega) (by omega) (by omega) (by unfold zvof; first | (rw [if_pos (by omega)]; omega) | (rw [if_neg (by omega)]; exact hf)) (by omega))
  exact r_sub _ (z_s1 (z_s1 (z_s1 (z_s1 z_sN)))) (L4 1000000 0 _ _ (by omega) (by omega) (by omega) rfl rfl)

abbrev mX12_change : zM := (RX12, cX12_change, 2, (Option.none : Option Jvm.ClassFile.FieldType), [], "change", 10)
set_option maxRecDepth 20000 in
theorem c_X12_change {g : zGT} {Q : zO → zH → Prop} {h : zH} (hg : zG g) {h0 : zH} {m : Nat} {A : Nat → Nat} {S : zS} {t : Int} (hM : MI h0 m A S t h) {s a its : Int} (hs : 0 ≤ s ∧ s ≤ 4) (ha : 0 ≤ a ∧ a ≤ 4) (hi : zR its) (hx42 : fi_ h m 42 = s) (hx43 : fi_ h m 43 = a) (k : ∀ h1, MI h0 m A S t h1 → fi_ h1 m 42 = (zchg (s, a) its).1 → fi_ h1 m 43 = (zchg (s, a) its).2 → Q (.inl none) h1) : zC g (.code yX12_change cX12_change 2 (Option.none : Option Jvm.ClassFile.FieldType)) yX12_change 10 0 0 [.ref m, .int (zI its)] h Q := by
  refine zC_of (M := mX12_change) (lv := [some (.ref m), some (.int (zI its))]) (by decide) rfl rfl (Nat.le_of_ble_eq_true rfl) rfl rfl ?_
  refine r_aload_0 1 rfl (dd_X12_change 0 _ _ _ rfl) ?_
  refine m_getx 42 hg hM hx42 (by decide) (tb_6 98 _ rfl) 4 rfl (dd_X12_change 1 _ _ _ rfl) ?_ (fun _ _ _ => rfl)
  refine r_iconst 5 rfl (dd_X12_change 2 _ _ _ rfl) ?_
  refine r_if_icmpne (by omega) (by omega) 8 rfl 9 rfl (dd_X12_change 3 _ _ _ rfl) (fun hc1 => ?_) (fun hc1 => ?_)
  · refine r_iload_1 10 rfl (dd_X12_change 5 _ _ _ rfl) ?_
    refine r_bipush (by decide) 12 rfl (dd_X12_change 6 _ _ _ rfl) ?_
    refine r_if_icmpne (by omega) (by omega) 15 rfl 23 rfl (dd_X12_change 7 _ _ _ rfl) (fun hc2 => ?_) (fun hc2 => ?_)
    · refine r_aload_0 24 rfl (dd_X12_change 12 _ _ _ rfl) ?_
      refine m_getx 42 hg hM hx42 (by decide) (tb_6 98 _ rfl) 27 rfl (dd_X12_change 13 _ _ _ rfl) ?_ (fun _ _ _ => rfl)
      refine r_iconst 28 rfl (dd_X12_change 14 _ _ _ rfl) ?_
      refine r_if_icmpne (by omega) (by omega) 31 rfl 51 rfl (dd_X12_change 15 _ _ _ rfl) (fun hc3 => ?_) (fun hc3 => ?_)
      · refine r_iload_1 52 rfl (dd_X12_change 26 _ _ _ rfl) ?_
        refine r_iconst 53 rfl (dd_X12_change 27 _ _ _ rfl) ?_
        refine r_if_icmpne (by omega) (by omega) 56 rfl 72 rfl (dd_X12_change 28 _ _ _ rfl) (fun hc4 => ?_) (fun hc4 => ?_)
        · refine r_aload_0 73 rfl (dd_X12_change 37 _ _ _ rfl) ?_
          refine r_iload_1 74 rfl (dd_X12_change 38 _ _ _ rfl) ?_
          refine r_iconst 75 rfl (dd_X12_change 39 _ _ _ rfl) ?_
          refine r_if_icmpne (by omega) (by omega) 78 rfl 82 rfl (dd_X12_change 40 _ _ _ rfl) (fun hc5 => ?_) (fun hc5 => ?_)
          · refine r_iload_1 83 rfl (dd_X12_change 43 _ _ _ rfl) ?_
            refine r_iconst 84 rfl (dd_X12_change 44 _ _ _ rfl) ?_
            refine r_if_icmpne (by omega) (by omega) 87 rfl 91 rfl (dd_X12_change 45 _ _ _ rfl) (fun hc6 => ?_) (fun hc6 => ?_)
            · refine r_aload_0 92 rfl (dd_X12_change 48 _ _ _ rfl) ?_
              refine m_getx 42 hg hM hx42 (by decide) (tb_6 98 _ rfl) 95 rfl (dd_X12_change 49 _ _ _ rfl) ?_ (fun _ _ _ => rfl)
              refine m_putx 42 hg hM (by decide) (by decide) rfl (fun _ _ _ => rfl) rfl rfl (tb_6 98 _ rfl) 98 rfl (dd_X12_change 50 _ _ _ rfl) (fun h7 hM hx42 hk => ?_)
              try replace hx43 := (hk 43 (by decide)).trans hx43
              refine r_vreturn rfl (dd_X12_change 51 _ _ _ rfl) ?_
              exact k _ hM (hx42.trans (by simp [zchg, *])) (hx43.trans (by simp [zchg, *]))
            · refine r_iconst 88 rfl (dd_X12_change 46 _ _ _ rfl) ?_
              refine r_goto 95 rfl (dd_X12_change 47 _ _ _ rfl) ?_
              refine m_putx 42 hg hM (by decide) (by decide) rfl (fun _ _ _ => rfl) rfl rfl (tb_6 98 _ rfl) 98 rfl (dd_X12_change 50 _ _ _ rfl) (fun h8 hM hx42 hk => ?_)
              try replace hx43 := (hk 43 (by decide)).trans hx43
              refine r_vreturn rfl (dd_X12_change 51 _ _ _ rfl) ?_
              exact k _ hM (hx42.trans (by simp [zchg, *])) (hx43.trans (by simp [zchg, *]))
          · refine r_iconst 79 rfl (dd_X12_change 41 _ _ _ rfl) ?_
            refine r_goto 95 rfl (dd_X12_change 42 _ _ _ rfl) ?_
            refine m_putx 42 hg hM (by decide) (by decide) rfl (fun _ _ _ => rfl) rfl rfl (tb_6 98 _ rfl) 98 rfl (dd_X12_change 50 _ _ _ rfl) (fun h9 hM hx42 hk => ?_)
            try replace hx43 := (hk 43 (by decide)).trans hx43
            refine r_vreturn rfl (dd_X12_change 51 _ _ _ rfl) ?_
            exact k _ hM (hx42.trans (by simp [zchg, *])) (hx43.trans (by simp [zchg, *]))
        · refine r_aload_0 57 rfl (dd_X12_change 29 _ _ _ rfl) ?_
          refine r_aload_0 58 rfl (dd_X12_change 30 _ _ _ rfl) ?_
          refine m_getx 42 hg hM hx42 (by decide) (tb_6 98 _ rfl) 61 rfl (dd_X12_change 31 _ _ _ rfl) ?_ (fun _ _ _ => rfl)
          refine m_putx 43 hg hM (by decide) (by decide) rfl (fun _ _ _ => rfl) rfl rfl (tb_6 99 _ rfl) 64 rfl (dd_X12_change 32 _ _ _ rfl) (fun h10 hM hx43 hk => ?_)
          try replace hx42 := (hk 42 (by decide)).trans hx42
          refine r_aload_0 65 rfl (dd_X12_change 33 _ _ _ rfl) ?_
          refine r_iconst 66 rfl (dd_X12_change 34 _ _ _ rfl) ?_
          refine m_putx 42 hg hM (by decide) (by decide) rfl (fun _ _ _ => rfl) rfl rfl (tb_6 98 _ rfl) 69 rfl (dd_X12_change 35 _ _ _ rfl) (fun h11 hM hx42 hk => ?_)
          try replace hx43 := (hk 43 (by decide)).trans hx43
          refine r_goto 98 rfl (dd_X12_change 36 _ _ _ rfl) ?_
          refine r_vreturn rfl (dd_X12_change 51 _ _ _ rfl) ?_
          exact k _ hM (hx42.trans (by simp [zchg, *])) (hx43.trans (by simp [zchg, *]))
      · refine r_aload_0 32 rfl (dd_X12_change 16 _ _ _ rfl) ?_
        refine r_iload_1 33 rfl (dd_X12_change 17 _ _ _ rfl) ?_
        refine r_iconst 34 rfl (dd_X12_change 18 _ _ _ rfl) ?_
        refine r_if_icmpne (by omega) (by omega) 37 rfl 44 rfl (dd_X12_change 19 _ _ _ rfl) (fun hc12 => ?_) (fun hc12 => ?_)
        · refine r_iconst 45 rfl (dd_X12_change 23 _ _ _ rfl) ?_
          refine m_putx 42 hg hM (by decide) (by decide) rfl (fun _ _ _ => rfl) rfl rfl (tb_6 98 _ rfl) 48 rfl (dd_X12_change 24 _ _ _ rfl) (fun h13 hM hx42 hk => ?_)
          try replace hx43 := (hk 43 (by decide)).trans hx43
          refine r_goto 98 rfl (dd_X12_change 25 _ _ _ rfl) ?_
          refine r_vreturn rfl (dd_X12_change 51 _ _ _ rfl) ?_
          exact k _ hM (hx42.trans (by simp [zchg, *])) (hx43.trans (by simp [zchg, *]))
        · refine r_aload_0 38 rfl (dd_X12_change 20 _ _ _ rfl) ?_
          refine m_getx 43 hg hM hx43 (by decide) (tb_6 99 _ rfl) 41 rfl (dd_X12_change 21 _ _ _ rfl) ?_ (fun _ _ _ => rfl)
          refine r_goto 45 rfl (dd_X12_change 22 _ _ _ rfl) ?_
          refine m_putx 42 hg hM (by decide) (by decide) rfl (fun _ _ _ => rfl) rfl rfl (tb_6 98 _ rfl) 48 rfl (dd_X12_change 24 _ _ _ rfl) (fun h14 hM hx42 hk => ?_)
          try replace hx43 := (hk 43 (by decide)).trans hx43
          refine r_goto 98 rfl (dd_X12_change 25 _ _ _ rfl) ?_
          refine r_vreturn rfl (dd_X12_change 51 _ _ _ rfl) ?_
          exact k _ hM (hx42.trans (by simp [zchg, *])) (hx43.trans (by simp [zchg, *]))
    · refine r_aload_0 16 rfl (dd_X12_change 8 _ _ _ rfl) ?_
      refine r_iconst 17 rfl (dd_X12_change 9 _ _ _ rfl) ?_
      refine m_putx 42 hg hM (by decide) (by decide) rfl (fun _ _ _ => rfl) rfl rfl (tb_6 98 _ rfl) 20 rfl (dd_X12_change 10 _ _ _ rfl) (fun h15 hM hx42 hk => ?_)
      try replace hx43 := (hk 43 (by decide)).trans hx43
      refine r_goto 98 rfl (dd_X12_change 11 _ _ _ rfl) ?_
      refine r_vreturn rfl (dd_X12_change 51 _ _ _ rfl) ?_
      exact k _ hM (hx42.trans (by simp [zchg, *])) (hx43.trans (by simp [zchg, *]))
  · refine r_vreturn rfl (dd_X12_change 4 _ _ _ rfl) ?_
    exact k _ hM (hx42.trans (by simp [zchg, *])) (hx43.trans (by simp [zchg, *]))

abbrev mX12_stateOn : zM := (RX12, cX12_stateOn, 4, (Option.some Jvm.ClassFile.FieldType.int), [], "stateOn", 11)
set_option maxRecDepth 20000 in
theorem c_X12_stateOn {g : zGT} {Q : zO → zH → Prop} {h : zH} (hg : zG g) {h0 : zH} {m : Nat} {A : Nat → Nat} {S : zS} {n : Nat} {t : Int} (hI : MInv n S) (hM : MI h0 m A S t h) {v : Nat} {w : Int} (hv : v < 12) (hw : zR w) (k : ∀ h1, MI h0 m A S t h1 → Q (.inl (some (.int (zI (zstate S v w))))) h1) : zC g (.code yX12_stateOn cX12_stateOn 4 (Option.some Jvm.ClassFile.FieldType.int)) yX12_stateOn 11 0 0 [.ref m, .int (zI v), .int (zI w)] h Q := by
  refine zC_of (M := mX12_stateOn) (lv := [some (.ref m), some (.int (zI v)), some (.int (zI w)), none]) (by decide) rfl rfl (Nat.le_of_ble_eq_true rfl) rfl rfl ?_
  have e6 := hI.events v
  refine r_aload_0 1 rfl (dd_X12_stateOn 0 _ _ _ rfl) ?_
  refine r_iconst 2 rfl (dd_X12_stateOn 1 _ _ _ rfl) ?_
  refine m_putx 42 hg hM (by decide) (by decide) rfl (fun _ _ _ => rfl) rfl rfl (tb_6 98 _ rfl) 5 rfl (dd_X12_stateOn 2 _ _ _ rfl) (fun h1 hM hx42 hk => ?_)
  try replace hx43 := (hk 43 (by decide)).trans hx43
  refine r_aload_0 6 rfl (dd_X12_stateOn 3 _ _ _ rfl) ?_
  refine r_iconst 7 rfl (dd_X12_stateOn 4 _ _ _ rfl) ?_
  refine m_putx 43 hg hM (by decide) (by decide) rfl (fun _ _ _ => rfl) rfl rfl (tb_6 99 _ rfl) 10 rfl (dd_X12_stateOn 5 _ _ _ rfl) (fun h2 hM hx43 hk => ?_)
  try replace hx42 := (hk 42 (by decide)).trans hx42
  refine r_bipush (by decide) 12 rfl (dd_X12_stateOn 6 _ _ _ rfl) ?_
  refine r_iload_1 13 rfl (dd_X12_stateOn 7 _ _ _ rfl) ?_
  refine r_imul 14 rfl (dd_X12_stateOn 8 _ _ _ rfl) ?_
  refine r_istore_3 15 rfl (by decide) rfl (dd_X12_stateOn 9 _ _ _ rfl) ?_
  have L15 : ∀ (tt : Nat), ∀ (j : Nat) (a : Int) (h : zH), 30 - j < tt → ((j : Int) ≤ S.2 8 v) → (a = 30 * v + j) → (∀ i, i < j → S.2 11 (30 * v + i) ≤ w) → (MI h0 m A S t h) → (fi_ h m 42 = (zst S v j).1) → (fi_ h m 43 = (zst S v j).2) → zX g mX12_stateOn 0 0 Q 15 [some (.ref m), some (.int (zI v)), some (.int (zI w)), some (.int (zI a))] [] h 0 0 := by
    intro tt
    induction tt with
    | zero => intros; exfalso; omega
    | succ tt ih =>
      intro j a h hlt hj ha hall hM hx42 hx43
      have e4 := hI.day (30 * v + j)
      have e5 := hI.kind (30 * v + j)
      have e6 := hI.events v
      refine r_iload_3 16 rfl (dd_X12_stateOn 10 _ _ _ rfl) ?_
      refine r_bipush (by decide) 18 rfl (dd_X12_stateOn 11 _ _ _ rfl) ?_
      refine r_iload_1 19 rfl (dd_X12_stateOn 12 _ _ _ rfl) ?_
      refine r_imul 20 rfl (dd_X12_stateOn 13 _ _ _ rfl) ?_
      refine r_aload_0 21 rfl (dd_X12_stateOn 14 _ _ _ rfl) ?_
      refine m_arr 8 hg hM (by decide) (by decide) (tb_6 64 _ rfl) 24 rfl (dd_X12_stateOn 15 _ _ _ rfl) ?_ (fun _ _ _ => rfl)
      refine r_iload_1 25 rfl (dd_X12_stateOn 16 _ _ _ rfl) ?_
      refine m_iald 8 (v) (by omega) hg hM rfl (by omega) (z_lt (n2 := 12) rfl (by omega)) (by decide) 26 rfl (dd_X12_stateOn 17 _ _ _ rfl) ?_
      refine r_iadd 27 rfl (dd_X12_stateOn 18 _ _ _ rfl) ?_
      refine r_if_icmpge (by omega) (by omega) 30 rfl 56 rfl (dd_X12_stateOn 19 _ _ _ rfl) (fun hc3 => ?_) (fun hc3 => ?_)
      · refine r_aload_0 57 rfl (dd_X12_stateOn 34 _ _ _ rfl) ?_
        refine m_getx 42 hg hM hx42 (by decide) (tb_6 98 _ rfl) 60 rfl (dd_X12_stateOn 35 _ _ _ rfl) ?_ (fun _ _ _ => rfl)
        refine r_ireturn rfl rfl (dd_X12_stateOn 36 _ _ _ rfl) ?_
        have hz : zev S v w = j := zev_eq (by omega) hall (by omega)
        have k := k _ hM
        unfold zstate at k
        rw [hz] at k
        exact k
      · refine r_aload_0 31 rfl (dd_X12_stateOn 20 _ _ _ rfl) ?_
        refine m_arr 11 hg hM (by decide) (by decide) (tb_6 67 _ rfl) 34 rfl (dd_X12_stateOn 21 _ _ _ rfl) ?_ (fun _ _ _ => rfl)
        refine r_iload_3 35 rfl (dd_X12_stateOn 22 _ _ _ rfl) ?_
        refine m_iald 11 (30 * v + j) (by omega) hg hM rfl (by omega) (z_lt (n2 := 360) rfl (by omega)) (by decide) 36 rfl (dd_X12_stateOn 23 _ _ _ rfl) ?_
        refine r_iload_2 37 rfl (dd_X12_stateOn 24 _ _ _ rfl) ?_
        refine r_if_icmpgt (by omega) (by omega) 40 rfl 56 rfl (dd_X12_stateOn 25 _ _ _ rfl) (fun hc4 => ?_) (fun hc4 => ?_)
        · refine r_aload_0 57 rfl (dd_X12_stateOn 34 _ _ _ rfl) ?_
          refine m_getx 42 hg hM hx42 (by decide) (tb_6 98 _ rfl) 60 rfl (dd_X12_stateOn 35 _ _ _ rfl) ?_ (fun _ _ _ => rfl)
          refine r_ireturn rfl rfl (dd_X12_stateOn 36 _ _ _ rfl) ?_
          have hz : zev S v w = j := zev_eq (by omega) hall (by omega)
          have k := k _ hM
          unfold zstate at k
          rw [hz] at k
          exact k
        · refine r_aload_0 41 rfl (dd_X12_stateOn 26 _ _ _ rfl) ?_
          refine r_aload_0 42 rfl (dd_X12_stateOn 27 _ _ _ rfl) ?_
          refine m_arr 9 hg hM (by decide) (by decide) (tb_6 65 _ rfl) 45 rfl (dd_X12_stateOn 28 _ _ _ rfl) ?_ (fun _ _ _ => rfl)
          refine r_iload_3 46 rfl (dd_X12_stateOn 29 _ _ _ rfl) ?_
          refine m_iald 9 (30 * v + j) (by omega) hg hM rfl (by omega) (z_lt (n2 := 360) rfl (by omega)) (by decide) 47 rfl (dd_X12_stateOn 30 _ _ _ rfl) ?_
          refine r_callV1 (lvl := 10) (mc1 := 0) (ms1 := 0) 0 0 hg rfl md_X12_change zc_X12 hM.kd wi_X12_change wv_X12_change (tb_7 20 _ rfl) (by decide) (by decide) rfl (Nat.le_of_ble_eq_true rfl) (by decide) (by decide) 50 rfl (dd_X12_stateOn 31 _ _ _ rfl) ?_
          refine c_X12_change hg hM (zst_range S v j).1 (zst_range S v j).2 (by omega) hx42 hx43 (fun h5 hM hx42 hx43 => ?_)
          dsimp only [zCont, Option.toList, List.cons_append, List.nil_append]
          refine r_iinc_3 53 rfl (by decide) rfl (dd_X12_stateOn 32 _ _ _ rfl) ?_
          refine r_goto 15 rfl (dd_X12_stateOn 33 _ _ _ rfl) ?_
          exact r_sub _ (z_s1 (z_s1 (z_s1 (z_s1 z_sN)))) (ih (j + 1) _ _ (by omega) (by omega) (by omega) (lt_s hall (by omega)) hM hx42 hx43)
  exact r_sub _ (z_s1 (z_s1 (z_s1 (z_s1 z_sN)))) (L15 1000000 0 _ _ (by omega) (by omega) (by omega) lt_0 hM hx42 hx43)

abbrev mX12_latest : zM := (RX12, cX12_latest, 7, (Option.some Jvm.ClassFile.FieldType.int), [], "latest", 11)
set_option maxRecDepth 20000 in
theorem c_X12_latest {g : zGT} {Q : zO → zH → Prop} {h : zH} (hg : zG g) {h0 : zH} {m : Nat} {A : Nat → Nat} {S : zS} {n : Nat} {t : Int} (hI : MInv n S) (hM : MI h0 m A S t h) {v : Nat} {w its wo : Int} (hv : v < 12) (hw : zR w) (hi : zR its) (k : Q (.inl (some (.int (zI (zlast S v w its wo))))) h) : zC g (.code yX12_latest cX12_latest 7 (Option.some Jvm.ClassFile.FieldType.int)) yX12_latest 11 0 0 [.ref m, .int (zI v), .int (zI w), .int (zI its), .int (zI wo)] h Q := by
  refine zC_of (M := mX12_latest) (lv := [some (.ref m), some (.int (zI v)), some (.int (zI w)), some (.int (zI its)), some (.int (zI wo)), none, none]) (by decide) rfl rfl (Nat.le_of_ble_eq_true rfl) rfl rfl ?_
  have e6 := hI.events v
  refine r_iload_4 2 rfl (dd_X12_latest 0 _ _ _ rfl) ?_
  refine r_istore_5 4 rfl (by decide) rfl (dd_X12_latest 1 _ _ _ rfl) ?_
  refine r_bipush (by decide) 6 rfl (dd_X12_latest 2 _ _ _ rfl) ?_
  refine r_iload_1 7 rfl (dd_X12_latest 3 _ _ _ rfl) ?_
  refine r_imul 8 rfl (dd_X12_latest 4 _ _ _ rfl) ?_
  refine r_istore_6 10 rfl (by decide) rfl (dd_X12_latest 5 _ _ _ rfl) ?_
  have L10 : ∀ (tt : Nat), ∀ (j : Nat) (a f : Int), 30 - j < tt → ((j : Int) ≤ S.2 8 v) → (a = 30 * v + j) → (f = zlat S v its wo j) → (∀ i, i < j → S.2 11 (30 * v + i) ≤ w) → zX g mX12_latest 0 0 Q 10 [some (.ref m), some (.int (zI v)), some (.int (zI w)), some (.int (zI its)), none, some (.int (zI f)), some (.int (zI a))] [] h 0 0 := by
    intro tt
    induction tt with
    | zero => intros; exfalso; omega
    | succ tt ih =>
      intro j a f hlt hj ha hf hall
      have e4 := hI.day (30 * v + j)
      have e5 := hI.kind (30 * v + j)
      have e6 := hI.events v
      refine r_iload_6 12 rfl (dd_X12_latest 6 _ _ _ rfl) ?_
      refine r_bipush (by decide) 14 rfl (dd_X12_latest 7 _ _ _ rfl) ?_
      refine r_iload_1 15 rfl (dd_X12_latest 8 _ _ _ rfl) ?_
      refine r_imul 16 rfl (dd_X12_latest 9 _ _ _ rfl) ?_
      refine r_aload_0 17 rfl (dd_X12_latest 10 _ _ _ rfl) ?_
      refine m_arr 8 hg hM (by decide) (by decide) (tb_6 64 _ rfl) 20 rfl (dd_X12_latest 11 _ _ _ rfl) ?_ (fun _ _ _ => rfl)
      refine r_iload_1 21 rfl (dd_X12_latest 12 _ _ _ rfl) ?_
      refine m_iald 8 (v) (by omega) hg hM rfl (by omega) (z_lt (n2 := 12) rfl (by omega)) (by decide) 22 rfl (dd_X12_latest 13 _ _ _ rfl) ?_
      refine r_iadd 23 rfl (dd_X12_latest 14 _ _ _ rfl) ?_
      refine r_if_icmpge (by omega) (by omega) 26 rfl 68 rfl (dd_X12_latest 15 _ _ _ rfl) (fun hc1 => ?_) (fun hc1 => ?_)
      · refine r_iload_5 70 rfl (dd_X12_latest 37 _ _ _ rfl) ?_
        refine r_ireturn rfl rfl (dd_X12_latest 38 _ _ _ rfl) ?_
        have hz : zev S v w = j := zev_eq (by omega) hall (by omega)
        unfold zlast at k
        rw [hz, ← hf] at k
        exact k
      · refine r_aload_0 27 rfl (dd_X12_latest 16 _ _ _ rfl) ?_
        refine m_arr 11 hg hM (by decide) (by decide) (tb_6 67 _ rfl) 30 rfl (dd_X12_latest 17 _ _ _ rfl) ?_ (fun _ _ _ => rfl)
        refine r_iload_6 32 rfl (dd_X12_latest 18 _ _ _ rfl) ?_
        refine m_iald 11 (30 * v + j) (by omega) hg hM rfl (by omega) (z_lt (n2 := 360) rfl (by omega)) (by decide) 33 rfl (dd_X12_latest 19 _ _ _ rfl) ?_
        refine r_iload_2 34 rfl (dd_X12_latest 20 _ _ _ rfl) ?_
        refine r_if_icmpgt (by omega) (by omega) 37 rfl 68 rfl (dd_X12_latest 21 _ _ _ rfl) (fun hc2 => ?_) (fun hc2 => ?_)
        · refine r_iload_5 70 rfl (dd_X12_latest 37 _ _ _ rfl) ?_
          refine r_ireturn rfl rfl (dd_X12_latest 38 _ _ _ rfl) ?_
          have hz : zev S v w = j := zev_eq (by omega) hall (by omega)
          unfold zlast at k
          rw [hz, ← hf] at k
          exact k
        · refine r_aload_0 38 rfl (dd_X12_latest 22 _ _ _ rfl) ?_
          refine m_arr 9 hg hM (by decide) (by decide) (tb_6 65 _ rfl) 41 rfl (dd_X12_latest 23 _ _ _ rfl) ?_ (fun _ _ _ => rfl)
          refine r_iload_6 43 rfl (dd_X12_latest 24 _ _ _ rfl) ?_
          refine m_iald 9 (30 * v + j) (by omega) hg hM rfl (by omega) (z_lt (n2 := 360) rfl (by omega)) (by decide) 44 rfl (dd_X12_latest 25 _ _ _ rfl) ?_
          refine r_iload_3 45 rfl (dd_X12_latest 26 _ _ _ rfl) ?_
          refine r_if_icmpne (by omega) (by omega) 48 rfl 58 rfl (dd_X12_latest 27 _ _ _ rfl) (fun hc3 => ?_) (fun hc3 => ?_)
          · refine r_iload_5 60 rfl (dd_X12_latest 33 _ _ _ rfl) ?_
            refine r_istore_5 62 rfl (by decide) rfl (dd_X12_latest 34 _ _ _ rfl) ?_
            refine r_iinc_6 65 rfl (by decide) rfl (dd_X12_latest 35 _ _ _ rfl) ?_
            refine r_goto 10 rfl (dd_X12_latest 36 _ _ _ rfl) ?_
            exact r_sub _ (z_s1 (z_s1 (z_s1 (z_s1 (z_s0 (z_s1 (z_s1 z_sN))))))) (ih (j + 1) _ _ (by omega) (by omega) (by omega) (by unfold zlat; first | rw [if_pos (by omega)] | (rw [if_neg (by omega)]; exact hf)) (lt_s hall (by omega)))
          · refine r_aload_0 49 rfl (dd_X12_latest 28 _ _ _ rfl) ?_
            refine m_arr 10 hg hM (by decide) (by decide) (tb_6 66 _ rfl) 52 rfl (dd_X12_latest 29 _ _ _ rfl) ?_ (fun _ _ _ => rfl)
            refine r_iload_6 54 rfl (dd_X12_latest 30 _ _ _ rfl) ?_
            refine m_iald 10 (30 * v + j) (by omega) hg hM rfl (by omega) (z_lt (n2 := 360) rfl (by omega)) (by decide) 55 rfl (dd_X12_latest 31 _ _ _ rfl) ?_
            refine r_goto 60 rfl (dd_X12_latest 32 _ _ _ rfl) ?_
            refine r_istore_5 62 rfl (by decide) rfl (dd_X12_latest 34 _ _ _ rfl) ?_
            refine r_iinc_6 65 rfl (by decide) rfl (dd_X12_latest 35 _ _ _ rfl) ?_
            refine r_goto 10 rfl (dd_X12_latest 36 _ _ _ rfl) ?_
            exact r_sub _ (z_s1 (z_s1 (z_s1 (z_s1 (z_s0 (z_s1 (z_s1 z_sN))))))) (ih (j + 1) _ _ (by omega) (by omega) (by omega) (by unfold zlat; first | rw [if_pos (by omega)] | (rw [if_neg (by omega)]; exact hf)) (lt_s hall (by omega)))
  exact r_sub _ (z_s1 (z_s1 (z_s1 (z_s1 (z_s0 (z_s1 (z_s1 z_sN))))))) (L10 1000000 0 _ _ (by omega) (by omega) (by omega) rfl lt_0)

abbrev mX12_isOn : zM := (RX12, cX12_isOn, 5, (Option.some Jvm.ClassFile.FieldType.int), [], "isOn", 12)
set_option maxRecDepth 20000 in
theorem c_X12_isOn {g : zGT} {Q : zO → zH → Prop} {h : zH} (hg : zG g) {h0 : zH} {m : Nat} {A : Nat → Nat} {S : zS} {n : Nat} {t : Int} (hI : MInv n S) (hM : MI h0 m A S t h) {v w q : Int} (hv : zR v) (hw : zR w) (hq : zR q) (k1 : ¬ (0 ≤ v ∧ v < S.1 4) → ∀ h1, MI h0 m A S 1 h1 → Q (.inl (some (.int (zI 0)))) h1) (k2 : (0 ≤ v ∧ v < S.1 4) → ¬ (0 ≤ w ∧ w ≤ S.1 1 ∧ 0 ≤ q ∧ q ≤ 3) → ∀ h1, MI h0 m A S 2 h1 → Q (.inl (some (.int (zI 0)))) h1) (k0 : ∀ u : Nat, v = u → u < 12 → v < S.1 4 → (0 ≤ w ∧ w ≤ S.1 1 ∧ 0 ≤ q ∧ q ≤ 3) → ∀ h1, MI h0 m A S 0 h1 → Q (.inl (some (.int (zI (if q = 0 then zstate S u w else if q = 1 then zlast S u w 0 (-1) else if q = 2 then zlast S u w 1 (-1) else zlast S u w 7 (S.2 7 u)))))) h1) : zC g (.code yX12_isOn cX12_isOn 5 (Option.some Jvm.ClassFile.FieldType.int)) yX12_isOn 12 0 0 [.ref m, .int (zI v), .int (zI w), .int (zI q)] h Q := by
  refine zC_of (M := mX12_isOn) (lv := [some (.ref m), some (.int (zI v)), some (.int (zI w)), some (.int (zI q)), none]) (by decide) rfl rfl (Nat.le_of_ble_eq_true rfl) rfl rfl ?_
  have e1 := hI.vehicles
  have e2 := hI.today
  refine r_aload_0 1 rfl (dd_X12_isOn_0 0 _ _ _ rfl) ?_
  refine r_iload_1 2 rfl (dd_X12_isOn_0 1 _ _ _ rfl) ?_
  refine r_callV1 (lvl := 11) (mc1 := 0) (ms1 := 0) 0 0 hg rfl md_X12_isVehicle zc_X12 hM.kd wi_X12_isVehicle wv_X12_isVehicle (tb_7 0 _ rfl) (by decide) (by decide) rfl (Nat.le_of_ble_eq_true rfl) (by decide) (by decide) 5 rfl (dd_X12_isOn_0 2 _ _ _ rfl) ?_
  refine c_X12_isVehicle hg hI hM (by omega) (fun hb1 => ?_) (fun hb1 => ?_)
  · dsimp only [zCont, Option.toList, List.cons_append, List.nil_append]
    refine r_istore_4 7 rfl (by decide) rfl (dd_X12_isOn_0 3 _ _ _ rfl) ?_
    refine r_aload_0 8 rfl (dd_X12_isOn_0 4 _ _ _ rfl) ?_
    refine r_iload_4 10 rfl (dd_X12_isOn_0 5 _ _ _ rfl) ?_
    refine r_ifne (by omega) 13 rfl 17 rfl (dd_X12_isOn_0 6 _ _ _ rfl) (fun _ => ?_) (fun q => absurd q (by decide))
    refine r_iload_2 18 rfl (dd_X12_isOn_0 9 _ _ _ rfl) ?_
    refine r_iconst 19 rfl (dd_X12_isOn_0 10 _ _ _ rfl) ?_
    refine r_aload_0 20 rfl (dd_X12_isOn_0 11 _ _ _ rfl) ?_
    refine m_get 1 hg hM (by unfold z_free; decide) rfl (by decide) (tb_6 57 _ rfl) 23 rfl (dd_X12_isOn_0 12 _ _ _ rfl) ?_ (fun _ _ _ => rfl)
    refine r_callS3 (lvl := 10) (mc1 := 0) (ms1 := 0) 0 0 hg rfl md_X12_in ws_X12_in (tb_6 209 _ rfl) (by decide) (by decide) rfl (Nat.le_of_ble_eq_true rfl) (by decide) (by decide) 26 rfl (dd_X12_isOn_0 13 _ _ _ rfl) ?_
    refine c_X12_in hg (by omega) (by omega) (by omega) (fun hb2 => ?_) (fun hb2 => ?_)
    · dsimp only [zCont, Option.toList, List.cons_append, List.nil_append]
      refine r_ifeq (by omega) 29 rfl 42 rfl (dd_X12_isOn_0 14 _ _ _ rfl) (fun q => absurd q (by decide)) (fun _ => ?_)
      refine r_iload_3 30 rfl (dd_X12_isOn_0 15 _ _ _ rfl) ?_
      refine r_iconst 31 rfl (dd_X12_isOn_0 16 _ _ _ rfl) ?_
      refine r_iconst 32 rfl (dd_X12_isOn_0 17 _ _ _ rfl) ?_
      refine r_callS3 (lvl := 10) (mc1 := 0) (ms1 := 0) 0 0 hg rfl md_X12_in ws_X12_in (tb_6 209 _ rfl) (by decide) (by decide) rfl (Nat.le_of_ble_eq_true rfl) (by decide) (by decide) 35 rfl (dd_X12_isOn_0 18 _ _ _ rfl) ?_
      refine c_X12_in hg (by omega) (by omega) (by omega) (fun hb3 => ?_) (fun hb3 => ?_)
      · dsimp only [zCont, Option.toList, List.cons_append, List.nil_append]
        refine r_ifeq (by omega) 38 rfl 42 rfl (dd_X12_isOn_0 19 _ _ _ rfl) (fun q => absurd q (by decide)) (fun _ => ?_)
        refine r_iconst 39 rfl (dd_X12_isOn_0 20 _ _ _ rfl) ?_
        refine r_goto 43 rfl (dd_X12_isOn_0 21 _ _ _ rfl) ?_
        refine r_callV1 (lvl := 10) (mc1 := 0) (ms1 := 0) 0 0 hg rfl md_X12_goesWell zc_X12 hM.kd wi_X12_goesWell wv_X12_goesWell (tb_6 197 _ rfl) (by decide) (by decide) rfl (Nat.le_of_ble_eq_true rfl) (by decide) (by decide) 46 rfl (dd_X12_isOn_0 23 _ _ _ rfl) ?_
        refine c_X12_goesWell hg hM (by decide) (fun _ h4 hM => ?_) (fun q => absurd rfl q)
        dsimp only [zCont, Option.toList, List.cons_append, List.nil_append]
        refine r_ifne (by omega) 49 rfl 51 rfl (dd_X12_isOn_0 24 _ _ _ rfl) (fun _ => ?_) (fun q => absurd q (by decide))
        obtain ⟨u, rfl⟩ := Int.eq_ofNat_of_zero_le (show 0 ≤ v by omega)
        refine r_iload_3 52 rfl (dd_X12_isOn_0 27 _ _ _ rfl) ?_
        refine r_ifne (by omega) 55 rfl 64 rfl (dd_X12_isOn_0 28 _ _ _ rfl) (fun hc5 => ?_) (fun hc5 => ?_)
        · refine r_iload_3 65 rfl (dd_X12_isOn_0 34 _ _ _ rfl) ?_
          refine r_iconst 66 rfl (dd_X12_isOn_0 35 _ _ _ rfl) ?_
          refine r_if_icmpne (by omega) (by omega) 69 rfl 80 rfl (dd_X12_isOn_0 36 _ _ _ rfl) (fun hc6 => ?_) (fun hc6 => ?_)
          · refine r_iload_3 81 rfl (dd_X12_isOn_0 44 _ _ _ rfl) ?_
            refine r_iconst 82 rfl (dd_X12_isOn_0 45 _ _ _ rfl) ?_
            refine r_if_icmpne (by omega) (by omega) 85 rfl 96 rfl (dd_X12_isOn_0 46 _ _ _ rfl) (fun hc7 => ?_) (fun hc7 => ?_)
            · refine r_aload_0 97 rfl (dd_X12_isOn_0 54 _ _ _ rfl) ?_
              refine r_iload_1 98 rfl (dd_X12_isOn_0 55 _ _ _ rfl) ?_
              refine r_iload_2 99 rfl (dd_X12_isOn_0 56 _ _ _ rfl) ?_
              refine r_bipush (by decide) 101 rfl (dd_X12_isOn_0 57 _ _ _ rfl) ?_
              refine r_aload_0 102 rfl (dd_X12_isOn_0 58 _ _ _ rfl) ?_
              refine m_arr 7 hg hM (by decide) (by decide) (tb_6 63 _ rfl) 105 rfl (dd_X12_isOn_0 59 _ _ _ rfl) ?_ (fun _ _ _ => rfl)
              refine r_iload_1 106 rfl (dd_X12_isOn_1 0 _ _ _ rfl) ?_
              refine m_iald 7 (u) (by omega) hg hM rfl (by omega) (z_lt (n2 := 12) rfl (by omega)) (by decide) 107 rfl (dd_X12_isOn_1 1 _ _ _ rfl) ?_
              refine r_callV4 (lvl := 11) (mc1 := 0) (ms1 := 0) 0 0 hg rfl md_X12_latest zc_X12 hM.kd wi_X12_latest wv_X12_latest (tb_7 24 _ rfl) (by decide) (by decide) rfl (Nat.le_of_ble_eq_true rfl) (by decide) (by decide) 110 rfl (dd_X12_isOn_1 2 _ _ _ rfl) ?_
              refine c_X12_latest (v := u) hg hI hM (by omega) (by omega) (by omega) ?_
              dsimp only [zCont, Option.toList, List.cons_append, List.nil_append]
              refine r_ireturn rfl rfl (dd_X12_isOn_1 3 _ _ _ rfl) ?_
              first | exact k1 (by omega) _ hM | exact k2 (by omega) (by omega) _ hM | (have k := k0 u rfl (by omega) (by omega) (by omega) _ hM; first | (rw [if_pos (by omega)] at k; exact k) | (rw [if_neg (by omega), if_pos (by omega)] at k; exact k) | (rw [if_neg (by omega), if_neg (by omega), if_pos (by omega)] at k; exact k) | (rw [if_neg (by omega), if_neg (by omega), if_neg (by omega)] at k; exact k))
            · refine r_aload_0 86 rfl (dd_X12_isOn_0 47 _ _ _ rfl) ?_
              refine r_iload_1 87 rfl (dd_X12_isOn_0 48 _ _ _ rfl) ?_
              refine r_iload_2 88 rfl (dd_X12_isOn_0 49 _ _ _ rfl) ?_
              refine r_iconst 89 rfl (dd_X12_isOn_0 50 _ _ _ rfl) ?_
              refine r_iconst 90 rfl (dd_X12_isOn_0 51 _ _ _ rfl) ?_
              refine r_callV4 (lvl := 11) (mc1 := 0) (ms1 := 0) 0 0 hg rfl md_X12_latest zc_X12 hM.kd wi_X12_latest wv_X12_latest (tb_7 24 _ rfl) (by decide) (by decide) rfl (Nat.le_of_ble_eq_true rfl) (by decide) (by decide) 93 rfl (dd_X12_isOn_0 52 _ _ _ rfl) ?_
              refine c_X12_latest (v := u) hg hI hM (by omega) (by omega) (by omega) ?_
              dsimp only [zCont, Option.toList, List.cons_append, List.nil_append]
              refine r_goto 110 rfl (dd_X12_isOn_0 53 _ _ _ rfl) ?_
              refine r_ireturn rfl rfl (dd_X12_isOn_1 3 _ _ _ rfl) ?_
              first | exact k1 (by omega) _ hM | exact k2 (by omega) (by omega) _ hM | (have k := k0 u rfl (by omega) (by omega) (by omega) _ hM; first | (rw [if_pos (by omega)] at k; exact k) | (rw [if_neg (by omega), if_pos (by omega)] at k; exact k) | (rw [if_neg (by omega), if_neg (by omega), if_pos (by omega)] at k; exact k) | (rw [if_neg (by omega), if_neg (by omega), if_neg (by omega)] at k; exact k))
          · refine r_aload_0 70 rfl (dd_X12_isOn_0 37 _ _ _ rfl) ?_
            refine r_iload_1 71 rfl (dd_X12_isOn_0 38 _ _ _ rfl) ?_
            refine r_iload_2 72 rfl (dd_X12_isOn_0 39 _ _ _ rfl) ?_
            refine r_iconst 73 rfl (dd_X12_isOn_0 40 _ _ _ rfl) ?_
            refine r_iconst 74 rfl (dd_X12_isOn_0 41 _ _ _ rfl) ?_
            refine r_callV4 (lvl := 11) (mc1 := 0) (ms1 := 0) 0 0 hg rfl md_X12_latest zc_X12 hM.kd wi_X12_latest wv_X12_latest (tb_7 24 _ rfl) (by decide) (by decide) rfl (Nat.le_of_ble_eq_true rfl) (by decide) (by decide) 77 rfl (dd_X12_isOn_0 42 _ _ _ rfl) ?_
            refine c_X12_latest (v := u) hg hI hM (by omega) (by omega) (by omega) ?_
            dsimp only [zCont, Option.toList, List.cons_append, List.nil_append]
            refine r_goto 110 rfl (dd_X12_isOn_0 43 _ _ _ rfl) ?_
            refine r_ireturn rfl rfl (dd_X12_isOn_1 3 _ _ _ rfl) ?_
            first | exact k1 (by omega) _ hM | exact k2 (by omega) (by omega) _ hM | (have k := k0 u rfl (by omega) (by omega) (by omega) _ hM; first | (rw [if_pos (by omega)] at k; exact k) | (rw [if_neg (by omega), if_pos (by omega)] at k; exact k) | (rw [if_neg (by omega), if_neg (by omega), if_pos (by omega)] at k; exact k) | (rw [if_neg (by omega), if_neg (by omega), if_neg (by omega)] at k; exact k))
        · refine r_aload_0 56 rfl (dd_X12_isOn_0 29 _ _ _ rfl) ?_
          refine r_iload_1 57 rfl (dd_X12_isOn_0 30 _ _ _ rfl) ?_
          refine r_iload_2 58 rfl (dd_X12_isOn_0 31 _ _ _ rfl) ?_
          refine r_callV2 (lvl := 11) (mc1 := 0) (ms1 := 0) 0 0 hg rfl md_X12_stateOn zc_X12 hM.kd wi_X12_stateOn wv_X12_stateOn (tb_7 16 _ rfl) (by decide) (by decide) rfl (Nat.le_of_ble_eq_true rfl) (by decide) (by decide) 61 rfl (dd_X12_isOn_0 32 _ _ _ rfl) ?_
          refine c_X12_stateOn (v := u) hg hI hM (by omega) (by omega) (fun h8 hM => ?_)
          dsimp only [zCont, Option.toList, List.cons_append, List.nil_append]
          have hs9 := zstate_range S u w
          refine r_goto 110 rfl (dd_X12_isOn_0 33 _ _ _ rfl) ?_
          refine r_ireturn rfl rfl (dd_X12_isOn_1 3 _ _ _ rfl) ?_
          first | exact k1 (by omega) _ hM | exact k2 (by omega) (by omega) _ hM | (have k := k0 u rfl (by omega) (by omega) (by omega) _ hM; first | (rw [if_pos (by omega)] at k; exact k) | (rw [if_neg (by omega), if_pos (by omega)] at k; exact k) | (rw [if_neg (by omega), if_neg (by omega), if_pos (by omega)] at k; exact k) | (rw [if_neg (by omega), if_neg (by omega), if_neg (by omega)] at k; exact k))
      · dsimp only [zCont, Option.toList, List.cons_append, List.nil_append]
        refine r_ifeq (by omega) 38 rfl 42 rfl (dd_X12_isOn_0 19 _ _ _ rfl) (fun _ => ?_) (fun q => absurd q (by decide))
        refine r_iconst 43 rfl (dd_X12_isOn_0 22 _ _ _ rfl) ?_
        refine r_callV1 (lvl := 10) (mc1 := 0) (ms1 := 0) 0 0 hg rfl md_X12_goesWell zc_X12 hM.kd wi_X12_goesWell wv_X12_goesWell (tb_6 197 _ rfl) (by decide) (by decide) rfl (Nat.le_of_ble_eq_true rfl) (by decide) (by decide) 46 rfl (dd_X12_isOn_0 23 _ _ _ rfl) ?_
        refine c_X12_goesWell hg hM (by decide) (fun q => absurd q (by decide)) (fun _ h9 hM => ?_)
        dsimp only [zCont, Option.toList, List.cons_append, List.nil_append]
        refine r_ifne (by omega) 49 rfl 51 rfl (dd_X12_isOn_0 24 _ _ _ rfl) (fun q => absurd q (by decide)) (fun _ => ?_)
        refine r_iconst 50 rfl (dd_X12_isOn_0 25 _ _ _ rfl) ?_
        refine r_ireturn rfl rfl (dd_X12_isOn_0 26 _ _ _ rfl) ?_
        first | exact k1 (by omega) _ hM | exact k2 (by omega) (by omega) _ hM | (have k := k0 u rfl (by omega) (by omega) (by omega) _ hM; first | (rw [if_pos (by omega)] at k; exact k) | (rw [if_neg (by omega), if_pos (by omega)] at k; exact k) | (rw [if_neg (by omega), if_neg (by omega), if_pos (by omega)] at k; exact k) | (rw [if_neg (by omega), if_neg (by omega), if_neg (by omega)] at k; exact k))
    · dsimp only [zCont, Option.toList, List.cons_append, List.nil_append]
      refine r_ifeq (by omega) 29 rfl 42 rfl (dd_X12_isOn_0 14 _ _ _ rfl) (fun _ => ?_) (fun q => absurd q (by decide))
      refine r_iconst 43 rfl (dd_X12_isOn_0 22 _ _ _ rfl) ?_
      refine r_callV1 (lvl := 10) (mc1 := 0) (ms1 := 0) 0 0 hg rfl md_X12_goesWell zc_X12 hM.kd wi_X12_goesWell wv_X12_goesWell (tb_6 197 _ rfl) (by decide) (by decide) rfl (Nat.le_of_ble_eq_true rfl) (by decide) (by decide) 46 rfl (dd_X12_isOn_0 23 _ _ _ rfl) ?_
      refine c_X12_goesWell hg hM (by decide) (fun q => absurd q (by decide)) (fun _ h10 hM => ?_)
      dsimp only [zCont, Option.toList, List.cons_append, List.nil_append]
      refine r_ifne (by omega) 49 rfl 51 rfl (dd_X12_isOn_0 24 _ _ _ rfl) (fun q => absurd q (by decide)) (fun _ => ?_)
      refine r_iconst 50 rfl (dd_X12_isOn_0 25 _ _ _ rfl) ?_
      refine r_ireturn rfl rfl (dd_X12_isOn_0 26 _ _ _ rfl) ?_
      first | exact k1 (by omega) _ hM | exact k2 (by omega) (by omega) _ hM | (have k := k0 u rfl (by omega) (by omega) (by omega) _ hM; first | (rw [if_pos (by omega)] at k; exact k) | (rw [if_neg (by omega), if_pos (by omega)] at k; exact k) | (rw [if_neg (by omega), if_neg (by omega), if_pos (by omega)] at k; exact k) | (rw [if_neg (by omega), if_neg (by omega), if_neg (by omega)] at k; exact k))
  · dsimp only [zCont, Option.toList, List.cons_append, List.nil_append]
    refine r_istore_4 7 rfl (by decide) rfl (dd_X12_isOn_0 3 _ _ _ rfl) ?_
    refine r_aload_0 8 rfl (dd_X12_isOn_0 4 _ _ _ rfl) ?_
    refine r_iload_4 10 rfl (dd_X12_isOn_0 5 _ _ _ rfl) ?_
    refine r_ifne (by omega) 13 rfl 17 rfl (dd_X12_isOn_0 6 _ _ _ rfl) (fun q => absurd q (by decide)) (fun _ => ?_)
    refine r_iconst 14 rfl (dd_X12_isOn_0 7 _ _ _ rfl) ?_
    refine r_goto 43 rfl (dd_X12_isOn_0 8 _ _ _ rfl) ?_
    refine r_callV1 (lvl := 10) (mc1 := 0) (ms1 := 0) 0 0 hg rfl md_X12_goesWell zc_X12 hM.kd wi_X12_goesWell wv_X12_goesWell (tb_6 197 _ rfl) (by decide) (by decide) rfl (Nat.le_of_ble_eq_true rfl) (by decide) (by decide) 46 rfl (dd_X12_isOn_0 23 _ _ _ rfl) ?_
    refine c_X12_goesWell hg hM (by decide) (fun q => absurd q (by decide)) (fun _ h11 hM => ?_)
    dsimp only [zCont, Option.toList, List.cons_append, List.nil_append]
    refine r_ifne (by omega) 49 rfl 51 rfl (dd_X12_isOn_0 24 _ _ _ rfl) (fun q => absurd q (by decide)) (fun _ => ?_)
    refine r_iconst 50 rfl (dd_X12_isOn_0 25 _ _ _ rfl) ?_
    refine r_ireturn rfl rfl (dd_X12_isOn_0 26 _ _ _ rfl) ?_
    first | exact k1 (by omega) _ hM | exact k2 (by omega) (by omega) _ hM | (have k := k0 u rfl (by omega) (by omega) (by omega) _ hM; first | (rw [if_pos (by omega)] at k; exact k) | (rw [if_neg (by omega), if_pos (by omega)] at k; exact k) | (rw [if_neg (by omega), if_neg (by omega), if_pos (by omega)] at k; exact k) | (rw [if_neg (by omega), if_neg (by omega), if_neg (by omega)] at k; exact k))

abbrev mX12_on : zM := (RX12, cX12_on, 4, (Option.some Jvm.ClassFile.FieldType.int), [], "on", 13)
set_option maxRecDepth 20000 in
theorem c_X12_on {g : zGT} {Q : zO → zH → Prop} {h : zH} (hg : zG g) {h0 : zH} {m : Nat} {A : Nat → Nat} {S : zS} {n : Nat} {t : Int} (hI : MInv n S) (hM : MI h0 m A S t h) {v w q : Int} (hv : zR v) (hw : zR w) (hq : zR q) (k1 : ¬ (0 ≤ v ∧ v < S.1 4) → ∀ h1, MI h0 m A S 1 h1 → Q (.inl (some (.int (zI 0)))) h1) (k2 : (0 ≤ v ∧ v < S.1 4) → ¬ (0 ≤ w ∧ w ≤ S.1 1 ∧ 0 ≤ q ∧ q ≤ 3) → ∀ h1, MI h0 m A S 2 h1 → Q (.inl (some (.int (zI 0)))) h1) (k0 : ∀ u : Nat, v = u → u < 12 → v < S.1 4 → (0 ≤ w ∧ w ≤ S.1 1 ∧ 0 ≤ q ∧ q ≤ 3) → ∀ h1, MI h0 m A S 0 h1 → Q (.inl (some (.int (zI (if q = 0 then zstate S u w else if q = 1 then zlast S u w 0 (-1) else if q = 2 then zlast S u w 1 (-1) else zlast S u w 7 (S.2 7 u)))))) h1) : zC g (.code yX12_on cX12_on 4 (Option.some Jvm.ClassFile.FieldType.int)) yX12_on 13 0 0 [.ref m, .int (zI v), .int (zI w), .int (zI q)] h Q := by
  refine zC_of (M := mX12_on) (lv := [some (.ref m), some (.int (zI v)), some (.int (zI w)), some (.int (zI q))]) (by decide) rfl rfl (Nat.le_of_ble_eq_true rfl) rfl rfl ?_
  refine r_aload_0 1 rfl (dd_X12_on 0 _ _ _ rfl) ?_
  refine r_iload_1 2 rfl (dd_X12_on 1 _ _ _ rfl) ?_
  refine r_iload_2 3 rfl (dd_X12_on 2 _ _ _ rfl) ?_
  refine r_iload_3 4 rfl (dd_X12_on 3 _ _ _ rfl) ?_
  refine r_callV3 (lvl := 12) (mc1 := 0) (ms1 := 0) 0 0 hg rfl md_X12_isOn zc_X12 hM.kd wi_X12_isOn wv_X12_isOn (tb_7 12 _ rfl) (by decide) (by decide) rfl (Nat.le_of_ble_eq_true rfl) (by decide) (by decide) 7 rfl (dd_X12_on 4 _ _ _ rfl) ?_
  refine c_X12_isOn hg hI hM hv hw hq (fun q h1 hM => ?_) (fun q q2 h1 hM => ?_) (fun u q1 q2 q3 q4 h1 hM => ?_)
  · dsimp only [zCont, Option.toList, List.cons_append, List.nil_append]
    refine r_ireturn rfl rfl (dd_X12_on 5 _ _ _ rfl) ?_
    first | exact k1 q _ hM | exact k2 q q2 _ hM | exact k0 u q1 q2 q3 q4 _ hM
  · dsimp only [zCont, Option.toList, List.cons_append, List.nil_append]
    refine r_ireturn rfl rfl (dd_X12_on 5 _ _ _ rfl) ?_
    first | exact k1 q _ hM | exact k2 q q2 _ hM | exact k0 u q1 q2 q3 q4 _ hM
  · dsimp only [zCont, Option.toList, List.cons_append, List.nil_append]
    refine r_ireturn rfl rfl (dd_X12_on 5 _ _ _ rfl) ?_
    first | exact k1 q _ hM | exact k2 q q2 _ hM | exact k0 u q1 q2 q3 q4 _ hM

abbrev mX12_onAnew : zM := (RX12, cX12_onAnew, 4, (Option.some Jvm.ClassFile.FieldType.int), [], "onAnew", 13)
set_option maxRecDepth 20000 in
theorem c_X12_onAnew {g : zGT} {Q : zO → zH → Prop} {h : zH} (hg : zG g) {h0 : zH} {m : Nat} {A : Nat → Nat} {S : zS} {n : Nat} {t : Int} (hI : MInv n S) (hM : MI h0 m A S t h) {v w q : Int} (hv : zR v) (hw : zR w) (hq : zR q) (k1 : ¬ (0 ≤ v ∧ v < S.1 4) → ∀ h1, MI h0 m A S 1 h1 → Q (.inl (some (.int (zI 0)))) h1) (k2 : (0 ≤ v ∧ v < S.1 4) → ¬ (0 ≤ w ∧ w ≤ S.1 1 ∧ 0 ≤ q ∧ q ≤ 3) → ∀ h1, MI h0 m A S 2 h1 → Q (.inl (some (.int (zI 0)))) h1) (k0 : ∀ u : Nat, v = u → u < 12 → v < S.1 4 → (0 ≤ w ∧ w ≤ S.1 1 ∧ 0 ≤ q ∧ q ≤ 3) → ∀ h1, MI h0 m A S 0 h1 → Q (.inl (some (.int (zI (if q = 0 then zstate S u w else if q = 1 then zlast S u w 0 (-1) else if q = 2 then zlast S u w 1 (-1) else zlast S u w 7 (S.2 7 u)))))) h1) : zC g (.code yX12_onAnew cX12_onAnew 4 (Option.some Jvm.ClassFile.FieldType.int)) yX12_onAnew 13 0 0 [.ref m, .int (zI v), .int (zI w), .int (zI q)] h Q := by
  refine zC_of (M := mX12_onAnew) (lv := [some (.ref m), some (.int (zI v)), some (.int (zI w)), some (.int (zI q))]) (by decide) rfl rfl (Nat.le_of_ble_eq_true rfl) rfl rfl ?_
  refine r_aload_0 1 rfl (dd_X12_onAnew 0 _ _ _ rfl) ?_
  refine r_iload_1 2 rfl (dd_X12_onAnew 1 _ _ _ rfl) ?_
  refine r_iload_2 3 rfl (dd_X12_onAnew 2 _ _ _ rfl) ?_
  refine r_iload_3 4 rfl (dd_X12_onAnew 3 _ _ _ rfl) ?_
  refine r_callV3 (lvl := 12) (mc1 := 0) (ms1 := 0) 0 0 hg rfl md_X12_isOn zc_X12 hM.kd wi_X12_isOn wv_X12_isOn (tb_7 12 _ rfl) (by decide) (by decide) rfl (Nat.le_of_ble_eq_true rfl) (by decide) (by decide) 7 rfl (dd_X12_onAnew 4 _ _ _ rfl) ?_
  refine c_X12_isOn hg hI hM hv hw hq (fun q h1 hM => ?_) (fun q q2 h1 hM => ?_) (fun u q1 q2 q3 q4 h1 hM => ?_)
  · dsimp only [zCont, Option.toList, List.cons_append, List.nil_append]
    refine r_ireturn rfl rfl (dd_X12_onAnew 5 _ _ _ rfl) ?_
    first | exact k1 q _ hM | exact k2 q q2 _ hM | exact k0 u q1 q2 q3 q4 _ hM
  · dsimp only [zCont, Option.toList, List.cons_append, List.nil_append]
    refine r_ireturn rfl rfl (dd_X12_onAnew 5 _ _ _ rfl) ?_
    first | exact k1 q _ hM | exact k2 q q2 _ hM | exact k0 u q1 q2 q3 q4 _ hM
  · dsimp only [zCont, Option.toList, List.cons_append, List.nil_append]
    refine r_ireturn rfl rfl (dd_X12_onAnew 5 _ _ _ rfl) ?_
    first | exact k1 q _ hM | exact k2 q q2 _ hM | exact k0 u q1 q2 q3 q4 _ hM
end
section
abbrev mX12_person : zM := (RX12, cX12_person, 1, (Option.some Jvm.ClassFile.FieldType.int), [], "person", 12)
set_option maxRecDepth 20000 in
theorem c_X12_person {g : zGT} {Q : zO → zH → Prop} {h : zH} (hg : zG g) {h0 : zH} {m : Nat} {A : Nat → Nat} {S : zS} {n : Nat} {t : Int} (hI : MInv n S) (hM : MI h0 m A S t h) (k1 : S.1 12 = 10 → ∀ h1, MI h0 m A S 1 h1 → Q (.inl (some (.int (zI 0)))) h1) (k0 : S.1 12 ≠ 10 → ∀ h1, MI h0 m A (zu1 S.1 12 (S.1 12 + 1), S.2) 0 h1 → Q (.inl (some (.int (zI (S.1 12))))) h1) : zC g (.code yX12_person cX12_person 1 (Option.some Jvm.ClassFile.FieldType.int)) yX12_person 12 0 0 [.ref m] h Q := by
  refine zC_of (M := mX12_person) (lv := [some (.ref m)]) (by decide) rfl rfl (Nat.le_of_ble_eq_true rfl) rfl rfl ?_
  have e1 := hI.people
  refine r_aload_0 1 rfl (dd_X12_person 0 _ _ _ rfl) ?_
  refine r_aload_0 2 rfl (dd_X12_person 1 _ _ _ rfl) ?_
  refine m_get 12 hg hM (by unfold z_free; decide) rfl (by decide) (tb_6 68 _ rfl) 5 rfl (dd_X12_person 2 _ _ _ rfl) ?_ (fun _ _ _ => rfl)
  try simp (decide := true) only [zu1, if_true, if_false, reduceIte]
  refine r_bipush (by decide) 7 rfl (dd_X12_person 3 _ _ _ rfl) ?_
  refine r_if_icmpne (by omega) (by omega) 10 rfl 14 rfl (dd_X12_person 4 _ _ _ rfl) (fun hc1 => ?_) (fun hc1 => ?_)
  · refine r_iconst 15 rfl (dd_X12_person 7 _ _ _ rfl) ?_
    refine r_callV1 (lvl := 10) (mc1 := 0) (ms1 := 0) 0 0 hg rfl md_X12_goesWell zc_X12 hM.kd wi_X12_goesWell wv_X12_goesWell (tb_6 197 _ rfl) (by decide) (by decide) rfl (Nat.le_of_ble_eq_true rfl) (by decide) (by decide) 18 rfl (dd_X12_person 8 _ _ _ rfl) ?_
    refine c_X12_goesWell hg hM (by decide) (fun _ h2 hM => ?_) (fun q => absurd rfl q)
    dsimp only [zCont, Option.toList, List.cons_append, List.nil_append]
    refine r_ifne (by omega) 21 rfl 23 rfl (dd_X12_person 9 _ _ _ rfl) (fun _ => ?_) (fun q => absurd q (by decide))
    refine r_aload_0 24 rfl (dd_X12_person 12 _ _ _ rfl) ?_
    refine r_dup rfl 25 rfl (dd_X12_person 13 _ _ _ rfl) ?_
    refine m_get 12 hg hM (by unfold z_free; decide) rfl (by decide) (tb_6 68 _ rfl) 28 rfl (dd_X12_person 14 _ _ _ rfl) ?_ (fun _ _ _ => rfl)
    try simp (decide := true) only [zu1, if_true, if_false, reduceIte]
    refine r_iconst 29 rfl (dd_X12_person 15 _ _ _ rfl) ?_
    refine r_iadd 30 rfl (dd_X12_person 16 _ _ _ rfl) ?_
    refine m_put 12 hg hM rfl (by decide) (by decide) rfl (fun _ _ _ => rfl) rfl rfl (tb_6 68 _ rfl) 33 rfl (dd_X12_person 17 _ _ _ rfl) (fun h4 hM => ?_)
    refine r_aload_0 34 rfl (dd_X12_person 18 _ _ _ rfl) ?_
    refine m_get 12 hg hM (by unfold z_free; decide) rfl (by decide) (tb_6 68 _ rfl) 37 rfl (dd_X12_person 19 _ _ _ rfl) ?_ (fun _ _ _ => rfl)
    try simp (decide := true) only [zu1, if_true, if_false, reduceIte]
    refine r_iconst 38 rfl (dd_X12_person 20 _ _ _ rfl) ?_
    refine r_isub 39 rfl (dd_X12_person 21 _ _ _ rfl) ?_
    refine r_ireturn rfl rfl (dd_X12_person 22 _ _ _ rfl) ?_
    have k := k0 (by omega) _ hM
    rw [Int.add_sub_cancel]
    exact k
  · refine r_iconst 11 rfl (dd_X12_person 5 _ _ _ rfl) ?_
    refine r_goto 15 rfl (dd_X12_person 6 _ _ _ rfl) ?_
    refine r_callV1 (lvl := 10) (mc1 := 0) (ms1 := 0) 0 0 hg rfl md_X12_goesWell zc_X12 hM.kd wi_X12_goesWell wv_X12_goesWell (tb_6 197 _ rfl) (by decide) (by decide) rfl (Nat.le_of_ble_eq_true rfl) (by decide) (by decide) 18 rfl (dd_X12_person 8 _ _ _ rfl) ?_
    refine c_X12_goesWell hg hM (by decide) (fun q => absurd q (by decide)) (fun _ h5 hM => ?_)
    dsimp only [zCont, Option.toList, List.cons_append, List.nil_append]
    refine r_ifne (by omega) 21 rfl 23 rfl (dd_X12_person 9 _ _ _ rfl) (fun q => absurd q (by decide)) (fun _ => ?_)
    refine r_iconst 22 rfl (dd_X12_person 10 _ _ _ rfl) ?_
    refine r_ireturn rfl rfl (dd_X12_person 11 _ _ _ rfl) ?_
    exact k1 (by omega) _ hM

abbrev mX12_vehicle : zM := (RX12, cX12_vehicle, 5, (Option.some Jvm.ClassFile.FieldType.int), [], "vehicle", 12)
set_option maxRecDepth 20000 in
theorem c_X12_vehicle {g : zGT} {Q : zO → zH → Prop} {h : zH} (hg : zG g) {h0 : zH} {m : Nat} {A : Nat → Nat} {S : zS} {n : Nat} {t : Int} (hI : MInv n S) (hM : MI h0 m A S t h) {a b c : Int} (ha : zR a) (hb : zR b) (hc : zR c) (k1 : ¬ (0 ≤ a ∧ a ≤ 9999 ∧ 0 ≤ b ∧ b ≤ S.1 1 ∧ 0 ≤ c ∧ c ≤ 3 ∧ zdigit a < 10) → ∀ h1, MI h0 m A S 1 h1 → Q (.inl (some (.int (zI 0)))) h1) (k2 : (0 ≤ a ∧ a ≤ 9999 ∧ 0 ≤ b ∧ b ≤ S.1 1 ∧ 0 ≤ c ∧ c ≤ 3 ∧ zdigit a < 10) → (zvof S a (S.1 4).toNat ≠ -1 ∨ S.1 4 = 12) → ∀ h1, MI h0 m A S 2 h1 → Q (.inl (some (.int (zI 0)))) h1) (k0 : (0 ≤ a ∧ a ≤ 9999 ∧ 0 ≤ b ∧ b ≤ S.1 1 ∧ 0 ≤ c ∧ c ≤ 3 ∧ zdigit a < 10) → ¬ (zvof S a (S.1 4).toNat ≠ -1 ∨ S.1 4 = 12) → ∀ h1, MI h0 m A (zu1 S.1 4 (S.1 4 + 1), zu2 (zu2 (zu2 (zu2 S.2 5 (S.1 4).toNat a) 6 (S.1 4).toNat b) 7 (S.1 4).toNat c) 29 (S.1 4).toNat (b + 1080)) 0 h1 → Q (.inl (some (.int (zI (S.1 4))))) h1) : zC g (.code yX12_vehicle cX12_vehicle 5 (Option.some Jvm.ClassFile.FieldType.int)) yX12_vehicle 12 0 0 [.ref m, .int (zI a), .int (zI b), .int (zI c)] h Q := by
  refine zC_of (M := mX12_vehicle) (lv := [some (.ref m), some (.int (zI a)), some (.int (zI b)), some (.int (zI c)), none]) (by decide) rfl rfl (Nat.le_of_ble_eq_true rfl) rfl rfl ?_
  have e1 := hI.vehicles
  have e2 := hI.today
  have e3 := zvof_range (S := S) (s := a) (S.1 4).toNat
  have e4 := zdigit_range a
  refine r_iload_1 1 rfl (dd_X12_vehicle_0 0 _ _ _ rfl) ?_
  refine r_iconst 2 rfl (dd_X12_vehicle_0 1 _ _ _ rfl) ?_
  refine r_sipush (by decide) 5 rfl (dd_X12_vehicle_0 2 _ _ _ rfl) ?_
  refine r_callS3 (lvl := 10) (mc1 := 0) (ms1 := 0) 0 0 hg rfl md_X12_in ws_X12_in (tb_6 209 _ rfl) (by decide) (by decide) rfl (Nat.le_of_ble_eq_true rfl) (by decide) (by decide) 8 rfl (dd_X12_vehicle_0 3 _ _ _ rfl) ?_
  refine c_X12_in hg (by omega) (by omega) (by omega) (fun hb1 => ?_) (fun hb1 => ?_)
  · dsimp only [zCont, Option.toList, List.cons_append, List.nil_append]
    refine r_ifeq (by omega) 11 rfl 45 rfl (dd_X12_vehicle_0 4 _ _ _ rfl) (fun q => absurd q (by decide)) (fun _ => ?_)
    refine r_iload_2 12 rfl (dd_X12_vehicle_0 5 _ _ _ rfl) ?_
    refine r_iconst 13 rfl (dd_X12_vehicle_0 6 _ _ _ rfl) ?_
    refine r_aload_0 14 rfl (dd_X12_vehicle_0 7 _ _ _ rfl) ?_
    refine m_get 1 hg hM (by unfold z_free; decide) rfl (by decide) (tb_6 57 _ rfl) 17 rfl (dd_X12_vehicle_0 8 _ _ _ rfl) ?_ (fun _ _ _ => rfl)
    try simp (decide := true) only [zu1, if_true, if_false, reduceIte]
    refine r_callS3 (lvl := 10) (mc1 := 0) (ms1 := 0) 0 0 hg rfl md_X12_in ws_X12_in (tb_6 209 _ rfl) (by decide) (by decide) rfl (Nat.le_of_ble_eq_true rfl) (by decide) (by decide) 20 rfl (dd_X12_vehicle_0 9 _ _ _ rfl) ?_
    refine c_X12_in hg (by omega) (by omega) (by omega) (fun hb2 => ?_) (fun hb2 => ?_)
    · dsimp only [zCont, Option.toList, List.cons_append, List.nil_append]
      refine r_ifeq (by omega) 23 rfl 45 rfl (dd_X12_vehicle_0 10 _ _ _ rfl) (fun q => absurd q (by decide)) (fun _ => ?_)
      refine r_iload_3 24 rfl (dd_X12_vehicle_0 11 _ _ _ rfl) ?_
      refine r_iconst 25 rfl (dd_X12_vehicle_0 12 _ _ _ rfl) ?_
      refine r_iconst 26 rfl (dd_X12_vehicle_0 13 _ _ _ rfl) ?_
      refine r_callS3 (lvl := 10) (mc1 := 0) (ms1 := 0) 0 0 hg rfl md_X12_in ws_X12_in (tb_6 209 _ rfl) (by decide) (by decide) rfl (Nat.le_of_ble_eq_true rfl) (by decide) (by decide) 29 rfl (dd_X12_vehicle_0 14 _ _ _ rfl) ?_
      refine c_X12_in hg (by omega) (by omega) (by omega) (fun hb3 => ?_) (fun hb3 => ?_)
      · dsimp only [zCont, Option.toList, List.cons_append, List.nil_append]
        refine r_ifeq (by omega) 32 rfl 45 rfl (dd_X12_vehicle_0 15 _ _ _ rfl) (fun q => absurd q (by decide)) (fun _ => ?_)
        refine r_iload_1 33 rfl (dd_X12_vehicle_0 16 _ _ _ rfl) ?_
        refine r_callS1 (lvl := 10) (mc1 := 0) (ms1 := 0) 0 0 hg rfl md_X12_check ws_X12_check (tb_6 212 _ rfl) (by decide) (by decide) rfl (Nat.le_of_ble_eq_true rfl) (by decide) (by decide) 36 rfl (dd_X12_vehicle_0 17 _ _ _ rfl) ?_
        refine c_X12_check hg (by omega) (by omega) ?_
        dsimp only [zCont, Option.toList, List.cons_append, List.nil_append]
        refine r_bipush (by decide) 38 rfl (dd_X12_vehicle_0 18 _ _ _ rfl) ?_
        refine r_if_icmpge (by omega) (by omega) 41 rfl 45 rfl (dd_X12_vehicle_0 19 _ _ _ rfl) (fun hc4 => ?_) (fun hc4 => ?_)
        · refine r_iconst 46 rfl (dd_X12_vehicle_0 22 _ _ _ rfl) ?_
          refine r_istore_4 48 rfl (by decide) rfl (dd_X12_vehicle_0 23 _ _ _ rfl) ?_
          refine r_aload_0 49 rfl (dd_X12_vehicle_0 24 _ _ _ rfl) ?_
          refine r_iload_4 51 rfl (dd_X12_vehicle_0 25 _ _ _ rfl) ?_
          refine r_ifne (by omega) 54 rfl 58 rfl (dd_X12_vehicle_0 26 _ _ _ rfl) (fun q => absurd q (by decide)) (fun _ => ?_)
          refine r_iconst 55 rfl (dd_X12_vehicle_0 27 _ _ _ rfl) ?_
          refine r_goto 81 rfl (dd_X12_vehicle_0 28 _ _ _ rfl) ?_
          refine r_callV1 (lvl := 10) (mc1 := 0) (ms1 := 0) 0 0 hg rfl md_X12_goesWell zc_X12 hM.kd wi_X12_goesWell wv_X12_goesWell (tb_6 197 _ rfl) (by decide) (by decide) rfl (Nat.le_of_ble_eq_true rfl) (by decide) (by decide) 84 rfl (dd_X12_vehicle_0 41 _ _ _ rfl) ?_
          refine c_X12_goesWell hg hM (by decide) (fun q => absurd q (by decide)) (fun _ h5 hM => ?_)
          dsimp only [zCont, Option.toList, List.cons_append, List.nil_append]
          refine r_ifne (by omega) 87 rfl 89 rfl (dd_X12_vehicle_0 42 _ _ _ rfl) (fun q => absurd q (by decide)) (fun _ => ?_)
          refine r_iconst 88 rfl (dd_X12_vehicle_0 43 _ _ _ rfl) ?_
          refine r_ireturn rfl rfl (dd_X12_vehicle_0 44 _ _ _ rfl) ?_
          first | exact k1 (by omega) _ hM | exact k2 (by omega) (by omega) _ hM
        · refine r_iconst 42 rfl (dd_X12_vehicle_0 20 _ _ _ rfl) ?_
          refine r_goto 46 rfl (dd_X12_vehicle_0 21 _ _ _ rfl) ?_
          refine r_istore_4 48 rfl (by decide) rfl (dd_X12_vehicle_0 23 _ _ _ rfl) ?_
          refine r_aload_0 49 rfl (dd_X12_vehicle_0 24 _ _ _ rfl) ?_
          refine r_iload_4 51 rfl (dd_X12_vehicle_0 25 _ _ _ rfl) ?_
          refine r_ifne (by omega) 54 rfl 58 rfl (dd_X12_vehicle_0 26 _ _ _ rfl) (fun _ => ?_) (fun q => absurd q (by decide))
          refine r_aload_0 59 rfl (dd_X12_vehicle_0 29 _ _ _ rfl) ?_
          refine r_iload_1 60 rfl (dd_X12_vehicle_0 30 _ _ _ rfl) ?_
          refine r_callV1 (lvl := 10) (mc1 := 0) (ms1 := 0) 0 0 hg rfl md_X12_vehicleOf zc_X12 hM.kd wi_X12_vehicleOf wv_X12_vehicleOf (tb_6 215 _ rfl) (by decide) (by decide) rfl (Nat.le_of_ble_eq_true rfl) (by decide) (by decide) 63 rfl (dd_X12_vehicle_0 31 _ _ _ rfl) ?_
          refine c_X12_vehicleOf hg hI hM (by omega) ?_
          dsimp only [zCont, Option.toList, List.cons_append, List.nil_append]
          refine r_iconst 64 rfl (dd_X12_vehicle_0 32 _ _ _ rfl) ?_
          refine r_if_icmpne (by omega) (by omega) 67 rfl 76 rfl (dd_X12_vehicle_0 33 _ _ _ rfl) (fun hc6 => ?_) (fun hc6 => ?_)
          · refine r_iconst 77 rfl (dd_X12_vehicle_0 38 _ _ _ rfl) ?_
            refine r_goto 81 rfl (dd_X12_vehicle_0 39 _ _ _ rfl) ?_
            refine r_callV1 (lvl := 10) (mc1 := 0) (ms1 := 0) 0 0 hg rfl md_X12_goesWell zc_X12 hM.kd wi_X12_goesWell wv_X12_goesWell (tb_6 197 _ rfl) (by decide) (by decide) rfl (Nat.le_of_ble_eq_true rfl) (by decide) (by decide) 84 rfl (dd_X12_vehicle_0 41 _ _ _ rfl) ?_
            refine c_X12_goesWell hg hM (by decide) (fun q => absurd q (by decide)) (fun _ h7 hM => ?_)
            dsimp only [zCont, Option.toList, List.cons_append, List.nil_append]
            refine r_ifne (by omega) 87 rfl 89 rfl (dd_X12_vehicle_0 42 _ _ _ rfl) (fun q => absurd q (by decide)) (fun _ => ?_)
            refine r_iconst 88 rfl (dd_X12_vehicle_0 43 _ _ _ rfl) ?_
            refine r_ireturn rfl rfl (dd_X12_vehicle_0 44 _ _ _ rfl) ?_
            first | exact k1 (by omega) _ hM | exact k2 (by omega) (by omega) _ hM
          · refine r_aload_0 68 rfl (dd_X12_vehicle_0 34 _ _ _ rfl) ?_
            refine m_get 4 hg hM (by unfold z_free; decide) rfl (by decide) (tb_6 60 _ rfl) 71 rfl (dd_X12_vehicle_0 35 _ _ _ rfl) ?_ (fun _ _ _ => rfl)
            try simp (decide := true) only [zu1, if_true, if_false, reduceIte]
            refine r_bipush (by decide) 73 rfl (dd_X12_vehicle_0 36 _ _ _ rfl) ?_
            refine r_if_icmpne (by omega) (by omega) 76 rfl 80 rfl (dd_X12_vehicle_0 37 _ _ _ rfl) (fun hc8 => ?_) (fun hc8 => ?_)
            · refine r_iconst 81 rfl (dd_X12_vehicle_0 40 _ _ _ rfl) ?_
              refine r_callV1 (lvl := 10) (mc1 := 0) (ms1 := 0) 0 0 hg rfl md_X12_goesWell zc_X12 hM.kd wi_X12_goesWell wv_X12_goesWell (tb_6 197 _ rfl) (by decide) (by decide) rfl (Nat.le_of_ble_eq_true rfl) (by decide) (by decide) 84 rfl (dd_X12_vehicle_0 41 _ _ _ rfl) ?_
              refine c_X12_goesWell hg hM (by decide) (fun _ h9 hM => ?_) (fun q => absurd rfl q)
              dsimp only [zCont, Option.toList, List.cons_append, List.nil_append]
              refine r_ifne (by omega) 87 rfl 89 rfl (dd_X12_vehicle_0 42 _ _ _ rfl) (fun _ => ?_) (fun q => absurd q (by decide))
              refine r_aload_0 90 rfl (dd_X12_vehicle_0 45 _ _ _ rfl) ?_
              refine m_arr 5 hg hM (by decide) (by decide) (tb_6 61 _ rfl) 93 rfl (dd_X12_vehicle_0 46 _ _ _ rfl) ?_ (fun _ _ _ => rfl)
              refine r_aload_0 94 rfl (dd_X12_vehicle_0 47 _ _ _ rfl) ?_
              refine m_get 4 hg hM (by unfold z_free; decide) rfl (by decide) (tb_6 60 _ rfl) 97 rfl (dd_X12_vehicle_0 48 _ _ _ rfl) ?_ (fun _ _ _ => rfl)
              try simp (decide := true) only [zu1, if_true, if_false, reduceIte]
              refine r_iload_1 98 rfl (dd_X12_vehicle_0 49 _ _ _ rfl) ?_
              refine m_iast 5 _ rfl hg hM rfl (by omega) (z_lt (n2 := 12) rfl (by omega)) (by decide) 99 rfl (dd_X12_vehicle_0 50 _ _ _ rfl) (fun h10 hM => ?_)
              refine r_aload_0 100 rfl (dd_X12_vehicle_0 51 _ _ _ rfl) ?_
              refine m_arr 6 hg hM (by decide) (by decide) (tb_6 62 _ rfl) 103 rfl (dd_X12_vehicle_0 52 _ _ _ rfl) ?_ (fun _ _ _ => rfl)
              refine r_aload_0 104 rfl (dd_X12_vehicle_0 53 _ _ _ rfl) ?_
              refine m_get 4 hg hM (by unfold z_free; decide) rfl (by decide) (tb_6 60 _ rfl) 107 rfl (dd_X12_vehicle_0 54 _ _ _ rfl) ?_ (fun _ _ _ => rfl)
              try simp (decide := true) only [zu1, if_true, if_false, reduceIte]
              refine r_iload_2 108 rfl (dd_X12_vehicle_0 55 _ _ _ rfl) ?_
              refine m_iast 6 _ rfl hg hM rfl (by omega) (z_lt (n2 := 12) rfl (by omega)) (by decide) 109 rfl (dd_X12_vehicle_0 56 _ _ _ rfl) (fun h11 hM => ?_)
              refine r_aload_0 110 rfl (dd_X12_vehicle_0 57 _ _ _ rfl) ?_
              refine m_arr 7 hg hM (by decide) (by decide) (tb_6 63 _ rfl) 113 rfl (dd_X12_vehicle_0 58 _ _ _ rfl) ?_ (fun _ _ _ => rfl)
              refine r_aload_0 114 rfl (dd_X12_vehicle_0 59 _ _ _ rfl) ?_
              refine m_get 4 hg hM (by unfold z_free; decide) rfl (by decide) (tb_6 60 _ rfl) 117 rfl (dd_X12_vehicle_1 0 _ _ _ rfl) ?_ (fun _ _ _ => rfl)
              try simp (decide := true) only [zu1, if_true, if_false, reduceIte]
              refine r_iload_3 118 rfl (dd_X12_vehicle_1 1 _ _ _ rfl) ?_
              refine m_iast 7 _ rfl hg hM rfl (by omega) (z_lt (n2 := 12) rfl (by omega)) (by decide) 119 rfl (dd_X12_vehicle_1 2 _ _ _ rfl) (fun h12 hM => ?_)
              refine r_aload_0 120 rfl (dd_X12_vehicle_1 3 _ _ _ rfl) ?_
              refine m_arr 29 hg hM (by decide) (by decide) (tb_6 85 _ rfl) 123 rfl (dd_X12_vehicle_1 4 _ _ _ rfl) ?_ (fun _ _ _ => rfl)
              refine r_aload_0 124 rfl (dd_X12_vehicle_1 5 _ _ _ rfl) ?_
              refine m_get 4 hg hM (by unfold z_free; decide) rfl (by decide) (tb_6 60 _ rfl) 127 rfl (dd_X12_vehicle_1 6 _ _ _ rfl) ?_ (fun _ _ _ => rfl)
              try simp (decide := true) only [zu1, if_true, if_false, reduceIte]
              refine r_iload_2 128 rfl (dd_X12_vehicle_1 7 _ _ _ rfl) ?_
              refine r_sipush (by decide) 131 rfl (dd_X12_vehicle_1 8 _ _ _ rfl) ?_
              refine r_iadd 132 rfl (dd_X12_vehicle_1 9 _ _ _ rfl) ?_
              refine m_iast 29 _ rfl hg hM rfl (by omega) (z_lt (n2 := 12) rfl (by omega)) (by decide) 133 rfl (dd_X12_vehicle_1 10 _ _ _ rfl) (fun h13 hM => ?_)
              refine r_aload_0 134 rfl (dd_X12_vehicle_1 11 _ _ _ rfl) ?_
              refine r_dup rfl 135 rfl (dd_X12_vehicle_1 12 _ _ _ rfl) ?_
              refine m_get 4 hg hM (by unfold z_free; decide) rfl (by decide) (tb_6 60 _ rfl) 138 rfl (dd_X12_vehicle_1 13 _ _ _ rfl) ?_ (fun _ _ _ => rfl)
              try simp (decide := true) only [zu1, if_true, if_false, reduceIte]
              refine r_iconst 139 rfl (dd_X12_vehicle_1 14 _ _ _ rfl) ?_
              refine r_iadd 140 rfl (dd_X12_vehicle_1 15 _ _ _ rfl) ?_
              refine m_put 4 hg hM rfl (by decide) (by decide) rfl (fun _ _ _ => rfl) rfl rfl (tb_6 60 _ rfl) 143 rfl (dd_X12_vehicle_1 16 _ _ _ rfl) (fun h15 hM => ?_)
              refine r_aload_0 144 rfl (dd_X12_vehicle_1 17 _ _ _ rfl) ?_
              refine m_get 4 hg hM (by unfold z_free; decide) rfl (by decide) (tb_6 60 _ rfl) 147 rfl (dd_X12_vehicle_1 18 _ _ _ rfl) ?_ (fun _ _ _ => rfl)
              try simp (decide := true) only [zu1, if_true, if_false, reduceIte]
              refine r_iconst 148 rfl (dd_X12_vehicle_1 19 _ _ _ rfl) ?_
              refine r_isub 149 rfl (dd_X12_vehicle_1 20 _ _ _ rfl) ?_
              refine r_ireturn rfl rfl (dd_X12_vehicle_1 21 _ _ _ rfl) ?_
              have k := k0 (by omega) (by omega) _ hM
              rw [Int.add_sub_cancel]
              exact k
            · refine r_iconst 77 rfl (dd_X12_vehicle_0 38 _ _ _ rfl) ?_
              refine r_goto 81 rfl (dd_X12_vehicle_0 39 _ _ _ rfl) ?_
              refine r_callV1 (lvl := 10) (mc1 := 0) (ms1 := 0) 0 0 hg rfl md_X12_goesWell zc_X12 hM.kd wi_X12_goesWell wv_X12_goesWell (tb_6 197 _ rfl) (by decide) (by decide) rfl (Nat.le_of_ble_eq_true rfl) (by decide) (by decide) 84 rfl (dd_X12_vehicle_0 41 _ _ _ rfl) ?_
              refine c_X12_goesWell hg hM (by decide) (fun q => absurd q (by decide)) (fun _ h16 hM => ?_)
              dsimp only [zCont, Option.toList, List.cons_append, List.nil_append]
              refine r_ifne (by omega) 87 rfl 89 rfl (dd_X12_vehicle_0 42 _ _ _ rfl) (fun q => absurd q (by decide)) (fun _ => ?_)
              refine r_iconst 88 rfl (dd_X12_vehicle_0 43 _ _ _ rfl) ?_
              refine r_ireturn rfl rfl (dd_X12_vehicle_0 44 _ _ _ rfl) ?_
              first | exact k1 (by omega) _ hM | exact k2 (by omega) (by omega) _ hM
      · dsimp only [zCont, Option.toList, List.cons_append, List.nil_append]
        refine r_ifeq (by omega) 32 rfl 45 rfl (dd_X12_vehicle_0 15 _ _ _ rfl) (fun _ => ?_) (fun q => absurd q (by decide))
        refine r_iconst 46 rfl (dd_X12_vehicle_0 22 _ _ _ rfl) ?_
        refine r_istore_4 48 rfl (by decide) rfl (dd_X12_vehicle_0 23 _ _ _ rfl) ?_
        refine r_aload_0 49 rfl (dd_X12_vehicle_0 24 _ _ _ rfl) ?_
        refine r_iload_4 51 rfl (dd_X12_vehicle_0 25 _ _ _ rfl) ?_
        refine r_ifne (by omega) 54 rfl 58 rfl (dd_X12_vehicle_0 26 _ _ _ rfl) (fun q => absurd q (by decide)) (fun _ => ?_)
        refine r_iconst 55 rfl (dd_X12_vehicle_0 27 _ _ _ rfl) ?_
        refine r_goto 81 rfl (dd_X12_vehicle_0 28 _ _ _ rfl) ?_
        refine r_callV1 (lvl := 10) (mc1 := 0) (ms1 := 0) 0 0 hg rfl md_X12_goesWell zc_X12 hM.kd wi_X12_goesWell wv_X12_goesWell (tb_6 197 _ rfl) (by decide) (by decide) rfl (Nat.le_of_ble_eq_true rfl) (by decide) (by decide) 84 rfl (dd_X12_vehicle_0 41 _ _ _ rfl) ?_
        refine c_X12_goesWell hg hM (by decide) (fun q => absurd q (by decide)) (fun _ h17 hM => ?_)
        dsimp only [zCont, Option.toList, List.cons_append, List.nil_append]
        refine r_ifne (by omega) 87 rfl 89 rfl (dd_X12_vehicle_0 42 _ _ _ rfl) (fun q => absurd q (by decide)) (fun _ => ?_)
        refine r_iconst 88 rfl (dd_X12_vehicle_0 43 _ _ _ rfl) ?_
        refine r_ireturn rfl rfl (dd_X12_vehicle_0 44 _ _ _ rfl) ?_
        first | exact k1 (by omega) _ hM | exact k2 (by omega) (by omega) _ hM
    · dsimp only [zCont, Option.toList, List.cons_append, List.nil_append]
      refine r_ifeq (by omega) 23 rfl 45 rfl (dd_X12_vehicle_0 10 _ _ _ rfl) (fun _ => ?_) (fun q => absurd q (by decide))
      refine r_iconst 46 rfl (dd_X12_vehicle_0 22 _ _ _ rfl) ?_
      refine r_istore_4 48 rfl (by decide) rfl (dd_X12_vehicle_0 23 _ _ _ rfl) ?_
      refine r_aload_0 49 rfl (dd_X12_vehicle_0 24 _ _ _ rfl) ?_
      refine r_iload_4 51 rfl (dd_X12_vehicle_0 25 _ _ _ rfl) ?_
      refine r_ifne (by omega) 54 rfl 58 rfl (dd_X12_vehicle_0 26 _ _ _ rfl) (fun q => absurd q (by decide)) (fun _ => ?_)
      refine r_iconst 55 rfl (dd_X12_vehicle_0 27 _ _ _ rfl) ?_
      refine r_goto 81 rfl (dd_X12_vehicle_0 28 _ _ _ rfl) ?_
      refine r_callV1 (lvl := 10) (mc1 := 0) (ms1 := 0) 0 0 hg rfl md_X12_goesWell zc_X12 hM.kd wi_X12_goesWell wv_X12_goesWell (tb_6 197 _ rfl) (by decide) (by decide) rfl (Nat.le_of_ble_eq_true rfl) (by decide) (by decide) 84 rfl (dd_X12_vehicle_0 41 _ _ _ rfl) ?_
      refine c_X12_goesWell hg hM (by decide) (fun q => absurd q (by decide)) (fun _ h18 hM => ?_)
      dsimp only [zCont, Option.toList, List.cons_append, List.nil_append]
      refine r_ifne (by omega) 87 rfl 89 rfl (dd_X12_vehicle_0 42 _ _ _ rfl) (fun q => absurd q (by decide)) (fun _ => ?_)
      refine r_iconst 88 rfl (dd_X12_vehicle_0 43 _ _ _ rfl) ?_
      refine r_ireturn rfl rfl (dd_X12_vehicle_0 44 _ _ _ rfl) ?_
      first | exact k1 (by omega) _ hM | exact k2 (by omega) (by omega) _ hM
  · dsimp only [zCont, Option.toList, List.cons_append, List.nil_append]
    refine r_ifeq (by omega) 11 rfl 45 rfl (dd_X12_vehicle_0 4 _ _ _ rfl) (fun _ => ?_) (fun q => absurd q (by decide))
    refine r_iconst 46 rfl (dd_X12_vehicle_0 22 _ _ _ rfl) ?_
    refine r_istore_4 48 rfl (by decide) rfl (dd_X12_vehicle_0 23 _ _ _ rfl) ?_
    refine r_aload_0 49 rfl (dd_X12_vehicle_0 24 _ _ _ rfl) ?_
    refine r_iload_4 51 rfl (dd_X12_vehicle_0 25 _ _ _ rfl) ?_
    refine r_ifne (by omega) 54 rfl 58 rfl (dd_X12_vehicle_0 26 _ _ _ rfl) (fun q => absurd q (by decide)) (fun _ => ?_)
    refine r_iconst 55 rfl (dd_X12_vehicle_0 27 _ _ _ rfl) ?_
    refine r_goto 81 rfl (dd_X12_vehicle_0 28 _ _ _ rfl) ?_
    refine r_callV1 (lvl := 10) (mc1 := 0) (ms1 := 0) 0 0 hg rfl md_X12_goesWell zc_X12 hM.kd wi_X12_goesWell wv_X12_goesWell (tb_6 197 _ rfl) (by decide) (by decide) rfl (Nat.le_of_ble_eq_true rfl) (by decide) (by decide) 84 rfl (dd_X12_vehicle_0 41 _ _ _ rfl) ?_
    refine c_X12_goesWell hg hM (by decide) (fun q => absurd q (by decide)) (fun _ h19 hM => ?_)
    dsimp only [zCont, Option.toList, List.cons_append, List.nil_append]
    refine r_ifne (by omega) 87 rfl 89 rfl (dd_X12_vehicle_0 42 _ _ _ rfl) (fun q => absurd q (by decide)) (fun _ => ?_)
    refine r_iconst 88 rfl (dd_X12_vehicle_0 43 _ _ _ rfl) ?_
    refine r_ireturn rfl rfl (dd_X12_vehicle_0 44 _ _ _ rfl) ?_
    first | exact k1 (by omega) _ hM | exact k2 (by omega) (by omega) _ hM

abbrev mX12_stamped : zM := (RX12, cX12_stamped, 3, (Option.some Jvm.ClassFile.FieldType.int), [], "stamped", 12)
set_option maxRecDepth 20000 in
theorem c_X12_stamped {g : zGT} {Q : zO → zH → Prop} {h : zH} (hg : zG g) {h0 : zH} {m : Nat} {A : Nat → Nat} {S : zS} {n : Nat} {t : Int} (hI : MInv n S) (hM : MI h0 m A S t h) {a : Int} (ha : zR a) (k1 : ¬ (0 ≤ a ∧ a ≤ 99999 ∧ zdigit (a / 10) = a % 10) → ∀ h1, MI h0 m A S 1 h1 → Q (.inl (some (.int (zI 0)))) h1) (k0 : (0 ≤ a ∧ a ≤ 99999 ∧ zdigit (a / 10) = a % 10) → ∀ h1, MI h0 m A S 0 h1 → Q (.inl (some (.int (zI (zvof S (a / 10) (S.1 4).toNat))))) h1) : zC g (.code yX12_stamped cX12_stamped 3 (Option.some Jvm.ClassFile.FieldType.int)) yX12_stamped 12 0 0 [.ref m, .int (zI a)] h Q := by
  refine zC_of (M := mX12_stamped) (lv := [some (.ref m), some (.int (zI a)), none]) (by decide) rfl rfl (Nat.le_of_ble_eq_true rfl) rfl rfl ?_
  have e4 := zdigit_range (a / 10)
  refine r_iload_1 1 rfl (dd_X12_stamped 0 _ _ _ rfl) ?_
  refine r_iconst 2 rfl (dd_X12_stamped 1 _ _ _ rfl) ?_
  refine r_ldc hg (tb_6 223 _ rfl) 4 rfl (dd_X12_stamped 2 _ _ _ rfl) ?_
  refine r_top 99999 rfl ?_
  refine r_callS3 (lvl := 10) (mc1 := 0) (ms1 := 0) 0 0 hg rfl md_X12_in ws_X12_in (tb_6 209 _ rfl) (by decide) (by decide) rfl (Nat.le_of_ble_eq_true rfl) (by decide) (by decide) 7 rfl (dd_X12_stamped 3 _ _ _ rfl) ?_
  refine c_X12_in hg (by omega) (by omega) (by omega) (fun hb1 => ?_) (fun hb1 => ?_)
  · dsimp only [zCont, Option.toList, List.cons_append, List.nil_append]
    refine r_ifeq (by omega) 10 rfl 28 rfl (dd_X12_stamped 4 _ _ _ rfl) (fun q => absurd q (by decide)) (fun _ => ?_)
    refine r_iload_1 11 rfl (dd_X12_stamped 5 _ _ _ rfl) ?_
    refine r_bipush (by decide) 13 rfl (dd_X12_stamped 6 _ _ _ rfl) ?_
    refine r_idiv (by omega) (by omega) (by omega) (by omega) 14 rfl (dd_X12_stamped 7 _ _ _ rfl) ?_
    refine r_callS1 (lvl := 10) (mc1 := 0) (ms1 := 0) 0 0 hg rfl md_X12_check ws_X12_check (tb_6 212 _ rfl) (by decide) (by decide) rfl (Nat.le_of_ble_eq_true rfl) (by decide) (by decide) 17 rfl (dd_X12_stamped 8 _ _ _ rfl) ?_
    refine c_X12_check hg (by omega) (by omega) ?_
    dsimp only [zCont, Option.toList, List.cons_append, List.nil_append]
    refine r_iload_1 18 rfl (dd_X12_stamped 9 _ _ _ rfl) ?_
    refine r_bipush (by decide) 20 rfl (dd_X12_stamped 10 _ _ _ rfl) ?_
    refine r_irem (by omega) (by omega) (by omega) (by omega) 21 rfl (dd_X12_stamped 11 _ _ _ rfl) ?_
    refine r_if_icmpne (by omega) (by omega) 24 rfl 28 rfl (dd_X12_stamped 12 _ _ _ rfl) (fun hc2 => ?_) (fun hc2 => ?_)
    · refine r_iconst 29 rfl (dd_X12_stamped 15 _ _ _ rfl) ?_
      refine r_istore_2 30 rfl (by decide) rfl (dd_X12_stamped 16 _ _ _ rfl) ?_
      refine r_aload_0 31 rfl (dd_X12_stamped 17 _ _ _ rfl) ?_
      refine r_iload_2 32 rfl (dd_X12_stamped 18 _ _ _ rfl) ?_
      refine r_ifeq (by omega) 35 rfl 39 rfl (dd_X12_stamped 19 _ _ _ rfl) (fun _ => ?_) (fun q => absurd q (by decide))
      refine r_iconst 40 rfl (dd_X12_stamped 22 _ _ _ rfl) ?_
      refine r_callV1 (lvl := 10) (mc1 := 0) (ms1 := 0) 0 0 hg rfl md_X12_goesWell zc_X12 hM.kd wi_X12_goesWell wv_X12_goesWell (tb_6 197 _ rfl) (by decide) (by decide) rfl (Nat.le_of_ble_eq_true rfl) (by decide) (by decide) 43 rfl (dd_X12_stamped 23 _ _ _ rfl) ?_
      refine c_X12_goesWell hg hM (by decide) (fun q => absurd q (by decide)) (fun _ h3 hM => ?_)
      dsimp only [zCont, Option.toList, List.cons_append, List.nil_append]
      refine r_ifeq (by omega) 46 rfl 57 rfl (dd_X12_stamped 24 _ _ _ rfl) (fun _ => ?_) (fun q => absurd q (by decide))
      refine r_iconst 58 rfl (dd_X12_stamped 31 _ _ _ rfl) ?_
      refine r_ireturn rfl rfl (dd_X12_stamped 32 _ _ _ rfl) ?_
      exact k1 (by omega) _ hM
    · refine r_iconst 25 rfl (dd_X12_stamped 13 _ _ _ rfl) ?_
      refine r_goto 29 rfl (dd_X12_stamped 14 _ _ _ rfl) ?_
      refine r_istore_2 30 rfl (by decide) rfl (dd_X12_stamped 16 _ _ _ rfl) ?_
      refine r_aload_0 31 rfl (dd_X12_stamped 17 _ _ _ rfl) ?_
      refine r_iload_2 32 rfl (dd_X12_stamped 18 _ _ _ rfl) ?_
      refine r_ifeq (by omega) 35 rfl 39 rfl (dd_X12_stamped 19 _ _ _ rfl) (fun q => absurd q (by decide)) (fun _ => ?_)
      refine r_iconst 36 rfl (dd_X12_stamped 20 _ _ _ rfl) ?_
      refine r_goto 40 rfl (dd_X12_stamped 21 _ _ _ rfl) ?_
      refine r_callV1 (lvl := 10) (mc1 := 0) (ms1 := 0) 0 0 hg rfl md_X12_goesWell zc_X12 hM.kd wi_X12_goesWell wv_X12_goesWell (tb_6 197 _ rfl) (by decide) (by decide) rfl (Nat.le_of_ble_eq_true rfl) (by decide) (by decide) 43 rfl (dd_X12_stamped 23 _ _ _ rfl) ?_
      refine c_X12_goesWell hg hM (by decide) (fun _ h4 hM => ?_) (fun q => absurd rfl q)
      dsimp only [zCont, Option.toList, List.cons_append, List.nil_append]
      refine r_ifeq (by omega) 46 rfl 57 rfl (dd_X12_stamped 24 _ _ _ rfl) (fun q => absurd q (by decide)) (fun _ => ?_)
      refine r_aload_0 47 rfl (dd_X12_stamped 25 _ _ _ rfl) ?_
      refine r_iload_1 48 rfl (dd_X12_stamped 26 _ _ _ rfl) ?_
      refine r_bipush (by decide) 50 rfl (dd_X12_stamped 27 _ _ _ rfl) ?_
      refine r_idiv (by omega) (by omega) (by omega) (by omega) 51 rfl (dd_X12_stamped 28 _ _ _ rfl) ?_
      refine r_callV1 (lvl := 10) (mc1 := 0) (ms1 := 0) 0 0 hg rfl md_X12_vehicleOf zc_X12 hM.kd wi_X12_vehicleOf wv_X12_vehicleOf (tb_6 215 _ rfl) (by decide) (by decide) rfl (Nat.le_of_ble_eq_true rfl) (by decide) (by decide) 54 rfl (dd_X12_stamped 29 _ _ _ rfl) ?_
      refine c_X12_vehicleOf hg hI hM (by omega) ?_
      dsimp only [zCont, Option.toList, List.cons_append, List.nil_append]
      refine r_goto 58 rfl (dd_X12_stamped 30 _ _ _ rfl) ?_
      refine r_ireturn rfl rfl (dd_X12_stamped 32 _ _ _ rfl) ?_
      exact k0 (by omega) _ hM
  · dsimp only [zCont, Option.toList, List.cons_append, List.nil_append]
    refine r_ifeq (by omega) 10 rfl 28 rfl (dd_X12_stamped 4 _ _ _ rfl) (fun _ => ?_) (fun q => absurd q (by decide))
    refine r_iconst 29 rfl (dd_X12_stamped 15 _ _ _ rfl) ?_
    refine r_istore_2 30 rfl (by decide) rfl (dd_X12_stamped 16 _ _ _ rfl) ?_
    refine r_aload_0 31 rfl (dd_X12_stamped 17 _ _ _ rfl) ?_
    refine r_iload_2 32 rfl (dd_X12_stamped 18 _ _ _ rfl) ?_
    refine r_ifeq (by omega) 35 rfl 39 rfl (dd_X12_stamped 19 _ _ _ rfl) (fun _ => ?_) (fun q => absurd q (by decide))
    refine r_iconst 40 rfl (dd_X12_stamped 22 _ _ _ rfl) ?_
    refine r_callV1 (lvl := 10) (mc1 := 0) (ms1 := 0) 0 0 hg rfl md_X12_goesWell zc_X12 hM.kd wi_X12_goesWell wv_X12_goesWell (tb_6 197 _ rfl) (by decide) (by decide) rfl (Nat.le_of_ble_eq_true rfl) (by decide) (by decide) 43 rfl (dd_X12_stamped 23 _ _ _ rfl) ?_
    refine c_X12_goesWell hg hM (by decide) (fun q => absurd q (by decide)) (fun _ h5 hM => ?_)
    dsimp only [zCont, Option.toList, List.cons_append, List.nil_append]
    refine r_ifeq (by omega) 46 rfl 57 rfl (dd_X12_stamped 24 _ _ _ rfl) (fun _ => ?_) (fun q => absurd q (by decide))
    refine r_iconst 58 rfl (dd_X12_stamped 31 _ _ _ rfl) ?_
    refine r_ireturn rfl rfl (dd_X12_stamped 32 _ _ _ rfl) ?_
    exact k1 (by omega) _ hM

abbrev mX12_protect : zM := (RX12, cX12_protect, 4, (Option.some Jvm.ClassFile.FieldType.boolean), [], "protect", 12)
set_option maxRecDepth 20000 in
theorem c_X12_protect {g : zGT} {Q : zO → zH → Prop} {h : zH} (hg : zG g) {h0 : zH} {m : Nat} {A : Nat → Nat} {S : zS} {n : Nat} {t : Int} (hI : MInv n S) (hM : MI h0 m A S t h) {a is : Int} (ha : zR a) (his : is = 0 ∨ is = 1) (k1 : ¬ (0 ≤ a ∧ a < S.1 12) → ∀ h1, MI h0 m A S 1 h1 → Q (.inl (some (.int (zI 0)))) h1) (k0 : (0 ≤ a ∧ a < S.1 12) → ∀ h1, MI h0 m A (S.1, zu2 S.2 13 a.toNat is) 0 h1 → Q (.inl (some (.int (zI (S.2 13 a.toNat))))) h1) : zC g (.code yX12_protect cX12_protect 4 (Option.some Jvm.ClassFile.FieldType.boolean)) yX12_protect 12 0 0 [.ref m, .int (zI a), .int (zI is)] h Q := by
  refine zC_of (M := mX12_protect) (lv := [some (.ref m), some (.int (zI a)), some (.int (zI is)), none]) (by decide) rfl rfl (Nat.le_of_ble_eq_true rfl) rfl rfl ?_
  have e1 := hI.people
  have hnb : narrow .boolean (.int (zI is)) = .int (zI is) := by rcases his with rfl | rfl <;> rfl
  refine r_aload_0 1 rfl (dd_X12_protect 0 _ _ _ rfl) ?_
  refine r_aload_0 2 rfl (dd_X12_protect 1 _ _ _ rfl) ?_
  refine r_iload_1 3 rfl (dd_X12_protect 2 _ _ _ rfl) ?_
  refine r_callV1 (lvl := 11) (mc1 := 0) (ms1 := 0) 0 0 hg rfl md_X12_isPerson zc_X12 hM.kd wi_X12_isPerson wv_X12_isPerson (tb_6 232 _ rfl) (by decide) (by decide) rfl (Nat.le_of_ble_eq_true rfl) (by decide) (by decide) 6 rfl (dd_X12_protect 3 _ _ _ rfl) ?_
  refine c_X12_isPerson hg hI hM (by omega) (fun hb1 => ?_) (fun hb1 => ?_)
  · dsimp only [zCont, Option.toList, List.cons_append, List.nil_append]
    refine r_ifeq (by omega) 9 rfl 13 rfl (dd_X12_protect 4 _ _ _ rfl) (fun q => absurd q (by decide)) (fun _ => ?_)
    refine r_iconst 10 rfl (dd_X12_protect 5 _ _ _ rfl) ?_
    refine r_goto 14 rfl (dd_X12_protect 6 _ _ _ rfl) ?_
    refine r_callV1 (lvl := 10) (mc1 := 0) (ms1 := 0) 0 0 hg rfl md_X12_goesWell zc_X12 hM.kd wi_X12_goesWell wv_X12_goesWell (tb_6 197 _ rfl) (by decide) (by decide) rfl (Nat.le_of_ble_eq_true rfl) (by decide) (by decide) 17 rfl (dd_X12_protect 8 _ _ _ rfl) ?_
    refine c_X12_goesWell hg hM (by decide) (fun _ h2 hM => ?_) (fun q => absurd rfl q)
    dsimp only [zCont, Option.toList, List.cons_append, List.nil_append]
    refine r_ifne (by omega) 20 rfl 22 rfl (dd_X12_protect 9 _ _ _ rfl) (fun _ => ?_) (fun q => absurd q (by decide))
    refine r_aload_0 23 rfl (dd_X12_protect 12 _ _ _ rfl) ?_
    refine m_arr 13 hg hM (by decide) (by decide) (tb_6 69 _ rfl) 26 rfl (dd_X12_protect 13 _ _ _ rfl) ?_ (fun _ _ _ => rfl)
    refine r_iload_1 27 rfl (dd_X12_protect 14 _ _ _ rfl) ?_
    refine m_zald 13 _ rfl hg hM rfl (by omega) (z_lt (n2 := 10) rfl (by omega)) (by decide) 28 rfl (dd_X12_protect 15 _ _ _ rfl) ?_
    refine r_istore_3 29 rfl (by decide) rfl (dd_X12_protect 16 _ _ _ rfl) ?_
    refine r_aload_0 30 rfl (dd_X12_protect 17 _ _ _ rfl) ?_
    refine m_arr 13 hg hM (by decide) (by decide) (tb_6 69 _ rfl) 33 rfl (dd_X12_protect 18 _ _ _ rfl) ?_ (fun _ _ _ => rfl)
    refine r_iload_1 34 rfl (dd_X12_protect 19 _ _ _ rfl) ?_
    refine r_iload_2 35 rfl (dd_X12_protect 20 _ _ _ rfl) ?_
    refine m_zast 13 _ rfl hg hM rfl (by omega) (z_lt (n2 := 10) rfl (by omega)) (by decide) (by first | rfl | assumption) 36 rfl (dd_X12_protect 21 _ _ _ rfl) (fun h3 hM => ?_)
    refine r_iload_3 37 rfl (dd_X12_protect 22 _ _ _ rfl) ?_
    refine r_ireturn rfl (by rcases hI.prot a.toNat with q | q <;> rw [q] <;> rfl) (dd_X12_protect 23 _ _ _ rfl) ?_
    exact k0 (by omega) _ hM
  · dsimp only [zCont, Option.toList, List.cons_append, List.nil_append]
    refine r_ifeq (by omega) 9 rfl 13 rfl (dd_X12_protect 4 _ _ _ rfl) (fun _ => ?_) (fun q => absurd q (by decide))
    refine r_iconst 14 rfl (dd_X12_protect 7 _ _ _ rfl) ?_
    refine r_callV1 (lvl := 10) (mc1 := 0) (ms1 := 0) 0 0 hg rfl md_X12_goesWell zc_X12 hM.kd wi_X12_goesWell wv_X12_goesWell (tb_6 197 _ rfl) (by decide) (by decide) rfl (Nat.le_of_ble_eq_true rfl) (by decide) (by decide) 17 rfl (dd_X12_protect 8 _ _ _ rfl) ?_
    refine c_X12_goesWell hg hM (by decide) (fun q => absurd q (by decide)) (fun _ h4 hM => ?_)
    dsimp only [zCont, Option.toList, List.cons_append, List.nil_append]
    refine r_ifne (by omega) 20 rfl 22 rfl (dd_X12_protect 9 _ _ _ rfl) (fun q => absurd q (by decide)) (fun _ => ?_)
    refine r_iconst 21 rfl (dd_X12_protect 10 _ _ _ rfl) ?_
    refine r_ireturn rfl rfl (dd_X12_protect 11 _ _ _ rfl) ?_
    exact k1 (by omega) _ hM

abbrev mX12_bar : zM := (RX12, cX12_bar, 6, (Option.some Jvm.ClassFile.FieldType.boolean), [], "bar", 12)
set_option maxRecDepth 20000 in
theorem c_X12_bar {g : zGT} {Q : zO → zH → Prop} {h : zH} (hg : zG g) {h0 : zH} {m : Nat} {A : Nat → Nat} {S : zS} {n : Nat} {t : Int} (hI : MInv n S) (hM : MI h0 m A S t h) {a b is : Int} (ha : zR a) (hb : zR b) (his : is = 0 ∨ is = 1) (k1 : ¬ (65 ≤ a ∧ a ≤ 90 ∧ 65 ≤ b ∧ b ≤ 90) → ∀ h1, MI h0 m A S 1 h1 → Q (.inl (some (.int (zI 0)))) h1) (k0 : (65 ≤ a ∧ a ≤ 90 ∧ 65 ≤ b ∧ b ≤ 90) → ∀ h1, MI h0 m A (S.1, zu2 S.2 15 (26 * (a - 65) + b - 65).toNat is) 0 h1 → Q (.inl (some (.int (zI (S.2 15 (26 * (a - 65) + b - 65).toNat))))) h1) : zC g (.code yX12_bar cX12_bar 6 (Option.some Jvm.ClassFile.FieldType.boolean)) yX12_bar 12 0 0 [.ref m, .int (zI a), .int (zI b), .int (zI is)] h Q := by
  refine zC_of (M := mX12_bar) (lv := [some (.ref m), some (.int (zI a)), some (.int (zI b)), some (.int (zI is)), none, none]) (by decide) rfl rfl (Nat.le_of_ble_eq_true rfl) rfl rfl ?_
  have hnb : narrow .boolean (.int (zI is)) = .int (zI is) := by rcases his with rfl | rfl <;> rfl
  refine r_aload_0 1 rfl (dd_X12_bar 0 _ _ _ rfl) ?_
  refine r_iload_1 2 rfl (dd_X12_bar 1 _ _ _ rfl) ?_
  refine r_callS1 (lvl := 11) (mc1 := 0) (ms1 := 0) 0 0 hg rfl md_X12_isLetter ws_X12_isLetter (tb_7 36 _ rfl) (by decide) (by decide) rfl (Nat.le_of_ble_eq_true rfl) (by decide) (by decide) 5 rfl (dd_X12_bar 2 _ _ _ rfl) ?_
  refine c_X12_isLetter hg (by omega) (fun hb1 => ?_) (fun hb1 => ?_)
  · dsimp only [zCont, Option.toList, List.cons_append, List.nil_append]
    refine r_ifeq (by omega) 8 rfl 19 rfl (dd_X12_bar 3 _ _ _ rfl) (fun q => absurd q (by decide)) (fun _ => ?_)
    refine r_iload_2 9 rfl (dd_X12_bar 4 _ _ _ rfl) ?_
    refine r_callS1 (lvl := 11) (mc1 := 0) (ms1 := 0) 0 0 hg rfl md_X12_isLetter ws_X12_isLetter (tb_7 36 _ rfl) (by decide) (by decide) rfl (Nat.le_of_ble_eq_true rfl) (by decide) (by decide) 12 rfl (dd_X12_bar 5 _ _ _ rfl) ?_
    refine c_X12_isLetter hg (by omega) (fun hb2 => ?_) (fun hb2 => ?_)
    · dsimp only [zCont, Option.toList, List.cons_append, List.nil_append]
      refine r_ifeq (by omega) 15 rfl 19 rfl (dd_X12_bar 6 _ _ _ rfl) (fun q => absurd q (by decide)) (fun _ => ?_)
      refine r_iconst 16 rfl (dd_X12_bar 7 _ _ _ rfl) ?_
      refine r_goto 20 rfl (dd_X12_bar 8 _ _ _ rfl) ?_
      refine r_callV1 (lvl := 10) (mc1 := 0) (ms1 := 0) 0 0 hg rfl md_X12_goesWell zc_X12 hM.kd wi_X12_goesWell wv_X12_goesWell (tb_6 197 _ rfl) (by decide) (by decide) rfl (Nat.le_of_ble_eq_true rfl) (by decide) (by decide) 23 rfl (dd_X12_bar 10 _ _ _ rfl) ?_
      refine c_X12_goesWell hg hM (by decide) (fun _ h3 hM => ?_) (fun q => absurd rfl q)
      dsimp only [zCont, Option.toList, List.cons_append, List.nil_append]
      refine r_ifne (by omega) 26 rfl 28 rfl (dd_X12_bar 11 _ _ _ rfl) (fun _ => ?_) (fun q => absurd q (by decide))
      refine r_bipush (by decide) 30 rfl (dd_X12_bar 14 _ _ _ rfl) ?_
      refine r_iload_1 31 rfl (dd_X12_bar 15 _ _ _ rfl) ?_
      refine r_bipush (by decide) 33 rfl (dd_X12_bar 16 _ _ _ rfl) ?_
      refine r_isub 34 rfl (dd_X12_bar 17 _ _ _ rfl) ?_
      refine r_imul 35 rfl (dd_X12_bar 18 _ _ _ rfl) ?_
      refine r_iload_2 36 rfl (dd_X12_bar 19 _ _ _ rfl) ?_
      refine r_iadd 37 rfl (dd_X12_bar 20 _ _ _ rfl) ?_
      refine r_bipush (by decide) 39 rfl (dd_X12_bar 21 _ _ _ rfl) ?_
      refine r_isub 40 rfl (dd_X12_bar 22 _ _ _ rfl) ?_
      refine r_istore_4 42 rfl (by decide) rfl (dd_X12_bar 23 _ _ _ rfl) ?_
      refine r_aload_0 43 rfl (dd_X12_bar 24 _ _ _ rfl) ?_
      refine m_arr 15 hg hM (by decide) (by decide) (tb_6 71 _ rfl) 46 rfl (dd_X12_bar 25 _ _ _ rfl) ?_ (fun _ _ _ => rfl)
      refine r_iload_4 48 rfl (dd_X12_bar 26 _ _ _ rfl) ?_
      refine m_zald 15 _ rfl hg hM rfl (by omega) (z_lt (n2 := 676) rfl (by omega)) (by decide) 49 rfl (dd_X12_bar 27 _ _ _ rfl) ?_
      refine r_istore_5 51 rfl (by decide) rfl (dd_X12_bar 28 _ _ _ rfl) ?_
      refine r_aload_0 52 rfl (dd_X12_bar 29 _ _ _ rfl) ?_
      refine m_arr 15 hg hM (by decide) (by decide) (tb_6 71 _ rfl) 55 rfl (dd_X12_bar 30 _ _ _ rfl) ?_ (fun _ _ _ => rfl)
      refine r_iload_4 57 rfl (dd_X12_bar 31 _ _ _ rfl) ?_
      refine r_iload_3 58 rfl (dd_X12_bar 32 _ _ _ rfl) ?_
      refine m_zast 15 _ rfl hg hM rfl (by omega) (z_lt (n2 := 676) rfl (by omega)) (by decide) (by first | rfl | assumption) 59 rfl (dd_X12_bar 33 _ _ _ rfl) (fun h4 hM => ?_)
      refine r_iload_5 61 rfl (dd_X12_bar 34 _ _ _ rfl) ?_
      refine r_ireturn rfl (by rcases hI.barred (26 * (a - 65) + b - 65).toNat with q | q <;> rw [q] <;> rfl) (dd_X12_bar 35 _ _ _ rfl) ?_
      exact k0 (by omega) _ hM
    · dsimp only [zCont, Option.toList, List.cons_append, List.nil_append]
      refine r_ifeq (by omega) 15 rfl 19 rfl (dd_X12_bar 6 _ _ _ rfl) (fun _ => ?_) (fun q => absurd q (by decide))
      refine r_iconst 20 rfl (dd_X12_bar 9 _ _ _ rfl) ?_
      refine r_callV1 (lvl := 10) (mc1 := 0) (ms1 := 0) 0 0 hg rfl md_X12_goesWell zc_X12 hM.kd wi_X12_goesWell wv_X12_goesWell (tb_6 197 _ rfl) (by decide) (by decide) rfl (Nat.le_of_ble_eq_true rfl) (by decide) (by decide) 23 rfl (dd_X12_bar 10 _ _ _ rfl) ?_
      refine c_X12_goesWell hg hM (by decide) (fun q => absurd q (by decide)) (fun _ h5 hM => ?_)
      dsimp only [zCont, Option.toList, List.cons_append, List.nil_append]
      refine r_ifne (by omega) 26 rfl 28 rfl (dd_X12_bar 11 _ _ _ rfl) (fun q => absurd q (by decide)) (fun _ => ?_)
      refine r_iconst 27 rfl (dd_X12_bar 12 _ _ _ rfl) ?_
      refine r_ireturn rfl rfl (dd_X12_bar 13 _ _ _ rfl) ?_
      exact k1 (by omega) _ hM
  · dsimp only [zCont, Option.toList, List.cons_append, List.nil_append]
    refine r_ifeq (by omega) 8 rfl 19 rfl (dd_X12_bar 3 _ _ _ rfl) (fun _ => ?_) (fun q => absurd q (by decide))
    refine r_iconst 20 rfl (dd_X12_bar 9 _ _ _ rfl) ?_
    refine r_callV1 (lvl := 10) (mc1 := 0) (ms1 := 0) 0 0 hg rfl md_X12_goesWell zc_X12 hM.kd wi_X12_goesWell wv_X12_goesWell (tb_6 197 _ rfl) (by decide) (by decide) rfl (Nat.le_of_ble_eq_true rfl) (by decide) (by decide) 23 rfl (dd_X12_bar 10 _ _ _ rfl) ?_
    refine c_X12_goesWell hg hM (by decide) (fun q => absurd q (by decide)) (fun _ h6 hM => ?_)
    dsimp only [zCont, Option.toList, List.cons_append, List.nil_append]
    refine r_ifne (by omega) 26 rfl 28 rfl (dd_X12_bar 11 _ _ _ rfl) (fun q => absurd q (by decide)) (fun _ => ?_)
    refine r_iconst 27 rfl (dd_X12_bar 12 _ _ _ rfl) ?_
    refine r_ireturn rfl rfl (dd_X12_bar 13 _ _ _ rfl) ?_
    exact k1 (by omega) _ hM

abbrev mX12_signOf : zM := (RX12, cX12_signOf, 2, (Option.some Jvm.ClassFile.FieldType.char), [], "signOf", 10)
set_option maxRecDepth 20000 in
theorem c_X12_signOf {g : zGT} {Q : zO → zH → Prop} {h : zH} (hg : zG g) {p q : Int} (hp : 0 ≤ p ∧ p < 67600) (hq : 0 ≤ q ∧ q ≤ 3) (k : Q (.inl (some (.int (zI (zsign p q))))) h) : zC g (.code yX12_signOf cX12_signOf 2 (Option.some Jvm.ClassFile.FieldType.char)) yX12_signOf 10 0 0 [.int (zI p), .int (zI q)] h Q := by
  refine zC_of (M := mX12_signOf) (lv := [some (.int (zI p)), some (.int (zI q))]) (by decide) rfl rfl (Nat.le_of_ble_eq_true rfl) rfl rfl ?_
  refine r_iload_1 1 rfl (dd_X12_signOf 0 _ _ _ rfl) ?_
  refine r_ifne (by omega) 4 rfl 15 rfl (dd_X12_signOf 1 _ _ _ rfl) (fun hc1 => ?_) (fun hc1 => ?_)
  · refine r_iload_1 16 rfl (dd_X12_signOf 8 _ _ _ rfl) ?_
    refine r_iconst 17 rfl (dd_X12_signOf 9 _ _ _ rfl) ?_
    refine r_if_icmpne (by omega) (by omega) 20 rfl 33 rfl (dd_X12_signOf 10 _ _ _ rfl) (fun hc2 => ?_) (fun hc2 => ?_)
    · refine r_iload_1 34 rfl (dd_X12_signOf 19 _ _ _ rfl) ?_
      refine r_iconst 35 rfl (dd_X12_signOf 20 _ _ _ rfl) ?_
      refine r_if_icmpne (by omega) (by omega) 38 rfl 51 rfl (dd_X12_signOf 21 _ _ _ rfl) (fun hc3 => ?_) (fun hc3 => ?_)
      · refine r_bipush (by decide) 53 rfl (dd_X12_signOf 30 _ _ _ rfl) ?_
        refine r_iload_0 54 rfl (dd_X12_signOf 31 _ _ _ rfl) ?_
        refine r_bipush (by decide) 56 rfl (dd_X12_signOf 32 _ _ _ rfl) ?_
        refine r_irem (by omega) (by omega) (by omega) (by omega) 57 rfl (dd_X12_signOf 33 _ _ _ rfl) ?_
        refine r_iadd 58 rfl (dd_X12_signOf 34 _ _ _ rfl) ?_
        refine r_i2c (by omega) (by omega) 59 rfl (dd_X12_signOf 35 _ _ _ rfl) ?_
        refine r_ireturn rfl (z_nchar (by omega) (by omega)) (dd_X12_signOf 36 _ _ _ rfl) ?_
        unfold zsign at k
        first | (rw [if_pos (by omega)] at k; exact k) | (rw [if_neg (by omega), if_pos (by omega)] at k; exact k) | (rw [if_neg (by omega), if_neg (by omega), if_pos (by omega)] at k; exact k) | (rw [if_neg (by omega), if_neg (by omega), if_neg (by omega)] at k; exact k)
      · refine r_bipush (by decide) 40 rfl (dd_X12_signOf 22 _ _ _ rfl) ?_
        refine r_iload_0 41 rfl (dd_X12_signOf 23 _ _ _ rfl) ?_
        refine r_bipush (by decide) 43 rfl (dd_X12_signOf 24 _ _ _ rfl) ?_
        refine r_idiv (by omega) (by omega) (by omega) (by omega) 44 rfl (dd_X12_signOf 25 _ _ _ rfl) ?_
        refine r_bipush (by decide) 46 rfl (dd_X12_signOf 26 _ _ _ rfl) ?_
        refine r_irem (by omega) (by omega) (by omega) (by omega) 47 rfl (dd_X12_signOf 27 _ _ _ rfl) ?_
        refine r_iadd 48 rfl (dd_X12_signOf 28 _ _ _ rfl) ?_
        refine r_goto 58 rfl (dd_X12_signOf 29 _ _ _ rfl) ?_
        refine r_i2c (by omega) (by omega) 59 rfl (dd_X12_signOf 35 _ _ _ rfl) ?_
        refine r_ireturn rfl (z_nchar (by omega) (by omega)) (dd_X12_signOf 36 _ _ _ rfl) ?_
        unfold zsign at k
        first | (rw [if_pos (by omega)] at k; exact k) | (rw [if_neg (by omega), if_pos (by omega)] at k; exact k) | (rw [if_neg (by omega), if_neg (by omega), if_pos (by omega)] at k; exact k) | (rw [if_neg (by omega), if_neg (by omega), if_neg (by omega)] at k; exact k)
    · refine r_bipush (by decide) 22 rfl (dd_X12_signOf 11 _ _ _ rfl) ?_
      refine r_iload_0 23 rfl (dd_X12_signOf 12 _ _ _ rfl) ?_
      refine r_bipush (by decide) 25 rfl (dd_X12_signOf 13 _ _ _ rfl) ?_
      refine r_idiv (by omega) (by omega) (by omega) (by omega) 26 rfl (dd_X12_signOf 14 _ _ _ rfl) ?_
      refine r_bipush (by decide) 28 rfl (dd_X12_signOf 15 _ _ _ rfl) ?_
      refine r_irem (by omega) (by omega) (by omega) (by omega) 29 rfl (dd_X12_signOf 16 _ _ _ rfl) ?_
      refine r_iadd 30 rfl (dd_X12_signOf 17 _ _ _ rfl) ?_
      refine r_goto 58 rfl (dd_X12_signOf 18 _ _ _ rfl) ?_
      refine r_i2c (by omega) (by omega) 59 rfl (dd_X12_signOf 35 _ _ _ rfl) ?_
      refine r_ireturn rfl (z_nchar (by omega) (by omega)) (dd_X12_signOf 36 _ _ _ rfl) ?_
      unfold zsign at k
      first | (rw [if_pos (by omega)] at k; exact k) | (rw [if_neg (by omega), if_pos (by omega)] at k; exact k) | (rw [if_neg (by omega), if_neg (by omega), if_pos (by omega)] at k; exact k) | (rw [if_neg (by omega), if_neg (by omega), if_neg (by omega)] at k; exact k)
  · refine r_bipush (by decide) 6 rfl (dd_X12_signOf 2 _ _ _ rfl) ?_
    refine r_iload_0 7 rfl (dd_X12_signOf 3 _ _ _ rfl) ?_
    refine r_sipush (by decide) 10 rfl (dd_X12_signOf 4 _ _ _ rfl) ?_
    refine r_idiv (by omega) (by omega) (by omega) (by omega) 11 rfl (dd_X12_signOf 5 _ _ _ rfl) ?_
    refine r_iadd 12 rfl (dd_X12_signOf 6 _ _ _ rfl) ?_
    refine r_goto 58 rfl (dd_X12_signOf 7 _ _ _ rfl) ?_
    refine r_i2c (by omega) (by omega) 59 rfl (dd_X12_signOf 35 _ _ _ rfl) ?_
    refine r_ireturn rfl (z_nchar (by omega) (by omega)) (dd_X12_signOf 36 _ _ _ rfl) ?_
    unfold zsign at k
    first | (rw [if_pos (by omega)] at k; exact k) | (rw [if_neg (by omega), if_pos (by omega)] at k; exact k) | (rw [if_neg (by omega), if_neg (by omega), if_pos (by omega)] at k; exact k) | (rw [if_neg (by omega), if_neg (by omega), if_neg (by omega)] at k; exact k)

abbrev mX12_looked : zM := (RX12, cX12_looked, 2, (Option.some Jvm.ClassFile.FieldType.int), [], "looked", 12)
set_option maxRecDepth 20000 in
theorem c_X12_looked {g : zGT} {Q : zO → zH → Prop} {h : zH} (hg : zG g) {h0 : zH} {m : Nat} {A : Nat → Nat} {S : zS} {n : Nat} {t : Int} (hI : MInv n S) (hM : MI h0 m A S t h) {a : Int} (ha : zR a) (k1 : ¬ (0 ≤ a ∧ a < S.1 12) → ∀ h1, MI h0 m A S 1 h1 → Q (.inl (some (.int (zI 0)))) h1) (k0 : (0 ≤ a ∧ a < S.1 12) → ∀ h1, MI h0 m A S 0 h1 → Q (.inl (some (.int (zI (S.2 14 a.toNat))))) h1) : zC g (.code yX12_looked cX12_looked 2 (Option.some Jvm.ClassFile.FieldType.int)) yX12_looked 12 0 0 [.ref m, .int (zI a)] h Q := by
  refine zC_of (M := mX12_looked) (lv := [some (.ref m), some (.int (zI a))]) (by decide) rfl rfl (Nat.le_of_ble_eq_true rfl) rfl rfl ?_
  have e1 := hI.people
  refine r_aload_0 1 rfl (dd_X12_looked 0 _ _ _ rfl) ?_
  refine r_aload_0 2 rfl (dd_X12_looked 1 _ _ _ rfl) ?_
  refine r_iload_1 3 rfl (dd_X12_looked 2 _ _ _ rfl) ?_
  refine r_callV1 (lvl := 11) (mc1 := 0) (ms1 := 0) 0 0 hg rfl md_X12_isPerson zc_X12 hM.kd wi_X12_isPerson wv_X12_isPerson (tb_6 232 _ rfl) (by decide) (by decide) rfl (Nat.le_of_ble_eq_true rfl) (by decide) (by decide) 6 rfl (dd_X12_looked 3 _ _ _ rfl) ?_
  refine c_X12_isPerson hg hI hM (by omega) (fun hb1 => ?_) (fun hb1 => ?_)
  · dsimp only [zCont, Option.toList, List.cons_append, List.nil_append]
    refine r_ifeq (by omega) 9 rfl 13 rfl (dd_X12_looked 4 _ _ _ rfl) (fun q => absurd q (by decide)) (fun _ => ?_)
    refine r_iconst 10 rfl (dd_X12_looked 5 _ _ _ rfl) ?_
    refine r_goto 14 rfl (dd_X12_looked 6 _ _ _ rfl) ?_
    refine r_callV1 (lvl := 10) (mc1 := 0) (ms1 := 0) 0 0 hg rfl md_X12_goesWell zc_X12 hM.kd wi_X12_goesWell wv_X12_goesWell (tb_6 197 _ rfl) (by decide) (by decide) rfl (Nat.le_of_ble_eq_true rfl) (by decide) (by decide) 17 rfl (dd_X12_looked 8 _ _ _ rfl) ?_
    refine c_X12_goesWell hg hM (by decide) (fun _ h2 hM => ?_) (fun q => absurd rfl q)
    dsimp only [zCont, Option.toList, List.cons_append, List.nil_append]
    refine r_ifeq (by omega) 20 rfl 29 rfl (dd_X12_looked 9 _ _ _ rfl) (fun q => absurd q (by decide)) (fun _ => ?_)
    refine r_aload_0 21 rfl (dd_X12_looked 10 _ _ _ rfl) ?_
    refine m_arr 14 hg hM (by decide) (by decide) (tb_6 70 _ rfl) 24 rfl (dd_X12_looked 11 _ _ _ rfl) ?_ (fun _ _ _ => rfl)
    refine r_iload_1 25 rfl (dd_X12_looked 12 _ _ _ rfl) ?_
    refine m_iald 14 _ rfl hg hM rfl (by omega) (z_lt (n2 := 10) rfl (by omega)) (by decide) 26 rfl (dd_X12_looked 13 _ _ _ rfl) ?_
    refine r_goto 30 rfl (dd_X12_looked 14 _ _ _ rfl) ?_
    refine r_ireturn rfl rfl (dd_X12_looked 16 _ _ _ rfl) ?_
    exact k0 (by omega) _ hM
  · dsimp only [zCont, Option.toList, List.cons_append, List.nil_append]
    refine r_ifeq (by omega) 9 rfl 13 rfl (dd_X12_looked 4 _ _ _ rfl) (fun _ => ?_) (fun q => absurd q (by decide))
    refine r_iconst 14 rfl (dd_X12_looked 7 _ _ _ rfl) ?_
    refine r_callV1 (lvl := 10) (mc1 := 0) (ms1 := 0) 0 0 hg rfl md_X12_goesWell zc_X12 hM.kd wi_X12_goesWell wv_X12_goesWell (tb_6 197 _ rfl) (by decide) (by decide) rfl (Nat.le_of_ble_eq_true rfl) (by decide) (by decide) 17 rfl (dd_X12_looked 8 _ _ _ rfl) ?_
    refine c_X12_goesWell hg hM (by decide) (fun q => absurd q (by decide)) (fun _ h3 hM => ?_)
    dsimp only [zCont, Option.toList, List.cons_append, List.nil_append]
    refine r_ifeq (by omega) 20 rfl 29 rfl (dd_X12_looked 9 _ _ _ rfl) (fun _ => ?_) (fun q => absurd q (by decide))
    refine r_iconst 30 rfl (dd_X12_looked 15 _ _ _ rfl) ?_
    refine r_ireturn rfl rfl (dd_X12_looked 16 _ _ _ rfl) ?_
    exact k1 (by omega) _ hM

abbrev mX12_pass : zM := (RX12, cX12_pass, 3, (Option.some Jvm.ClassFile.FieldType.int), [], "pass", 12)
set_option maxRecDepth 20000 in
theorem c_X12_pass {g : zGT} {Q : zO → zH → Prop} {h : zH} (hg : zG g) {h0 : zH} {m : Nat} {A : Nat → Nat} {S : zS} {n : Nat} {t : Int} (hI : MInv n S) (hM : MI h0 m A S t h) {a : Int} (ha : zR a) (k1 : ¬ (1 ≤ a ∧ a ≤ 400) → ∀ h1, MI h0 m A S 1 h1 → Q (.inl (some (.int (zI 0)))) h1) (k2 : (1 ≤ a ∧ a ≤ 400) → 20000 < S.1 1 + a → ∀ h1, MI h0 m A S 2 h1 → Q (.inl (some (.int (zI 0)))) h1) (k0 : (1 ≤ a ∧ a ≤ 400) → S.1 1 + a ≤ 20000 → ∀ h1, MI h0 m A (zu1 S.1 1 (S.1 1 + a), S.2) 0 h1 → Q (.inl (some (.int (zI (S.1 1 + a))))) h1) : zC g (.code yX12_pass cX12_pass 3 (Option.some Jvm.ClassFile.FieldType.int)) yX12_pass 12 0 0 [.ref m, .int (zI a)] h Q := by
  refine zC_of (M := mX12_pass) (lv := [some (.ref m), some (.int (zI a)), none]) (by decide) rfl rfl (Nat.le_of_ble_eq_true rfl) rfl rfl ?_
  have e1 := hI.today
  refine r_iload_1 1 rfl (dd_X12_pass 0 _ _ _ rfl) ?_
  refine r_iconst 2 rfl (dd_X12_pass 1 _ _ _ rfl) ?_
  refine r_sipush (by decide) 5 rfl (dd_X12_pass 2 _ _ _ rfl) ?_
  refine r_callS3 (lvl := 10) (mc1 := 0) (ms1 := 0) 0 0 hg rfl md_X12_in ws_X12_in (tb_6 209 _ rfl) (by decide) (by decide) rfl (Nat.le_of_ble_eq_true rfl) (by decide) (by decide) 8 rfl (dd_X12_pass 3 _ _ _ rfl) ?_
  refine c_X12_in hg (by omega) (by omega) (by omega) (fun hb1 => ?_) (fun hb1 => ?_)
  · dsimp only [zCont, Option.toList, List.cons_append, List.nil_append]
    refine r_istore_2 9 rfl (by decide) rfl (dd_X12_pass 4 _ _ _ rfl) ?_
    refine r_aload_0 10 rfl (dd_X12_pass 5 _ _ _ rfl) ?_
    refine r_iload_2 11 rfl (dd_X12_pass 6 _ _ _ rfl) ?_
    refine r_ifne (by omega) 14 rfl 18 rfl (dd_X12_pass 7 _ _ _ rfl) (fun _ => ?_) (fun q => absurd q (by decide))
    refine r_aload_0 19 rfl (dd_X12_pass 10 _ _ _ rfl) ?_
    refine m_get 1 hg hM (by unfold z_free; decide) rfl (by decide) (tb_6 57 _ rfl) 22 rfl (dd_X12_pass 11 _ _ _ rfl) ?_ (fun _ _ _ => rfl)
    try simp (decide := true) only [zu1, if_true, if_false, reduceIte]
    refine r_iload_1 23 rfl (dd_X12_pass 12 _ _ _ rfl) ?_
    refine r_iadd 24 rfl (dd_X12_pass 13 _ _ _ rfl) ?_
    refine r_sipush (by decide) 27 rfl (dd_X12_pass 14 _ _ _ rfl) ?_
    refine r_if_icmple (by omega) (by omega) 30 rfl 34 rfl (dd_X12_pass 15 _ _ _ rfl) (fun hc2 => ?_) (fun hc2 => ?_)
    · refine r_iconst 35 rfl (dd_X12_pass 18 _ _ _ rfl) ?_
      refine r_callV1 (lvl := 10) (mc1 := 0) (ms1 := 0) 0 0 hg rfl md_X12_goesWell zc_X12 hM.kd wi_X12_goesWell wv_X12_goesWell (tb_6 197 _ rfl) (by decide) (by decide) rfl (Nat.le_of_ble_eq_true rfl) (by decide) (by decide) 38 rfl (dd_X12_pass 19 _ _ _ rfl) ?_
      refine c_X12_goesWell hg hM (by decide) (fun _ h3 hM => ?_) (fun q => absurd rfl q)
      dsimp only [zCont, Option.toList, List.cons_append, List.nil_append]
      refine r_ifne (by omega) 41 rfl 43 rfl (dd_X12_pass 20 _ _ _ rfl) (fun _ => ?_) (fun q => absurd q (by decide))
      refine r_aload_0 44 rfl (dd_X12_pass 23 _ _ _ rfl) ?_
      refine r_dup rfl 45 rfl (dd_X12_pass 24 _ _ _ rfl) ?_
      refine m_get 1 hg hM (by unfold z_free; decide) rfl (by decide) (tb_6 57 _ rfl) 48 rfl (dd_X12_pass 25 _ _ _ rfl) ?_ (fun _ _ _ => rfl)
      try simp (decide := true) only [zu1, if_true, if_false, reduceIte]
      refine r_iload_1 49 rfl (dd_X12_pass 26 _ _ _ rfl) ?_
      refine r_iadd 50 rfl (dd_X12_pass 27 _ _ _ rfl) ?_
      refine m_put 1 hg hM rfl (by decide) (by decide) rfl (fun _ _ _ => rfl) rfl rfl (tb_6 57 _ rfl) 53 rfl (dd_X12_pass 28 _ _ _ rfl) (fun h5 hM => ?_)
      refine r_aload_0 54 rfl (dd_X12_pass 29 _ _ _ rfl) ?_
      refine m_get 1 hg hM (by unfold z_free; decide) rfl (by decide) (tb_6 57 _ rfl) 57 rfl (dd_X12_pass 30 _ _ _ rfl) ?_ (fun _ _ _ => rfl)
      try simp (decide := true) only [zu1, if_true, if_false, reduceIte]
      refine r_ireturn rfl rfl (dd_X12_pass 31 _ _ _ rfl) ?_
      exact k0 (by omega) (by omega) _ hM
    · refine r_iconst 31 rfl (dd_X12_pass 16 _ _ _ rfl) ?_
      refine r_goto 35 rfl (dd_X12_pass 17 _ _ _ rfl) ?_
      refine r_callV1 (lvl := 10) (mc1 := 0) (ms1 := 0) 0 0 hg rfl md_X12_goesWell zc_X12 hM.kd wi_X12_goesWell wv_X12_goesWell (tb_6 197 _ rfl) (by decide) (by decide) rfl (Nat.le_of_ble_eq_true rfl) (by decide) (by decide) 38 rfl (dd_X12_pass 19 _ _ _ rfl) ?_
      refine c_X12_goesWell hg hM (by decide) (fun q => absurd q (by decide)) (fun _ h6 hM => ?_)
      dsimp only [zCont, Option.toList, List.cons_append, List.nil_append]
      refine r_ifne (by omega) 41 rfl 43 rfl (dd_X12_pass 20 _ _ _ rfl) (fun q => absurd q (by decide)) (fun _ => ?_)
      refine r_iconst 42 rfl (dd_X12_pass 21 _ _ _ rfl) ?_
      refine r_ireturn rfl rfl (dd_X12_pass 22 _ _ _ rfl) ?_
      first | exact k1 (by omega) _ hM | exact k2 (by omega) (by omega) _ hM
  · dsimp only [zCont, Option.toList, List.cons_append, List.nil_append]
    refine r_istore_2 9 rfl (by decide) rfl (dd_X12_pass 4 _ _ _ rfl) ?_
    refine r_aload_0 10 rfl (dd_X12_pass 5 _ _ _ rfl) ?_
    refine r_iload_2 11 rfl (dd_X12_pass 6 _ _ _ rfl) ?_
    refine r_ifne (by omega) 14 rfl 18 rfl (dd_X12_pass 7 _ _ _ rfl) (fun q => absurd q (by decide)) (fun _ => ?_)
    refine r_iconst 15 rfl (dd_X12_pass 8 _ _ _ rfl) ?_
    refine r_goto 35 rfl (dd_X12_pass 9 _ _ _ rfl) ?_
    refine r_callV1 (lvl := 10) (mc1 := 0) (ms1 := 0) 0 0 hg rfl md_X12_goesWell zc_X12 hM.kd wi_X12_goesWell wv_X12_goesWell (tb_6 197 _ rfl) (by decide) (by decide) rfl (Nat.le_of_ble_eq_true rfl) (by decide) (by decide) 38 rfl (dd_X12_pass 19 _ _ _ rfl) ?_
    refine c_X12_goesWell hg hM (by decide) (fun q => absurd q (by decide)) (fun _ h7 hM => ?_)
    dsimp only [zCont, Option.toList, List.cons_append, List.nil_append]
    refine r_ifne (by omega) 41 rfl 43 rfl (dd_X12_pass 20 _ _ _ rfl) (fun q => absurd q (by decide)) (fun _ => ?_)
    refine r_iconst 42 rfl (dd_X12_pass 21 _ _ _ rfl) ?_
    refine r_ireturn rfl rfl (dd_X12_pass 22 _ _ _ rfl) ?_
    first | exact k1 (by omega) _ hM | exact k2 (by omega) (by omega) _ hM

abbrev mX12_rate : zM := (RX12, cX12_rate, 5, (Option.some Jvm.ClassFile.FieldType.int), [], "rate", 12)
set_option maxRecDepth 20000 in
theorem c_X12_rate {g : zGT} {Q : zO → zH → Prop} {h : zH} (hg : zG g) {h0 : zH} {m : Nat} {A : Nat → Nat} {S : zS} {n : Nat} {t : Int} (hI : MInv n S) (hM : MI h0 m A S t h) {a b c : Int} (ha : zR a) (hb : zR b) (hc : zR c) (k1 : ¬ (0 ≤ a ∧ a ≤ 3 ∧ 0 ≤ b ∧ b ≤ 20000 ∧ 0 ≤ c ∧ c ≤ 100000) → ∀ h1, MI h0 m A S 1 h1 → Q (.inl (some (.int (zI 0)))) h1) (k2 : (0 ≤ a ∧ a ≤ 3 ∧ 0 ≤ b ∧ b ≤ 20000 ∧ 0 ≤ c ∧ c ≤ 100000) → S.1 20 = 40 → ∀ h1, MI h0 m A S 2 h1 → Q (.inl (some (.int (zI 0)))) h1) (k0 : (0 ≤ a ∧ a ≤ 3 ∧ 0 ≤ b ∧ b ≤ 20000 ∧ 0 ≤ c ∧ c ≤ 100000) → S.1 20 ≠ 40 → ∀ h1, MI h0 m A (zu1 S.1 20 (S.1 20 + 1), zu2 (zu2 (zu2 S.2 21 (S.1 20).toNat a) 22 (S.1 20).toNat b) 23 (S.1 20).toNat c) 0 h1 → Q (.inl (some (.int (zI (S.1 20 + 1))))) h1) : zC g (.code yX12_rate cX12_rate 5 (Option.some Jvm.ClassFile.FieldType.int)) yX12_rate 12 0 0 [.ref m, .int (zI a), .int (zI b), .int (zI c)] h Q := by
  refine zC_of (M := mX12_rate) (lv := [some (.ref m), some (.int (zI a)), some (.int (zI b)), some (.int (zI c)), none]) (by decide) rfl rfl (Nat.le_of_ble_eq_true rfl) rfl rfl ?_
  have e1 := hI.rates
  refine r_iload_1 1 rfl (dd_X12_rate_0 0 _ _ _ rfl) ?_
  refine r_iconst 2 rfl (dd_X12_rate_0 1 _ _ _ rfl) ?_
  refine r_iconst 3 rfl (dd_X12_rate_0 2 _ _ _ rfl) ?_
  refine r_callS3 (lvl := 10) (mc1 := 0) (ms1 := 0) 0 0 hg rfl md_X12_in ws_X12_in (tb_6 209 _ rfl) (by decide) (by decide) rfl (Nat.le_of_ble_eq_true rfl) (by decide) (by decide) 6 rfl (dd_X12_rate_0 3 _ _ _ rfl) ?_
  refine c_X12_in hg (by omega) (by omega) (by omega) (fun hb1 => ?_) (fun hb1 => ?_)
  · dsimp only [zCont, Option.toList, List.cons_append, List.nil_append]
    refine r_ifeq (by omega) 9 rfl 34 rfl (dd_X12_rate_0 4 _ _ _ rfl) (fun q => absurd q (by decide)) (fun _ => ?_)
    refine r_iload_2 10 rfl (dd_X12_rate_0 5 _ _ _ rfl) ?_
    refine r_iconst 11 rfl (dd_X12_rate_0 6 _ _ _ rfl) ?_
    refine r_sipush (by decide) 14 rfl (dd_X12_rate_0 7 _ _ _ rfl) ?_
    refine r_callS3 (lvl := 10) (mc1 := 0) (ms1 := 0) 0 0 hg rfl md_X12_in ws_X12_in (tb_6 209 _ rfl) (by decide) (by decide) rfl (Nat.le_of_ble_eq_true rfl) (by decide) (by decide) 17 rfl (dd_X12_rate_0 8 _ _ _ rfl) ?_
    refine c_X12_in hg (by omega) (by omega) (by omega) (fun hb2 => ?_) (fun hb2 => ?_)
    · dsimp only [zCont, Option.toList, List.cons_append, List.nil_append]
      refine r_ifeq (by omega) 20 rfl 34 rfl (dd_X12_rate_0 9 _ _ _ rfl) (fun q => absurd q (by decide)) (fun _ => ?_)
      refine r_iload_3 21 rfl (dd_X12_rate_0 10 _ _ _ rfl) ?_
      refine r_iconst 22 rfl (dd_X12_rate_0 11 _ _ _ rfl) ?_
      refine r_ldc hg (tb_7 76 _ rfl) 24 rfl (dd_X12_rate_0 12 _ _ _ rfl) ?_
      refine r_top 100000 rfl ?_
      refine r_callS3 (lvl := 10) (mc1 := 0) (ms1 := 0) 0 0 hg rfl md_X12_in ws_X12_in (tb_6 209 _ rfl) (by decide) (by decide) rfl (Nat.le_of_ble_eq_true rfl) (by decide) (by decide) 27 rfl (dd_X12_rate_0 13 _ _ _ rfl) ?_
      refine c_X12_in hg (by omega) (by omega) (by omega) (fun hb3 => ?_) (fun hb3 => ?_)
      · dsimp only [zCont, Option.toList, List.cons_append, List.nil_append]
        refine r_ifeq (by omega) 30 rfl 34 rfl (dd_X12_rate_0 14 _ _ _ rfl) (fun q => absurd q (by decide)) (fun _ => ?_)
        refine r_iconst 31 rfl (dd_X12_rate_0 15 _ _ _ rfl) ?_
        refine r_goto 35 rfl (dd_X12_rate_0 16 _ _ _ rfl) ?_
        refine r_istore_4 37 rfl (by decide) rfl (dd_X12_rate_0 18 _ _ _ rfl) ?_
        refine r_aload_0 38 rfl (dd_X12_rate_0 19 _ _ _ rfl) ?_
        refine r_iload_4 40 rfl (dd_X12_rate_0 20 _ _ _ rfl) ?_
        refine r_ifne (by omega) 43 rfl 47 rfl (dd_X12_rate_0 21 _ _ _ rfl) (fun _ => ?_) (fun q => absurd q (by decide))
        refine r_aload_0 48 rfl (dd_X12_rate_0 24 _ _ _ rfl) ?_
        refine m_get 20 hg hM (by unfold z_free; decide) rfl (by decide) (tb_6 76 _ rfl) 51 rfl (dd_X12_rate_0 25 _ _ _ rfl) ?_ (fun _ _ _ => rfl)
        try simp (decide := true) only [zu1, if_true, if_false, reduceIte]
        refine r_bipush (by decide) 53 rfl (dd_X12_rate_0 26 _ _ _ rfl) ?_
        refine r_if_icmpne (by omega) (by omega) 56 rfl 60 rfl (dd_X12_rate_0 27 _ _ _ rfl) (fun hc4 => ?_) (fun hc4 => ?_)
        · refine r_iconst 61 rfl (dd_X12_rate_0 30 _ _ _ rfl) ?_
          refine r_callV1 (lvl := 10) (mc1 := 0) (ms1 := 0) 0 0 hg rfl md_X12_goesWell zc_X12 hM.kd wi_X12_goesWell wv_X12_goesWell (tb_6 197 _ rfl) (by decide) (by decide) rfl (Nat.le_of_ble_eq_true rfl) (by decide) (by decide) 64 rfl (dd_X12_rate_0 31 _ _ _ rfl) ?_
          refine c_X12_goesWell hg hM (by decide) (fun _ h5 hM => ?_) (fun q => absurd rfl q)
          dsimp only [zCont, Option.toList, List.cons_append, List.nil_append]
          refine r_ifne (by omega) 67 rfl 69 rfl (dd_X12_rate_0 32 _ _ _ rfl) (fun _ => ?_) (fun q => absurd q (by decide))
          refine r_aload_0 70 rfl (dd_X12_rate_0 35 _ _ _ rfl) ?_
          refine m_arr 21 hg hM (by decide) (by decide) (tb_6 77 _ rfl) 73 rfl (dd_X12_rate_0 36 _ _ _ rfl) ?_ (fun _ _ _ => rfl)
          refine r_aload_0 74 rfl (dd_X12_rate_0 37 _ _ _ rfl) ?_
          refine m_get 20 hg hM (by unfold z_free; decide) rfl (by decide) (tb_6 76 _ rfl) 77 rfl (dd_X12_rate_0 38 _ _ _ rfl) ?_ (fun _ _ _ => rfl)
          try simp (decide := true) only [zu1, if_true, if_false, reduceIte]
          refine r_iload_1 78 rfl (dd_X12_rate_0 39 _ _ _ rfl) ?_
          refine m_iast 21 _ rfl hg hM rfl (by omega) (z_lt (n2 := 40) rfl (by omega)) (by decide) 79 rfl (dd_X12_rate_0 40 _ _ _ rfl) (fun h6 hM => ?_)
          refine r_aload_0 80 rfl (dd_X12_rate_0 41 _ _ _ rfl) ?_
          refine m_arr 22 hg hM (by decide) (by decide) (tb_6 78 _ rfl) 83 rfl (dd_X12_rate_0 42 _ _ _ rfl) ?_ (fun _ _ _ => rfl)
          refine r_aload_0 84 rfl (dd_X12_rate_0 43 _ _ _ rfl) ?_
          refine m_get 20 hg hM (by unfold z_free; decide) rfl (by decide) (tb_6 76 _ rfl) 87 rfl (dd_X12_rate_0 44 _ _ _ rfl) ?_ (fun _ _ _ => rfl)
          try simp (decide := true) only [zu1, if_true, if_false, reduceIte]
          refine r_iload_2 88 rfl (dd_X12_rate_0 45 _ _ _ rfl) ?_
          refine m_iast 22 _ rfl hg hM rfl (by omega) (z_lt (n2 := 40) rfl (by omega)) (by decide) 89 rfl (dd_X12_rate_0 46 _ _ _ rfl) (fun h7 hM => ?_)
          refine r_aload_0 90 rfl (dd_X12_rate_0 47 _ _ _ rfl) ?_
          refine m_arr 23 hg hM (by decide) (by decide) (tb_6 79 _ rfl) 93 rfl (dd_X12_rate_0 48 _ _ _ rfl) ?_ (fun _ _ _ => rfl)
          refine r_aload_0 94 rfl (dd_X12_rate_0 49 _ _ _ rfl) ?_
          refine m_get 20 hg hM (by unfold z_free; decide) rfl (by decide) (tb_6 76 _ rfl) 97 rfl (dd_X12_rate_0 50 _ _ _ rfl) ?_ (fun _ _ _ => rfl)
          try simp (decide := true) only [zu1, if_true, if_false, reduceIte]
          refine r_iload_3 98 rfl (dd_X12_rate_0 51 _ _ _ rfl) ?_
          refine m_iast 23 _ rfl hg hM rfl (by omega) (z_lt (n2 := 40) rfl (by omega)) (by decide) 99 rfl (dd_X12_rate_0 52 _ _ _ rfl) (fun h8 hM => ?_)
          refine r_aload_0 100 rfl (dd_X12_rate_0 53 _ _ _ rfl) ?_
          refine r_dup rfl 101 rfl (dd_X12_rate_0 54 _ _ _ rfl) ?_
          refine m_get 20 hg hM (by unfold z_free; decide) rfl (by decide) (tb_6 76 _ rfl) 104 rfl (dd_X12_rate_0 55 _ _ _ rfl) ?_ (fun _ _ _ => rfl)
          try simp (decide := true) only [zu1, if_true, if_false, reduceIte]
          refine r_iconst 105 rfl (dd_X12_rate_0 56 _ _ _ rfl) ?_
          refine r_iadd 106 rfl (dd_X12_rate_0 57 _ _ _ rfl) ?_
          refine m_put 20 hg hM rfl (by decide) (by decide) rfl (fun _ _ _ => rfl) rfl rfl (tb_6 76 _ rfl) 109 rfl (dd_X12_rate_0 58 _ _ _ rfl) (fun h10 hM => ?_)
          refine r_aload_0 110 rfl (dd_X12_rate_0 59 _ _ _ rfl) ?_
          refine m_get 20 hg hM (by unfold z_free; decide) rfl (by decide) (tb_6 76 _ rfl) 113 rfl (dd_X12_rate_1 0 _ _ _ rfl) ?_ (fun _ _ _ => rfl)
          try simp (decide := true) only [zu1, if_true, if_false, reduceIte]
          refine r_ireturn rfl rfl (dd_X12_rate_1 1 _ _ _ rfl) ?_
          exact k0 (by omega) (by omega) _ hM
        · refine r_iconst 57 rfl (dd_X12_rate_0 28 _ _ _ rfl) ?_
          refine r_goto 61 rfl (dd_X12_rate_0 29 _ _ _ rfl) ?_
          refine r_callV1 (lvl := 10) (mc1 := 0) (ms1 := 0) 0 0 hg rfl md_X12_goesWell zc_X12 hM.kd wi_X12_goesWell wv_X12_goesWell (tb_6 197 _ rfl) (by decide) (by decide) rfl (Nat.le_of_ble_eq_true rfl) (by decide) (by decide) 64 rfl (dd_X12_rate_0 31 _ _ _ rfl) ?_
          refine c_X12_goesWell hg hM (by decide) (fun q => absurd q (by decide)) (fun _ h11 hM => ?_)
          dsimp only [zCont, Option.toList, List.cons_append, List.nil_append]
          refine r_ifne (by omega) 67 rfl 69 rfl (dd_X12_rate_0 32 _ _ _ rfl) (fun q => absurd q (by decide)) (fun _ => ?_)
          refine r_iconst 68 rfl (dd_X12_rate_0 33 _ _ _ rfl) ?_
          refine r_ireturn rfl rfl (dd_X12_rate_0 34 _ _ _ rfl) ?_
          first | exact k1 (by omega) _ hM | exact k2 (by omega) (by omega) _ hM
      · dsimp only [zCont, Option.toList, List.cons_append, List.nil_append]
        refine r_ifeq (by omega) 30 rfl 34 rfl (dd_X12_rate_0 14 _ _ _ rfl) (fun _ => ?_) (fun q => absurd q (by decide))
        refine r_iconst 35 rfl (dd_X12_rate_0 17 _ _ _ rfl) ?_
        refine r_istore_4 37 rfl (by decide) rfl (dd_X12_rate_0 18 _ _ _ rfl) ?_
        refine r_aload_0 38 rfl (dd_X12_rate_0 19 _ _ _ rfl) ?_
        refine r_iload_4 40 rfl (dd_X12_rate_0 20 _ _ _ rfl) ?_
        refine r_ifne (by omega) 43 rfl 47 rfl (dd_X12_rate_0 21 _ _ _ rfl) (fun q => absurd q (by decide)) (fun _ => ?_)
        refine r_iconst 44 rfl (dd_X12_rate_0 22 _ _ _ rfl) ?_
        refine r_goto 61 rfl (dd_X12_rate_0 23 _ _ _ rfl) ?_
        refine r_callV1 (lvl := 10) (mc1 := 0) (ms1 := 0) 0 0 hg rfl md_X12_goesWell zc_X12 hM.kd wi_X12_goesWell wv_X12_goesWell (tb_6 197 _ rfl) (by decide) (by decide) rfl (Nat.le_of_ble_eq_true rfl) (by decide) (by decide) 64 rfl (dd_X12_rate_0 31 _ _ _ rfl) ?_
        refine c_X12_goesWell hg hM (by decide) (fun q => absurd q (by decide)) (fun _ h12 hM => ?_)
        dsimp only [zCont, Option.toList, List.cons_append, List.nil_append]
        refine r_ifne (by omega) 67 rfl 69 rfl (dd_X12_rate_0 32 _ _ _ rfl) (fun q => absurd q (by decide)) (fun _ => ?_)
        refine r_iconst 68 rfl (dd_X12_rate_0 33 _ _ _ rfl) ?_
        refine r_ireturn rfl rfl (dd_X12_rate_0 34 _ _ _ rfl) ?_
        first | exact k1 (by omega) _ hM | exact k2 (by omega) (by omega) _ hM
    · dsimp only [zCont, Option.toList, List.cons_append, List.nil_append]
      refine r_ifeq (by omega) 20 rfl 34 rfl (dd_X12_rate_0 9 _ _ _ rfl) (fun _ => ?_) (fun q => absurd q (by decide))
      refine r_iconst 35 rfl (dd_X12_rate_0 17 _ _ _ rfl) ?_
      refine r_istore_4 37 rfl (by decide) rfl (dd_X12_rate_0 18 _ _ _ rfl) ?_
      refine r_aload_0 38 rfl (dd_X12_rate_0 19 _ _ _ rfl) ?_
      refine r_iload_4 40 rfl (dd_X12_rate_0 20 _ _ _ rfl) ?_
      refine r_ifne (by omega) 43 rfl 47 rfl (dd_X12_rate_0 21 _ _ _ rfl) (fun q => absurd q (by decide)) (fun _ => ?_)
      refine r_iconst 44 rfl (dd_X12_rate_0 22 _ _ _ rfl) ?_
      refine r_goto 61 rfl (dd_X12_rate_0 23 _ _ _ rfl) ?_
      refine r_callV1 (lvl := 10) (mc1 := 0) (ms1 := 0) 0 0 hg rfl md_X12_goesWell zc_X12 hM.kd wi_X12_goesWell wv_X12_goesWell (tb_6 197 _ rfl) (by decide) (by decide) rfl (Nat.le_of_ble_eq_true rfl) (by decide) (by decide) 64 rfl (dd_X12_rate_0 31 _ _ _ rfl) ?_
      refine c_X12_goesWell hg hM (by decide) (fun q => absurd q (by decide)) (fun _ h13 hM => ?_)
      dsimp only [zCont, Option.toList, List.cons_append, List.nil_append]
      refine r_ifne (by omega) 67 rfl 69 rfl (dd_X12_rate_0 32 _ _ _ rfl) (fun q => absurd q (by decide)) (fun _ => ?_)
      refine r_iconst 68 rfl (dd_X12_rate_0 33 _ _ _ rfl) ?_
      refine r_ireturn rfl rfl (dd_X12_rate_0 34 _ _ _ rfl) ?_
      first | exact k1 (by omega) _ hM | exact k2 (by omega) (by omega) _ hM
  · dsimp only [zCont, Option.toList, List.cons_append, List.nil_append]
    refine r_ifeq (by omega) 9 rfl 34 rfl (dd_X12_rate_0 4 _ _ _ rfl) (fun _ => ?_) (fun q => absurd q (by decide))
    refine r_iconst 35 rfl (dd_X12_rate_0 17 _ _ _ rfl) ?_
    refine r_istore_4 37 rfl (by decide) rfl (dd_X12_rate_0 18 _ _ _ rfl) ?_
    refine r_aload_0 38 rfl (dd_X12_rate_0 19 _ _ _ rfl) ?_
    refine r_iload_4 40 rfl (dd_X12_rate_0 20 _ _ _ rfl) ?_
    refine r_ifne (by omega) 43 rfl 47 rfl (dd_X12_rate_0 21 _ _ _ rfl) (fun q => absurd q (by decide)) (fun _ => ?_)
    refine r_iconst 44 rfl (dd_X12_rate_0 22 _ _ _ rfl) ?_
    refine r_goto 61 rfl (dd_X12_rate_0 23 _ _ _ rfl) ?_
    refine r_callV1 (lvl := 10) (mc1 := 0) (ms1 := 0) 0 0 hg rfl md_X12_goesWell zc_X12 hM.kd wi_X12_goesWell wv_X12_goesWell (tb_6 197 _ rfl) (by decide) (by decide) rfl (Nat.le_of_ble_eq_true rfl) (by decide) (by decide) 64 rfl (dd_X12_rate_0 31 _ _ _ rfl) ?_
    refine c_X12_goesWell hg hM (by decide) (fun q => absurd q (by decide)) (fun _ h14 hM => ?_)
    dsimp only [zCont, Option.toList, List.cons_append, List.nil_append]
    refine r_ifne (by omega) 67 rfl 69 rfl (dd_X12_rate_0 32 _ _ _ rfl) (fun q => absurd q (by decide)) (fun _ => ?_)
    refine r_iconst 68 rfl (dd_X12_rate_0 33 _ _ _ rfl) ?_
    refine r_ireturn rfl rfl (dd_X12_rate_0 34 _ _ _ rfl) ?_
    first | exact k1 (by omega) _ hM | exact k2 (by omega) (by omega) _ hM

abbrev mX12_minutes : zM := (RX12, cX12_minutes, 2, (Option.some Jvm.ClassFile.FieldType.int), [], "minutes", 10)
set_option maxRecDepth 20000 in
theorem c_X12_minutes {g : zGT} {Q : zO → zH → Prop} {h : zH} (hg : zG g) {h0 : zH} {m : Nat} {A : Nat → Nat} {S : zS} {n : Nat} {t : Int} (hI : MInv n S) (hM : MI h0 m A S t h) {s : Nat} (hs : s < 40) (k : Q (.inl (some (.int (zI (1440 * S.2 34 s + S.2 35 s))))) h) : zC g (.code yX12_minutes cX12_minutes 2 (Option.some Jvm.ClassFile.FieldType.int)) yX12_minutes 10 0 0 [.ref m, .int (zI s)] h Q := by
  refine zC_of (M := mX12_minutes) (lv := [some (.ref m), some (.int (zI s))]) (by decide) rfl rfl (Nat.le_of_ble_eq_true rfl) rfl rfl ?_
  refine r_sipush (by decide) 3 rfl (dd_X12_minutes 0 _ _ _ rfl) ?_
  refine r_aload_0 4 rfl (dd_X12_minutes 1 _ _ _ rfl) ?_
  refine m_arr 34 hg hM (by decide) (by decide) (tb_6 90 _ rfl) 7 rfl (dd_X12_minutes 2 _ _ _ rfl) ?_ (fun _ _ _ => rfl)
  refine r_iload_1 8 rfl (dd_X12_minutes 3 _ _ _ rfl) ?_
  refine m_iald 34 (s) (by omega) hg hM rfl (by omega) (z_lt (n2 := 40) rfl (by omega)) (by decide) 9 rfl (dd_X12_minutes 4 _ _ _ rfl) ?_
  refine r_imul 10 rfl (dd_X12_minutes 5 _ _ _ rfl) ?_
  refine r_aload_0 11 rfl (dd_X12_minutes 6 _ _ _ rfl) ?_
  refine m_arr 35 hg hM (by decide) (by decide) (tb_6 91 _ rfl) 14 rfl (dd_X12_minutes 7 _ _ _ rfl) ?_ (fun _ _ _ => rfl)
  refine r_iload_1 15 rfl (dd_X12_minutes 8 _ _ _ rfl) ?_
  refine m_iald 35 (s) (by omega) hg hM rfl (by omega) (z_lt (n2 := 40) rfl (by omega)) (by decide) 16 rfl (dd_X12_minutes 9 _ _ _ rfl) ?_
  refine r_iadd 17 rfl (dd_X12_minutes 10 _ _ _ rfl) ?_
  refine r_ireturn rfl rfl (dd_X12_minutes 11 _ _ _ rfl) ?_
  exact k
end
section
/-! ===== lN n to 2^64: shifts, and, or, masks, one bit ===== -/
theorem wb_tb (n : Nat) : (lN n).toBitVec = BitVec.ofNat 64 n := rfl
theorem wb_inj {a b : Int64} (h : a.toBitVec = b.toBitVec) : a = b := Int64.toBitVec_inj.mp h
theorem wb_tn {n : Nat} (h : n < 2 ^ 64) : (lN n).toBitVec.toNat = n := by rw [wb_tb, BitVec.toNat_ofNat, Nat.mod_eq_of_lt h]
theorem wb_of (x : Int64) : ∃ n, n < 2 ^ 64 ∧ x = lN n := ⟨x.toBitVec.toNat, x.toBitVec.isLt, wb_inj (by rw [wb_tb]; simp)⟩
theorem wb_of32 (x : Int32) : ∃ n, n < 2 ^ 32 ∧ x = nI n := ⟨x.toBitVec.toNat, x.toBitVec.isLt, Int32.toBitVec_inj.mp (by show _ = BitVec.ofNat 32 _; simp)⟩
theorem wb_c : ∀ k, k < 64 → ((nI k).toInt64 &&& 63) = lN k := by decide +kernel
theorem wb_cu : ∀ k, k < 64 → ((nI k).toInt64.toUInt64 &&& Int64.toUInt64 63) = UInt64.ofNat k := by decide +kernel
theorem wb_sm : ∀ k, k < 64 → (BitVec.ofNat 64 k).smod 64 = BitVec.ofNat 64 k := by decide +kernel
theorem wb_pw {a b : Nat} (h : a ≤ b) : 2 ^ b = 2 ^ a * 2 ^ (b - a) := by rw [← Nat.pow_add]; congr 1; omega
theorem wb_lt2 {a b : Nat} (h : a < b) : 2 ^ a < 2 ^ b := Nat.pow_lt_pow_right (by decide) h
theorem wb_mod (n : Nat) : lN n = lN (n % 2 ^ 64) := wb_inj (by rw [wb_tb, wb_tb]; apply BitVec.eq_of_toNat_eq; rw [BitVec.toNat_ofNat, BitVec.toNat_ofNat, Nat.mod_mod])
theorem wb_shr {n k : Nat} (hn : n < 2 ^ 64) (hk : k < 64) : ((lN n).toUInt64 >>> ((nI k).toInt64.toUInt64 &&& Int64.toUInt64 63)).toInt64 = lN (n / 2 ^ k) := by
  rw [wb_cu k hk]
  apply wb_inj
  apply BitVec.eq_of_toNat_eq
  show ((lN n).toUInt64 >>> UInt64.ofNat k).toNat = (BitVec.ofNat 64 _).toNat
  have h1 : (UInt64.ofNat k).toNat = k := by
    show (BitVec.ofNat 64 k).toNat = k
    rw [BitVec.toNat_ofNat, Nat.mod_eq_of_lt (by omega)]
  have h2 : (lN n).toUInt64.toNat = n := wb_tn hn
  rw [UInt64.toNat_shiftRight, h1, h2, Nat.mod_eq_of_lt hk, Nat.shiftRight_eq_div_pow, BitVec.toNat_ofNat, Nat.mod_eq_of_lt (Nat.lt_of_le_of_lt (Nat.div_le_self _ _) hn)]
theorem wb_shl (n : Nat) {k : Nat} (hk : k < 64) : lN n <<< ((nI k).toInt64 &&& 63) = lN (n * 2 ^ k) := by
  rw [wb_c k hk]
  apply wb_inj
  rw [Int64.toBitVec_shiftLeft, wb_tb, wb_tb, wb_tb, wb_sm k hk]
  apply BitVec.eq_of_toNat_eq
  rw [BitVec.shiftLeft_eq', BitVec.toNat_shiftLeft, BitVec.toNat_ofNat, BitVec.toNat_ofNat, BitVec.toNat_ofNat, Nat.mod_eq_of_lt (show k < 2 ^ 64 by omega), Nat.shiftLeft_eq, Nat.mul_mod, Nat.mod_mod, ← Nat.mul_mod]
theorem wb_and {a b : Nat} (ha : a < 2 ^ 64) (hb : b < 2 ^ 64) : lN a &&& lN b = lN (a &&& b) := by
  apply wb_inj
  rw [Int64.toBitVec_and, wb_tb, wb_tb, wb_tb]
  apply BitVec.eq_of_toNat_eq
  rw [BitVec.toNat_and, BitVec.toNat_ofNat, BitVec.toNat_ofNat, BitVec.toNat_ofNat, Nat.mod_eq_of_lt ha, Nat.mod_eq_of_lt hb, Nat.mod_eq_of_lt (Nat.and_lt_two_pow _ hb)]
theorem wb_or {a b : Nat} (ha : a < 2 ^ 64) (hb : b < 2 ^ 64) : lN a ||| lN b = lN (a ||| b) := by
  apply wb_inj
  rw [Int64.toBitVec_or, wb_tb, wb_tb, wb_tb]
  apply BitVec.eq_of_toNat_eq
  rw [BitVec.toNat_or, BitVec.toNat_ofNat, BitVec.toNat_ofNat, BitVec.toNat_ofNat, Nat.mod_eq_of_lt ha, Nat.mod_eq_of_lt hb, Nat.mod_eq_of_lt (Nat.or_lt_two_pow ha hb)]
theorem wb_mask {n k : Nat} (hn : n < 2 ^ 64) (hk : k < 64) : lN n &&& lN (2 ^ k - 1) = lN (n % 2 ^ k) := by
  rw [wb_and hn (by have := wb_lt2 hk; omega), Nat.and_two_pow_sub_one_eq_mod]
theorem wb_a1 {n : Nat} (hn : n < 2 ^ 64) : lN n &&& 1 = lN (n % 2) := wb_mask (k := 1) hn (by decide)
theorem wb_bit {n k : Nat} (hn : n < 2 ^ 64) (hk : k < 64) : ((lN n).toUInt64 >>> ((nI k).toInt64.toUInt64 &&& Int64.toUInt64 63)).toInt64 &&& 1 = lN (n / 2 ^ k % 2) := by
  rw [wb_shr hn hk, wb_a1 (Nat.lt_of_le_of_lt (Nat.div_le_self _ _) hn)]
theorem wb_xor {q k : Nat} (hk : k < 63) (h : 2 ^ k ≤ q) (h2 : q < 2 ^ (k + 1)) : lN q ^^^ lN (2 ^ k) = lN (q - 2 ^ k) := by
  obtain ⟨r, rfl⟩ : ∃ r, q = 2 ^ k + r := ⟨q - 2 ^ k, by omega⟩
  have hr : r < 2 ^ k := by rw [Nat.pow_succ] at h2; omega
  have hx : (2 ^ k + r) ^^^ 2 ^ k = r := by
    apply Nat.eq_of_testBit_eq
    intro i
    rw [Nat.testBit_xor, Nat.testBit_two_pow]
    rcases Nat.lt_trichotomy i k with h | h | h
    · rw [Nat.testBit_two_pow_add_gt h]
      simp [show ¬ k = i by omega]
    · subst h
      rw [Nat.testBit_two_pow_add_eq]
      simp
    · have a1 : 2 ^ (k + 1) ≤ 2 ^ i := Nat.pow_le_pow_right (by decide) h
      rw [Nat.testBit_lt_two_pow (show 2 ^ k + r < 2 ^ i by omega), Nat.testBit_lt_two_pow (show r < 2 ^ i by omega)]
      simp [show ¬ k = i by omega]
  have b1 := wb_lt2 (show k + 1 < 64 by omega)
  have b2 := wb_lt2 (show k < 64 by omega)
  apply wb_inj
  rw [Int64.toBitVec_xor, wb_tb, wb_tb, wb_tb]
  apply BitVec.eq_of_toNat_eq
  rw [BitVec.toNat_xor, BitVec.toNat_ofNat, BitVec.toNat_ofNat, BitVec.toNat_ofNat, Nat.mod_eq_of_lt (by omega : 2 ^ k + r < 2 ^ 64), Nat.mod_eq_of_lt b2, hx, Nat.add_sub_cancel_left, Nat.mod_eq_of_lt (by omega)]
/-! ===== lN: masks, 'or' of parts that don't overlap is a sum ===== -/
theorem u_tn {n : Nat} (h : n < 2 ^ 64) : (UInt64.ofNat n).toNat = n := Nat.mod_eq_of_lt h
theorem g_and {a b c : Nat} (ha : a < 2 ^ 64) (hb : b < 2 ^ 64) (hc : a &&& b = c) : lN a &&& lN b = lN c := by
  subst hc
  have h : UInt64.ofNat a &&& UInt64.ofNat b = UInt64.ofNat (a &&& b) := UInt64.toNat_inj.mp (by rw [UInt64.toNat_and, u_tn ha, u_tn hb, u_tn (Nat.and_lt_two_pow a hb)])
  have h2 := congrArg UInt64.toInt64 h
  exact h2
theorem g_and1 {a : Nat} (ha : a < 2 ^ 64) : lN a &&& 1 = lN (a % 2) := g_and (b := 1) ha (by decide) (Nat.and_two_pow_sub_one_eq_mod a 1)
theorem g_mask {a s p : Nat} (hp : 2 ^ s = p) (hs : s < 64) (ha : a < 2 ^ 64) : lN a &&& lN (p - 1) = lN (a % p) := by
  subst hp
  have := Nat.pow_lt_pow_right (show 1 < 2 by decide) hs
  exact g_and ha (by omega) (Nat.and_two_pow_sub_one_eq_mod a s)
theorem g_or {k p a b : Nat} (hp : 2 ^ k = p) (ha : a < p) (h : b * p + a < 2 ^ 64) : lN (b * p) ||| lN a = lN (b * p + a) := by
  subst hp
  have h1 : b * 2 ^ k ||| a = b * 2 ^ k + a := by rw [← Nat.shiftLeft_eq, Nat.shiftLeft_add_eq_or_of_lt ha]
  have h3 : UInt64.ofNat (b * 2 ^ k) ||| UInt64.ofNat a = UInt64.ofNat (b * 2 ^ k + a) := UInt64.toNat_inj.mp (by rw [UInt64.toNat_or, u_tn (by omega), u_tn (by omega), u_tn h, h1])
  have h2 := congrArg UInt64.toInt64 h3
  exact h2
theorem g_or' {k p a b : Nat} (hp : 2 ^ k = p) (ha : a < p) (h : a + b * p < 2 ^ 64) : lN a ||| lN (b * p) = lN (a + b * p) := by
  rw [Int64.or_comm, g_or hp ha (by omega), Nat.add_comm]
theorem g_ushr {a k p : Nat} {y : UInt64} (hy : y = UInt64.ofNat k) (hk : k < 64) (hp : 2 ^ k = p) (ha : a < 2 ^ 64) : ((lN a).toUInt64 >>> y).toInt64 = lN (a / p) := by
  subst hy hp
  have h : UInt64.ofNat a >>> UInt64.ofNat k = UInt64.ofNat (a / 2 ^ k) := UInt64.toNat_inj.mp (by rw [UInt64.toNat_shiftRight, u_tn ha, u_tn (by omega), u_tn (Nat.lt_of_le_of_lt (Nat.div_le_self _ _) ha), Nat.mod_eq_of_lt hk, Nat.shiftRight_eq_div_pow])
  have h2 := congrArg UInt64.toInt64 h
  exact h2
theorem g_shl {a k p : Nat} {y : Int64} (hy : y.toBitVec.smod 64 = BitVec.ofNat 64 k) (hk : k < 64) (hp : 2 ^ k = p) (ha : a < 2 ^ 64) : lN a <<< y = lN (a * p) := by
  subst hp
  apply Int64.toBitVec_inj.mp
  rw [Int64.toBitVec_shiftLeft, hy]
  apply BitVec.eq_of_toNat_eq
  have hb : (lN a).toBitVec.toNat = a := Nat.mod_eq_of_lt ha
  have hk' : (BitVec.ofNat 64 k).toNat = k := Nat.mod_eq_of_lt (by omega)
  have h : ((lN a).toBitVec <<< BitVec.ofNat 64 k).toNat = (a * 2 ^ k) % 2 ^ 64 := by simp only [BitVec.shiftLeft_eq', BitVec.toNat_shiftLeft, hb, hk', Nat.shiftLeft_eq]
  exact h
/-! ===== lN to 2^62 under >> and >>> ===== -/
theorem pf_lI {a : Nat} (h : a < 2 ^ 63) : (lN a).toInt = (a : Int) := lg_ofNat_toInt h
theorem pf_shr {a d : Nat} {D : Int64} (hD : (D.toBitVec.smod 64).toNat = d) (h : a < 2 ^ 62) : lN a >>> D = lN (a / 2 ^ d) := by
  have hd : a / 2 ^ d ≤ a := Nat.div_le_self _ _
  apply Int64.toInt_inj.mp
  have e : (lN a >>> D).toInt = (lN a).toInt >>> d := by
    rw [← hD]
    exact BitVec.toInt_sshiftRight ..
  rw [e, Int.shiftRight_eq_div_pow, pf_lI (by omega), pf_lI (by omega)]
  rfl
theorem pf_ushr {a d : Nat} {D : UInt64} (hD : D.toNat % 64 = d) (h : a < 2 ^ 62) : ((lN a).toUInt64 >>> D).toInt64 = lN (a / 2 ^ d) := by
  have hd : a / 2 ^ d ≤ a := Nat.div_le_self _ _
  have e : (lN a).toUInt64 >>> D = UInt64.ofNat (a / 2 ^ d) := UInt64.toNat_inj.mp (by
    rw [UInt64.toNat_shiftRight, hD, Nat.shiftRight_eq_div_pow, UInt64.toNat_ofNat']
    show (UInt64.ofNat a).toNat / 2 ^ d = _
    rw [UInt64.toNat_ofNat', Nat.mod_eq_of_lt (by omega), Nat.mod_eq_of_lt (by omega)])
  rw [e]
  rfl
theorem zsh_amt {b : Int} (h0 : 0 ≤ b) (h1 : b < 64) : ((zI b).toInt64 &&& 63) = lN b.toNat := by
  rw [zI_nI h0]
  exact wb_c _ (by omega)
theorem zsm {k : Nat} (hk : k < 64) : ((lN k).toBitVec.smod 64).toNat = k := by
  rw [wb_tb, wb_sm k hk, BitVec.toNat_ofNat]
  exact Nat.mod_eq_of_lt (by omega)
theorem z_shr_bv {w b : Int} (h0 : 0 ≤ b) (h1 : b < 64) : (zL w >>> ((zI b).toInt64 &&& 63)).toBitVec = (zL w).toBitVec.sshiftRight b.toNat := by
  rw [zsh_amt h0 h1]
  show (zL w).toBitVec.sshiftRight ((lN b.toNat).toBitVec.smod 64).toNat = _
  rw [zsm (by omega)]
/-- the bit b of the long w -/
def zbit (w b : Int) : Bool := (zL w).toBitVec.getLsbD b.toNat
theorem z_and1 (x : Int64) : x &&& zL 1 = zL (if x.toBitVec.getLsbD 0 = true then 1 else 0) := by
  apply Int64.toBitVec_inj.mp
  show x.toBitVec &&& 1#64 = _
  rw [BitVec.and_one_eq_setWidth_ofBool_getLsbD]
  cases x.toBitVec.getLsbD 0 <;> rfl
theorem z_bit_shr {w b : Int} (h0 : 0 ≤ b) (h1 : b < 64) : (zL w >>> ((zI b).toInt64 &&& 63)) &&& zL 1 = zL (if zbit w b = true then 1 else 0) := by
  rw [z_and1, z_shr_bv h0 h1, BitVec.getLsbD_sshiftRight]
  unfold zbit
  have hb : b.toNat < 64 := by omega
  simp [hb]
theorem z_bit_ushr {w b : Int} (h0 : 0 ≤ b) (h1 : b < 64) : ((zL w).toUInt64 >>> ((zI b).toInt64.toUInt64 &&& Int64.toUInt64 63)).toInt64 &&& zL 1 = zL (if zbit w b = true then 1 else 0) := by
  rw [z_and1]
  have e : (((zL w).toUInt64 >>> ((zI b).toInt64.toUInt64 &&& Int64.toUInt64 63)).toInt64).toBitVec = (zL w).toBitVec >>> b.toNat := by
    rw [zI_nI h0, wb_cu _ (by omega)]
    show (zL w).toBitVec >>> ((UInt64.ofNat b.toNat).toBitVec % 64) = _
    have h9 : ∀ k, k < 64 → (UInt64.ofNat k).toBitVec % 64 = BitVec.ofNat 64 k := by decide +kernel
    rw [h9 _ (by omega), BitVec.ushiftRight_eq', BitVec.toNat_ofNat, Nat.mod_eq_of_lt (by omega)]
  rw [e, BitVec.getLsbD_ushiftRight]
  unfold zbit
  rw [Nat.add_zero]
theorem z_shl1 {b : Int} (h0 : 0 ≤ b) (h1 : b < 64) : (zL 1 <<< ((zI b).toInt64 &&& 63)).toBitVec = BitVec.twoPow 64 b.toNat := by
  rw [zsh_amt h0 h1]
  show (1#64) <<< ((lN b.toNat).toBitVec.smod 64) = _
  rw [BitVec.shiftLeft_eq', zsm (by omega), BitVec.twoPow_eq]
def zset (w b : Int) : Int := (zL w ||| (zL 1 <<< ((zI b).toInt64 &&& 63))).toInt
def zclr (w b : Int) : Int := (zL w &&& ((zL 1 <<< ((zI b).toInt64 &&& 63)) ^^^ zL (-1))).toInt
theorem zset_eq (w b : Int) : (zL w ||| (zL 1 <<< ((zI b).toInt64 &&& 63))) = zL (zset w b) := (zL_self _).symm
theorem zclr_eq (w b : Int) : (zL w &&& ((zL 1 <<< ((zI b).toInt64 &&& 63)) ^^^ zL (-1))) = zL (zclr w b) := (zL_self _).symm
theorem zset_zQ (w b : Int) : zQ (zset w b) := zQ_self _
theorem zclr_zQ (w b : Int) : zQ (zclr w b) := zQ_self _
theorem zbit_set {w b c : Int} (h0 : 0 ≤ b) (h1 : b < 64) (g0 : 0 ≤ c) (g1 : c < 64) : zbit (zset w b) c = (decide (b = c) || zbit w c) := by
  unfold zbit
  rw [← zset_eq]
  show ((zL w).toBitVec ||| (zL 1 <<< ((zI b).toInt64 &&& 63)).toBitVec).getLsbD c.toNat = _
  rw [z_shl1 h0 h1, BitVec.getLsbD_or, BitVec.getLsbD_twoPow, Bool.or_comm]
  congr 1
  have e : (decide (b.toNat < 64)) = true := by simp; omega
  rw [e, Bool.true_and]
  by_cases hbc : b = c
  · subst hbc; simp
  · have : ¬ b.toNat = c.toNat := by omega
    simp [hbc, this]
theorem zbit_clr {w b c : Int} (h0 : 0 ≤ b) (h1 : b < 64) (g0 : 0 ≤ c) (g1 : c < 64) : zbit (zclr w b) c = (!decide (b = c) && zbit w c) := by
  unfold zbit
  rw [← zclr_eq]
  show ((zL w).toBitVec &&& ((zL 1 <<< ((zI b).toInt64 &&& 63)).toBitVec ^^^ BitVec.allOnes 64)).getLsbD c.toNat = _
  rw [z_shl1 h0 h1, BitVec.getLsbD_and, BitVec.getLsbD_xor, BitVec.getLsbD_twoPow, BitVec.getLsbD_allOnes, Bool.and_comm]
  congr 1
  have e : (decide (b.toNat < 64)) = true := by simp; omega
  have e2 : (decide (c.toNat < 64)) = true := by simp; omega
  rw [e, e2, Bool.true_and]
  by_cases hbc : b = c
  · subst hbc; simp
  · have : ¬ b.toNat = c.toNat := by omega
    simp [hbc, this]
theorem zbit_zero {c : Int} : zbit 0 c = false := by
  unfold zbit
  show (0#64).getLsbD c.toNat = false
  exact BitVec.getLsbD_zero
/-- a plate, a vehicle and a day in one number -/
def zpack (p v d : Int) : Int := p + v * 131072 + d * 2097152
theorem zpack_eq {p v d : Int} (hp : 0 ≤ p ∧ p < 131072) (hv : 0 ≤ v ∧ v < 16) (hd : 0 ≤ d ∧ d < 100000) : (zL p ||| (zL v <<< ((zI 17).toInt64 &&& 63))) ||| (zL d <<< ((zI 21).toInt64 &&& 63)) = zL (zpack p v d) := by
  rw [zsh_amt (by decide) (by decide), zsh_amt (by decide) (by decide), zL_lN hp.1, zL_lN hv.1, zL_lN hd.1, zL_lN (show 0 ≤ zpack p v d by unfold zpack; omega)]
  rw [g_shl (k := 17) (p := 131072) (by rw [wb_tb]; exact wb_sm 17 (by decide)) (by decide) (by decide) (by omega), g_shl (k := 21) (p := 2097152) (by rw [wb_tb]; exact wb_sm 21 (by decide)) (by decide) (by decide) (by omega)]
  rw [g_or' (k := 17) (p := 131072) (by decide) (by omega) (by omega), g_or' (k := 21) (p := 2097152) (by decide) (by omega) (by omega)]
  congr 1
  unfold zpack
  omega
theorem zpk_v {x : Int} (h : 0 ≤ x ∧ x < 1099511627776) : (zL x >>> ((zI 17).toInt64 &&& 63)) &&& zL 15 = zL (x / 131072 % 16) := by
  rw [zsh_amt (by decide) (by decide), show (17 : Int).toNat = 17 from rfl, zL_lN h.1, pf_shr (d := 17) (zsm (by decide)) (by omega)]
  rw [show zL 15 = lN (16 - 1) from rfl, g_mask (s := 4) (p := 16) (by decide) (by decide) (by omega), zL_lN (by omega)]
  congr 1
  omega
theorem zpk_d {x : Int} (h : 0 ≤ x ∧ x < 1099511627776) : zL x >>> ((zI 21).toInt64 &&& 63) = zL (x / 2097152) := by
  rw [zsh_amt (by decide) (by decide), show (21 : Int).toNat = 21 from rfl, zL_lN h.1, pf_shr (d := 21) (zsm (by decide)) (by omega), zL_lN (by omega)]
  congr 1
  omega
theorem zpk_p {x : Int} (h : 0 ≤ x ∧ x < 1099511627776) : zL x &&& zL 131071 = zL (x % 131072) := by
  rw [zL_lN h.1]
  rw [show zL 131071 = lN (131072 - 1) from rfl, g_mask (s := 17) (p := 131072) (by decide) (by decide) (by omega), zL_lN (by omega)]
  congr 1
  omega
theorem zpack_v {p v d : Int} (hp : 0 ≤ p ∧ p < 131072) (hv : 0 ≤ v ∧ v < 16) (hd : 0 ≤ d ∧ d < 100000) : (zL (zpack p v d) >>> ((zI 17).toInt64 &&& 63)) &&& zL 15 = zL v := by
  rw [zsh_amt (by decide) (by decide), show (17 : Int).toNat = 17 from rfl, zL_lN (show 0 ≤ zpack p v d by unfold zpack; omega), pf_shr (d := 17) (zsm (by decide)) (by unfold zpack; omega)]
  rw [show zL 15 = lN (16 - 1) from rfl, g_mask (s := 4) (p := 16) (by decide) (by decide) (by unfold zpack; omega), zL_lN hv.1]
  congr 1
  unfold zpack
  omega
theorem zpack_d {p v d : Int} (hp : 0 ≤ p ∧ p < 131072) (hv : 0 ≤ v ∧ v < 16) (hd : 0 ≤ d ∧ d < 100000) : zL (zpack p v d) >>> ((zI 21).toInt64 &&& 63) = zL d := by
  rw [zsh_amt (by decide) (by decide), show (21 : Int).toNat = 21 from rfl, zL_lN (show 0 ≤ zpack p v d by unfold zpack; omega), pf_shr (d := 21) (zsm (by decide)) (by unfold zpack; omega), zL_lN hd.1]
  congr 1
  unfold zpack
  omega
theorem zpack_p {p v d : Int} (hp : 0 ≤ p ∧ p < 131072) (hv : 0 ≤ v ∧ v < 16) (hd : 0 ≤ d ∧ d < 100000) : zL (zpack p v d) &&& zL 131071 = zL p := by
  rw [zL_lN (show 0 ≤ zpack p v d by unfold zpack; omega)]
  rw [show zL 131071 = lN (131072 - 1) from rfl, g_mask (s := 17) (p := 131072) (by decide) (by decide) (by unfold zpack; omega), zL_lN hp.1]
  congr 1
  unfold zpack
  omega
section Lcmp
variable {g : zGT} {M : zM} {mc ms : Nat} {Q : zO → zH → Prop} {pc : Nat} {lv : List (Option Value)} {st : List Value} {h : zH} {bc bs : Nat}
theorem r_lcmp {a b : Int} (ha : zQ a) (hb : zQ b) (pc' : Nat) (hp : pc + 1 = pc') (d : decode M.2.1 pc = .ok (.lcmp, 1)) (k1 : a < b → zX g M mc ms Q pc' lv (.int (zI (-1)) :: st) h bc bs) (k2 : a = b → zX g M mc ms Q pc' lv (.int (zI 0) :: st) h bc bs) (k3 : b < a → zX g M mc ms Q pc' lv (.int (zI 1) :: st) h bc bs) : zX g M mc ms Q pc lv (.long (zL b) :: .long (zL a) :: st) h bc bs := by
  refine r_lcmp_any pc' hp d ?_
  rcases Int.lt_trichotomy a b with q | q | q
  · have := k1 q
    rwa [show lg_cmp (zL a) (zL b) = zI (-1) by unfold lg_cmp; rw [if_neg (by rw [gt_iff_lt, zL_lt hb ha]; omega), if_neg (by rw [zL_eq ha hb]; omega)]; rfl]
  · have := k2 q
    rwa [show lg_cmp (zL a) (zL b) = zI 0 by unfold lg_cmp; rw [if_neg (by rw [gt_iff_lt, zL_lt hb ha]; omega), if_pos (by rw [q])]; rfl]
  · have := k3 q
    rwa [show lg_cmp (zL a) (zL b) = zI 1 by unfold lg_cmp; rw [if_pos (by rw [gt_iff_lt, zL_lt hb ha]; exact q)]; rfl]
theorem r_l2iz {a : Int} (ha : zR a) (pc' : Nat) (hp : pc + 1 = pc') (d : decode M.2.1 pc = .ok (.l2i, 1)) (k : zX g M mc ms Q pc' lv (.int (zI a) :: st) h bc bs) : zX g M mc ms Q pc lv (.long (zL a) :: st) h bc bs := by
  refine r_l2i pc' hp d ?_
  rw [zL_toI ha]
  exact k
end Lcmp
end
section
/-- may the plate p be allotted? -/
def zfree (ar : Nat → Nat → Int) (p : Int) : Prop := zbit (ar 17 (p / 64).toNat) (p % 64) = false ∧ ar 15 (p / 100).toNat = 0
def zfreeB (ar : Nat → Nat → Int) (p : Int) : Bool := !zbit (ar 17 (p / 64).toNat) (p % 64) && decide (ar 15 (p / 100).toNat = 0)
theorem zfreeB_iff {ar : Nat → Nat → Int} {p : Int} : zfreeB ar p = true ↔ zfree ar p := by unfold zfreeB zfree; simp
/-- the series' next plate, 67600 if none is left -/
def znext (S : zS) : Int := S.1 16 + 1 + (zpre (fun j => !zfreeB S.2 (S.1 16 + 1 + j)) (67600 - (S.1 16 + 1)).toNat : Nat)
def zplateOK (S : zS) : Prop := S.1 2 = 4 ∧ (65 ≤ S.2 3 0 ∧ S.2 3 0 ≤ 90) ∧ (65 ≤ S.2 3 1 ∧ S.2 3 1 ≤ 90) ∧ (48 ≤ S.2 3 2 ∧ S.2 3 2 ≤ 57) ∧ (48 ≤ S.2 3 3 ∧ S.2 3 3 ≤ 57)
def zplateV (S : zS) : Int := 100 * (26 * (S.2 3 0 - 65) + S.2 3 1 - 65) + 10 * (S.2 3 2 - 48) + S.2 3 3 - 48
def zpo (ar : Nat → Nat → Int) (v w : Int) : Nat → Int
  | 0 => -1
  | k + 1 => if ar 19 k / 131072 % 16 = v ∧ ar 19 k / 2097152 ≤ w then ar 19 k % 131072 else zpo ar v w k
/-- the plate of a vehicle on a day -/
def zplate (S : zS) (v w : Int) : Int := zpo S.2 v w (S.1 18).toNat
theorem zsign_nar {p q : Int} (hp : 0 ≤ p) (h2 : p < 67600) : narrow .char (.int (zI (zsign p q))) = .int (zI (zsign p q)) := by
  refine z_nchar ?_ ?_ <;> (unfold zsign; repeat' split) <;> omega
theorem zpo_range {ar : Nat → Nat → Int} {v w : Int} (h : ∀ i, 0 ≤ ar 19 i ∧ ar 19 i < 1099511627776) : ∀ k, -1 ≤ zpo ar v w k ∧ zpo ar v w k < 131072
  | 0 => by unfold zpo; omega
  | k + 1 => by
    unfold zpo
    have := h k
    have := zpo_range (v := v) (w := w) h k
    split <;> omega
/-- the rate of a class on a day: from which day it holds, what it is -/
def zro (ar : Nat → Nat → Int) (c w : Int) : Nat → Int × Int
  | 0 => (-1, 0)
  | k + 1 => if ar 21 k = c ∧ ar 22 k ≤ w ∧ (zro ar c w k).1 ≤ ar 22 k then (ar 22 k, ar 23 k) else zro ar c w k
def zrate (S : zS) (c w : Int) : Int := (zro S.2 c w (S.1 20).toNat).2
theorem zro_range {S : zS} {n : Nat} {c w : Int} (hI : MInv n S) : ∀ k, (-1 ≤ (zro S.2 c w k).1 ∧ (zro S.2 c w k).1 ≤ 20000) ∧ (0 ≤ (zro S.2 c w k).2 ∧ (zro S.2 c w k).2 ≤ 100000)
  | 0 => by unfold zro; dsimp only; omega
  | k + 1 => by
    unfold zro
    have h1 := hI.rateFrom k
    have h2 := hI.rateIs k
    have := zro_range (c := c) (w := w) hI k
    split
    · dsimp only; omega
    · exact this
theorem zrate_range {S : zS} {n : Nat} {c w : Int} (hI : MInv n S) : 0 ≤ zrate S c w ∧ zrate S c w ≤ 100000 := (zro_range hI _).2
def ztax (S : zS) (v : Nat) (w : Int) : Int := if zstate S v w = 1 then zrate S (zlast S v w 7 (S.2 7 v)) w else 0
theorem ztax_range {S : zS} {n v : Nat} {w : Int} (hI : MInv n S) : 0 ≤ ztax S v w ∧ ztax S v w ≤ 100000 := by
  unfold ztax
  have := zrate_range (c := zlast S v w 7 (S.2 7 v)) (w := w) hI
  split <;> omega
def zmon (S : zS) (v : Nat) : Nat → Int
  | 0 => 0
  | j + 1 => zmon S v j + ztax S v (30 * j)
theorem zmon_range {S : zS} {n v : Nat} (hI : MInv n S) : ∀ j, 0 ≤ zmon S v j ∧ zmon S v j ≤ 100000 * j
  | 0 => by unfold zmon; omega
  | j + 1 => by
    unfold zmon
    have := zmon_range (v := v) hI j
    have := ztax_range (v := v) (w := 30 * j) hI
    omega
def zowed (S : zS) (v : Nat) : Int := zmon S v (S.1 1 / 30 + 1).toNat - S.2 24 v
/-- where an event of the day w goes in among the first e -/
def zpos (ar : Nat → Nat → Int) (b : Nat) (w : Int) : Nat → Nat
  | 0 => 0
  | e + 1 => if w < ar 11 (b + e) then zpos ar b w e else e + 1
theorem zpos_le {ar : Nat → Nat → Int} {b : Nat} {w : Int} : ∀ e, zpos ar b w e ≤ e
  | 0 => Nat.le_refl _
  | e + 1 => by unfold zpos; have := zpos_le (ar := ar) (b := b) (w := w) e; split <;> omega
/-- the rows of events behind the place b + a, up to b + e, one place on -/
def zsh (ar : Nat → Nat → Int) (b a e : Nat) : Nat → Nat → Int := fun k i => if (k = 9 ∨ k = 10 ∨ k = 11) ∧ b + a < i ∧ i ≤ b + e then ar k (i - 1) else ar k i
theorem zsh_0 {ar : Nat → Nat → Int} {b e : Nat} : zsh ar b e e = ar := by
  funext k i
  unfold zsh
  rw [if_neg (by omega)]
theorem zsh_lo {ar : Nat → Nat → Int} {b a e k i : Nat} (h : i ≤ b + a) : zsh ar b a e k i = ar k i := by
  unfold zsh
  rw [if_neg (by omega)]
theorem zsh_other {ar : Nat → Nat → Int} {b a e k i : Nat} (h : ¬ (k = 9 ∨ k = 10 ∨ k = 11)) : zsh ar b a e k i = ar k i := by
  unfold zsh
  rw [if_neg (fun q => h q.1)]
theorem zsh_step {ar : Nat → Nat → Int} {b a e : Nat} (h : a + 1 ≤ e) : zu2 (zu2 (zu2 (zsh ar b (a + 1) e) 9 (b + (a + 1)) (ar 9 (b + a))) 10 (b + (a + 1)) (ar 10 (b + a))) 11 (b + (a + 1)) (ar 11 (b + a)) = zsh ar b a e := by
  funext k i
  unfold zsh zu2
  by_cases h1 : i = b + (a + 1)
  · subst h1
    have e1 : b + (a + 1) - 1 = b + a := by omega
    by_cases k9 : k = 9
    · subst k9; simp [e1]; omega
    by_cases k10 : k = 10
    · subst k10; simp [e1]; omega
    by_cases k11 : k = 11
    · subst k11; simp [e1]; omega
    · simp [k9, k10, k11]
  · simp only [h1, and_false, if_false]
    by_cases hk : k = 9 ∨ k = 10 ∨ k = 11
    · by_cases h2 : b + a < i ∧ i ≤ b + e
      · rw [if_pos (by omega), if_pos (by omega)]
      · rw [if_neg (by omega), if_neg (by omega)]
    · rw [if_neg (fun q => hk q.1), if_neg (fun q => hk q.1)]
theorem znext_eq {S : zS} {n j : Nat} {a : Int} (hI : MInv n S) (ha : a = S.1 16 + 1 + j) (hj : a ≤ 67600) (hall : ∀ i, i < j → (fun i : Nat => !zfreeB S.2 (S.1 16 + 1 + i)) i = true) (hs : a < 67600 → zfree S.2 a) : znext S = a := by
  have e1 := hI.series
  unfold znext
  rw [zpre_eq (j := j) (by omega) hall (fun q => ?_)]
  · omega
  · have := zfreeB_iff.mpr (hs (by omega))
    rw [ha] at this
    simp [this]
theorem znext_range {S : zS} {n : Nat} (hI : MInv n S) : 0 ≤ znext S ∧ znext S ≤ 67600 := by
  have e1 := hI.series
  have := zpre_le (fun j => !zfreeB S.2 (S.1 16 + 1 + j)) (67600 - (S.1 16 + 1)).toNat
  unfold znext
  omega
end
section
abbrev mX12_isFree : zM := (RX12, cX12_isFree, 2, (Option.some Jvm.ClassFile.FieldType.boolean), [], "isFree", 10)
set_option maxRecDepth 20000 in
theorem c_X12_isFree {g : zGT} {Q : zO → zH → Prop} {h : zH} (hg : zG g) {h0 : zH} {m : Nat} {A : Nat → Nat} {S : zS} {n : Nat} {t : Int} (hI : MInv n S) (hM : MI h0 m A S t h) {p : Int} (hp : 0 ≤ p ∧ p < 67600) (k1 : zfree S.2 p → Q (.inl (some (.int (zI 1)))) h) (k0 : ¬ zfree S.2 p → Q (.inl (some (.int (zI 0)))) h) : zC g (.code yX12_isFree cX12_isFree 2 (Option.some Jvm.ClassFile.FieldType.boolean)) yX12_isFree 10 0 0 [.ref m, .int (zI p)] h Q := by
  refine zC_of (M := mX12_isFree) (lv := [some (.ref m), some (.int (zI p))]) (by decide) rfl rfl (Nat.le_of_ble_eq_true rfl) rfl rfl ?_
  have e1 := hI.barred (p / 100).toNat
  refine r_aload_0 1 rfl (dd_X12_isFree 0 _ _ _ rfl) ?_
  refine m_arr 17 hg hM (by decide) (by decide) (tb_6 73 _ rfl) 4 rfl (dd_X12_isFree 1 _ _ _ rfl) ?_ (fun _ _ _ => rfl)
  refine r_iload_1 5 rfl (dd_X12_isFree 2 _ _ _ rfl) ?_
  refine r_bipush (by decide) 7 rfl (dd_X12_isFree 3 _ _ _ rfl) ?_
  refine r_idiv (by omega) (by omega) (by omega) (by omega) 8 rfl (dd_X12_isFree 4 _ _ _ rfl) ?_
  refine m_lald 17 _ rfl hg hM rfl (by omega) (z_lt (n2 := 1057) rfl (by omega)) (by decide) 9 rfl (dd_X12_isFree 5 _ _ _ rfl) ?_
  refine r_iload_1 10 rfl (dd_X12_isFree 6 _ _ _ rfl) ?_
  refine r_bipush (by decide) 12 rfl (dd_X12_isFree 7 _ _ _ rfl) ?_
  refine r_irem (by omega) (by omega) (by omega) (by omega) 13 rfl (dd_X12_isFree 8 _ _ _ rfl) ?_
  refine r_lshr 14 rfl (dd_X12_isFree 9 _ _ _ rfl) ?_
  refine r_lconst1 15 rfl (dd_X12_isFree 10 _ _ _ rfl) ?_
  refine r_land 16 rfl (dd_X12_isFree 11 _ _ _ rfl) ?_
  refine r_topl (if zbit (S.2 17 (p / 64).toNat) (p % 64) = true then 1 else 0) (z_bit_shr (by omega) (by omega)) ?_
  by_cases hb : zbit (S.2 17 (p / 64).toNat) (p % 64) = true
  · rw [if_pos hb]
    refine r_lconst0 17 rfl (dd_X12_isFree 12 _ _ _ rfl) ?_
    refine r_lcmp (by decide) (by decide) 18 rfl (dd_X12_isFree 13 _ _ _ rfl) (fun q => absurd q (by decide)) (fun q => absurd q (by decide)) (fun _ => ?_)
    refine r_ifne (by omega) 21 rfl 37 rfl (dd_X12_isFree 14 _ _ _ rfl) (fun _ => ?_) (fun q => absurd q (by decide))
    refine r_iconst 38 rfl (dd_X12_isFree 24 _ _ _ rfl) ?_
    refine r_ireturn rfl rfl (dd_X12_isFree 25 _ _ _ rfl) ?_
    exact k0 (fun q => by first | (rw [q.1] at hb; cases hb) | exact absurd q.2 (by omega))
  · rw [if_neg hb]
    refine r_lconst0 17 rfl (dd_X12_isFree 12 _ _ _ rfl) ?_
    refine r_lcmp (by decide) (by decide) 18 rfl (dd_X12_isFree 13 _ _ _ rfl) (fun q => absurd q (by decide)) (fun _ => ?_) (fun q => absurd q (by decide))
    refine r_ifne (by omega) 21 rfl 37 rfl (dd_X12_isFree 14 _ _ _ rfl) (fun q => absurd q (by decide)) (fun _ => ?_)
    refine r_aload_0 22 rfl (dd_X12_isFree 15 _ _ _ rfl) ?_
    refine m_arr 15 hg hM (by decide) (by decide) (tb_6 71 _ rfl) 25 rfl (dd_X12_isFree 16 _ _ _ rfl) ?_ (fun _ _ _ => rfl)
    refine r_iload_1 26 rfl (dd_X12_isFree 17 _ _ _ rfl) ?_
    refine r_bipush (by decide) 28 rfl (dd_X12_isFree 18 _ _ _ rfl) ?_
    refine r_idiv (by omega) (by omega) (by omega) (by omega) 29 rfl (dd_X12_isFree 19 _ _ _ rfl) ?_
    refine m_zald 15 _ rfl hg hM rfl (by omega) (z_lt (n2 := 676) rfl (by omega)) (by decide) 30 rfl (dd_X12_isFree 20 _ _ _ rfl) ?_
    refine r_ifne (by omega) 33 rfl 37 rfl (dd_X12_isFree 21 _ _ _ rfl) (fun hc1 => ?_) (fun hc1 => ?_)
    · refine r_iconst 38 rfl (dd_X12_isFree 24 _ _ _ rfl) ?_
      refine r_ireturn rfl rfl (dd_X12_isFree 25 _ _ _ rfl) ?_
      exact k0 (fun q => by first | (rw [q.1] at hb; cases hb) | exact absurd q.2 (by omega))
    · refine r_iconst 34 rfl (dd_X12_isFree 22 _ _ _ rfl) ?_
      refine r_goto 38 rfl (dd_X12_isFree 23 _ _ _ rfl) ?_
      refine r_ireturn rfl rfl (dd_X12_isFree 25 _ _ _ rfl) ?_
      exact k1 ⟨by simpa using hb, by omega⟩

abbrev mX12_give : zM := (RX12, cX12_give, 3, (Option.some Jvm.ClassFile.FieldType.int), [], "give", 10)
set_option maxRecDepth 20000 in
theorem c_X12_give {g : zGT} {Q : zO → zH → Prop} {h : zH} (hg : zG g) {h0 : zH} {m : Nat} {A : Nat → Nat} {sc : Nat → Int} {ar : Nat → Nat → Int} {t : Int} (hM : MI h0 m A (sc, ar) t h) {v p c d : Int} (hv : 0 ≤ v ∧ v < 12) (hp : 0 ≤ p ∧ p < 67600) (hc : sc 18 = c) (hd : sc 1 = d) (hc2 : 0 ≤ c ∧ c < 67600) (hd2 : 0 ≤ d ∧ d ≤ 20000) (k : ∀ h1, MI h0 m A (zu1 sc 18 (c + 1), zu2 (zu2 ar 17 (p / 64).toNat (zset (ar 17 (p / 64).toNat) (p % 64))) 19 c.toNat (zpack p v d)) t h1 → Q (.inl (some (.int (zI p)))) h1) : zC g (.code yX12_give cX12_give 3 (Option.some Jvm.ClassFile.FieldType.int)) yX12_give 10 0 0 [.ref m, .int (zI v), .int (zI p)] h Q := by
  refine zC_of (M := mX12_give) (lv := [some (.ref m), some (.int (zI v)), some (.int (zI p))]) (by decide) rfl rfl (Nat.le_of_ble_eq_true rfl) rfl rfl ?_
  refine r_aload_0 1 rfl (dd_X12_give 0 _ _ _ rfl) ?_
  refine m_arr 17 hg hM (by decide) (by decide) (tb_6 73 _ rfl) 4 rfl (dd_X12_give 1 _ _ _ rfl) ?_ (fun _ _ _ => rfl)
  refine r_iload_2 5 rfl (dd_X12_give 2 _ _ _ rfl) ?_
  refine r_bipush (by decide) 7 rfl (dd_X12_give 3 _ _ _ rfl) ?_
  refine r_idiv (by omega) (by omega) (by omega) (by omega) 8 rfl (dd_X12_give 4 _ _ _ rfl) ?_
  refine r_dup2 rfl rfl 9 rfl (dd_X12_give 5 _ _ _ rfl) ?_
  refine m_lald 17 _ rfl hg hM rfl (by omega) (z_lt (n2 := 1057) rfl (by omega)) (by decide) 10 rfl (dd_X12_give 6 _ _ _ rfl) ?_
  refine r_lconst1 11 rfl (dd_X12_give 7 _ _ _ rfl) ?_
  refine r_iload_2 12 rfl (dd_X12_give 8 _ _ _ rfl) ?_
  refine r_bipush (by decide) 14 rfl (dd_X12_give 9 _ _ _ rfl) ?_
  refine r_irem (by omega) (by omega) (by omega) (by omega) 15 rfl (dd_X12_give 10 _ _ _ rfl) ?_
  refine r_lshl 16 rfl (dd_X12_give 11 _ _ _ rfl) ?_
  refine r_lor 17 rfl (dd_X12_give 12 _ _ _ rfl) ?_
  refine r_topl _ (zset_eq _ _) ?_
  refine m_last 17 _ rfl hg hM rfl (by omega) (z_lt (n2 := 1057) rfl (by omega)) (by decide) 18 rfl (dd_X12_give 13 _ _ _ rfl) (fun h1 hM => ?_)
  refine r_aload_0 19 rfl (dd_X12_give 14 _ _ _ rfl) ?_
  refine m_arr 19 hg hM (by decide) (by decide) (tb_6 75 _ rfl) 22 rfl (dd_X12_give 15 _ _ _ rfl) ?_ (fun _ _ _ => rfl)
  refine r_aload_0 23 rfl (dd_X12_give 16 _ _ _ rfl) ?_
  refine m_get 18 hg hM (by unfold z_free; decide) rfl (by decide) (tb_6 74 _ rfl) 26 rfl (dd_X12_give 17 _ _ _ rfl) ?_ (fun _ _ _ => rfl)
  try simp (decide := true) only [zu1, if_true, if_false, reduceIte]
  refine r_iload_2 27 rfl (dd_X12_give 18 _ _ _ rfl) ?_
  refine r_i2l (by omega) 28 rfl (dd_X12_give 19 _ _ _ rfl) ?_
  refine r_iload_1 29 rfl (dd_X12_give 20 _ _ _ rfl) ?_
  refine r_i2l (by omega) 30 rfl (dd_X12_give 21 _ _ _ rfl) ?_
  refine r_bipush (by decide) 32 rfl (dd_X12_give 22 _ _ _ rfl) ?_
  refine r_lshl 33 rfl (dd_X12_give 23 _ _ _ rfl) ?_
  refine r_lor 34 rfl (dd_X12_give 24 _ _ _ rfl) ?_
  refine r_aload_0 35 rfl (dd_X12_give 25 _ _ _ rfl) ?_
  refine m_get 1 hg hM (by unfold z_free; decide) rfl (by decide) (tb_6 57 _ rfl) 38 rfl (dd_X12_give 26 _ _ _ rfl) ?_ (fun _ _ _ => rfl)
  try simp (decide := true) only [zu1, if_true, if_false, reduceIte]
  refine r_i2l (by omega) 39 rfl (dd_X12_give 27 _ _ _ rfl) ?_
  refine r_bipush (by decide) 41 rfl (dd_X12_give 28 _ _ _ rfl) ?_
  refine r_lshl 42 rfl (dd_X12_give 29 _ _ _ rfl) ?_
  refine r_lor 43 rfl (dd_X12_give 30 _ _ _ rfl) ?_
  refine r_topl _ (zpack_eq (by omega) (by omega) (by omega)) ?_
  refine m_last 19 _ rfl hg hM rfl (by omega) (z_lt (n2 := 67600) rfl (by omega)) (by decide) 44 rfl (dd_X12_give 31 _ _ _ rfl) (fun h2 hM => ?_)
  refine r_aload_0 45 rfl (dd_X12_give 32 _ _ _ rfl) ?_
  refine r_dup rfl 46 rfl (dd_X12_give 33 _ _ _ rfl) ?_
  refine m_get 18 hg hM (by unfold z_free; decide) rfl (by decide) (tb_6 74 _ rfl) 49 rfl (dd_X12_give 34 _ _ _ rfl) ?_ (fun _ _ _ => rfl)
  try simp (decide := true) only [zu1, if_true, if_false, reduceIte]
  refine r_iconst 50 rfl (dd_X12_give 35 _ _ _ rfl) ?_
  refine r_iadd 51 rfl (dd_X12_give 36 _ _ _ rfl) ?_
  refine m_put 18 hg hM rfl (by decide) (by decide) rfl (fun _ _ _ => rfl) rfl rfl (tb_6 74 _ rfl) 54 rfl (dd_X12_give 37 _ _ _ rfl) (fun h4 hM => ?_)
  refine r_iload_2 55 rfl (dd_X12_give 38 _ _ _ rfl) ?_
  refine r_ireturn rfl rfl (dd_X12_give 39 _ _ _ rfl) ?_
  subst hc hd
  exact k _ hM

abbrev mX12_allot : zM := (RX12, cX12_allot, 4, (Option.some Jvm.ClassFile.FieldType.int), [], "allot", 13)
set_option maxRecDepth 20000 in
theorem c_X12_allot {g : zGT} {Q : zO → zH → Prop} {h : zH} (hg : zG g) {h0 : zH} {m : Nat} {A : Nat → Nat} {S : zS} {n : Nat} {t : Int} (hI : MInv n S) (hM : MI h0 m A S t h) {v : Int} (hv : zR v) (k1 : ¬ (0 ≤ v ∧ v < S.1 4) → ∀ h1, MI h0 m A S 1 h1 → Q (.inl (some (.int (zI 0)))) h1) (k2 : ∀ u : Nat, v = u → v < S.1 4 → (zstate S u (S.1 1) = 4 ∨ znext S = 67600) → ∀ h1, MI h0 m A S 2 h1 → Q (.inl (some (.int (zI 0)))) h1) (k0 : ∀ u : Nat, v = u → v < S.1 4 → zstate S u (S.1 1) ≠ 4 → znext S < 67600 → ∀ h1, MI h0 m A (zu1 (zu1 S.1 16 (znext S)) 18 (S.1 18 + 1), zu2 (zu2 S.2 17 ((znext S) / 64).toNat (zset (S.2 17 ((znext S) / 64).toNat) ((znext S) % 64))) 19 (S.1 18).toNat (zpack (znext S) u (S.1 1))) 0 h1 → Q (.inl (some (.int (zI (znext S))))) h1) : zC g (.code yX12_allot cX12_allot 4 (Option.some Jvm.ClassFile.FieldType.int)) yX12_allot 13 0 0 [.ref m, .int (zI v)] h Q := by
  refine zC_of (M := mX12_allot) (lv := [some (.ref m), some (.int (zI v)), none, none]) (by decide) rfl rfl (Nat.le_of_ble_eq_true rfl) rfl rfl ?_
  have e1 := hI.vehicles
  have e2 := hI.today
  have e3 := hI.series
  have e4 := hI.allotted
  have e5 := hI.calls
  refine r_aload_0 1 rfl (dd_X12_allot 0 _ _ _ rfl) ?_
  refine r_iload_1 2 rfl (dd_X12_allot 1 _ _ _ rfl) ?_
  refine r_callV1 (lvl := 11) (mc1 := 0) (ms1 := 0) 0 0 hg rfl md_X12_isVehicle zc_X12 hM.kd wi_X12_isVehicle wv_X12_isVehicle (tb_7 0 _ rfl) (by decide) (by decide) rfl (Nat.le_of_ble_eq_true rfl) (by decide) (by decide) 5 rfl (dd_X12_allot 2 _ _ _ rfl) ?_
  refine c_X12_isVehicle hg hI hM (by omega) (fun hb1 => ?_) (fun hb1 => ?_)
  · obtain ⟨u, rfl⟩ := Int.eq_ofNat_of_zero_le hb1.1
    dsimp only [zCont, Option.toList, List.cons_append, List.nil_append]
    refine r_istore_2 6 rfl (by decide) rfl (dd_X12_allot 3 _ _ _ rfl) ?_
    refine r_aload_0 7 rfl (dd_X12_allot 4 _ _ _ rfl) ?_
    refine m_get 16 hg hM (by unfold z_free; decide) rfl (by decide) (tb_6 72 _ rfl) 10 rfl (dd_X12_allot 5 _ _ _ rfl) ?_ (fun _ _ _ => rfl)
    try simp (decide := true) only [zu1, if_true, if_false, reduceIte]
    refine r_iconst 11 rfl (dd_X12_allot 6 _ _ _ rfl) ?_
    refine r_iadd 12 rfl (dd_X12_allot 7 _ _ _ rfl) ?_
    refine r_istore_3 13 rfl (by decide) rfl (dd_X12_allot 8 _ _ _ rfl) ?_
    have L13 : ∀ (tt : Nat), ∀ (j : Nat) (a : Int), 67600 - j < tt → (a = S.1 16 + 1 + j) → (a ≤ 67600) → (∀ i, i < j → (fun i : Nat => !zfreeB S.2 (S.1 16 + 1 + i)) i = true) → zX g mX12_allot 0 0 Q 13 [some (.ref m), some (.int (zI (u : Int))), some (.int (zI 1)), some (.int (zI a))] [] h 0 0 := by
      intro tt
      induction tt with
      | zero => intros; exfalso; omega
      | succ tt ih =>
        intro j a hlt ha hj hall
        refine r_iload_3 14 rfl (dd_X12_allot 9 _ _ _ rfl) ?_
        refine r_ldc hg (tb_6 55 _ rfl) 16 rfl (dd_X12_allot 10 _ _ _ rfl) ?_
        refine r_top 67600 rfl ?_
        refine r_if_icmpge (by omega) (by omega) 19 rfl 33 rfl (dd_X12_allot 11 _ _ _ rfl) (fun hc2 => ?_) (fun hc2 => ?_)
        · have hz : znext S = a := znext_eq hI ha hj hall (by first | exact fun q => absurd q (by omega) | exact fun _ => by assumption)
          refine r_aload_0 34 rfl (dd_X12_allot 18 _ _ _ rfl) ?_
          refine r_iload_2 35 rfl (dd_X12_allot 19 _ _ _ rfl) ?_
          refine r_ifne (by omega) 38 rfl 42 rfl (dd_X12_allot 20 _ _ _ rfl) (fun _ => ?_) (fun q => absurd q (by decide))
          refine r_aload_0 43 rfl (dd_X12_allot 23 _ _ _ rfl) ?_
          refine r_iload_1 44 rfl (dd_X12_allot 24 _ _ _ rfl) ?_
          refine r_aload_0 45 rfl (dd_X12_allot 25 _ _ _ rfl) ?_
          refine m_get 1 hg hM (by unfold z_free; decide) rfl (by decide) (tb_6 57 _ rfl) 48 rfl (dd_X12_allot 26 _ _ _ rfl) ?_ (fun _ _ _ => rfl)
          try simp (decide := true) only [zu1, if_true, if_false, reduceIte]
          refine r_callV2 (lvl := 11) (mc1 := 0) (ms1 := 0) 0 0 hg rfl md_X12_stateOn zc_X12 hM.kd wi_X12_stateOn wv_X12_stateOn (tb_7 16 _ rfl) (by decide) (by decide) rfl (Nat.le_of_ble_eq_true rfl) (by decide) (by decide) 51 rfl (dd_X12_allot 27 _ _ _ rfl) ?_
          refine c_X12_stateOn (v := u) hg hI hM (by omega) (by omega) (fun h3 hM => ?_)
          dsimp only [zCont, Option.toList, List.cons_append, List.nil_append]
          have hs9 := zstate_range S u (S.1 1)
          refine r_iconst 52 rfl (dd_X12_allot 28 _ _ _ rfl) ?_
          refine r_if_icmpeq (by omega) (by omega) 55 rfl 61 rfl (dd_X12_allot 29 _ _ _ rfl) (fun hc4 => ?_) (fun hc4 => ?_)
          · refine r_iconst 62 rfl (dd_X12_allot 33 _ _ _ rfl) ?_
            refine r_goto 66 rfl (dd_X12_allot 34 _ _ _ rfl) ?_
            refine r_callV1 (lvl := 10) (mc1 := 0) (ms1 := 0) 0 0 hg rfl md_X12_goesWell zc_X12 hM.kd wi_X12_goesWell wv_X12_goesWell (tb_6 197 _ rfl) (by decide) (by decide) rfl (Nat.le_of_ble_eq_true rfl) (by decide) (by decide) 69 rfl (dd_X12_allot 36 _ _ _ rfl) ?_
            refine c_X12_goesWell hg hM (by decide) (fun q => absurd q (by decide)) (fun _ h5 hM => ?_)
            dsimp only [zCont, Option.toList, List.cons_append, List.nil_append]
            refine r_ifne (by omega) 72 rfl 74 rfl (dd_X12_allot 37 _ _ _ rfl) (fun q => absurd q (by decide)) (fun _ => ?_)
            refine r_iconst 73 rfl (dd_X12_allot 38 _ _ _ rfl) ?_
            refine r_ireturn rfl rfl (dd_X12_allot 39 _ _ _ rfl) ?_
            first | exact k1 (by omega) _ hM | exact k2 u rfl (by omega) (by first | exact Or.inl (by omega) | exact Or.inr (by omega)) _ hM
          · refine r_iload_3 56 rfl (dd_X12_allot 30 _ _ _ rfl) ?_
            refine r_ldc hg (tb_6 55 _ rfl) 58 rfl (dd_X12_allot 31 _ _ _ rfl) ?_
            refine r_top 67600 rfl ?_
            refine r_if_icmpne (by omega) (by omega) 61 rfl 65 rfl (dd_X12_allot 32 _ _ _ rfl) (fun hc6 => ?_) (fun hc6 => ?_)
            · refine r_iconst 66 rfl (dd_X12_allot 35 _ _ _ rfl) ?_
              refine r_callV1 (lvl := 10) (mc1 := 0) (ms1 := 0) 0 0 hg rfl md_X12_goesWell zc_X12 hM.kd wi_X12_goesWell wv_X12_goesWell (tb_6 197 _ rfl) (by decide) (by decide) rfl (Nat.le_of_ble_eq_true rfl) (by decide) (by decide) 69 rfl (dd_X12_allot 36 _ _ _ rfl) ?_
              refine c_X12_goesWell hg hM (by decide) (fun _ h7 hM => ?_) (fun q => absurd rfl q)
              dsimp only [zCont, Option.toList, List.cons_append, List.nil_append]
              refine r_ifne (by omega) 72 rfl 74 rfl (dd_X12_allot 37 _ _ _ rfl) (fun _ => ?_) (fun q => absurd q (by decide))
              refine r_aload_0 75 rfl (dd_X12_allot 40 _ _ _ rfl) ?_
              refine r_iload_3 76 rfl (dd_X12_allot 41 _ _ _ rfl) ?_
              refine m_put 16 hg hM rfl (by decide) (by decide) rfl (fun _ _ _ => rfl) rfl rfl (tb_6 72 _ rfl) 79 rfl (dd_X12_allot 42 _ _ _ rfl) (fun h9 hM => ?_)
              refine r_aload_0 80 rfl (dd_X12_allot 43 _ _ _ rfl) ?_
              refine r_iload_1 81 rfl (dd_X12_allot 44 _ _ _ rfl) ?_
              refine r_iload_3 82 rfl (dd_X12_allot 45 _ _ _ rfl) ?_
              refine r_callV2 (lvl := 10) (mc1 := 0) (ms1 := 0) 0 0 hg rfl md_X12_give zc_X12 hM.kd wi_X12_give wv_X12_give (tb_7 47 _ rfl) (by decide) (by decide) rfl (Nat.le_of_ble_eq_true rfl) (by decide) (by decide) 85 rfl (dd_X12_allot 46 _ _ _ rfl) ?_
              refine c_X12_give hg hM (by omega) (by omega) (zu1_ne (by decide)) (zu1_ne (by decide)) (by omega) (by omega) (fun h10 hM => ?_)
              dsimp only [zCont, Option.toList, List.cons_append, List.nil_append]
              refine r_ireturn rfl rfl (dd_X12_allot 47 _ _ _ rfl) ?_
              have k := k0 u rfl (by omega) (by omega) (by omega) _ (by rw [hz]; exact hM)
              rw [hz] at k
              exact k
            · refine r_iconst 62 rfl (dd_X12_allot 33 _ _ _ rfl) ?_
              refine r_goto 66 rfl (dd_X12_allot 34 _ _ _ rfl) ?_
              refine r_callV1 (lvl := 10) (mc1 := 0) (ms1 := 0) 0 0 hg rfl md_X12_goesWell zc_X12 hM.kd wi_X12_goesWell wv_X12_goesWell (tb_6 197 _ rfl) (by decide) (by decide) rfl (Nat.le_of_ble_eq_true rfl) (by decide) (by decide) 69 rfl (dd_X12_allot 36 _ _ _ rfl) ?_
              refine c_X12_goesWell hg hM (by decide) (fun q => absurd q (by decide)) (fun _ h11 hM => ?_)
              dsimp only [zCont, Option.toList, List.cons_append, List.nil_append]
              refine r_ifne (by omega) 72 rfl 74 rfl (dd_X12_allot 37 _ _ _ rfl) (fun q => absurd q (by decide)) (fun _ => ?_)
              refine r_iconst 73 rfl (dd_X12_allot 38 _ _ _ rfl) ?_
              refine r_ireturn rfl rfl (dd_X12_allot 39 _ _ _ rfl) ?_
              first | exact k1 (by omega) _ hM | exact k2 u rfl (by omega) (by first | exact Or.inl (by omega) | exact Or.inr (by omega)) _ hM
        · refine r_aload_0 20 rfl (dd_X12_allot 12 _ _ _ rfl) ?_
          refine r_iload_3 21 rfl (dd_X12_allot 13 _ _ _ rfl) ?_
          refine r_callV1 (lvl := 10) (mc1 := 0) (ms1 := 0) 0 0 hg rfl md_X12_isFree zc_X12 hM.kd wi_X12_isFree wv_X12_isFree (tb_7 43 _ rfl) (by decide) (by decide) rfl (Nat.le_of_ble_eq_true rfl) (by decide) (by decide) 24 rfl (dd_X12_allot 14 _ _ _ rfl) ?_
          refine c_X12_isFree hg hI hM (by omega) (fun hb12 => ?_) (fun hb12 => ?_)
          · dsimp only [zCont, Option.toList, List.cons_append, List.nil_append]
            refine r_ifne (by omega) 27 rfl 33 rfl (dd_X12_allot 15 _ _ _ rfl) (fun _ => ?_) (fun q => absurd q (by decide))
            have hz : znext S = a := znext_eq hI ha hj hall (by first | exact fun q => absurd q (by omega) | exact fun _ => by assumption)
            refine r_aload_0 34 rfl (dd_X12_allot 18 _ _ _ rfl) ?_
            refine r_iload_2 35 rfl (dd_X12_allot 19 _ _ _ rfl) ?_
            refine r_ifne (by omega) 38 rfl 42 rfl (dd_X12_allot 20 _ _ _ rfl) (fun _ => ?_) (fun q => absurd q (by decide))
            refine r_aload_0 43 rfl (dd_X12_allot 23 _ _ _ rfl) ?_
            refine r_iload_1 44 rfl (dd_X12_allot 24 _ _ _ rfl) ?_
            refine r_aload_0 45 rfl (dd_X12_allot 25 _ _ _ rfl) ?_
            refine m_get 1 hg hM (by unfold z_free; decide) rfl (by decide) (tb_6 57 _ rfl) 48 rfl (dd_X12_allot 26 _ _ _ rfl) ?_ (fun _ _ _ => rfl)
            try simp (decide := true) only [zu1, if_true, if_false, reduceIte]
            refine r_callV2 (lvl := 11) (mc1 := 0) (ms1 := 0) 0 0 hg rfl md_X12_stateOn zc_X12 hM.kd wi_X12_stateOn wv_X12_stateOn (tb_7 16 _ rfl) (by decide) (by decide) rfl (Nat.le_of_ble_eq_true rfl) (by decide) (by decide) 51 rfl (dd_X12_allot 27 _ _ _ rfl) ?_
            refine c_X12_stateOn (v := u) hg hI hM (by omega) (by omega) (fun h13 hM => ?_)
            dsimp only [zCont, Option.toList, List.cons_append, List.nil_append]
            have hs9 := zstate_range S u (S.1 1)
            refine r_iconst 52 rfl (dd_X12_allot 28 _ _ _ rfl) ?_
            refine r_if_icmpeq (by omega) (by omega) 55 rfl 61 rfl (dd_X12_allot 29 _ _ _ rfl) (fun hc14 => ?_) (fun hc14 => ?_)
            · refine r_iconst 62 rfl (dd_X12_allot 33 _ _ _ rfl) ?_
              refine r_goto 66 rfl (dd_X12_allot 34 _ _ _ rfl) ?_
              refine r_callV1 (lvl := 10) (mc1 := 0) (ms1 := 0) 0 0 hg rfl md_X12_goesWell zc_X12 hM.kd wi_X12_goesWell wv_X12_goesWell (tb_6 197 _ rfl) (by decide) (by decide) rfl (Nat.le_of_ble_eq_true rfl) (by decide) (by decide) 69 rfl (dd_X12_allot 36 _ _ _ rfl) ?_
              refine c_X12_goesWell hg hM (by decide) (fun q => absurd q (by decide)) (fun _ h15 hM => ?_)
              dsimp only [zCont, Option.toList, List.cons_append, List.nil_append]
              refine r_ifne (by omega) 72 rfl 74 rfl (dd_X12_allot 37 _ _ _ rfl) (fun q => absurd q (by decide)) (fun _ => ?_)
              refine r_iconst 73 rfl (dd_X12_allot 38 _ _ _ rfl) ?_
              refine r_ireturn rfl rfl (dd_X12_allot 39 _ _ _ rfl) ?_
              first | exact k1 (by omega) _ hM | exact k2 u rfl (by omega) (by first | exact Or.inl (by omega) | exact Or.inr (by omega)) _ hM
            · refine r_iload_3 56 rfl (dd_X12_allot 30 _ _ _ rfl) ?_
              refine r_ldc hg (tb_6 55 _ rfl) 58 rfl (dd_X12_allot 31 _ _ _ rfl) ?_
              refine r_top 67600 rfl ?_
              refine r_if_icmpne (by omega) (by omega) 61 rfl 65 rfl (dd_X12_allot 32 _ _ _ rfl) (fun hc16 => ?_) (fun hc16 => ?_)
              · refine r_iconst 66 rfl (dd_X12_allot 35 _ _ _ rfl) ?_
                refine r_callV1 (lvl := 10) (mc1 := 0) (ms1 := 0) 0 0 hg rfl md_X12_goesWell zc_X12 hM.kd wi_X12_goesWell wv_X12_goesWell (tb_6 197 _ rfl) (by decide) (by decide) rfl (Nat.le_of_ble_eq_true rfl) (by decide) (by decide) 69 rfl (dd_X12_allot 36 _ _ _ rfl) ?_
                refine c_X12_goesWell hg hM (by decide) (fun _ h17 hM => ?_) (fun q => absurd rfl q)
                dsimp only [zCont, Option.toList, List.cons_append, List.nil_append]
                refine r_ifne (by omega) 72 rfl 74 rfl (dd_X12_allot 37 _ _ _ rfl) (fun _ => ?_) (fun q => absurd q (by decide))
                refine r_aload_0 75 rfl (dd_X12_allot 40 _ _ _ rfl) ?_
                refine r_iload_3 76 rfl (dd_X12_allot 41 _ _ _ rfl) ?_
                refine m_put 16 hg hM rfl (by decide) (by decide) rfl (fun _ _ _ => rfl) rfl rfl (tb_6 72 _ rfl) 79 rfl (dd_X12_allot 42 _ _ _ rfl) (fun h19 hM => ?_)
                refine r_aload_0 80 rfl (dd_X12_allot 43 _ _ _ rfl) ?_
                refine r_iload_1 81 rfl (dd_X12_allot 44 _ _ _ rfl) ?_
                refine r_iload_3 82 rfl (dd_X12_allot 45 _ _ _ rfl) ?_
                refine r_callV2 (lvl := 10) (mc1 := 0) (ms1 := 0) 0 0 hg rfl md_X12_give zc_X12 hM.kd wi_X12_give wv_X12_give (tb_7 47 _ rfl) (by decide) (by decide) rfl (Nat.le_of_ble_eq_true rfl) (by decide) (by decide) 85 rfl (dd_X12_allot 46 _ _ _ rfl) ?_
                refine c_X12_give hg hM (by omega) (by omega) (zu1_ne (by decide)) (zu1_ne (by decide)) (by omega) (by omega) (fun h20 hM => ?_)
                dsimp only [zCont, Option.toList, List.cons_append, List.nil_append]
                refine r_ireturn rfl rfl (dd_X12_allot 47 _ _ _ rfl) ?_
                have k := k0 u rfl (by omega) (by omega) (by omega) _ (by rw [hz]; exact hM)
                rw [hz] at k
                exact k
              · refine r_iconst 62 rfl (dd_X12_allot 33 _ _ _ rfl) ?_
                refine r_goto 66 rfl (dd_X12_allot 34 _ _ _ rfl) ?_
                refine r_callV1 (lvl := 10) (mc1 := 0) (ms1 := 0) 0 0 hg rfl md_X12_goesWell zc_X12 hM.kd wi_X12_goesWell wv_X12_goesWell (tb_6 197 _ rfl) (by decide) (by decide) rfl (Nat.le_of_ble_eq_true rfl) (by decide) (by decide) 69 rfl (dd_X12_allot 36 _ _ _ rfl) ?_
                refine c_X12_goesWell hg hM (by decide) (fun q => absurd q (by decide)) (fun _ h21 hM => ?_)
                dsimp only [zCont, Option.toList, List.cons_append, List.nil_append]
                refine r_ifne (by omega) 72 rfl 74 rfl (dd_X12_allot 37 _ _ _ rfl) (fun q => absurd q (by decide)) (fun _ => ?_)
                refine r_iconst 73 rfl (dd_X12_allot 38 _ _ _ rfl) ?_
                refine r_ireturn rfl rfl (dd_X12_allot 39 _ _ _ rfl) ?_
                first | exact k1 (by omega) _ hM | exact k2 u rfl (by omega) (by first | exact Or.inl (by omega) | exact Or.inr (by omega)) _ hM
          · dsimp only [zCont, Option.toList, List.cons_append, List.nil_append]
            refine r_ifne (by omega) 27 rfl 33 rfl (dd_X12_allot 15 _ _ _ rfl) (fun q => absurd q (by decide)) (fun _ => ?_)
            refine r_iinc_3 30 rfl (by decide) rfl (dd_X12_allot 16 _ _ _ rfl) ?_
            refine r_goto 13 rfl (dd_X12_allot 17 _ _ _ rfl) ?_
            exact r_sub _ (z_s1 (z_s1 (z_s1 (z_s1 z_sN)))) (ih (j + 1) _ (by omega) (by omega) (by omega) (lt_s hall (by show (!zfreeB S.2 (S.1 16 + 1 + (j : Int))) = true; rw [← ha]; have := (not_congr (zfreeB_iff (ar := S.2) (p := a))).mpr (by assumption); simpa using this)))
    exact r_sub _ (z_s1 (z_s1 (z_s1 (z_s1 z_sN)))) (L13 1000000 0 _ (by omega) (by omega) (by omega) lt_0)
  · dsimp only [zCont, Option.toList, List.cons_append, List.nil_append]
    refine r_istore_2 6 rfl (by decide) rfl (dd_X12_allot 3 _ _ _ rfl) ?_
    refine r_aload_0 7 rfl (dd_X12_allot 4 _ _ _ rfl) ?_
    refine m_get 16 hg hM (by unfold z_free; decide) rfl (by decide) (tb_6 72 _ rfl) 10 rfl (dd_X12_allot 5 _ _ _ rfl) ?_ (fun _ _ _ => rfl)
    try simp (decide := true) only [zu1, if_true, if_false, reduceIte]
    refine r_iconst 11 rfl (dd_X12_allot 6 _ _ _ rfl) ?_
    refine r_iadd 12 rfl (dd_X12_allot 7 _ _ _ rfl) ?_
    refine r_istore_3 13 rfl (by decide) rfl (dd_X12_allot 8 _ _ _ rfl) ?_
    have L13 : ∀ (tt : Nat), ∀ (j : Nat) (a : Int), 67600 - j < tt → (a = S.1 16 + 1 + j) → (a ≤ 67600) → (∀ i, i < j → (fun i : Nat => !zfreeB S.2 (S.1 16 + 1 + i)) i = true) → zX g mX12_allot 0 0 Q 13 [some (.ref m), some (.int (zI v)), some (.int (zI 0)), some (.int (zI a))] [] h 0 0 := by
      intro tt
      induction tt with
      | zero => intros; exfalso; omega
      | succ tt ih =>
        intro j a hlt ha hj hall
        refine r_iload_3 14 rfl (dd_X12_allot 9 _ _ _ rfl) ?_
        refine r_ldc hg (tb_6 55 _ rfl) 16 rfl (dd_X12_allot 10 _ _ _ rfl) ?_
        refine r_top 67600 rfl ?_
        refine r_if_icmpge (by omega) (by omega) 19 rfl 33 rfl (dd_X12_allot 11 _ _ _ rfl) (fun hc22 => ?_) (fun hc22 => ?_)
        · have hz : znext S = a := znext_eq hI ha hj hall (by first | exact fun q => absurd q (by omega) | exact fun _ => by assumption)
          refine r_aload_0 34 rfl (dd_X12_allot 18 _ _ _ rfl) ?_
          refine r_iload_2 35 rfl (dd_X12_allot 19 _ _ _ rfl) ?_
          refine r_ifne (by omega) 38 rfl 42 rfl (dd_X12_allot 20 _ _ _ rfl) (fun q => absurd q (by decide)) (fun _ => ?_)
          refine r_iconst 39 rfl (dd_X12_allot 21 _ _ _ rfl) ?_
          refine r_goto 66 rfl (dd_X12_allot 22 _ _ _ rfl) ?_
          refine r_callV1 (lvl := 10) (mc1 := 0) (ms1 := 0) 0 0 hg rfl md_X12_goesWell zc_X12 hM.kd wi_X12_goesWell wv_X12_goesWell (tb_6 197 _ rfl) (by decide) (by decide) rfl (Nat.le_of_ble_eq_true rfl) (by decide) (by decide) 69 rfl (dd_X12_allot 36 _ _ _ rfl) ?_
          refine c_X12_goesWell hg hM (by decide) (fun q => absurd q (by decide)) (fun _ h23 hM => ?_)
          dsimp only [zCont, Option.toList, List.cons_append, List.nil_append]
          refine r_ifne (by omega) 72 rfl 74 rfl (dd_X12_allot 37 _ _ _ rfl) (fun q => absurd q (by decide)) (fun _ => ?_)
          refine r_iconst 73 rfl (dd_X12_allot 38 _ _ _ rfl) ?_
          refine r_ireturn rfl rfl (dd_X12_allot 39 _ _ _ rfl) ?_
          first | exact k1 (by omega) _ hM | exact k2 u rfl (by omega) (by first | exact Or.inl (by omega) | exact Or.inr (by omega)) _ hM
        · refine r_aload_0 20 rfl (dd_X12_allot 12 _ _ _ rfl) ?_
          refine r_iload_3 21 rfl (dd_X12_allot 13 _ _ _ rfl) ?_
          refine r_callV1 (lvl := 10) (mc1 := 0) (ms1 := 0) 0 0 hg rfl md_X12_isFree zc_X12 hM.kd wi_X12_isFree wv_X12_isFree (tb_7 43 _ rfl) (by decide) (by decide) rfl (Nat.le_of_ble_eq_true rfl) (by decide) (by decide) 24 rfl (dd_X12_allot 14 _ _ _ rfl) ?_
          refine c_X12_isFree hg hI hM (by omega) (fun hb24 => ?_) (fun hb24 => ?_)
          · dsimp only [zCont, Option.toList, List.cons_append, List.nil_append]
            refine r_ifne (by omega) 27 rfl 33 rfl (dd_X12_allot 15 _ _ _ rfl) (fun _ => ?_) (fun q => absurd q (by decide))
            have hz : znext S = a := znext_eq hI ha hj hall (by first | exact fun q => absurd q (by omega) | exact fun _ => by assumption)
            refine r_aload_0 34 rfl (dd_X12_allot 18 _ _ _ rfl) ?_
            refine r_iload_2 35 rfl (dd_X12_allot 19 _ _ _ rfl) ?_
            refine r_ifne (by omega) 38 rfl 42 rfl (dd_X12_allot 20 _ _ _ rfl) (fun q => absurd q (by decide)) (fun _ => ?_)
            refine r_iconst 39 rfl (dd_X12_allot 21 _ _ _ rfl) ?_
            refine r_goto 66 rfl (dd_X12_allot 22 _ _ _ rfl) ?_
            refine r_callV1 (lvl := 10) (mc1 := 0) (ms1 := 0) 0 0 hg rfl md_X12_goesWell zc_X12 hM.kd wi_X12_goesWell wv_X12_goesWell (tb_6 197 _ rfl) (by decide) (by decide) rfl (Nat.le_of_ble_eq_true rfl) (by decide) (by decide) 69 rfl (dd_X12_allot 36 _ _ _ rfl) ?_
            refine c_X12_goesWell hg hM (by decide) (fun q => absurd q (by decide)) (fun _ h25 hM => ?_)
            dsimp only [zCont, Option.toList, List.cons_append, List.nil_append]
            refine r_ifne (by omega) 72 rfl 74 rfl (dd_X12_allot 37 _ _ _ rfl) (fun q => absurd q (by decide)) (fun _ => ?_)
            refine r_iconst 73 rfl (dd_X12_allot 38 _ _ _ rfl) ?_
            refine r_ireturn rfl rfl (dd_X12_allot 39 _ _ _ rfl) ?_
            first | exact k1 (by omega) _ hM | exact k2 u rfl (by omega) (by first | exact Or.inl (by omega) | exact Or.inr (by omega)) _ hM
          · dsimp only [zCont, Option.toList, List.cons_append, List.nil_append]
            refine r_ifne (by omega) 27 rfl 33 rfl (dd_X12_allot 15 _ _ _ rfl) (fun q => absurd q (by decide)) (fun _ => ?_)
            refine r_iinc_3 30 rfl (by decide) rfl (dd_X12_allot 16 _ _ _ rfl) ?_
            refine r_goto 13 rfl (dd_X12_allot 17 _ _ _ rfl) ?_
            exact r_sub _ (z_s1 (z_s1 (z_s1 (z_s1 z_sN)))) (ih (j + 1) _ (by omega) (by omega) (by omega) (lt_s hall (by show (!zfreeB S.2 (S.1 16 + 1 + (j : Int))) = true; rw [← ha]; have := (not_congr (zfreeB_iff (ar := S.2) (p := a))).mpr (by assumption); simpa using this)))
    exact r_sub _ (z_s1 (z_s1 (z_s1 (z_s1 z_sN)))) (L13 1000000 0 _ (by omega) (by omega) (by omega) lt_0)

abbrev mX12_plateIn : zM := (RX12, cX12_plateIn, 2, (Option.some Jvm.ClassFile.FieldType.int), [], "plateIn", 12)
set_option maxRecDepth 20000 in
theorem c_X12_plateIn {g : zGT} {Q : zO → zH → Prop} {h : zH} (hg : zG g) {h0 : zH} {m : Nat} {A : Nat → Nat} {S : zS} {n : Nat} {t : Int} (hI : MInv n S) (hM : MI h0 m A S t h) (k1 : zplateOK S → Q (.inl (some (.int (zI (zplateV S))))) h) (k0 : ¬ zplateOK S → Q (.inl (some (.int (zI (-1))))) h) : zC g (.code yX12_plateIn cX12_plateIn 2 (Option.some Jvm.ClassFile.FieldType.int)) yX12_plateIn 12 0 0 [.ref m] h Q := by
  refine zC_of (M := mX12_plateIn) (lv := [some (.ref m), none]) (by decide) rfl rfl (Nat.le_of_ble_eq_true rfl) rfl rfl ?_
  have e9 := hI.signs
  have e0 := hI.buffer 0
  have e1 := hI.buffer 1
  have e2 := hI.buffer 2
  have e3 := hI.buffer 3
  refine r_aload_0 1 rfl (dd_X12_plateIn_0 0 _ _ _ rfl) ?_
  refine m_get 2 hg hM (by unfold z_free; decide) rfl (by decide) (tb_6 58 _ rfl) 4 rfl (dd_X12_plateIn_0 1 _ _ _ rfl) ?_ (fun _ _ _ => rfl)
  refine r_iconst 5 rfl (dd_X12_plateIn_0 2 _ _ _ rfl) ?_
  refine r_if_icmpne (by omega) (by omega) 8 rfl 68 rfl (dd_X12_plateIn_0 3 _ _ _ rfl) (fun hc1 => ?_) (fun hc1 => ?_)
  · refine r_iconst 69 rfl (dd_X12_plateIn_0 34 _ _ _ rfl) ?_
    refine r_istore_1 70 rfl (by decide) rfl (dd_X12_plateIn_0 35 _ _ _ rfl) ?_
    refine r_iload_1 71 rfl (dd_X12_plateIn_0 36 _ _ _ rfl) ?_
    refine r_ifeq (by omega) 74 rfl 125 rfl (dd_X12_plateIn_0 37 _ _ _ rfl) (fun _ => ?_) (fun q => absurd q (by decide))
    refine r_iconst 126 rfl (dd_X12_plateIn_1 12 _ _ _ rfl) ?_
    refine r_ireturn rfl rfl (dd_X12_plateIn_1 13 _ _ _ rfl) ?_
    exact k0 (fun q => by unfold zplateOK at q; omega)
  · refine r_aload_0 9 rfl (dd_X12_plateIn_0 4 _ _ _ rfl) ?_
    refine m_arr 3 hg hM (by decide) (by decide) (tb_6 59 _ rfl) 12 rfl (dd_X12_plateIn_0 5 _ _ _ rfl) ?_ (fun _ _ _ => rfl)
    refine r_iconst 13 rfl (dd_X12_plateIn_0 6 _ _ _ rfl) ?_
    refine m_cald 3 (0) (by omega) hg hM rfl (by omega) (z_lt (n2 := 8) rfl (by omega)) (by decide) 14 rfl (dd_X12_plateIn_0 7 _ _ _ rfl) ?_
    refine r_callS1 (lvl := 11) (mc1 := 0) (ms1 := 0) 0 0 hg rfl md_X12_isLetter ws_X12_isLetter (tb_7 36 _ rfl) (by decide) (by decide) rfl (Nat.le_of_ble_eq_true rfl) (by decide) (by decide) 17 rfl (dd_X12_plateIn_0 8 _ _ _ rfl) ?_
    refine c_X12_isLetter hg (by omega) (fun hb2 => ?_) (fun hb2 => ?_)
    · dsimp only [zCont, Option.toList, List.cons_append, List.nil_append]
      refine r_ifeq (by omega) 20 rfl 68 rfl (dd_X12_plateIn_0 9 _ _ _ rfl) (fun q => absurd q (by decide)) (fun _ => ?_)
      refine r_aload_0 21 rfl (dd_X12_plateIn_0 10 _ _ _ rfl) ?_
      refine m_arr 3 hg hM (by decide) (by decide) (tb_6 59 _ rfl) 24 rfl (dd_X12_plateIn_0 11 _ _ _ rfl) ?_ (fun _ _ _ => rfl)
      refine r_iconst 25 rfl (dd_X12_plateIn_0 12 _ _ _ rfl) ?_
      refine m_cald 3 (1) (by omega) hg hM rfl (by omega) (z_lt (n2 := 8) rfl (by omega)) (by decide) 26 rfl (dd_X12_plateIn_0 13 _ _ _ rfl) ?_
      refine r_callS1 (lvl := 11) (mc1 := 0) (ms1 := 0) 0 0 hg rfl md_X12_isLetter ws_X12_isLetter (tb_7 36 _ rfl) (by decide) (by decide) rfl (Nat.le_of_ble_eq_true rfl) (by decide) (by decide) 29 rfl (dd_X12_plateIn_0 14 _ _ _ rfl) ?_
      refine c_X12_isLetter hg (by omega) (fun hb3 => ?_) (fun hb3 => ?_)
      · dsimp only [zCont, Option.toList, List.cons_append, List.nil_append]
        refine r_ifeq (by omega) 32 rfl 68 rfl (dd_X12_plateIn_0 15 _ _ _ rfl) (fun q => absurd q (by decide)) (fun _ => ?_)
        refine r_aload_0 33 rfl (dd_X12_plateIn_0 16 _ _ _ rfl) ?_
        refine m_arr 3 hg hM (by decide) (by decide) (tb_6 59 _ rfl) 36 rfl (dd_X12_plateIn_0 17 _ _ _ rfl) ?_ (fun _ _ _ => rfl)
        refine r_iconst 37 rfl (dd_X12_plateIn_0 18 _ _ _ rfl) ?_
        refine m_cald 3 (2) (by omega) hg hM rfl (by omega) (z_lt (n2 := 8) rfl (by omega)) (by decide) 38 rfl (dd_X12_plateIn_0 19 _ _ _ rfl) ?_
        refine r_bipush (by decide) 40 rfl (dd_X12_plateIn_0 20 _ _ _ rfl) ?_
        refine r_bipush (by decide) 42 rfl (dd_X12_plateIn_0 21 _ _ _ rfl) ?_
        refine r_callS3 (lvl := 10) (mc1 := 0) (ms1 := 0) 0 0 hg rfl md_X12_in ws_X12_in (tb_6 209 _ rfl) (by decide) (by decide) rfl (Nat.le_of_ble_eq_true rfl) (by decide) (by decide) 45 rfl (dd_X12_plateIn_0 22 _ _ _ rfl) ?_
        refine c_X12_in hg (by omega) (by omega) (by omega) (fun hb4 => ?_) (fun hb4 => ?_)
        · dsimp only [zCont, Option.toList, List.cons_append, List.nil_append]
          refine r_ifeq (by omega) 48 rfl 68 rfl (dd_X12_plateIn_0 23 _ _ _ rfl) (fun q => absurd q (by decide)) (fun _ => ?_)
          refine r_aload_0 49 rfl (dd_X12_plateIn_0 24 _ _ _ rfl) ?_
          refine m_arr 3 hg hM (by decide) (by decide) (tb_6 59 _ rfl) 52 rfl (dd_X12_plateIn_0 25 _ _ _ rfl) ?_ (fun _ _ _ => rfl)
          refine r_iconst 53 rfl (dd_X12_plateIn_0 26 _ _ _ rfl) ?_
          refine m_cald 3 (3) (by omega) hg hM rfl (by omega) (z_lt (n2 := 8) rfl (by omega)) (by decide) 54 rfl (dd_X12_plateIn_0 27 _ _ _ rfl) ?_
          refine r_bipush (by decide) 56 rfl (dd_X12_plateIn_0 28 _ _ _ rfl) ?_
          refine r_bipush (by decide) 58 rfl (dd_X12_plateIn_0 29 _ _ _ rfl) ?_
          refine r_callS3 (lvl := 10) (mc1 := 0) (ms1 := 0) 0 0 hg rfl md_X12_in ws_X12_in (tb_6 209 _ rfl) (by decide) (by decide) rfl (Nat.le_of_ble_eq_true rfl) (by decide) (by decide) 61 rfl (dd_X12_plateIn_0 30 _ _ _ rfl) ?_
          refine c_X12_in hg (by omega) (by omega) (by omega) (fun hb5 => ?_) (fun hb5 => ?_)
          · dsimp only [zCont, Option.toList, List.cons_append, List.nil_append]
            refine r_ifeq (by omega) 64 rfl 68 rfl (dd_X12_plateIn_0 31 _ _ _ rfl) (fun q => absurd q (by decide)) (fun _ => ?_)
            refine r_iconst 65 rfl (dd_X12_plateIn_0 32 _ _ _ rfl) ?_
            refine r_goto 69 rfl (dd_X12_plateIn_0 33 _ _ _ rfl) ?_
            refine r_istore_1 70 rfl (by decide) rfl (dd_X12_plateIn_0 35 _ _ _ rfl) ?_
            refine r_iload_1 71 rfl (dd_X12_plateIn_0 36 _ _ _ rfl) ?_
            refine r_ifeq (by omega) 74 rfl 125 rfl (dd_X12_plateIn_0 37 _ _ _ rfl) (fun q => absurd q (by decide)) (fun _ => ?_)
            refine r_bipush (by decide) 76 rfl (dd_X12_plateIn_0 38 _ _ _ rfl) ?_
            refine r_bipush (by decide) 78 rfl (dd_X12_plateIn_0 39 _ _ _ rfl) ?_
            refine r_aload_0 79 rfl (dd_X12_plateIn_0 40 _ _ _ rfl) ?_
            refine m_arr 3 hg hM (by decide) (by decide) (tb_6 59 _ rfl) 82 rfl (dd_X12_plateIn_0 41 _ _ _ rfl) ?_ (fun _ _ _ => rfl)
            refine r_iconst 83 rfl (dd_X12_plateIn_0 42 _ _ _ rfl) ?_
            refine m_cald 3 (0) (by omega) hg hM rfl (by omega) (z_lt (n2 := 8) rfl (by omega)) (by decide) 84 rfl (dd_X12_plateIn_0 43 _ _ _ rfl) ?_
            refine r_bipush (by decide) 86 rfl (dd_X12_plateIn_0 44 _ _ _ rfl) ?_
            refine r_isub 87 rfl (dd_X12_plateIn_0 45 _ _ _ rfl) ?_
            refine r_imul 88 rfl (dd_X12_plateIn_0 46 _ _ _ rfl) ?_
            refine r_aload_0 89 rfl (dd_X12_plateIn_0 47 _ _ _ rfl) ?_
            refine m_arr 3 hg hM (by decide) (by decide) (tb_6 59 _ rfl) 92 rfl (dd_X12_plateIn_0 48 _ _ _ rfl) ?_ (fun _ _ _ => rfl)
            refine r_iconst 93 rfl (dd_X12_plateIn_0 49 _ _ _ rfl) ?_
            refine m_cald 3 (1) (by omega) hg hM rfl (by omega) (z_lt (n2 := 8) rfl (by omega)) (by decide) 94 rfl (dd_X12_plateIn_0 50 _ _ _ rfl) ?_
            refine r_iadd 95 rfl (dd_X12_plateIn_0 51 _ _ _ rfl) ?_
            refine r_bipush (by decide) 97 rfl (dd_X12_plateIn_0 52 _ _ _ rfl) ?_
            refine r_isub 98 rfl (dd_X12_plateIn_0 53 _ _ _ rfl) ?_
            refine r_imul 99 rfl (dd_X12_plateIn_0 54 _ _ _ rfl) ?_
            refine r_bipush (by decide) 101 rfl (dd_X12_plateIn_0 55 _ _ _ rfl) ?_
            refine r_aload_0 102 rfl (dd_X12_plateIn_0 56 _ _ _ rfl) ?_
            refine m_arr 3 hg hM (by decide) (by decide) (tb_6 59 _ rfl) 105 rfl (dd_X12_plateIn_0 57 _ _ _ rfl) ?_ (fun _ _ _ => rfl)
            refine r_iconst 106 rfl (dd_X12_plateIn_0 58 _ _ _ rfl) ?_
            refine m_cald 3 (2) (by omega) hg hM rfl (by omega) (z_lt (n2 := 8) rfl (by omega)) (by decide) 107 rfl (dd_X12_plateIn_0 59 _ _ _ rfl) ?_
            refine r_bipush (by decide) 109 rfl (dd_X12_plateIn_1 0 _ _ _ rfl) ?_
            refine r_isub 110 rfl (dd_X12_plateIn_1 1 _ _ _ rfl) ?_
            refine r_imul 111 rfl (dd_X12_plateIn_1 2 _ _ _ rfl) ?_
            refine r_iadd 112 rfl (dd_X12_plateIn_1 3 _ _ _ rfl) ?_
            refine r_aload_0 113 rfl (dd_X12_plateIn_1 4 _ _ _ rfl) ?_
            refine m_arr 3 hg hM (by decide) (by decide) (tb_6 59 _ rfl) 116 rfl (dd_X12_plateIn_1 5 _ _ _ rfl) ?_ (fun _ _ _ => rfl)
            refine r_iconst 117 rfl (dd_X12_plateIn_1 6 _ _ _ rfl) ?_
            refine m_cald 3 (3) (by omega) hg hM rfl (by omega) (z_lt (n2 := 8) rfl (by omega)) (by decide) 118 rfl (dd_X12_plateIn_1 7 _ _ _ rfl) ?_
            refine r_iadd 119 rfl (dd_X12_plateIn_1 8 _ _ _ rfl) ?_
            refine r_bipush (by decide) 121 rfl (dd_X12_plateIn_1 9 _ _ _ rfl) ?_
            refine r_isub 122 rfl (dd_X12_plateIn_1 10 _ _ _ rfl) ?_
            refine r_goto 126 rfl (dd_X12_plateIn_1 11 _ _ _ rfl) ?_
            refine r_ireturn rfl rfl (dd_X12_plateIn_1 13 _ _ _ rfl) ?_
            exact k1 (by unfold zplateOK; omega)
          · dsimp only [zCont, Option.toList, List.cons_append, List.nil_append]
            refine r_ifeq (by omega) 64 rfl 68 rfl (dd_X12_plateIn_0 31 _ _ _ rfl) (fun _ => ?_) (fun q => absurd q (by decide))
            refine r_iconst 69 rfl (dd_X12_plateIn_0 34 _ _ _ rfl) ?_
            refine r_istore_1 70 rfl (by decide) rfl (dd_X12_plateIn_0 35 _ _ _ rfl) ?_
            refine r_iload_1 71 rfl (dd_X12_plateIn_0 36 _ _ _ rfl) ?_
            refine r_ifeq (by omega) 74 rfl 125 rfl (dd_X12_plateIn_0 37 _ _ _ rfl) (fun _ => ?_) (fun q => absurd q (by decide))
            refine r_iconst 126 rfl (dd_X12_plateIn_1 12 _ _ _ rfl) ?_
            refine r_ireturn rfl rfl (dd_X12_plateIn_1 13 _ _ _ rfl) ?_
            exact k0 (fun q => by unfold zplateOK at q; omega)
        · dsimp only [zCont, Option.toList, List.cons_append, List.nil_append]
          refine r_ifeq (by omega) 48 rfl 68 rfl (dd_X12_plateIn_0 23 _ _ _ rfl) (fun _ => ?_) (fun q => absurd q (by decide))
          refine r_iconst 69 rfl (dd_X12_plateIn_0 34 _ _ _ rfl) ?_
          refine r_istore_1 70 rfl (by decide) rfl (dd_X12_plateIn_0 35 _ _ _ rfl) ?_
          refine r_iload_1 71 rfl (dd_X12_plateIn_0 36 _ _ _ rfl) ?_
          refine r_ifeq (by omega) 74 rfl 125 rfl (dd_X12_plateIn_0 37 _ _ _ rfl) (fun _ => ?_) (fun q => absurd q (by decide))
          refine r_iconst 126 rfl (dd_X12_plateIn_1 12 _ _ _ rfl) ?_
          refine r_ireturn rfl rfl (dd_X12_plateIn_1 13 _ _ _ rfl) ?_
          exact k0 (fun q => by unfold zplateOK at q; omega)
      · dsimp only [zCont, Option.toList, List.cons_append, List.nil_append]
        refine r_ifeq (by omega) 32 rfl 68 rfl (dd_X12_plateIn_0 15 _ _ _ rfl) (fun _ => ?_) (fun q => absurd q (by decide))
        refine r_iconst 69 rfl (dd_X12_plateIn_0 34 _ _ _ rfl) ?_
        refine r_istore_1 70 rfl (by decide) rfl (dd_X12_plateIn_0 35 _ _ _ rfl) ?_
        refine r_iload_1 71 rfl (dd_X12_plateIn_0 36 _ _ _ rfl) ?_
        refine r_ifeq (by omega) 74 rfl 125 rfl (dd_X12_plateIn_0 37 _ _ _ rfl) (fun _ => ?_) (fun q => absurd q (by decide))
        refine r_iconst 126 rfl (dd_X12_plateIn_1 12 _ _ _ rfl) ?_
        refine r_ireturn rfl rfl (dd_X12_plateIn_1 13 _ _ _ rfl) ?_
        exact k0 (fun q => by unfold zplateOK at q; omega)
    · dsimp only [zCont, Option.toList, List.cons_append, List.nil_append]
      refine r_ifeq (by omega) 20 rfl 68 rfl (dd_X12_plateIn_0 9 _ _ _ rfl) (fun _ => ?_) (fun q => absurd q (by decide))
      refine r_iconst 69 rfl (dd_X12_plateIn_0 34 _ _ _ rfl) ?_
      refine r_istore_1 70 rfl (by decide) rfl (dd_X12_plateIn_0 35 _ _ _ rfl) ?_
      refine r_iload_1 71 rfl (dd_X12_plateIn_0 36 _ _ _ rfl) ?_
      refine r_ifeq (by omega) 74 rfl 125 rfl (dd_X12_plateIn_0 37 _ _ _ rfl) (fun _ => ?_) (fun q => absurd q (by decide))
      refine r_iconst 126 rfl (dd_X12_plateIn_1 12 _ _ _ rfl) ?_
      refine r_ireturn rfl rfl (dd_X12_plateIn_1 13 _ _ _ rfl) ?_
      exact k0 (fun q => by unfold zplateOK at q; omega)

abbrev mX12_wish : zM := (RX12, cX12_wish, 4, (Option.some Jvm.ClassFile.FieldType.int), [], "wish", 13)
set_option maxRecDepth 20000 in
theorem c_X12_wish {g : zGT} {Q : zO → zH → Prop} {h : zH} (hg : zG g) {h0 : zH} {m : Nat} {A : Nat → Nat} {S : zS} {n : Nat} {t : Int} (hI : MInv n S) (hM : MI h0 m A S t h) {v : Int} (hv : zR v) (k1 : ¬ (0 ≤ v ∧ v < S.1 4) → ∀ h1, MI h0 m A S 1 h1 → Q (.inl (some (.int (zI 0)))) h1) (k2 : ∀ u : Nat, v = u → v < S.1 4 → (zstate S u (S.1 1) = 4 ∨ ¬ zplateOK S ∨ ¬ zfree S.2 (zplateV S)) → ∀ h1, MI h0 m A S 2 h1 → Q (.inl (some (.int (zI 0)))) h1) (k0 : ∀ u : Nat, v = u → v < S.1 4 → zstate S u (S.1 1) ≠ 4 → zplateOK S → zfree S.2 (zplateV S) → ∀ h1, MI h0 m A (zu1 (zu1 S.1 2 0) 18 (S.1 18 + 1), zu2 (zu2 S.2 17 ((zplateV S) / 64).toNat (zset (S.2 17 ((zplateV S) / 64).toNat) ((zplateV S) % 64))) 19 (S.1 18).toNat (zpack (zplateV S) u (S.1 1))) 0 h1 → Q (.inl (some (.int (zI (zplateV S))))) h1) : zC g (.code yX12_wish cX12_wish 4 (Option.some Jvm.ClassFile.FieldType.int)) yX12_wish 13 0 0 [.ref m, .int (zI v)] h Q := by
  refine zC_of (M := mX12_wish) (lv := [some (.ref m), some (.int (zI v)), none, none]) (by decide) rfl rfl (Nat.le_of_ble_eq_true rfl) rfl rfl ?_
  have e1 := hI.vehicles
  have e2 := hI.today
  have e3 := hI.series
  have e4 := hI.allotted
  have e5 := hI.calls
  refine r_aload_0 1 rfl (dd_X12_wish 0 _ _ _ rfl) ?_
  refine r_iload_1 2 rfl (dd_X12_wish 1 _ _ _ rfl) ?_
  refine r_callV1 (lvl := 11) (mc1 := 0) (ms1 := 0) 0 0 hg rfl md_X12_isVehicle zc_X12 hM.kd wi_X12_isVehicle wv_X12_isVehicle (tb_7 0 _ rfl) (by decide) (by decide) rfl (Nat.le_of_ble_eq_true rfl) (by decide) (by decide) 5 rfl (dd_X12_wish 2 _ _ _ rfl) ?_
  refine c_X12_isVehicle hg hI hM (by omega) (fun hb1 => ?_) (fun hb1 => ?_)
  · obtain ⟨u, rfl⟩ := Int.eq_ofNat_of_zero_le hb1.1
    dsimp only [zCont, Option.toList, List.cons_append, List.nil_append]
    refine r_istore_2 6 rfl (by decide) rfl (dd_X12_wish 3 _ _ _ rfl) ?_
    refine r_aload_0 7 rfl (dd_X12_wish 4 _ _ _ rfl) ?_
    refine r_callV0 (lvl := 12) (mc1 := 0) (ms1 := 0) 0 0 hg rfl md_X12_plateIn zc_X12 hM.kd wi_X12_plateIn wv_X12_plateIn (tb_7 55 _ rfl) (by decide) (by decide) rfl (Nat.le_of_ble_eq_true rfl) (by decide) (by decide) 10 rfl (dd_X12_wish 5 _ _ _ rfl) ?_
    refine c_X12_plateIn hg hI hM (fun hq2 => ?_) (fun hq2 => ?_)
    · have hq := hq2
      unfold zplateOK at hq
      have hv9 : 0 ≤ zplateV S ∧ zplateV S < 67600 := by unfold zplateV; omega
      dsimp only [zCont, Option.toList, List.cons_append, List.nil_append]
      refine r_istore_3 11 rfl (by decide) rfl (dd_X12_wish 6 _ _ _ rfl) ?_
      refine r_aload_0 12 rfl (dd_X12_wish 7 _ _ _ rfl) ?_
      refine r_iload_2 13 rfl (dd_X12_wish 8 _ _ _ rfl) ?_
      refine r_ifne (by omega) 16 rfl 20 rfl (dd_X12_wish 9 _ _ _ rfl) (fun _ => ?_) (fun q => absurd q (by decide))
      refine r_aload_0 21 rfl (dd_X12_wish 12 _ _ _ rfl) ?_
      refine r_iload_1 22 rfl (dd_X12_wish 13 _ _ _ rfl) ?_
      refine r_aload_0 23 rfl (dd_X12_wish 14 _ _ _ rfl) ?_
      refine m_get 1 hg hM (by unfold z_free; decide) rfl (by decide) (tb_6 57 _ rfl) 26 rfl (dd_X12_wish 15 _ _ _ rfl) ?_ (fun _ _ _ => rfl)
      try simp (decide := true) only [zu1, if_true, if_false, reduceIte]
      refine r_callV2 (lvl := 11) (mc1 := 0) (ms1 := 0) 0 0 hg rfl md_X12_stateOn zc_X12 hM.kd wi_X12_stateOn wv_X12_stateOn (tb_7 16 _ rfl) (by decide) (by decide) rfl (Nat.le_of_ble_eq_true rfl) (by decide) (by decide) 29 rfl (dd_X12_wish 16 _ _ _ rfl) ?_
      refine c_X12_stateOn (v := u) hg hI hM (by omega) (by omega) (fun h3 hM => ?_)
      dsimp only [zCont, Option.toList, List.cons_append, List.nil_append]
      have hs9 := zstate_range S u (S.1 1)
      refine r_iconst 30 rfl (dd_X12_wish 17 _ _ _ rfl) ?_
      refine r_if_icmpeq (by omega) (by omega) 33 rfl 46 rfl (dd_X12_wish 18 _ _ _ rfl) (fun hc4 => ?_) (fun hc4 => ?_)
      · refine r_iconst 47 rfl (dd_X12_wish 26 _ _ _ rfl) ?_
        refine r_goto 51 rfl (dd_X12_wish 27 _ _ _ rfl) ?_
        refine r_callV1 (lvl := 10) (mc1 := 0) (ms1 := 0) 0 0 hg rfl md_X12_goesWell zc_X12 hM.kd wi_X12_goesWell wv_X12_goesWell (tb_6 197 _ rfl) (by decide) (by decide) rfl (Nat.le_of_ble_eq_true rfl) (by decide) (by decide) 54 rfl (dd_X12_wish 29 _ _ _ rfl) ?_
        refine c_X12_goesWell hg hM (by decide) (fun q => absurd q (by decide)) (fun _ h5 hM => ?_)
        dsimp only [zCont, Option.toList, List.cons_append, List.nil_append]
        refine r_ifne (by omega) 57 rfl 59 rfl (dd_X12_wish 30 _ _ _ rfl) (fun q => absurd q (by decide)) (fun _ => ?_)
        refine r_iconst 58 rfl (dd_X12_wish 31 _ _ _ rfl) ?_
        refine r_ireturn rfl rfl (dd_X12_wish 32 _ _ _ rfl) ?_
        first | exact k1 (by omega) _ hM | exact k2 u rfl (by omega) (by first | exact Or.inl (by omega) | exact Or.inr (Or.inl hq) | exact Or.inr (Or.inr (by assumption))) _ hM
      · refine r_iload_3 34 rfl (dd_X12_wish 19 _ _ _ rfl) ?_
        refine r_iconst 35 rfl (dd_X12_wish 20 _ _ _ rfl) ?_
        refine r_if_icmpeq (by omega) (by omega) 38 rfl 46 rfl (dd_X12_wish 21 _ _ _ rfl) (fun hc6 => ?_) (fun hc6 => ?_)
        · refine r_iconst 47 rfl (dd_X12_wish 26 _ _ _ rfl) ?_
          refine r_goto 51 rfl (dd_X12_wish 27 _ _ _ rfl) ?_
          refine r_callV1 (lvl := 10) (mc1 := 0) (ms1 := 0) 0 0 hg rfl md_X12_goesWell zc_X12 hM.kd wi_X12_goesWell wv_X12_goesWell (tb_6 197 _ rfl) (by decide) (by decide) rfl (Nat.le_of_ble_eq_true rfl) (by decide) (by decide) 54 rfl (dd_X12_wish 29 _ _ _ rfl) ?_
          refine c_X12_goesWell hg hM (by decide) (fun q => absurd q (by decide)) (fun _ h7 hM => ?_)
          dsimp only [zCont, Option.toList, List.cons_append, List.nil_append]
          refine r_ifne (by omega) 57 rfl 59 rfl (dd_X12_wish 30 _ _ _ rfl) (fun q => absurd q (by decide)) (fun _ => ?_)
          refine r_iconst 58 rfl (dd_X12_wish 31 _ _ _ rfl) ?_
          refine r_ireturn rfl rfl (dd_X12_wish 32 _ _ _ rfl) ?_
          first | exact k1 (by omega) _ hM | exact k2 u rfl (by omega) (by first | exact Or.inl (by omega) | exact Or.inr (Or.inl hq) | exact Or.inr (Or.inr (by assumption))) _ hM
        · refine r_aload_0 39 rfl (dd_X12_wish 22 _ _ _ rfl) ?_
          refine r_iload_3 40 rfl (dd_X12_wish 23 _ _ _ rfl) ?_
          refine r_callV1 (lvl := 10) (mc1 := 0) (ms1 := 0) 0 0 hg rfl md_X12_isFree zc_X12 hM.kd wi_X12_isFree wv_X12_isFree (tb_7 43 _ rfl) (by decide) (by decide) rfl (Nat.le_of_ble_eq_true rfl) (by decide) (by decide) 43 rfl (dd_X12_wish 24 _ _ _ rfl) ?_
          refine c_X12_isFree hg hI hM (by omega) (fun hb8 => ?_) (fun hb8 => ?_)
          · dsimp only [zCont, Option.toList, List.cons_append, List.nil_append]
            refine r_ifne (by omega) 46 rfl 50 rfl (dd_X12_wish 25 _ _ _ rfl) (fun _ => ?_) (fun q => absurd q (by decide))
            refine r_iconst 51 rfl (dd_X12_wish 28 _ _ _ rfl) ?_
            refine r_callV1 (lvl := 10) (mc1 := 0) (ms1 := 0) 0 0 hg rfl md_X12_goesWell zc_X12 hM.kd wi_X12_goesWell wv_X12_goesWell (tb_6 197 _ rfl) (by decide) (by decide) rfl (Nat.le_of_ble_eq_true rfl) (by decide) (by decide) 54 rfl (dd_X12_wish 29 _ _ _ rfl) ?_
            refine c_X12_goesWell hg hM (by decide) (fun _ h9 hM => ?_) (fun q => absurd rfl q)
            dsimp only [zCont, Option.toList, List.cons_append, List.nil_append]
            refine r_ifne (by omega) 57 rfl 59 rfl (dd_X12_wish 30 _ _ _ rfl) (fun _ => ?_) (fun q => absurd q (by decide))
            refine r_aload_0 60 rfl (dd_X12_wish 33 _ _ _ rfl) ?_
            refine r_iconst 61 rfl (dd_X12_wish 34 _ _ _ rfl) ?_
            refine m_put 2 hg hM rfl (by decide) (by decide) rfl (fun _ _ _ => rfl) rfl rfl (tb_6 58 _ rfl) 64 rfl (dd_X12_wish 35 _ _ _ rfl) (fun h11 hM => ?_)
            refine r_aload_0 65 rfl (dd_X12_wish 36 _ _ _ rfl) ?_
            refine r_iload_1 66 rfl (dd_X12_wish 37 _ _ _ rfl) ?_
            refine r_iload_3 67 rfl (dd_X12_wish 38 _ _ _ rfl) ?_
            refine r_callV2 (lvl := 10) (mc1 := 0) (ms1 := 0) 0 0 hg rfl md_X12_give zc_X12 hM.kd wi_X12_give wv_X12_give (tb_7 47 _ rfl) (by decide) (by decide) rfl (Nat.le_of_ble_eq_true rfl) (by decide) (by decide) 70 rfl (dd_X12_wish 39 _ _ _ rfl) ?_
            refine c_X12_give hg hM (by omega) (by omega) (zu1_ne (by decide)) (zu1_ne (by decide)) (by omega) (by omega) (fun h12 hM => ?_)
            dsimp only [zCont, Option.toList, List.cons_append, List.nil_append]
            refine r_ireturn rfl rfl (dd_X12_wish 40 _ _ _ rfl) ?_
            exact k0 u rfl (by omega) (by omega) hq (by assumption) _ hM
          · dsimp only [zCont, Option.toList, List.cons_append, List.nil_append]
            refine r_ifne (by omega) 46 rfl 50 rfl (dd_X12_wish 25 _ _ _ rfl) (fun q => absurd q (by decide)) (fun _ => ?_)
            refine r_iconst 47 rfl (dd_X12_wish 26 _ _ _ rfl) ?_
            refine r_goto 51 rfl (dd_X12_wish 27 _ _ _ rfl) ?_
            refine r_callV1 (lvl := 10) (mc1 := 0) (ms1 := 0) 0 0 hg rfl md_X12_goesWell zc_X12 hM.kd wi_X12_goesWell wv_X12_goesWell (tb_6 197 _ rfl) (by decide) (by decide) rfl (Nat.le_of_ble_eq_true rfl) (by decide) (by decide) 54 rfl (dd_X12_wish 29 _ _ _ rfl) ?_
            refine c_X12_goesWell hg hM (by decide) (fun q => absurd q (by decide)) (fun _ h13 hM => ?_)
            dsimp only [zCont, Option.toList, List.cons_append, List.nil_append]
            refine r_ifne (by omega) 57 rfl 59 rfl (dd_X12_wish 30 _ _ _ rfl) (fun q => absurd q (by decide)) (fun _ => ?_)
            refine r_iconst 58 rfl (dd_X12_wish 31 _ _ _ rfl) ?_
            refine r_ireturn rfl rfl (dd_X12_wish 32 _ _ _ rfl) ?_
            first | exact k1 (by omega) _ hM | exact k2 u rfl (by omega) (by first | exact Or.inl (by omega) | exact Or.inr (Or.inl hq) | exact Or.inr (Or.inr (by assumption))) _ hM
    · have hq := hq2
      dsimp only [zCont, Option.toList, List.cons_append, List.nil_append]
      refine r_istore_3 11 rfl (by decide) rfl (dd_X12_wish 6 _ _ _ rfl) ?_
      refine r_aload_0 12 rfl (dd_X12_wish 7 _ _ _ rfl) ?_
      refine r_iload_2 13 rfl (dd_X12_wish 8 _ _ _ rfl) ?_
      refine r_ifne (by omega) 16 rfl 20 rfl (dd_X12_wish 9 _ _ _ rfl) (fun _ => ?_) (fun q => absurd q (by decide))
      refine r_aload_0 21 rfl (dd_X12_wish 12 _ _ _ rfl) ?_
      refine r_iload_1 22 rfl (dd_X12_wish 13 _ _ _ rfl) ?_
      refine r_aload_0 23 rfl (dd_X12_wish 14 _ _ _ rfl) ?_
      refine m_get 1 hg hM (by unfold z_free; decide) rfl (by decide) (tb_6 57 _ rfl) 26 rfl (dd_X12_wish 15 _ _ _ rfl) ?_ (fun _ _ _ => rfl)
      try simp (decide := true) only [zu1, if_true, if_false, reduceIte]
      refine r_callV2 (lvl := 11) (mc1 := 0) (ms1 := 0) 0 0 hg rfl md_X12_stateOn zc_X12 hM.kd wi_X12_stateOn wv_X12_stateOn (tb_7 16 _ rfl) (by decide) (by decide) rfl (Nat.le_of_ble_eq_true rfl) (by decide) (by decide) 29 rfl (dd_X12_wish 16 _ _ _ rfl) ?_
      refine c_X12_stateOn (v := u) hg hI hM (by omega) (by omega) (fun h14 hM => ?_)
      dsimp only [zCont, Option.toList, List.cons_append, List.nil_append]
      have hs9 := zstate_range S u (S.1 1)
      refine r_iconst 30 rfl (dd_X12_wish 17 _ _ _ rfl) ?_
      refine r_if_icmpeq (by omega) (by omega) 33 rfl 46 rfl (dd_X12_wish 18 _ _ _ rfl) (fun hc15 => ?_) (fun hc15 => ?_)
      · refine r_iconst 47 rfl (dd_X12_wish 26 _ _ _ rfl) ?_
        refine r_goto 51 rfl (dd_X12_wish 27 _ _ _ rfl) ?_
        refine r_callV1 (lvl := 10) (mc1 := 0) (ms1 := 0) 0 0 hg rfl md_X12_goesWell zc_X12 hM.kd wi_X12_goesWell wv_X12_goesWell (tb_6 197 _ rfl) (by decide) (by decide) rfl (Nat.le_of_ble_eq_true rfl) (by decide) (by decide) 54 rfl (dd_X12_wish 29 _ _ _ rfl) ?_
        refine c_X12_goesWell hg hM (by decide) (fun q => absurd q (by decide)) (fun _ h16 hM => ?_)
        dsimp only [zCont, Option.toList, List.cons_append, List.nil_append]
        refine r_ifne (by omega) 57 rfl 59 rfl (dd_X12_wish 30 _ _ _ rfl) (fun q => absurd q (by decide)) (fun _ => ?_)
        refine r_iconst 58 rfl (dd_X12_wish 31 _ _ _ rfl) ?_
        refine r_ireturn rfl rfl (dd_X12_wish 32 _ _ _ rfl) ?_
        first | exact k1 (by omega) _ hM | exact k2 u rfl (by omega) (by first | exact Or.inl (by omega) | exact Or.inr (Or.inl hq) | exact Or.inr (Or.inr (by assumption))) _ hM
      · refine r_iload_3 34 rfl (dd_X12_wish 19 _ _ _ rfl) ?_
        refine r_iconst 35 rfl (dd_X12_wish 20 _ _ _ rfl) ?_
        refine r_if_icmpeq (by omega) (by omega) 38 rfl 46 rfl (dd_X12_wish 21 _ _ _ rfl) (fun _ => ?_) (fun q => absurd q (by decide))
        refine r_iconst 47 rfl (dd_X12_wish 26 _ _ _ rfl) ?_
        refine r_goto 51 rfl (dd_X12_wish 27 _ _ _ rfl) ?_
        refine r_callV1 (lvl := 10) (mc1 := 0) (ms1 := 0) 0 0 hg rfl md_X12_goesWell zc_X12 hM.kd wi_X12_goesWell wv_X12_goesWell (tb_6 197 _ rfl) (by decide) (by decide) rfl (Nat.le_of_ble_eq_true rfl) (by decide) (by decide) 54 rfl (dd_X12_wish 29 _ _ _ rfl) ?_
        refine c_X12_goesWell hg hM (by decide) (fun q => absurd q (by decide)) (fun _ h17 hM => ?_)
        dsimp only [zCont, Option.toList, List.cons_append, List.nil_append]
        refine r_ifne (by omega) 57 rfl 59 rfl (dd_X12_wish 30 _ _ _ rfl) (fun q => absurd q (by decide)) (fun _ => ?_)
        refine r_iconst 58 rfl (dd_X12_wish 31 _ _ _ rfl) ?_
        refine r_ireturn rfl rfl (dd_X12_wish 32 _ _ _ rfl) ?_
        first | exact k1 (by omega) _ hM | exact k2 u rfl (by omega) (by first | exact Or.inl (by omega) | exact Or.inr (Or.inl hq) | exact Or.inr (Or.inr (by assumption))) _ hM
  · dsimp only [zCont, Option.toList, List.cons_append, List.nil_append]
    refine r_istore_2 6 rfl (by decide) rfl (dd_X12_wish 3 _ _ _ rfl) ?_
    refine r_aload_0 7 rfl (dd_X12_wish 4 _ _ _ rfl) ?_
    refine r_callV0 (lvl := 12) (mc1 := 0) (ms1 := 0) 0 0 hg rfl md_X12_plateIn zc_X12 hM.kd wi_X12_plateIn wv_X12_plateIn (tb_7 55 _ rfl) (by decide) (by decide) rfl (Nat.le_of_ble_eq_true rfl) (by decide) (by decide) 10 rfl (dd_X12_wish 5 _ _ _ rfl) ?_
    refine c_X12_plateIn hg hI hM (fun hq18 => ?_) (fun hq18 => ?_)
    · have hq := hq18
      unfold zplateOK at hq
      have hv9 : 0 ≤ zplateV S ∧ zplateV S < 67600 := by unfold zplateV; omega
      dsimp only [zCont, Option.toList, List.cons_append, List.nil_append]
      refine r_istore_3 11 rfl (by decide) rfl (dd_X12_wish 6 _ _ _ rfl) ?_
      refine r_aload_0 12 rfl (dd_X12_wish 7 _ _ _ rfl) ?_
      refine r_iload_2 13 rfl (dd_X12_wish 8 _ _ _ rfl) ?_
      refine r_ifne (by omega) 16 rfl 20 rfl (dd_X12_wish 9 _ _ _ rfl) (fun q => absurd q (by decide)) (fun _ => ?_)
      refine r_iconst 17 rfl (dd_X12_wish 10 _ _ _ rfl) ?_
      refine r_goto 51 rfl (dd_X12_wish 11 _ _ _ rfl) ?_
      refine r_callV1 (lvl := 10) (mc1 := 0) (ms1 := 0) 0 0 hg rfl md_X12_goesWell zc_X12 hM.kd wi_X12_goesWell wv_X12_goesWell (tb_6 197 _ rfl) (by decide) (by decide) rfl (Nat.le_of_ble_eq_true rfl) (by decide) (by decide) 54 rfl (dd_X12_wish 29 _ _ _ rfl) ?_
      refine c_X12_goesWell hg hM (by decide) (fun q => absurd q (by decide)) (fun _ h19 hM => ?_)
      dsimp only [zCont, Option.toList, List.cons_append, List.nil_append]
      refine r_ifne (by omega) 57 rfl 59 rfl (dd_X12_wish 30 _ _ _ rfl) (fun q => absurd q (by decide)) (fun _ => ?_)
      refine r_iconst 58 rfl (dd_X12_wish 31 _ _ _ rfl) ?_
      refine r_ireturn rfl rfl (dd_X12_wish 32 _ _ _ rfl) ?_
      first | exact k1 (by omega) _ hM | exact k2 u rfl (by omega) (by first | exact Or.inl (by omega) | exact Or.inr (Or.inl hq) | exact Or.inr (Or.inr (by assumption))) _ hM
    · have hq := hq18
      dsimp only [zCont, Option.toList, List.cons_append, List.nil_append]
      refine r_istore_3 11 rfl (by decide) rfl (dd_X12_wish 6 _ _ _ rfl) ?_
      refine r_aload_0 12 rfl (dd_X12_wish 7 _ _ _ rfl) ?_
      refine r_iload_2 13 rfl (dd_X12_wish 8 _ _ _ rfl) ?_
      refine r_ifne (by omega) 16 rfl 20 rfl (dd_X12_wish 9 _ _ _ rfl) (fun q => absurd q (by decide)) (fun _ => ?_)
      refine r_iconst 17 rfl (dd_X12_wish 10 _ _ _ rfl) ?_
      refine r_goto 51 rfl (dd_X12_wish 11 _ _ _ rfl) ?_
      refine r_callV1 (lvl := 10) (mc1 := 0) (ms1 := 0) 0 0 hg rfl md_X12_goesWell zc_X12 hM.kd wi_X12_goesWell wv_X12_goesWell (tb_6 197 _ rfl) (by decide) (by decide) rfl (Nat.le_of_ble_eq_true rfl) (by decide) (by decide) 54 rfl (dd_X12_wish 29 _ _ _ rfl) ?_
      refine c_X12_goesWell hg hM (by decide) (fun q => absurd q (by decide)) (fun _ h20 hM => ?_)
      dsimp only [zCont, Option.toList, List.cons_append, List.nil_append]
      refine r_ifne (by omega) 57 rfl 59 rfl (dd_X12_wish 30 _ _ _ rfl) (fun q => absurd q (by decide)) (fun _ => ?_)
      refine r_iconst 58 rfl (dd_X12_wish 31 _ _ _ rfl) ?_
      refine r_ireturn rfl rfl (dd_X12_wish 32 _ _ _ rfl) ?_
      first | exact k1 (by omega) _ hM | exact k2 u rfl (by omega) (by first | exact Or.inl (by omega) | exact Or.inr (Or.inl hq) | exact Or.inr (Or.inr (by assumption))) _ hM

abbrev mX12_plateOn : zM := (RX12, cX12_plateOn, 6, (Option.some Jvm.ClassFile.FieldType.int), [], "plateOn", 10)
set_option maxRecDepth 20000 in
theorem c_X12_plateOn {g : zGT} {Q : zO → zH → Prop} {h : zH} (hg : zG g) {h0 : zH} {m : Nat} {A : Nat → Nat} {S : zS} {n : Nat} {t : Int} (hI : MInv n S) (hM : MI h0 m A S t h) {v w : Int} (hv : zR v) (hw : zR w) (k : Q (.inl (some (.int (zI (zplate S v w))))) h) : zC g (.code yX12_plateOn cX12_plateOn 6 (Option.some Jvm.ClassFile.FieldType.int)) yX12_plateOn 10 0 0 [.ref m, .int (zI v), .int (zI w)] h Q := by
  refine zC_of (M := mX12_plateOn) (lv := [some (.ref m), some (.int (zI v)), some (.int (zI w)), none, none, none]) (by decide) rfl rfl (Nat.le_of_ble_eq_true rfl) rfl rfl ?_
  have e1 := hI.allotted
  have e5 := hI.calls
  refine r_iconst 1 rfl (dd_X12_plateOn 0 _ _ _ rfl) ?_
  refine r_istore_3 2 rfl (by decide) rfl (dd_X12_plateOn 1 _ _ _ rfl) ?_
  refine r_iconst 3 rfl (dd_X12_plateOn 2 _ _ _ rfl) ?_
  refine r_istore_4 5 rfl (by decide) rfl (dd_X12_plateOn 3 _ _ _ rfl) ?_
  have L5 : ∀ (tt : Nat), ∀ (j : Nat) (f b : Int), 1000 - j < tt → ((j : Int) ≤ S.1 18) → (f = zpo S.2 v w j) → (b = j) → zX g mX12_plateOn 0 0 Q 5 [some (.ref m), some (.int (zI v)), some (.int (zI w)), some (.int (zI f)), some (.int (zI b)), none] [] h 0 0 := by
    intro tt
    induction tt with
    | zero => intros; exfalso; omega
    | succ tt ih =>
      intro j f b hlt hj hf hb
      have e2 := hI.plate j
      refine r_iload_4 7 rfl (dd_X12_plateOn 4 _ _ _ rfl) ?_
      refine r_aload_0 8 rfl (dd_X12_plateOn 5 _ _ _ rfl) ?_
      refine m_get 18 hg hM (by unfold z_free; decide) rfl (by decide) (tb_6 74 _ rfl) 11 rfl (dd_X12_plateOn 6 _ _ _ rfl) ?_ (fun _ _ _ => rfl)
      refine r_if_icmpge (by omega) (by omega) 14 rfl 85 rfl (dd_X12_plateOn 7 _ _ _ rfl) (fun hc1 => ?_) (fun hc1 => ?_)
      · refine r_iload_3 86 rfl (dd_X12_plateOn 48 _ _ _ rfl) ?_
        refine r_ireturn rfl rfl (dd_X12_plateOn 49 _ _ _ rfl) ?_
        unfold zplate at k
        rw [show (S.1 18).toNat = j by omega, ← hf] at k
        exact k
      · refine r_aload_0 15 rfl (dd_X12_plateOn 8 _ _ _ rfl) ?_
        refine m_arr 19 hg hM (by decide) (by decide) (tb_6 75 _ rfl) 18 rfl (dd_X12_plateOn 9 _ _ _ rfl) ?_ (fun _ _ _ => rfl)
        refine r_iload_4 20 rfl (dd_X12_plateOn 10 _ _ _ rfl) ?_
        refine m_lald 19 (j) (by omega) hg hM rfl (by omega) (z_lt (n2 := 67600) rfl (by omega)) (by decide) 21 rfl (dd_X12_plateOn 11 _ _ _ rfl) ?_
        refine r_bipush (by decide) 23 rfl (dd_X12_plateOn 12 _ _ _ rfl) ?_
        refine r_lshr 24 rfl (dd_X12_plateOn 13 _ _ _ rfl) ?_
        refine r_ldc2 hg (tb_7 67 _ rfl) 27 rfl (dd_X12_plateOn 14 _ _ _ rfl) ?_
        refine r_topl (15) rfl ?_
        refine r_land 28 rfl (dd_X12_plateOn 15 _ _ _ rfl) ?_
        refine r_topl _ (zpk_v (hI.plate j)) ?_
        refine r_iload_1 29 rfl (dd_X12_plateOn 16 _ _ _ rfl) ?_
        refine r_i2l (by omega) 30 rfl (dd_X12_plateOn 17 _ _ _ rfl) ?_
        refine r_lcmp (by omega) (by omega) 31 rfl (dd_X12_plateOn 18 _ _ _ rfl) (fun hc2 => ?_) (fun hc2 => ?_) (fun hc2 => ?_)
        · refine r_ifne (by omega) 34 rfl 54 rfl (dd_X12_plateOn 19 _ _ _ rfl) (fun _ => ?_) (fun q => absurd q (by decide))
          refine r_iconst 55 rfl (dd_X12_plateOn 32 _ _ _ rfl) ?_
          refine r_istore_5 57 rfl (by decide) rfl (dd_X12_plateOn 33 _ _ _ rfl) ?_
          refine r_iload_5 59 rfl (dd_X12_plateOn 34 _ _ _ rfl) ?_
          refine r_ifeq (by omega) 62 rfl 77 rfl (dd_X12_plateOn 35 _ _ _ rfl) (fun _ => ?_) (fun q => absurd q (by decide))
          refine r_iload_3 78 rfl (dd_X12_plateOn 44 _ _ _ rfl) ?_
          refine r_istore_3 79 rfl (by decide) rfl (dd_X12_plateOn 45 _ _ _ rfl) ?_
          refine r_iinc_4 82 rfl (by decide) rfl (dd_X12_plateOn 46 _ _ _ rfl) ?_
          refine r_goto 5 rfl (dd_X12_plateOn 47 _ _ _ rfl) ?_
          exact r_sub _ (z_s1 (z_s1 (z_s1 (z_s1 (z_s1 (z_s0 z_sN)))))) (ih (j + 1) _ _ (by omega) (by omega) (by unfold zpo; first | rw [if_pos (by omega)] | (rw [if_neg (by omega)]; exact hf)) (by omega))
        · refine r_ifne (by omega) 34 rfl 54 rfl (dd_X12_plateOn 19 _ _ _ rfl) (fun q => absurd q (by decide)) (fun _ => ?_)
          refine r_aload_0 35 rfl (dd_X12_plateOn 20 _ _ _ rfl) ?_
          refine m_arr 19 hg hM (by decide) (by decide) (tb_6 75 _ rfl) 38 rfl (dd_X12_plateOn 21 _ _ _ rfl) ?_ (fun _ _ _ => rfl)
          refine r_iload_4 40 rfl (dd_X12_plateOn 22 _ _ _ rfl) ?_
          refine m_lald 19 (j) (by omega) hg hM rfl (by omega) (z_lt (n2 := 67600) rfl (by omega)) (by decide) 41 rfl (dd_X12_plateOn 23 _ _ _ rfl) ?_
          refine r_bipush (by decide) 43 rfl (dd_X12_plateOn 24 _ _ _ rfl) ?_
          refine r_lshr 44 rfl (dd_X12_plateOn 25 _ _ _ rfl) ?_
          refine r_topl _ (zpk_d (hI.plate j)) ?_
          refine r_iload_2 45 rfl (dd_X12_plateOn 26 _ _ _ rfl) ?_
          refine r_i2l (by omega) 46 rfl (dd_X12_plateOn 27 _ _ _ rfl) ?_
          refine r_lcmp (by omega) (by omega) 47 rfl (dd_X12_plateOn 28 _ _ _ rfl) (fun hc3 => ?_) (fun hc3 => ?_) (fun hc3 => ?_)
          · refine r_ifgt (by omega) 50 rfl 54 rfl (dd_X12_plateOn 29 _ _ _ rfl) (fun q => absurd q (by decide)) (fun _ => ?_)
            refine r_iconst 51 rfl (dd_X12_plateOn 30 _ _ _ rfl) ?_
            refine r_goto 55 rfl (dd_X12_plateOn 31 _ _ _ rfl) ?_
            refine r_istore_5 57 rfl (by decide) rfl (dd_X12_plateOn 33 _ _ _ rfl) ?_
            refine r_iload_5 59 rfl (dd_X12_plateOn 34 _ _ _ rfl) ?_
            refine r_ifeq (by omega) 62 rfl 77 rfl (dd_X12_plateOn 35 _ _ _ rfl) (fun q => absurd q (by decide)) (fun _ => ?_)
            refine r_aload_0 63 rfl (dd_X12_plateOn 36 _ _ _ rfl) ?_
            refine m_arr 19 hg hM (by decide) (by decide) (tb_6 75 _ rfl) 66 rfl (dd_X12_plateOn 37 _ _ _ rfl) ?_ (fun _ _ _ => rfl)
            refine r_iload_4 68 rfl (dd_X12_plateOn 38 _ _ _ rfl) ?_
            refine m_lald 19 (j) (by omega) hg hM rfl (by omega) (z_lt (n2 := 67600) rfl (by omega)) (by decide) 69 rfl (dd_X12_plateOn 39 _ _ _ rfl) ?_
            refine r_ldc2 hg (tb_7 68 _ rfl) 72 rfl (dd_X12_plateOn 40 _ _ _ rfl) ?_
            refine r_topl (131071) rfl ?_
            refine r_land 73 rfl (dd_X12_plateOn 41 _ _ _ rfl) ?_
            refine r_topl _ (zpk_p (hI.plate j)) ?_
            refine r_l2iz (by omega) 74 rfl (dd_X12_plateOn 42 _ _ _ rfl) ?_
            refine r_goto 78 rfl (dd_X12_plateOn 43 _ _ _ rfl) ?_
            refine r_istore_3 79 rfl (by decide) rfl (dd_X12_plateOn 45 _ _ _ rfl) ?_
            refine r_iinc_4 82 rfl (by decide) rfl (dd_X12_plateOn 46 _ _ _ rfl) ?_
            refine r_goto 5 rfl (dd_X12_plateOn 47 _ _ _ rfl) ?_
            exact r_sub _ (z_s1 (z_s1 (z_s1 (z_s1 (z_s1 (z_s0 z_sN)))))) (ih (j + 1) _ _ (by omega) (by omega) (by unfold zpo; first | rw [if_pos (by omega)] | (rw [if_neg (by omega)]; exact hf)) (by omega))
          · refine r_ifgt (by omega) 50 rfl 54 rfl (dd_X12_plateOn 29 _ _ _ rfl) (fun q => absurd q (by decide)) (fun _ => ?_)
            refine r_iconst 51 rfl (dd_X12_plateOn 30 _ _ _ rfl) ?_
            refine r_goto 55 rfl (dd_X12_plateOn 31 _ _ _ rfl) ?_
            refine r_istore_5 57 rfl (by decide) rfl (dd_X12_plateOn 33 _ _ _ rfl) ?_
            refine r_iload_5 59 rfl (dd_X12_plateOn 34 _ _ _ rfl) ?_
            refine r_ifeq (by omega) 62 rfl 77 rfl (dd_X12_plateOn 35 _ _ _ rfl) (fun q => absurd q (by decide)) (fun _ => ?_)
            refine r_aload_0 63 rfl (dd_X12_plateOn 36 _ _ _ rfl) ?_
            refine m_arr 19 hg hM (by decide) (by decide) (tb_6 75 _ rfl) 66 rfl (dd_X12_plateOn 37 _ _ _ rfl) ?_ (fun _ _ _ => rfl)
            refine r_iload_4 68 rfl (dd_X12_plateOn 38 _ _ _ rfl) ?_
            refine m_lald 19 (j) (by omega) hg hM rfl (by omega) (z_lt (n2 := 67600) rfl (by omega)) (by decide) 69 rfl (dd_X12_plateOn 39 _ _ _ rfl) ?_
            refine r_ldc2 hg (tb_7 68 _ rfl) 72 rfl (dd_X12_plateOn 40 _ _ _ rfl) ?_
            refine r_topl (131071) rfl ?_
            refine r_land 73 rfl (dd_X12_plateOn 41 _ _ _ rfl) ?_
            refine r_topl _ (zpk_p (hI.plate j)) ?_
            refine r_l2iz (by omega) 74 rfl (dd_X12_plateOn 42 _ _ _ rfl) ?_
            refine r_goto 78 rfl (dd_X12_plateOn 43 _ _ _ rfl) ?_
            refine r_istore_3 79 rfl (by decide) rfl (dd_X12_plateOn 45 _ _ _ rfl) ?_
            refine r_iinc_4 82 rfl (by decide) rfl (dd_X12_plateOn 46 _ _ _ rfl) ?_
            refine r_goto 5 rfl (dd_X12_plateOn 47 _ _ _ rfl) ?_
            exact r_sub _ (z_s1 (z_s1 (z_s1 (z_s1 (z_s1 (z_s0 z_sN)))))) (ih (j + 1) _ _ (by omega) (by omega) (by unfold zpo; first | rw [if_pos (by omega)] | (rw [if_neg (by omega)]; exact hf)) (by omega))
          · refine r_ifgt (by omega) 50 rfl 54 rfl (dd_X12_plateOn 29 _ _ _ rfl) (fun _ => ?_) (fun q => absurd q (by decide))
            refine r_iconst 55 rfl (dd_X12_plateOn 32 _ _ _ rfl) ?_
            refine r_istore_5 57 rfl (by decide) rfl (dd_X12_plateOn 33 _ _ _ rfl) ?_
            refine r_iload_5 59 rfl (dd_X12_plateOn 34 _ _ _ rfl) ?_
            refine r_ifeq (by omega) 62 rfl 77 rfl (dd_X12_plateOn 35 _ _ _ rfl) (fun _ => ?_) (fun q => absurd q (by decide))
            refine r_iload_3 78 rfl (dd_X12_plateOn 44 _ _ _ rfl) ?_
            refine r_istore_3 79 rfl (by decide) rfl (dd_X12_plateOn 45 _ _ _ rfl) ?_
            refine r_iinc_4 82 rfl (by decide) rfl (dd_X12_plateOn 46 _ _ _ rfl) ?_
            refine r_goto 5 rfl (dd_X12_plateOn 47 _ _ _ rfl) ?_
            exact r_sub _ (z_s1 (z_s1 (z_s1 (z_s1 (z_s1 (z_s0 z_sN)))))) (ih (j + 1) _ _ (by omega) (by omega) (by unfold zpo; first | rw [if_pos (by omega)] | (rw [if_neg (by omega)]; exact hf)) (by omega))
        · refine r_ifne (by omega) 34 rfl 54 rfl (dd_X12_plateOn 19 _ _ _ rfl) (fun _ => ?_) (fun q => absurd q (by decide))
          refine r_iconst 55 rfl (dd_X12_plateOn 32 _ _ _ rfl) ?_
          refine r_istore_5 57 rfl (by decide) rfl (dd_X12_plateOn 33 _ _ _ rfl) ?_
          refine r_iload_5 59 rfl (dd_X12_plateOn 34 _ _ _ rfl) ?_
          refine r_ifeq (by omega) 62 rfl 77 rfl (dd_X12_plateOn 35 _ _ _ rfl) (fun _ => ?_) (fun q => absurd q (by decide))
          refine r_iload_3 78 rfl (dd_X12_plateOn 44 _ _ _ rfl) ?_
          refine r_istore_3 79 rfl (by decide) rfl (dd_X12_plateOn 45 _ _ _ rfl) ?_
          refine r_iinc_4 82 rfl (by decide) rfl (dd_X12_plateOn 46 _ _ _ rfl) ?_
          refine r_goto 5 rfl (dd_X12_plateOn 47 _ _ _ rfl) ?_
          exact r_sub _ (z_s1 (z_s1 (z_s1 (z_s1 (z_s1 (z_s0 z_sN)))))) (ih (j + 1) _ _ (by omega) (by omega) (by unfold zpo; first | rw [if_pos (by omega)] | (rw [if_neg (by omega)]; exact hf)) (by omega))
  exact r_sub _ (z_s1 (z_s1 (z_s1 (z_s1 (z_s1 (z_s0 z_sN)))))) (L5 1000000 0 _ _ (by omega) (by omega) rfl rfl)

abbrev mX12_plate : zM := (RX12, cX12_plate, 6, (Option.some Jvm.ClassFile.FieldType.char), [], "plate", 12)
set_option maxRecDepth 20000 in
theorem c_X12_plate {g : zGT} {Q : zO → zH → Prop} {h : zH} (hg : zG g) {h0 : zH} {m : Nat} {A : Nat → Nat} {S : zS} {n : Nat} {t : Int} (hI : MInv n S) (hM : MI h0 m A S t h) {v w q : Int} (hv : zR v) (hw : zR w) (hq : zR q) (hr : ∀ d, zplate S v d < 67600) (k1 : ¬ (0 ≤ v ∧ v < S.1 4 ∧ 0 ≤ q ∧ q ≤ 3) → ∀ h1, MI h0 m A S 1 h1 → Q (.inl (some (.int (zI 0)))) h1) (k2 : (0 ≤ v ∧ v < S.1 4 ∧ 0 ≤ q ∧ q ≤ 3) → ¬ (0 ≤ w ∧ w ≤ S.1 1) → ∀ h1, MI h0 m A S 2 h1 → Q (.inl (some (.int (zI 0)))) h1) (k0 : (0 ≤ v ∧ v < S.1 4 ∧ 0 ≤ q ∧ q ≤ 3) → (0 ≤ w ∧ w ≤ S.1 1) → ∀ h1, MI h0 m A S 0 h1 → Q (.inl (some (.int (zI (if zplate S v w = -1 then 0 else zsign (zplate S v w) q))))) h1) : zC g (.code yX12_plate cX12_plate 6 (Option.some Jvm.ClassFile.FieldType.char)) yX12_plate 12 0 0 [.ref m, .int (zI v), .int (zI w), .int (zI q)] h Q := by
  refine zC_of (M := mX12_plate) (lv := [some (.ref m), some (.int (zI v)), some (.int (zI w)), some (.int (zI q)), none, none]) (by decide) rfl rfl (Nat.le_of_ble_eq_true rfl) rfl rfl ?_
  have e1 := hI.vehicles
  have e2 := hI.today
  have e3 := zpo_range (v := v) (w := w) hI.plate (S.1 18).toNat
  have e4 : zplate S v w = zpo S.2 v w (S.1 18).toNat := rfl
  have e5 := hr w
  refine r_aload_0 1 rfl (dd_X12_plate 0 _ _ _ rfl) ?_
  refine r_iload_1 2 rfl (dd_X12_plate 1 _ _ _ rfl) ?_
  refine r_callV1 (lvl := 11) (mc1 := 0) (ms1 := 0) 0 0 hg rfl md_X12_isVehicle zc_X12 hM.kd wi_X12_isVehicle wv_X12_isVehicle (tb_7 0 _ rfl) (by decide) (by decide) rfl (Nat.le_of_ble_eq_true rfl) (by decide) (by decide) 5 rfl (dd_X12_plate 2 _ _ _ rfl) ?_
  refine c_X12_isVehicle hg hI hM (by omega) (fun hb1 => ?_) (fun hb1 => ?_)
  · dsimp only [zCont, Option.toList, List.cons_append, List.nil_append]
    refine r_ifeq (by omega) 8 rfl 21 rfl (dd_X12_plate 3 _ _ _ rfl) (fun q => absurd q (by decide)) (fun _ => ?_)
    refine r_iload_3 9 rfl (dd_X12_plate 4 _ _ _ rfl) ?_
    refine r_iconst 10 rfl (dd_X12_plate 5 _ _ _ rfl) ?_
    refine r_iconst 11 rfl (dd_X12_plate 6 _ _ _ rfl) ?_
    refine r_callS3 (lvl := 10) (mc1 := 0) (ms1 := 0) 0 0 hg rfl md_X12_in ws_X12_in (tb_6 209 _ rfl) (by decide) (by decide) rfl (Nat.le_of_ble_eq_true rfl) (by decide) (by decide) 14 rfl (dd_X12_plate 7 _ _ _ rfl) ?_
    refine c_X12_in hg (by omega) (by omega) (by omega) (fun hb2 => ?_) (fun hb2 => ?_)
    · dsimp only [zCont, Option.toList, List.cons_append, List.nil_append]
      refine r_ifeq (by omega) 17 rfl 21 rfl (dd_X12_plate 8 _ _ _ rfl) (fun q => absurd q (by decide)) (fun _ => ?_)
      refine r_iconst 18 rfl (dd_X12_plate 9 _ _ _ rfl) ?_
      refine r_goto 22 rfl (dd_X12_plate 10 _ _ _ rfl) ?_
      refine r_istore_4 24 rfl (by decide) rfl (dd_X12_plate 12 _ _ _ rfl) ?_
      refine r_aload_0 25 rfl (dd_X12_plate 13 _ _ _ rfl) ?_
      refine r_iload_4 27 rfl (dd_X12_plate 14 _ _ _ rfl) ?_
      refine r_ifne (by omega) 30 rfl 34 rfl (dd_X12_plate 15 _ _ _ rfl) (fun _ => ?_) (fun q => absurd q (by decide))
      refine r_iload_2 35 rfl (dd_X12_plate 18 _ _ _ rfl) ?_
      refine r_iconst 36 rfl (dd_X12_plate 19 _ _ _ rfl) ?_
      refine r_aload_0 37 rfl (dd_X12_plate 20 _ _ _ rfl) ?_
      refine m_get 1 hg hM (by unfold z_free; decide) rfl (by decide) (tb_6 57 _ rfl) 40 rfl (dd_X12_plate 21 _ _ _ rfl) ?_ (fun _ _ _ => rfl)
      refine r_callS3 (lvl := 10) (mc1 := 0) (ms1 := 0) 0 0 hg rfl md_X12_in ws_X12_in (tb_6 209 _ rfl) (by decide) (by decide) rfl (Nat.le_of_ble_eq_true rfl) (by decide) (by decide) 43 rfl (dd_X12_plate 22 _ _ _ rfl) ?_
      refine c_X12_in hg (by omega) (by omega) (by omega) (fun hb3 => ?_) (fun hb3 => ?_)
      · dsimp only [zCont, Option.toList, List.cons_append, List.nil_append]
        refine r_ifeq (by omega) 46 rfl 50 rfl (dd_X12_plate 23 _ _ _ rfl) (fun q => absurd q (by decide)) (fun _ => ?_)
        refine r_iconst 47 rfl (dd_X12_plate 24 _ _ _ rfl) ?_
        refine r_goto 51 rfl (dd_X12_plate 25 _ _ _ rfl) ?_
        refine r_callV1 (lvl := 10) (mc1 := 0) (ms1 := 0) 0 0 hg rfl md_X12_goesWell zc_X12 hM.kd wi_X12_goesWell wv_X12_goesWell (tb_6 197 _ rfl) (by decide) (by decide) rfl (Nat.le_of_ble_eq_true rfl) (by decide) (by decide) 54 rfl (dd_X12_plate 27 _ _ _ rfl) ?_
        refine c_X12_goesWell hg hM (by decide) (fun _ h4 hM => ?_) (fun q => absurd rfl q)
        dsimp only [zCont, Option.toList, List.cons_append, List.nil_append]
        refine r_ifne (by omega) 57 rfl 59 rfl (dd_X12_plate 28 _ _ _ rfl) (fun _ => ?_) (fun q => absurd q (by decide))
        refine r_aload_0 60 rfl (dd_X12_plate 31 _ _ _ rfl) ?_
        refine r_iload_1 61 rfl (dd_X12_plate 32 _ _ _ rfl) ?_
        refine r_iload_2 62 rfl (dd_X12_plate 33 _ _ _ rfl) ?_
        refine r_callV2 (lvl := 10) (mc1 := 0) (ms1 := 0) 0 0 hg rfl md_X12_plateOn zc_X12 hM.kd wi_X12_plateOn wv_X12_plateOn (tb_7 63 _ rfl) (by decide) (by decide) rfl (Nat.le_of_ble_eq_true rfl) (by decide) (by decide) 65 rfl (dd_X12_plate 34 _ _ _ rfl) ?_
        refine c_X12_plateOn hg hI hM (by omega) (by omega) ?_
        dsimp only [zCont, Option.toList, List.cons_append, List.nil_append]
        refine r_istore_5 67 rfl (by decide) rfl (dd_X12_plate 35 _ _ _ rfl) ?_
        refine r_iload_5 69 rfl (dd_X12_plate 36 _ _ _ rfl) ?_
        refine r_iconst 70 rfl (dd_X12_plate 37 _ _ _ rfl) ?_
        refine r_if_icmpne (by omega) (by omega) 73 rfl 77 rfl (dd_X12_plate 38 _ _ _ rfl) (fun hc5 => ?_) (fun hc5 => ?_)
        · refine r_iload_5 79 rfl (dd_X12_plate 41 _ _ _ rfl) ?_
          refine r_iload_3 80 rfl (dd_X12_plate 42 _ _ _ rfl) ?_
          refine r_callS2 (lvl := 10) (mc1 := 0) (ms1 := 0) 0 0 hg rfl md_X12_signOf ws_X12_signOf (tb_7 69 _ rfl) (by decide) (by decide) rfl (Nat.le_of_ble_eq_true rfl) (by decide) (by decide) 83 rfl (dd_X12_plate 43 _ _ _ rfl) ?_
          refine c_X12_signOf hg (by omega) (by omega) ?_
          dsimp only [zCont, Option.toList, List.cons_append, List.nil_append]
          refine r_ireturn rfl (zsign_nar (by omega) (by omega)) (dd_X12_plate 44 _ _ _ rfl) ?_
          have k := k0 (by omega) (by omega) _ hM
          rw [if_neg (by omega)] at k
          exact k
        · refine r_iconst 74 rfl (dd_X12_plate 39 _ _ _ rfl) ?_
          refine r_goto 83 rfl (dd_X12_plate 40 _ _ _ rfl) ?_
          refine r_ireturn rfl rfl (dd_X12_plate 44 _ _ _ rfl) ?_
          first | exact k1 (by omega) _ hM | exact k2 (by omega) (by omega) _ hM | (have k := k0 (by omega) (by omega) _ hM; rw [if_pos (by omega)] at k; exact k)
      · dsimp only [zCont, Option.toList, List.cons_append, List.nil_append]
        refine r_ifeq (by omega) 46 rfl 50 rfl (dd_X12_plate 23 _ _ _ rfl) (fun _ => ?_) (fun q => absurd q (by decide))
        refine r_iconst 51 rfl (dd_X12_plate 26 _ _ _ rfl) ?_
        refine r_callV1 (lvl := 10) (mc1 := 0) (ms1 := 0) 0 0 hg rfl md_X12_goesWell zc_X12 hM.kd wi_X12_goesWell wv_X12_goesWell (tb_6 197 _ rfl) (by decide) (by decide) rfl (Nat.le_of_ble_eq_true rfl) (by decide) (by decide) 54 rfl (dd_X12_plate 27 _ _ _ rfl) ?_
        refine c_X12_goesWell hg hM (by decide) (fun q => absurd q (by decide)) (fun _ h6 hM => ?_)
        dsimp only [zCont, Option.toList, List.cons_append, List.nil_append]
        refine r_ifne (by omega) 57 rfl 59 rfl (dd_X12_plate 28 _ _ _ rfl) (fun q => absurd q (by decide)) (fun _ => ?_)
        refine r_iconst 58 rfl (dd_X12_plate 29 _ _ _ rfl) ?_
        refine r_ireturn rfl rfl (dd_X12_plate 30 _ _ _ rfl) ?_
        first | exact k1 (by omega) _ hM | exact k2 (by omega) (by omega) _ hM | (have k := k0 (by omega) (by omega) _ hM; rw [if_pos (by omega)] at k; exact k)
    · dsimp only [zCont, Option.toList, List.cons_append, List.nil_append]
      refine r_ifeq (by omega) 17 rfl 21 rfl (dd_X12_plate 8 _ _ _ rfl) (fun _ => ?_) (fun q => absurd q (by decide))
      refine r_iconst 22 rfl (dd_X12_plate 11 _ _ _ rfl) ?_
      refine r_istore_4 24 rfl (by decide) rfl (dd_X12_plate 12 _ _ _ rfl) ?_
      refine r_aload_0 25 rfl (dd_X12_plate 13 _ _ _ rfl) ?_
      refine r_iload_4 27 rfl (dd_X12_plate 14 _ _ _ rfl) ?_
      refine r_ifne (by omega) 30 rfl 34 rfl (dd_X12_plate 15 _ _ _ rfl) (fun q => absurd q (by decide)) (fun _ => ?_)
      refine r_iconst 31 rfl (dd_X12_plate 16 _ _ _ rfl) ?_
      refine r_goto 51 rfl (dd_X12_plate 17 _ _ _ rfl) ?_
      refine r_callV1 (lvl := 10) (mc1 := 0) (ms1 := 0) 0 0 hg rfl md_X12_goesWell zc_X12 hM.kd wi_X12_goesWell wv_X12_goesWell (tb_6 197 _ rfl) (by decide) (by decide) rfl (Nat.le_of_ble_eq_true rfl) (by decide) (by decide) 54 rfl (dd_X12_plate 27 _ _ _ rfl) ?_
      refine c_X12_goesWell hg hM (by decide) (fun q => absurd q (by decide)) (fun _ h7 hM => ?_)
      dsimp only [zCont, Option.toList, List.cons_append, List.nil_append]
      refine r_ifne (by omega) 57 rfl 59 rfl (dd_X12_plate 28 _ _ _ rfl) (fun q => absurd q (by decide)) (fun _ => ?_)
      refine r_iconst 58 rfl (dd_X12_plate 29 _ _ _ rfl) ?_
      refine r_ireturn rfl rfl (dd_X12_plate 30 _ _ _ rfl) ?_
      first | exact k1 (by omega) _ hM | exact k2 (by omega) (by omega) _ hM | (have k := k0 (by omega) (by omega) _ hM; rw [if_pos (by omega)] at k; exact k)
  · dsimp only [zCont, Option.toList, List.cons_append, List.nil_append]
    refine r_ifeq (by omega) 8 rfl 21 rfl (dd_X12_plate 3 _ _ _ rfl) (fun _ => ?_) (fun q => absurd q (by decide))
    refine r_iconst 22 rfl (dd_X12_plate 11 _ _ _ rfl) ?_
    refine r_istore_4 24 rfl (by decide) rfl (dd_X12_plate 12 _ _ _ rfl) ?_
    refine r_aload_0 25 rfl (dd_X12_plate 13 _ _ _ rfl) ?_
    refine r_iload_4 27 rfl (dd_X12_plate 14 _ _ _ rfl) ?_
    refine r_ifne (by omega) 30 rfl 34 rfl (dd_X12_plate 15 _ _ _ rfl) (fun q => absurd q (by decide)) (fun _ => ?_)
    refine r_iconst 31 rfl (dd_X12_plate 16 _ _ _ rfl) ?_
    refine r_goto 51 rfl (dd_X12_plate 17 _ _ _ rfl) ?_
    refine r_callV1 (lvl := 10) (mc1 := 0) (ms1 := 0) 0 0 hg rfl md_X12_goesWell zc_X12 hM.kd wi_X12_goesWell wv_X12_goesWell (tb_6 197 _ rfl) (by decide) (by decide) rfl (Nat.le_of_ble_eq_true rfl) (by decide) (by decide) 54 rfl (dd_X12_plate 27 _ _ _ rfl) ?_
    refine c_X12_goesWell hg hM (by decide) (fun q => absurd q (by decide)) (fun _ h8 hM => ?_)
    dsimp only [zCont, Option.toList, List.cons_append, List.nil_append]
    refine r_ifne (by omega) 57 rfl 59 rfl (dd_X12_plate 28 _ _ _ rfl) (fun q => absurd q (by decide)) (fun _ => ?_)
    refine r_iconst 58 rfl (dd_X12_plate 29 _ _ _ rfl) ?_
    refine r_ireturn rfl rfl (dd_X12_plate 30 _ _ _ rfl) ?_
    first | exact k1 (by omega) _ hM | exact k2 (by omega) (by omega) _ hM | (have k := k0 (by omega) (by omega) _ hM; rw [if_pos (by omega)] at k; exact k)
end
section
theorem zz_last : 1 + 1 = 2 := rfl
end
