-- ===== PART A: goes FIRST, ahead of the names: the tables' words, and 'selects' of the private methods out of them =====
/-- a private method of a class that the tables say can be made, by its rows of tables_1 -/
def lw_okq (q : MethodName × Nat) : Prop := (q.1.cls ≠ "java/lang/invoke/MethodHandle" ∧ q.1.cls ≠ "java/lang/invoke/VarHandle") ∧ Cond.instantiable q.1.cls q.2 ∈ tables_1 ∧ Cond.privateMethod q.1 ∈ tables_1 ∧ Cond.instanceMethod q.1 ∈ tables_1
theorem lw_p0 : lw_okq (⟨"TrailGuide$Paths", "clearMarks", "()V"⟩, 4) := ⟨⟨by decide +kernel, by decide +kernel⟩, List.mem_of_getElem? (i := 165) (by decide +kernel), List.mem_of_getElem? (i := 325) (by decide +kernel), List.mem_of_getElem? (i := 326) (by decide +kernel)⟩
theorem lw_p1 : lw_okq (⟨"TrailGuide$Paths", "merge", "(II)Z"⟩, 4) := ⟨⟨by decide +kernel, by decide +kernel⟩, List.mem_of_getElem? (i := 165) (by decide +kernel), List.mem_of_getElem? (i := 348) (by decide +kernel), List.mem_of_getElem? (i := 349) (by decide +kernel)⟩
theorem lw_p2 : lw_okq (⟨"TrailGuide$Paths", "leaderOf", "(I)I"⟩, 4) := ⟨⟨by decide +kernel, by decide +kernel⟩, List.mem_of_getElem? (i := 165) (by decide +kernel), List.mem_of_getElem? (i := 352) (by decide +kernel), List.mem_of_getElem? (i := 353) (by decide +kernel)⟩
theorem lw_p3 : lw_okq (⟨"TrailGuide$Paths", "closestUnmarked", "()I"⟩, 4) := ⟨⟨by decide +kernel, by decide +kernel⟩, List.mem_of_getElem? (i := 165) (by decide +kernel), List.mem_of_getElem? (i := 431) (by decide +kernel), List.mem_of_getElem? (i := 432) (by decide +kernel)⟩
theorem lw_p4 : lw_okq (⟨"TrailGuide$Paths", "relaxAll", "(LTrailGuide$TrailMap;)Z"⟩, 4) := ⟨⟨by decide +kernel, by decide +kernel⟩, List.mem_of_getElem? (i := 165) (by decide +kernel), List.mem_of_getElem? (i := 443) (by decide +kernel), List.mem_of_getElem? (i := 444) (by decide +kernel)⟩
theorem lw_p5 : lw_okq (⟨"TrailGuide", "change", "(IIII)I"⟩, 9) := ⟨⟨by decide +kernel, by decide +kernel⟩, List.mem_of_getElem? (i := 29) (by decide +kernel), List.mem_of_getElem? (i := 526) (by decide +kernel), List.mem_of_getElem? (i := 527) (by decide +kernel)⟩
theorem lw_p6 : lw_okq (⟨"TrailGuide$Guide", "faultOfPoint", "(III)I"⟩, 3) := ⟨⟨by decide +kernel, by decide +kernel⟩, List.mem_of_getElem? (i := 37) (by decide +kernel), List.mem_of_getElem? (i := 534) (by decide +kernel), List.mem_of_getElem? (i := 535) (by decide +kernel)⟩
theorem lw_p7 : lw_okq (⟨"TrailGuide$Guide", "faultOfTrail", "(III)I"⟩, 3) := ⟨⟨by decide +kernel, by decide +kernel⟩, List.mem_of_getElem? (i := 37) (by decide +kernel), List.mem_of_getElem? (i := 547) (by decide +kernel), List.mem_of_getElem? (i := 548) (by decide +kernel)⟩
theorem lw_p8 : lw_okq (⟨"TrailGuide$Guide", "faultOfCut", "(II)I"⟩, 3) := ⟨⟨by decide +kernel, by decide +kernel⟩, List.mem_of_getElem? (i := 37) (by decide +kernel), List.mem_of_getElem? (i := 556) (by decide +kernel), List.mem_of_getElem? (i := 557) (by decide +kernel)⟩
theorem lw_p9 : lw_okq (⟨"TrailGuide$Guide", "faultOfTour", "(II)I"⟩, 3) := ⟨⟨by decide +kernel, by decide +kernel⟩, List.mem_of_getElem? (i := 37) (by decide +kernel), List.mem_of_getElem? (i := 560) (by decide +kernel), List.mem_of_getElem? (i := 561) (by decide +kernel)⟩
theorem lw_p10 : lw_okq (⟨"TrailGuide$Guide", "faultOfMove", "(II)I"⟩, 3) := ⟨⟨by decide +kernel, by decide +kernel⟩, List.mem_of_getElem? (i := 37) (by decide +kernel), List.mem_of_getElem? (i := 568) (by decide +kernel), List.mem_of_getElem? (i := 569) (by decide +kernel)⟩
theorem lw_p11 : lw_okq (⟨"java/lang/Throwable", "fillInStackTrace", "(I)Ljava/lang/Throwable;"⟩, 6) := ⟨⟨by decide +kernel, by decide +kernel⟩, List.mem_of_getElem? (i := 617) (by decide +kernel), List.mem_of_getElem? (i := 615) (by decide +kernel), List.mem_of_getElem? (i := 616) (by decide +kernel)⟩
theorem lw_p12 : lw_okq (⟨"TrailGuide$History", "slotAt", "(I)LTrailGuide$State;"⟩, 3) := ⟨⟨by decide +kernel, by decide +kernel⟩, List.mem_of_getElem? (i := 211) (by decide +kernel), List.mem_of_getElem? (i := 715) (by decide +kernel), List.mem_of_getElem? (i := 716) (by decide +kernel)⟩
theorem lw_p13 : lw_okq (⟨"TrailGuide$TrailMap", "setLength", "(III)V"⟩, 6) := ⟨⟨by decide +kernel, by decide +kernel⟩, List.mem_of_getElem? (i := 49) (by decide +kernel), List.mem_of_getElem? (i := 733) (by decide +kernel), List.mem_of_getElem? (i := 734) (by decide +kernel)⟩
theorem lw_p14 : lw_okq (⟨"TrailGuide$Guide", "beginTour", "(II)I"⟩, 3) := ⟨⟨by decide +kernel, by decide +kernel⟩, List.mem_of_getElem? (i := 37) (by decide +kernel), List.mem_of_getElem? (i := 741) (by decide +kernel), List.mem_of_getElem? (i := 742) (by decide +kernel)⟩
theorem lw_p15 : lw_okq (⟨"TrailGuide$Guide", "moveHiker", "(II)Z"⟩, 3) := ⟨⟨by decide +kernel, by decide +kernel⟩, List.mem_of_getElem? (i := 37) (by decide +kernel), List.mem_of_getElem? (i := 769) (by decide +kernel), List.mem_of_getElem? (i := 770) (by decide +kernel)⟩
def lw_privs_1 : List (MethodName × Nat) := [(⟨"TrailGuide$Paths", "clearMarks", "()V"⟩, 4), (⟨"TrailGuide$Paths", "merge", "(II)Z"⟩, 4), (⟨"TrailGuide$Paths", "leaderOf", "(I)I"⟩, 4), (⟨"TrailGuide$Paths", "closestUnmarked", "()I"⟩, 4), (⟨"TrailGuide$Paths", "relaxAll", "(LTrailGuide$TrailMap;)Z"⟩, 4), (⟨"TrailGuide", "change", "(IIII)I"⟩, 9), (⟨"TrailGuide$Guide", "faultOfPoint", "(III)I"⟩, 3), (⟨"TrailGuide$Guide", "faultOfTrail", "(III)I"⟩, 3), (⟨"TrailGuide$Guide", "faultOfCut", "(II)I"⟩, 3), (⟨"TrailGuide$Guide", "faultOfTour", "(II)I"⟩, 3), (⟨"TrailGuide$Guide", "faultOfMove", "(II)I"⟩, 3), (⟨"java/lang/Throwable", "fillInStackTrace", "(I)Ljava/lang/Throwable;"⟩, 6), (⟨"TrailGuide$History", "slotAt", "(I)LTrailGuide$State;"⟩, 3), (⟨"TrailGuide$TrailMap", "setLength", "(III)V"⟩, 6), (⟨"TrailGuide$Guide", "beginTour", "(II)I"⟩, 3), (⟨"TrailGuide$Guide", "moveHiker", "(II)Z"⟩, 3)]
theorem lw_r1 : ∀ q ∈ lw_privs_1, lw_okq q := List.forall_mem_cons.mpr ⟨lw_p0, List.forall_mem_cons.mpr ⟨lw_p1, List.forall_mem_cons.mpr ⟨lw_p2, List.forall_mem_cons.mpr ⟨lw_p3, List.forall_mem_cons.mpr ⟨lw_p4, List.forall_mem_cons.mpr ⟨lw_p5, List.forall_mem_cons.mpr ⟨lw_p6, List.forall_mem_cons.mpr ⟨lw_p7, List.forall_mem_cons.mpr ⟨lw_p8, List.forall_mem_cons.mpr ⟨lw_p9, List.forall_mem_cons.mpr ⟨lw_p10, List.forall_mem_cons.mpr ⟨lw_p11, List.forall_mem_cons.mpr ⟨lw_p12, List.forall_mem_cons.mpr ⟨lw_p13, List.forall_mem_cons.mpr ⟨lw_p14, List.forall_mem_cons.mpr ⟨lw_p15, fun _ h => absurd h List.not_mem_nil⟩⟩⟩⟩⟩⟩⟩⟩⟩⟩⟩⟩⟩⟩⟩⟩
theorem lw_p16 : lw_okq (⟨"TrailGuide$Guide", "setAlarm", "(Z)V"⟩, 3) := ⟨⟨by decide +kernel, by decide +kernel⟩, List.mem_of_getElem? (i := 37) (by decide +kernel), List.mem_of_getElem? (i := 814) (by decide +kernel), List.mem_of_getElem? (i := 815) (by decide +kernel)⟩
theorem lw_p17 : lw_okq (⟨"TrailGuide$Guide", "endTour", "()I"⟩, 3) := ⟨⟨by decide +kernel, by decide +kernel⟩, List.mem_of_getElem? (i := 37) (by decide +kernel), List.mem_of_getElem? (i := 818) (by decide +kernel), List.mem_of_getElem? (i := 819) (by decide +kernel)⟩
theorem lw_p18 : lw_okq (⟨"TrailGuide", "requireWaypoint", "(I)V"⟩, 9) := ⟨⟨by decide +kernel, by decide +kernel⟩, List.mem_of_getElem? (i := 29) (by decide +kernel), List.mem_of_getElem? (i := 908) (by decide +kernel), List.mem_of_getElem? (i := 909) (by decide +kernel)⟩
theorem lw_p19 : lw_okq (⟨"TrailGuide", "requireTour", "()V"⟩, 9) := ⟨⟨by decide +kernel, by decide +kernel⟩, List.mem_of_getElem? (i := 29) (by decide +kernel), List.mem_of_getElem? (i := 995) (by decide +kernel), List.mem_of_getElem? (i := 996) (by decide +kernel)⟩
theorem lw_p20 : lw_okq (⟨"TrailGuide", "requireRouteIndex", "(I)V"⟩, 9) := ⟨⟨by decide +kernel, by decide +kernel⟩, List.mem_of_getElem? (i := 29) (by decide +kernel), List.mem_of_getElem? (i := 1007) (by decide +kernel), List.mem_of_getElem? (i := 1008) (by decide +kernel)⟩
theorem lw_p21 : lw_okq (⟨"TrailGuide$Program", "parseCommand", "()Z"⟩, 8) := ⟨⟨by decide +kernel, by decide +kernel⟩, List.mem_of_getElem? (i := 233) (by decide +kernel), List.mem_of_getElem? (i := 1149) (by decide +kernel), List.mem_of_getElem? (i := 1150) (by decide +kernel)⟩
theorem lw_p22 : lw_okq (⟨"TrailGuide$Program", "clearValues", "()V"⟩, 8) := ⟨⟨by decide +kernel, by decide +kernel⟩, List.mem_of_getElem? (i := 233) (by decide +kernel), List.mem_of_getElem? (i := 1153) (by decide +kernel), List.mem_of_getElem? (i := 1154) (by decide +kernel)⟩
theorem lw_p23 : lw_okq (⟨"TrailGuide$Program", "parseOpening", "()I"⟩, 8) := ⟨⟨by decide +kernel, by decide +kernel⟩, List.mem_of_getElem? (i := 233) (by decide +kernel), List.mem_of_getElem? (i := 1157) (by decide +kernel), List.mem_of_getElem? (i := 1158) (by decide +kernel)⟩
theorem lw_p24 : lw_okq (⟨"TrailGuide$Program", "commonLength", "(Ljava/lang/String;I)I"⟩, 8) := ⟨⟨by decide +kernel, by decide +kernel⟩, List.mem_of_getElem? (i := 233) (by decide +kernel), List.mem_of_getElem? (i := 1227) (by decide +kernel), List.mem_of_getElem? (i := 1228) (by decide +kernel)⟩
theorem lw_p25 : lw_okq (⟨"TrailGuide$Program", "isHere", "(IC)Z"⟩, 8) := ⟨⟨by decide +kernel, by decide +kernel⟩, List.mem_of_getElem? (i := 233) (by decide +kernel), List.mem_of_getElem? (i := 1231) (by decide +kernel), List.mem_of_getElem? (i := 1232) (by decide +kernel)⟩
theorem lw_p26 : lw_okq (⟨"TrailGuide$Program", "parsePart", "(C)Z"⟩, 8) := ⟨⟨by decide +kernel, by decide +kernel⟩, List.mem_of_getElem? (i := 233) (by decide +kernel), List.mem_of_getElem? (i := 1235) (by decide +kernel), List.mem_of_getElem? (i := 1236) (by decide +kernel)⟩
theorem lw_p27 : lw_okq (⟨"TrailGuide$Program", "parseNumber", "(I)Z"⟩, 8) := ⟨⟨by decide +kernel, by decide +kernel⟩, List.mem_of_getElem? (i := 233) (by decide +kernel), List.mem_of_getElem? (i := 1239) (by decide +kernel), List.mem_of_getElem? (i := 1240) (by decide +kernel)⟩
theorem lw_p28 : lw_okq (⟨"TrailGuide$Program", "digitHere", "()I"⟩, 8) := ⟨⟨by decide +kernel, by decide +kernel⟩, List.mem_of_getElem? (i := 233) (by decide +kernel), List.mem_of_getElem? (i := 1243) (by decide +kernel), List.mem_of_getElem? (i := 1244) (by decide +kernel)⟩
theorem lw_p29 : lw_okq (⟨"TrailGuide$Program", "addValue", "(I)V"⟩, 8) := ⟨⟨by decide +kernel, by decide +kernel⟩, List.mem_of_getElem? (i := 233) (by decide +kernel), List.mem_of_getElem? (i := 1247) (by decide +kernel), List.mem_of_getElem? (i := 1248) (by decide +kernel)⟩
theorem lw_p30 : lw_okq (⟨"TrailGuide$Program", "parseMode", "()Z"⟩, 8) := ⟨⟨by decide +kernel, by decide +kernel⟩, List.mem_of_getElem? (i := 233) (by decide +kernel), List.mem_of_getElem? (i := 1252) (by decide +kernel), List.mem_of_getElem? (i := 1253) (by decide +kernel)⟩
theorem lw_p31 : lw_okq (⟨"TrailGuide$Program", "parseSign", "(C)Z"⟩, 8) := ⟨⟨by decide +kernel, by decide +kernel⟩, List.mem_of_getElem? (i := 233) (by decide +kernel), List.mem_of_getElem? (i := 1256) (by decide +kernel), List.mem_of_getElem? (i := 1257) (by decide +kernel)⟩
def lw_privs_2 : List (MethodName × Nat) := [(⟨"TrailGuide$Guide", "setAlarm", "(Z)V"⟩, 3), (⟨"TrailGuide$Guide", "endTour", "()I"⟩, 3), (⟨"TrailGuide", "requireWaypoint", "(I)V"⟩, 9), (⟨"TrailGuide", "requireTour", "()V"⟩, 9), (⟨"TrailGuide", "requireRouteIndex", "(I)V"⟩, 9), (⟨"TrailGuide$Program", "parseCommand", "()Z"⟩, 8), (⟨"TrailGuide$Program", "clearValues", "()V"⟩, 8), (⟨"TrailGuide$Program", "parseOpening", "()I"⟩, 8), (⟨"TrailGuide$Program", "commonLength", "(Ljava/lang/String;I)I"⟩, 8), (⟨"TrailGuide$Program", "isHere", "(IC)Z"⟩, 8), (⟨"TrailGuide$Program", "parsePart", "(C)Z"⟩, 8), (⟨"TrailGuide$Program", "parseNumber", "(I)Z"⟩, 8), (⟨"TrailGuide$Program", "digitHere", "()I"⟩, 8), (⟨"TrailGuide$Program", "addValue", "(I)V"⟩, 8), (⟨"TrailGuide$Program", "parseMode", "()Z"⟩, 8), (⟨"TrailGuide$Program", "parseSign", "(C)Z"⟩, 8)]
theorem lw_r2 : ∀ q ∈ lw_privs_2, lw_okq q := List.forall_mem_cons.mpr ⟨lw_p16, List.forall_mem_cons.mpr ⟨lw_p17, List.forall_mem_cons.mpr ⟨lw_p18, List.forall_mem_cons.mpr ⟨lw_p19, List.forall_mem_cons.mpr ⟨lw_p20, List.forall_mem_cons.mpr ⟨lw_p21, List.forall_mem_cons.mpr ⟨lw_p22, List.forall_mem_cons.mpr ⟨lw_p23, List.forall_mem_cons.mpr ⟨lw_p24, List.forall_mem_cons.mpr ⟨lw_p25, List.forall_mem_cons.mpr ⟨lw_p26, List.forall_mem_cons.mpr ⟨lw_p27, List.forall_mem_cons.mpr ⟨lw_p28, List.forall_mem_cons.mpr ⟨lw_p29, List.forall_mem_cons.mpr ⟨lw_p30, List.forall_mem_cons.mpr ⟨lw_p31, fun _ h => absurd h List.not_mem_nil⟩⟩⟩⟩⟩⟩⟩⟩⟩⟩⟩⟩⟩⟩⟩⟩
theorem lw_p32 : lw_okq (⟨"TrailGuide$Program", "store", "(I)V"⟩, 8) := ⟨⟨by decide +kernel, by decide +kernel⟩, List.mem_of_getElem? (i := 233) (by decide +kernel), List.mem_of_getElem? (i := 1260) (by decide +kernel), List.mem_of_getElem? (i := 1261) (by decide +kernel)⟩
theorem lw_p33 : lw_okq (⟨"TrailGuide", "firstFailure", "()I"⟩, 9) := ⟨⟨by decide +kernel, by decide +kernel⟩, List.mem_of_getElem? (i := 29) (by decide +kernel), List.mem_of_getElem? (i := 1269) (by decide +kernel), List.mem_of_getElem? (i := 1270) (by decide +kernel)⟩
theorem lw_p34 : lw_okq (⟨"TrailGuideModel", "keeps", "()V"⟩, 18) := ⟨⟨by decide +kernel, by decide +kernel⟩, List.mem_of_getElem? (i := 1322) (by decide +kernel), List.mem_of_getElem? (i := 1391) (by decide +kernel), List.mem_of_getElem? (i := 1392) (by decide +kernel)⟩
theorem lw_p35 : lw_okq (⟨"TrailGuideModel", "points", "(III)I"⟩, 18) := ⟨⟨by decide +kernel, by decide +kernel⟩, List.mem_of_getElem? (i := 1322) (by decide +kernel), List.mem_of_getElem? (i := 1398) (by decide +kernel), List.mem_of_getElem? (i := 1399) (by decide +kernel)⟩
theorem lw_p36 : lw_okq (⟨"TrailGuideModel", "isThrown", "(ZI)Z"⟩, 18) := ⟨⟨by decide +kernel, by decide +kernel⟩, List.mem_of_getElem? (i := 1322) (by decide +kernel), List.mem_of_getElem? (i := 1408) (by decide +kernel), List.mem_of_getElem? (i := 1409) (by decide +kernel)⟩
theorem lw_p37 : lw_okq (⟨"TrailGuideModel", "ends", "(I)I"⟩, 18) := ⟨⟨by decide +kernel, by decide +kernel⟩, List.mem_of_getElem? (i := 1322) (by decide +kernel), List.mem_of_getElem? (i := 1412) (by decide +kernel), List.mem_of_getElem? (i := 1413) (by decide +kernel)⟩
theorem lw_p38 : lw_okq (⟨"TrailGuideModel", "joins", "(III)I"⟩, 18) := ⟨⟨by decide +kernel, by decide +kernel⟩, List.mem_of_getElem? (i := 1322) (by decide +kernel), List.mem_of_getElem? (i := 1420) (by decide +kernel), List.mem_of_getElem? (i := 1421) (by decide +kernel)⟩
theorem lw_p39 : lw_okq (⟨"TrailGuideModel", "isPoint", "(I)Z"⟩, 18) := ⟨⟨by decide +kernel, by decide +kernel⟩, List.mem_of_getElem? (i := 1322) (by decide +kernel), List.mem_of_getElem? (i := 1424) (by decide +kernel), List.mem_of_getElem? (i := 1425) (by decide +kernel)⟩
theorem lw_p40 : lw_okq (⟨"TrailGuideModel", "trail", "(II)I"⟩, 18) := ⟨⟨by decide +kernel, by decide +kernel⟩, List.mem_of_getElem? (i := 1322) (by decide +kernel), List.mem_of_getElem? (i := 1428) (by decide +kernel), List.mem_of_getElem? (i := 1429) (by decide +kernel)⟩
theorem lw_p41 : lw_okq (⟨"TrailGuideModel", "setsTrail", "(III)V"⟩, 18) := ⟨⟨by decide +kernel, by decide +kernel⟩, List.mem_of_getElem? (i := 1322) (by decide +kernel), List.mem_of_getElem? (i := 1432) (by decide +kernel), List.mem_of_getElem? (i := 1433) (by decide +kernel)⟩
theorem lw_p42 : lw_okq (⟨"TrailGuideModel", "manyTrails", "()I"⟩, 18) := ⟨⟨by decide +kernel, by decide +kernel⟩, List.mem_of_getElem? (i := 1322) (by decide +kernel), List.mem_of_getElem? (i := 1436) (by decide +kernel), List.mem_of_getElem? (i := 1437) (by decide +kernel)⟩
theorem lw_p43 : lw_okq (⟨"TrailGuideModel", "cuts", "(II)I"⟩, 18) := ⟨⟨by decide +kernel, by decide +kernel⟩, List.mem_of_getElem? (i := 1322) (by decide +kernel), List.mem_of_getElem? (i := 1444) (by decide +kernel), List.mem_of_getElem? (i := 1445) (by decide +kernel)⟩
theorem lw_p44 : lw_okq (⟨"TrailGuideModel", "tours", "(II)I"⟩, 18) := ⟨⟨by decide +kernel, by decide +kernel⟩, List.mem_of_getElem? (i := 1322) (by decide +kernel), List.mem_of_getElem? (i := 1452) (by decide +kernel), List.mem_of_getElem? (i := 1453) (by decide +kernel)⟩
theorem lw_p45 : lw_okq (⟨"TrailGuideModel", "isOnTour", "()Z"⟩, 18) := ⟨⟨by decide +kernel, by decide +kernel⟩, List.mem_of_getElem? (i := 1322) (by decide +kernel), List.mem_of_getElem? (i := 1456) (by decide +kernel), List.mem_of_getElem? (i := 1457) (by decide +kernel)⟩
theorem lw_p46 : lw_okq (⟨"TrailGuideModel", "finds", "(I)V"⟩, 18) := ⟨⟨by decide +kernel, by decide +kernel⟩, List.mem_of_getElem? (i := 1322) (by decide +kernel), List.mem_of_getElem? (i := 1460) (by decide +kernel), List.mem_of_getElem? (i := 1461) (by decide +kernel)⟩
theorem lw_p47 : lw_okq (⟨"TrailGuideModel", "following", "(I)I"⟩, 18) := ⟨⟨by decide +kernel, by decide +kernel⟩, List.mem_of_getElem? (i := 1322) (by decide +kernel), List.mem_of_getElem? (i := 1465) (by decide +kernel), List.mem_of_getElem? (i := 1466) (by decide +kernel)⟩
def lw_privs_3 : List (MethodName × Nat) := [(⟨"TrailGuide$Program", "store", "(I)V"⟩, 8), (⟨"TrailGuide", "firstFailure", "()I"⟩, 9), (⟨"TrailGuideModel", "keeps", "()V"⟩, 18), (⟨"TrailGuideModel", "points", "(III)I"⟩, 18), (⟨"TrailGuideModel", "isThrown", "(ZI)Z"⟩, 18), (⟨"TrailGuideModel", "ends", "(I)I"⟩, 18), (⟨"TrailGuideModel", "joins", "(III)I"⟩, 18), (⟨"TrailGuideModel", "isPoint", "(I)Z"⟩, 18), (⟨"TrailGuideModel", "trail", "(II)I"⟩, 18), (⟨"TrailGuideModel", "setsTrail", "(III)V"⟩, 18), (⟨"TrailGuideModel", "manyTrails", "()I"⟩, 18), (⟨"TrailGuideModel", "cuts", "(II)I"⟩, 18), (⟨"TrailGuideModel", "tours", "(II)I"⟩, 18), (⟨"TrailGuideModel", "isOnTour", "()Z"⟩, 18), (⟨"TrailGuideModel", "finds", "(I)V"⟩, 18), (⟨"TrailGuideModel", "following", "(I)I"⟩, 18)]
theorem lw_r3 : ∀ q ∈ lw_privs_3, lw_okq q := List.forall_mem_cons.mpr ⟨lw_p32, List.forall_mem_cons.mpr ⟨lw_p33, List.forall_mem_cons.mpr ⟨lw_p34, List.forall_mem_cons.mpr ⟨lw_p35, List.forall_mem_cons.mpr ⟨lw_p36, List.forall_mem_cons.mpr ⟨lw_p37, List.forall_mem_cons.mpr ⟨lw_p38, List.forall_mem_cons.mpr ⟨lw_p39, List.forall_mem_cons.mpr ⟨lw_p40, List.forall_mem_cons.mpr ⟨lw_p41, List.forall_mem_cons.mpr ⟨lw_p42, List.forall_mem_cons.mpr ⟨lw_p43, List.forall_mem_cons.mpr ⟨lw_p44, List.forall_mem_cons.mpr ⟨lw_p45, List.forall_mem_cons.mpr ⟨lw_p46, List.forall_mem_cons.mpr ⟨lw_p47, fun _ h => absurd h List.not_mem_nil⟩⟩⟩⟩⟩⟩⟩⟩⟩⟩⟩⟩⟩⟩⟩⟩
theorem lw_p48 : lw_okq (⟨"TrailGuideModel", "of", "(II)I"⟩, 18) := ⟨⟨by decide +kernel, by decide +kernel⟩, List.mem_of_getElem? (i := 1322) (by decide +kernel), List.mem_of_getElem? (i := 1469) (by decide +kernel), List.mem_of_getElem? (i := 1470) (by decide +kernel)⟩
theorem lw_p49 : lw_okq (⟨"TrailGuideModel", "stops", "()I"⟩, 18) := ⟨⟨by decide +kernel, by decide +kernel⟩, List.mem_of_getElem? (i := 1322) (by decide +kernel), List.mem_of_getElem? (i := 1477) (by decide +kernel), List.mem_of_getElem? (i := 1478) (by decide +kernel)⟩
theorem lw_p50 : lw_okq (⟨"TrailGuideModel", "over", "()V"⟩, 18) := ⟨⟨by decide +kernel, by decide +kernel⟩, List.mem_of_getElem? (i := 1322) (by decide +kernel), List.mem_of_getElem? (i := 1481) (by decide +kernel), List.mem_of_getElem? (i := 1482) (by decide +kernel)⟩
theorem lw_p51 : lw_okq (⟨"TrailGuideModel", "updated", "(II)I"⟩, 18) := ⟨⟨by decide +kernel, by decide +kernel⟩, List.mem_of_getElem? (i := 1322) (by decide +kernel), List.mem_of_getElem? (i := 1489) (by decide +kernel), List.mem_of_getElem? (i := 1490) (by decide +kernel)⟩
theorem lw_p52 : lw_okq (⟨"TrailGuideModel", "drains", "(I)V"⟩, 18) := ⟨⟨by decide +kernel, by decide +kernel⟩, List.mem_of_getElem? (i := 1322) (by decide +kernel), List.mem_of_getElem? (i := 1496) (by decide +kernel), List.mem_of_getElem? (i := 1497) (by decide +kernel)⟩
theorem lw_p53 : lw_okq (⟨"TrailGuideModel", "reaches", "(II)Z"⟩, 18) := ⟨⟨by decide +kernel, by decide +kernel⟩, List.mem_of_getElem? (i := 1322) (by decide +kernel), List.mem_of_getElem? (i := 1500) (by decide +kernel), List.mem_of_getElem? (i := 1501) (by decide +kernel)⟩
theorem lw_p54 : lw_okq (⟨"TrailGuideModel", "aim", "()I"⟩, 18) := ⟨⟨by decide +kernel, by decide +kernel⟩, List.mem_of_getElem? (i := 1322) (by decide +kernel), List.mem_of_getElem? (i := 1504) (by decide +kernel), List.mem_of_getElem? (i := 1505) (by decide +kernel)⟩
theorem lw_p55 : lw_okq (⟨"TrailGuideModel", "watches", "()V"⟩, 18) := ⟨⟨by decide +kernel, by decide +kernel⟩, List.mem_of_getElem? (i := 1322) (by decide +kernel), List.mem_of_getElem? (i := 1511) (by decide +kernel), List.mem_of_getElem? (i := 1512) (by decide +kernel)⟩
theorem lw_p56 : lw_okq (⟨"TrailGuideModel", "isWithin", "(III)Z"⟩, 18) := ⟨⟨by decide +kernel, by decide +kernel⟩, List.mem_of_getElem? (i := 1322) (by decide +kernel), List.mem_of_getElem? (i := 1515) (by decide +kernel), List.mem_of_getElem? (i := 1516) (by decide +kernel)⟩
theorem lw_p57 : lw_okq (⟨"TrailGuideModel", "compared", "(III)I"⟩, 18) := ⟨⟨by decide +kernel, by decide +kernel⟩, List.mem_of_getElem? (i := 1322) (by decide +kernel), List.mem_of_getElem? (i := 1519) (by decide +kernel), List.mem_of_getElem? (i := 1520) (by decide +kernel)⟩
theorem lw_p58 : lw_okq (⟨"TrailGuideModel", "tells", "(IIII)I"⟩, 18) := ⟨⟨by decide +kernel, by decide +kernel⟩, List.mem_of_getElem? (i := 1322) (by decide +kernel), List.mem_of_getElem? (i := 1527) (by decide +kernel), List.mem_of_getElem? (i := 1528) (by decide +kernel)⟩
theorem lw_p59 : lw_okq (⟨"TrailGuideModel", "charges", "(I)I"⟩, 18) := ⟨⟨by decide +kernel, by decide +kernel⟩, List.mem_of_getElem? (i := 1322) (by decide +kernel), List.mem_of_getElem? (i := 1539) (by decide +kernel), List.mem_of_getElem? (i := 1540) (by decide +kernel)⟩
theorem lw_p60 : lw_okq (⟨"TrailGuideModel", "ofPoint", "(II)I"⟩, 18) := ⟨⟨by decide +kernel, by decide +kernel⟩, List.mem_of_getElem? (i := 1322) (by decide +kernel), List.mem_of_getElem? (i := 1551) (by decide +kernel), List.mem_of_getElem? (i := 1552) (by decide +kernel)⟩
theorem lw_p61 : lw_okq (⟨"TrailGuideModel", "away", "(III)I"⟩, 18) := ⟨⟨by decide +kernel, by decide +kernel⟩, List.mem_of_getElem? (i := 1322) (by decide +kernel), List.mem_of_getElem? (i := 1597) (by decide +kernel), List.mem_of_getElem? (i := 1598) (by decide +kernel)⟩
theorem lw_p62 : lw_okq (⟨"TrailGuideModel", "ofTour", "(I)I"⟩, 18) := ⟨⟨by decide +kernel, by decide +kernel⟩, List.mem_of_getElem? (i := 1322) (by decide +kernel), List.mem_of_getElem? (i := 1609) (by decide +kernel), List.mem_of_getElem? (i := 1610) (by decide +kernel)⟩
theorem lw_p63 : lw_okq (⟨"TrailGuideModel", "isNoIndex", "(I)Z"⟩, 18) := ⟨⟨by decide +kernel, by decide +kernel⟩, List.mem_of_getElem? (i := 1322) (by decide +kernel), List.mem_of_getElem? (i := 1617) (by decide +kernel), List.mem_of_getElem? (i := 1618) (by decide +kernel)⟩
def lw_privs_4 : List (MethodName × Nat) := [(⟨"TrailGuideModel", "of", "(II)I"⟩, 18), (⟨"TrailGuideModel", "stops", "()I"⟩, 18), (⟨"TrailGuideModel", "over", "()V"⟩, 18), (⟨"TrailGuideModel", "updated", "(II)I"⟩, 18), (⟨"TrailGuideModel", "drains", "(I)V"⟩, 18), (⟨"TrailGuideModel", "reaches", "(II)Z"⟩, 18), (⟨"TrailGuideModel", "aim", "()I"⟩, 18), (⟨"TrailGuideModel", "watches", "()V"⟩, 18), (⟨"TrailGuideModel", "isWithin", "(III)Z"⟩, 18), (⟨"TrailGuideModel", "compared", "(III)I"⟩, 18), (⟨"TrailGuideModel", "tells", "(IIII)I"⟩, 18), (⟨"TrailGuideModel", "charges", "(I)I"⟩, 18), (⟨"TrailGuideModel", "ofPoint", "(II)I"⟩, 18), (⟨"TrailGuideModel", "away", "(III)I"⟩, 18), (⟨"TrailGuideModel", "ofTour", "(I)I"⟩, 18), (⟨"TrailGuideModel", "isNoIndex", "(I)Z"⟩, 18)]
theorem lw_r4 : ∀ q ∈ lw_privs_4, lw_okq q := List.forall_mem_cons.mpr ⟨lw_p48, List.forall_mem_cons.mpr ⟨lw_p49, List.forall_mem_cons.mpr ⟨lw_p50, List.forall_mem_cons.mpr ⟨lw_p51, List.forall_mem_cons.mpr ⟨lw_p52, List.forall_mem_cons.mpr ⟨lw_p53, List.forall_mem_cons.mpr ⟨lw_p54, List.forall_mem_cons.mpr ⟨lw_p55, List.forall_mem_cons.mpr ⟨lw_p56, List.forall_mem_cons.mpr ⟨lw_p57, List.forall_mem_cons.mpr ⟨lw_p58, List.forall_mem_cons.mpr ⟨lw_p59, List.forall_mem_cons.mpr ⟨lw_p60, List.forall_mem_cons.mpr ⟨lw_p61, List.forall_mem_cons.mpr ⟨lw_p62, List.forall_mem_cons.mpr ⟨lw_p63, fun _ h => absurd h List.not_mem_nil⟩⟩⟩⟩⟩⟩⟩⟩⟩⟩⟩⟩⟩⟩⟩⟩
theorem lw_p64 : lw_okq (⟨"TrailGuideModel", "turnAt", "(I)I"⟩, 18) := ⟨⟨by decide +kernel, by decide +kernel⟩, List.mem_of_getElem? (i := 1322) (by decide +kernel), List.mem_of_getElem? (i := 1625) (by decide +kernel), List.mem_of_getElem? (i := 1626) (by decide +kernel)⟩
theorem lw_p65 : lw_okq (⟨"TrailGuideModel", "isBeyond", "(III)Z"⟩, 18) := ⟨⟨by decide +kernel, by decide +kernel⟩, List.mem_of_getElem? (i := 1322) (by decide +kernel), List.mem_of_getElem? (i := 1645) (by decide +kernel), List.mem_of_getElem? (i := 1646) (by decide +kernel)⟩
theorem lw_p66 : lw_okq (⟨"TrailGuideModel", "puts", "(I)V"⟩, 18) := ⟨⟨by decide +kernel, by decide +kernel⟩, List.mem_of_getElem? (i := 1322) (by decide +kernel), List.mem_of_getElem? (i := 1706) (by decide +kernel), List.mem_of_getElem? (i := 1707) (by decide +kernel)⟩
theorem lw_p67 : lw_okq (⟨"TrailGuideModel", "number", "(I)V"⟩, 18) := ⟨⟨by decide +kernel, by decide +kernel⟩, List.mem_of_getElem? (i := 1322) (by decide +kernel), List.mem_of_getElem? (i := 1710) (by decide +kernel), List.mem_of_getElem? (i := 1711) (by decide +kernel)⟩
theorem lw_p68 : lw_okq (⟨"TrailGuideModel", "isProgram", "()Z"⟩, 18) := ⟨⟨by decide +kernel, by decide +kernel⟩, List.mem_of_getElem? (i := 1322) (by decide +kernel), List.mem_of_getElem? (i := 1730) (by decide +kernel), List.mem_of_getElem? (i := 1731) (by decide +kernel)⟩
theorem lw_p69 : lw_okq (⟨"TrailGuideModel", "readsCommand", "()Z"⟩, 18) := ⟨⟨by decide +kernel, by decide +kernel⟩, List.mem_of_getElem? (i := 1322) (by decide +kernel), List.mem_of_getElem? (i := 1734) (by decide +kernel), List.mem_of_getElem? (i := 1735) (by decide +kernel)⟩
theorem lw_p70 : lw_okq (⟨"TrailGuideModel", "sign", "()I"⟩, 18) := ⟨⟨by decide +kernel, by decide +kernel⟩, List.mem_of_getElem? (i := 1322) (by decide +kernel), List.mem_of_getElem? (i := 1738) (by decide +kernel), List.mem_of_getElem? (i := 1739) (by decide +kernel)⟩
theorem lw_p71 : lw_okq (⟨"TrailGuideModel", "readsRest", "(II)Z"⟩, 18) := ⟨⟨by decide +kernel, by decide +kernel⟩, List.mem_of_getElem? (i := 1322) (by decide +kernel), List.mem_of_getElem? (i := 1745) (by decide +kernel), List.mem_of_getElem? (i := 1746) (by decide +kernel)⟩
theorem lw_p72 : lw_okq (⟨"TrailGuideModel", "isWord", "(Ljava/lang/String;)Z"⟩, 18) := ⟨⟨by decide +kernel, by decide +kernel⟩, List.mem_of_getElem? (i := 1322) (by decide +kernel), List.mem_of_getElem? (i := 1750) (by decide +kernel), List.mem_of_getElem? (i := 1751) (by decide +kernel)⟩
theorem lw_p73 : lw_okq (⟨"TrailGuideModel", "isSign", "(I)Z"⟩, 18) := ⟨⟨by decide +kernel, by decide +kernel⟩, List.mem_of_getElem? (i := 1322) (by decide +kernel), List.mem_of_getElem? (i := 1756) (by decide +kernel), List.mem_of_getElem? (i := 1757) (by decide +kernel)⟩
theorem lw_p74 : lw_okq (⟨"TrailGuideModel", "isPair", "(II)Z"⟩, 18) := ⟨⟨by decide +kernel, by decide +kernel⟩, List.mem_of_getElem? (i := 1322) (by decide +kernel), List.mem_of_getElem? (i := 1760) (by decide +kernel), List.mem_of_getElem? (i := 1761) (by decide +kernel)⟩
theorem lw_p75 : lw_okq (⟨"TrailGuideModel", "isNumber", "(II)Z"⟩, 18) := ⟨⟨by decide +kernel, by decide +kernel⟩, List.mem_of_getElem? (i := 1322) (by decide +kernel), List.mem_of_getElem? (i := 1764) (by decide +kernel), List.mem_of_getElem? (i := 1765) (by decide +kernel)⟩
theorem lw_p76 : lw_okq (⟨"TrailGuideModel", "readsT", "(I)Z"⟩, 18) := ⟨⟨by decide +kernel, by decide +kernel⟩, List.mem_of_getElem? (i := 1322) (by decide +kernel), List.mem_of_getElem? (i := 1768) (by decide +kernel), List.mem_of_getElem? (i := 1769) (by decide +kernel)⟩
theorem lw_p77 : lw_okq (⟨"TrailGuideModel", "readsC", "(I)Z"⟩, 18) := ⟨⟨by decide +kernel, by decide +kernel⟩, List.mem_of_getElem? (i := 1322) (by decide +kernel), List.mem_of_getElem? (i := 1774) (by decide +kernel), List.mem_of_getElem? (i := 1775) (by decide +kernel)⟩
theorem lw_p78 : lw_okq (⟨"TrailGuideModel", "readsM", "(I)Z"⟩, 18) := ⟨⟨by decide +kernel, by decide +kernel⟩, List.mem_of_getElem? (i := 1322) (by decide +kernel), List.mem_of_getElem? (i := 1780) (by decide +kernel), List.mem_of_getElem? (i := 1781) (by decide +kernel)⟩
theorem lw_p79 : lw_okq (⟨"TrailGuideModel", "isMode", "(I)Z"⟩, 18) := ⟨⟨by decide +kernel, by decide +kernel⟩, List.mem_of_getElem? (i := 1322) (by decide +kernel), List.mem_of_getElem? (i := 1785) (by decide +kernel), List.mem_of_getElem? (i := 1786) (by decide +kernel)⟩
def lw_privs_5 : List (MethodName × Nat) := [(⟨"TrailGuideModel", "turnAt", "(I)I"⟩, 18), (⟨"TrailGuideModel", "isBeyond", "(III)Z"⟩, 18), (⟨"TrailGuideModel", "puts", "(I)V"⟩, 18), (⟨"TrailGuideModel", "number", "(I)V"⟩, 18), (⟨"TrailGuideModel", "isProgram", "()Z"⟩, 18), (⟨"TrailGuideModel", "readsCommand", "()Z"⟩, 18), (⟨"TrailGuideModel", "sign", "()I"⟩, 18), (⟨"TrailGuideModel", "readsRest", "(II)Z"⟩, 18), (⟨"TrailGuideModel", "isWord", "(Ljava/lang/String;)Z"⟩, 18), (⟨"TrailGuideModel", "isSign", "(I)Z"⟩, 18), (⟨"TrailGuideModel", "isPair", "(II)Z"⟩, 18), (⟨"TrailGuideModel", "isNumber", "(II)Z"⟩, 18), (⟨"TrailGuideModel", "readsT", "(I)Z"⟩, 18), (⟨"TrailGuideModel", "readsC", "(I)Z"⟩, 18), (⟨"TrailGuideModel", "readsM", "(I)Z"⟩, 18), (⟨"TrailGuideModel", "isMode", "(I)Z"⟩, 18)]
theorem lw_r5 : ∀ q ∈ lw_privs_5, lw_okq q := List.forall_mem_cons.mpr ⟨lw_p64, List.forall_mem_cons.mpr ⟨lw_p65, List.forall_mem_cons.mpr ⟨lw_p66, List.forall_mem_cons.mpr ⟨lw_p67, List.forall_mem_cons.mpr ⟨lw_p68, List.forall_mem_cons.mpr ⟨lw_p69, List.forall_mem_cons.mpr ⟨lw_p70, List.forall_mem_cons.mpr ⟨lw_p71, List.forall_mem_cons.mpr ⟨lw_p72, List.forall_mem_cons.mpr ⟨lw_p73, List.forall_mem_cons.mpr ⟨lw_p74, List.forall_mem_cons.mpr ⟨lw_p75, List.forall_mem_cons.mpr ⟨lw_p76, List.forall_mem_cons.mpr ⟨lw_p77, List.forall_mem_cons.mpr ⟨lw_p78, List.forall_mem_cons.mpr ⟨lw_p79, fun _ h => absurd h List.not_mem_nil⟩⟩⟩⟩⟩⟩⟩⟩⟩⟩⟩⟩⟩⟩⟩⟩
theorem lw_p80 : lw_okq (⟨"TrailGuideModel", "does", "(I)I"⟩, 18) := ⟨⟨by decide +kernel, by decide +kernel⟩, List.mem_of_getElem? (i := 1322) (by decide +kernel), List.mem_of_getElem? (i := 1793) (by decide +kernel), List.mem_of_getElem? (i := 1794) (by decide +kernel)⟩
def lw_privs_6 : List (MethodName × Nat) := [(⟨"TrailGuideModel", "does", "(I)I"⟩, 18)]
theorem lw_r6 : ∀ q ∈ lw_privs_6, lw_okq q := List.forall_mem_cons.mpr ⟨lw_p80, fun _ h => absurd h List.not_mem_nil⟩
def lw_privs : List (MethodName × Nat) := lw_privs_1 ++ (lw_privs_2 ++ (lw_privs_3 ++ (lw_privs_4 ++ (lw_privs_5 ++ (lw_privs_6)))))
def lw_tbl : List Cond := k2_sels lw_privs ++ tables_1
theorem lw_privs_ok : ∀ q ∈ lw_privs, lw_okq q := by
  show ∀ q ∈ lw_privs_1 ++ (lw_privs_2 ++ (lw_privs_3 ++ (lw_privs_4 ++ (lw_privs_5 ++ (lw_privs_6))))), lw_okq q
  exact List.forall_mem_append.mpr ⟨lw_r1, List.forall_mem_append.mpr ⟨lw_r2, List.forall_mem_append.mpr ⟨lw_r3, List.forall_mem_append.mpr ⟨lw_r4, List.forall_mem_append.mpr ⟨lw_r5, lw_r6⟩⟩⟩⟩⟩
/-- the streams that the claim lets the run draw from -/
abbrev lw_cs : List Choice := [Jvm.Choice.named "NaN.bits"]
theorem lw_bits : nanBits ∈ lw_cs := by first | decide | exact List.mem_cons_self | simp [lw_cs, nanBits]
def RX0 : String := "TrailGuide$Drift"
def TX0 : u_T := fun k => match k with
  | 0 => ("TrailGuide$Drift", "numerator", "J", false)
  | _ => ("TrailGuide$Drift", "denominator", "J", false)
def tyX0 : Nat → FieldType := fun k => match k with
  | 0 => .long
  | _ => .long
abbrev wsX00 : List Cond := u_ws RX0 TX0 2
theorem nmX0 : ∀ a, a < 2 → ∀ b, b < 2 → a ≠ b → (TX0 a).2.1 ≠ (TX0 b).2.1 := by decide +kernel
theorem tyX0_ok : ∀ k, k < 2 → parseFieldDescriptor (TX0 k).2.2.1 = some (tyX0 k) := by decide +kernel
abbrev cX0_init : ByteArray := prog_2_method_1_code
def yX0_init : MethodName := ⟨RX0, "<init>", "()V"⟩
abbrev cX0_measure : ByteArray := prog_2_method_2_code
def yX0_measure : MethodName := ⟨RX0, "measure", "(IIII)V"⟩
abbrev cX0_isAbove : ByteArray := prog_2_method_3_code
def yX0_isAbove : MethodName := ⟨RX0, "isAbove", "(I)Z"⟩
abbrev cX0_roundedDown : ByteArray := prog_2_method_4_code
def yX0_roundedDown : MethodName := ⟨RX0, "roundedDown", "()I"⟩
def RX1 : String := "TrailGuide$Guide"
def TX1 : u_T := fun k => match k with
  | 0 => ("TrailGuide$Guide", "state", "LTrailGuide$State;", true)
  | 1 => ("TrailGuide$Guide", "paths", "LTrailGuide$Paths;", true)
  | _ => ("TrailGuide$Guide", "drift", "LTrailGuide$Drift;", true)
def tyX1 : Nat → FieldType := fun k => match k with
  | 0 => .object "TrailGuide$State"
  | 1 => .object "TrailGuide$Paths"
  | _ => .object "TrailGuide$Drift"
abbrev wsX10 : List Cond := u_ws RX1 TX1 3
theorem nmX1 : ∀ a, a < 3 → ∀ b, b < 3 → a ≠ b → (TX1 a).2.1 ≠ (TX1 b).2.1 := by decide +kernel
theorem tyX1_ok : ∀ k, k < 3 → parseFieldDescriptor (TX1 k).2.2.1 = some (tyX1 k) := by decide +kernel
abbrev cX1_init : ByteArray := prog_3_method_1_code
def yX1_init : MethodName := ⟨RX1, "<init>", "()V"⟩
abbrev cX1_faultOf : ByteArray := prog_3_method_2_code
def yX1_faultOf : MethodName := ⟨RX1, "faultOf", "(IIII)I"⟩
abbrev cX1_faultOfPoint : ByteArray := prog_3_method_3_code
def yX1_faultOfPoint : MethodName := ⟨RX1, "faultOfPoint", "(III)I"⟩
abbrev cX1_faultOfTrail : ByteArray := prog_3_method_4_code
def yX1_faultOfTrail : MethodName := ⟨RX1, "faultOfTrail", "(III)I"⟩
abbrev cX1_faultOfCut : ByteArray := prog_3_method_5_code
def yX1_faultOfCut : MethodName := ⟨RX1, "faultOfCut", "(II)I"⟩
abbrev cX1_faultOfTour : ByteArray := prog_3_method_6_code
def yX1_faultOfTour : MethodName := ⟨RX1, "faultOfTour", "(II)I"⟩
abbrev cX1_faultOfMove : ByteArray := prog_3_method_7_code
def yX1_faultOfMove : MethodName := ⟨RX1, "faultOfMove", "(II)I"⟩
abbrev cX1_perform : ByteArray := prog_3_method_8_code
def yX1_perform : MethodName := ⟨RX1, "perform", "(IIII)I"⟩
abbrev cX1_beginTour : ByteArray := prog_3_method_9_code
def yX1_beginTour : MethodName := ⟨RX1, "beginTour", "(II)I"⟩
abbrev cX1_endTour : ByteArray := prog_3_method_10_code
def yX1_endTour : MethodName := ⟨RX1, "endTour", "()I"⟩
abbrev cX1_moveHiker : ByteArray := prog_3_method_11_code
def yX1_moveHiker : MethodName := ⟨RX1, "moveHiker", "(II)Z"⟩
abbrev cX1_setAlarm : ByteArray := prog_3_method_12_code
def yX1_setAlarm : MethodName := ⟨RX1, "setAlarm", "(Z)V"⟩
abbrev cX1_reachesTarget : ByteArray := prog_3_method_13_code
def yX1_reachesTarget : MethodName := ⟨RX1, "reachesTarget", "(II)Z"⟩
abbrev cX1_measureDrift : ByteArray := prog_3_method_14_code
def yX1_measureDrift : MethodName := ⟨RX1, "measureDrift", "(II)V"⟩
abbrev cX1_turnAt : ByteArray := prog_3_method_15_code
def yX1_turnAt : MethodName := ⟨RX1, "turnAt", "(I)C"⟩
def RX2 : String := "TrailGuide$History"
def TX2 : u_T := fun k => match k with
  | 0 => ("TrailGuide$History", "ring", "[LTrailGuide$State;", true)
  | 1 => ("TrailGuide$History", "next", "I", false)
  | _ => ("TrailGuide$History", "count", "I", false)
def tyX2 : Nat → FieldType := fun k => match k with
  | 0 => .array (.object "TrailGuide$State")
  | 1 => .int
  | _ => .int
abbrev wsX20 : List Cond := u_ws RX2 TX2 3
theorem nmX2 : ∀ a, a < 3 → ∀ b, b < 3 → a ≠ b → (TX2 a).2.1 ≠ (TX2 b).2.1 := by decide +kernel
theorem tyX2_ok : ∀ k, k < 3 → parseFieldDescriptor (TX2 k).2.2.1 = some (tyX2 k) := by decide +kernel
abbrev cX2_init : ByteArray := prog_4_method_1_code
def yX2_init : MethodName := ⟨RX2, "<init>", "()V"⟩
abbrev cX2_slotAt : ByteArray := prog_4_method_2_code
def yX2_slotAt : MethodName := ⟨RX2, "slotAt", "(I)LTrailGuide$State;"⟩
abbrev cX2_keep : ByteArray := prog_4_method_3_code
def yX2_keep : MethodName := ⟨RX2, "keep", "(LTrailGuide$State;)V"⟩
abbrev cX2_takeBack : ByteArray := prog_4_method_4_code
def yX2_takeBack : MethodName := ⟨RX2, "takeBack", "(LTrailGuide$State;)V"⟩
abbrev cX2_forget : ByteArray := prog_4_method_5_code
def yX2_forget : MethodName := ⟨RX2, "forget", "()V"⟩
def RX3 : String := "TrailGuide$Line"
def TX3 : u_T := fun k => match k with
  | 0 => ("TrailGuide$Line", "signs", "[C", true)
  | _ => ("TrailGuide$Line", "length", "I", false)
def tyX3 : Nat → FieldType := fun k => match k with
  | 0 => .array .char
  | _ => .int
abbrev wsX30 : List Cond := u_ws RX3 TX3 2
theorem nmX3 : ∀ a, a < 2 → ∀ b, b < 2 → a ≠ b → (TX3 a).2.1 ≠ (TX3 b).2.1 := by decide +kernel
theorem tyX3_ok : ∀ k, k < 2 → parseFieldDescriptor (TX3 k).2.2.1 = some (tyX3 k) := by decide +kernel
abbrev cX3_init : ByteArray := prog_5_method_1_code
def yX3_init : MethodName := ⟨RX3, "<init>", "()V"⟩
abbrev cX3_clear : ByteArray := prog_5_method_2_code
def yX3_clear : MethodName := ⟨RX3, "clear", "()V"⟩
abbrev cX3_putSign : ByteArray := prog_5_method_3_code
def yX3_putSign : MethodName := ⟨RX3, "putSign", "(C)V"⟩
abbrev cX3_putNumber : ByteArray := prog_5_method_4_code
def yX3_putNumber : MethodName := ⟨RX3, "putNumber", "(I)V"⟩
abbrev cX3_signAt : ByteArray := prog_5_method_5_code
def yX3_signAt : MethodName := ⟨RX3, "signAt", "(I)C"⟩
def RX4 : String := "TrailGuide$Meter"
def TX4 : u_T := fun k => match k with
  | 0 => ("TrailGuide$Meter", "battery", "I", false)
  | 1 => ("TrailGuide$Meter", "mode", "I", false)
  | 2 => ("TrailGuide$Meter", "tolerance", "I", false)
  | 3 => ("TrailGuide$Meter", "updates", "I", false)
  | 4 => ("TrailGuide$Meter", "alarms", "I", false)
  | _ => ("TrailGuide$Meter", "reached", "I", false)
def tyX4 : Nat → FieldType := fun k => match k with
  | 0 => .int
  | 1 => .int
  | 2 => .int
  | 3 => .int
  | 4 => .int
  | _ => .int
abbrev wsX40 : List Cond := u_ws RX4 TX4 6
theorem nmX4 : ∀ a, a < 6 → ∀ b, b < 6 → a ≠ b → (TX4 a).2.1 ≠ (TX4 b).2.1 := by decide +kernel
theorem tyX4_ok : ∀ k, k < 6 → parseFieldDescriptor (TX4 k).2.2.1 = some (tyX4 k) := by decide +kernel
abbrev cX4_init : ByteArray := prog_6_method_1_code
def yX4_init : MethodName := ⟨RX4, "<init>", "()V"⟩
abbrev cX4_takeFrom : ByteArray := prog_6_method_2_code
def yX4_takeFrom : MethodName := ⟨RX4, "takeFrom", "(LTrailGuide$Meter;)V"⟩
abbrev cX4_cost : ByteArray := prog_6_method_3_code
def yX4_cost : MethodName := ⟨RX4, "cost", "()I"⟩
abbrev cX4_spend : ByteArray := prog_6_method_4_code
def yX4_spend : MethodName := ⟨RX4, "spend", "(I)V"⟩
abbrev cX4_refill : ByteArray := prog_6_method_5_code
def yX4_refill : MethodName := ⟨RX4, "refill", "(I)I"⟩
abbrev cX4_exchangeMode : ByteArray := prog_6_method_6_code
def yX4_exchangeMode : MethodName := ⟨RX4, "exchangeMode", "(I)I"⟩
abbrev cX4_exchangeTolerance : ByteArray := prog_6_method_7_code
def yX4_exchangeTolerance : MethodName := ⟨RX4, "exchangeTolerance", "(I)I"⟩
abbrev cX4_leftByDivision : ByteArray := prog_6_method_8_code
def yX4_leftByDivision : MethodName := ⟨RX4, "leftByDivision", "()I"⟩
abbrev cX4_leftByCounting : ByteArray := prog_6_method_9_code
def yX4_leftByCounting : MethodName := ⟨RX4, "leftByCounting", "()I"⟩
def RX5 : String := "TrailGuide$Paths"
def TX5 : u_T := fun k => match k with
  | 0 => ("TrailGuide$Paths", "settledRow", "[I", true)
  | 1 => ("TrailGuide$Paths", "relaxedRow", "[I", true)
  | 2 => ("TrailGuide$Paths", "leaders", "[I", true)
  | _ => ("TrailGuide$Paths", "marks", "[Z", true)
def tyX5 : Nat → FieldType := fun k => match k with
  | 0 => .array .int
  | 1 => .array .int
  | 2 => .array .int
  | _ => .array .boolean
abbrev wsX50 : List Cond := u_ws RX5 TX5 4
theorem nmX5 : ∀ a, a < 4 → ∀ b, b < 4 → a ≠ b → (TX5 a).2.1 ≠ (TX5 b).2.1 := by decide +kernel
theorem tyX5_ok : ∀ k, k < 4 → parseFieldDescriptor (TX5 k).2.2.1 = some (tyX5 k) := by decide +kernel
abbrev cX5_init : ByteArray := prog_7_method_1_code
def yX5_init : MethodName := ⟨RX5, "<init>", "()V"⟩
abbrev cX5_settledDistance : ByteArray := prog_7_method_2_code
def yX5_settledDistance : MethodName := ⟨RX5, "settledDistance", "(I)I"⟩
abbrev cX5_relaxedDistance : ByteArray := prog_7_method_3_code
def yX5_relaxedDistance : MethodName := ⟨RX5, "relaxedDistance", "(I)I"⟩
abbrev cX5_clearMarks : ByteArray := prog_7_method_4_code
def yX5_clearMarks : MethodName := ⟨RX5, "clearMarks", "()V"⟩
abbrev cX5_startRow : ByteArray := prog_7_method_5_code
def yX5_startRow : MethodName := ⟨RX5, "startRow", "([II)V"⟩
abbrev cX5_settleFrom : ByteArray := prog_7_method_6_code
def yX5_settleFrom : MethodName := ⟨RX5, "settleFrom", "(LTrailGuide$TrailMap;I)V"⟩
abbrev cX5_closestUnmarked : ByteArray := prog_7_method_7_code
def yX5_closestUnmarked : MethodName := ⟨RX5, "closestUnmarked", "()I"⟩
abbrev cX5_shorten : ByteArray := prog_7_method_8_code
def yX5_shorten : MethodName := ⟨RX5, "shorten", "([IIII)Z"⟩
abbrev cX5_relaxFrom : ByteArray := prog_7_method_9_code
def yX5_relaxFrom : MethodName := ⟨RX5, "relaxFrom", "(LTrailGuide$TrailMap;I)V"⟩
abbrev cX5_relaxAll : ByteArray := prog_7_method_10_code
def yX5_relaxAll : MethodName := ⟨RX5, "relaxAll", "(LTrailGuide$TrailMap;)Z"⟩
abbrev cX5_distancesAgree : ByteArray := prog_7_method_11_code
def yX5_distancesAgree : MethodName := ⟨RX5, "distancesAgree", "(LTrailGuide$TrailMap;)Z"⟩
abbrev cX5_nextTowardsStart : ByteArray := prog_7_method_12_code
def yX5_nextTowardsStart : MethodName := ⟨RX5, "nextTowardsStart", "(LTrailGuide$TrailMap;I)I"⟩
abbrev cX5_countBySearch : ByteArray := prog_7_method_13_code
def yX5_countBySearch : MethodName := ⟨RX5, "countBySearch", "(LTrailGuide$TrailMap;)I"⟩
abbrev cX5_search : ByteArray := prog_7_method_14_code
def yX5_search : MethodName := ⟨RX5, "search", "(LTrailGuide$TrailMap;[ZII)V"⟩
abbrev cX5_countByMerging : ByteArray := prog_7_method_15_code
def yX5_countByMerging : MethodName := ⟨RX5, "countByMerging", "(LTrailGuide$TrailMap;)I"⟩
abbrev cX5_merge : ByteArray := prog_7_method_16_code
def yX5_merge : MethodName := ⟨RX5, "merge", "(II)Z"⟩
abbrev cX5_leaderOf : ByteArray := prog_7_method_17_code
def yX5_leaderOf : MethodName := ⟨RX5, "leaderOf", "(I)I"⟩
def RX6 : String := "TrailGuide$Program"
def TX6 : u_T := fun k => match k with
  | 0 => ("TrailGuide$Program", "text", "[C", true)
  | 1 => ("TrailGuide$Program", "kinds", "[I", true)
  | 2 => ("TrailGuide$Program", "arguments", "[I", true)
  | 3 => ("TrailGuide$Program", "values", "[I", true)
  | 4 => ("TrailGuide$Program", "size", "I", false)
  | 5 => ("TrailGuide$Program", "position", "I", false)
  | 6 => ("TrailGuide$Program", "count", "I", false)
  | _ => ("TrailGuide$Program", "valueCount", "I", false)
def tyX6 : Nat → FieldType := fun k => match k with
  | 0 => .array .char
  | 1 => .array .int
  | 2 => .array .int
  | 3 => .array .int
  | 4 => .int
  | 5 => .int
  | 6 => .int
  | _ => .int
abbrev wsX60 : List Cond := u_ws RX6 TX6 8
theorem nmX6 : ∀ a, a < 8 → ∀ b, b < 8 → a ≠ b → (TX6 a).2.1 ≠ (TX6 b).2.1 := by decide +kernel
theorem tyX6_ok : ∀ k, k < 8 → parseFieldDescriptor (TX6 k).2.2.1 = some (tyX6 k) := by decide +kernel
abbrev cX6_init : ByteArray := prog_8_method_1_code
def yX6_init : MethodName := ⟨RX6, "<init>", "()V"⟩
abbrev cX6_isFull : ByteArray := prog_8_method_2_code
def yX6_isFull : MethodName := ⟨RX6, "isFull", "()Z"⟩
abbrev cX6_append : ByteArray := prog_8_method_3_code
def yX6_append : MethodName := ⟨RX6, "append", "(C)I"⟩
abbrev cX6_empty : ByteArray := prog_8_method_4_code
def yX6_empty : MethodName := ⟨RX6, "empty", "()V"⟩
abbrev cX6_kindOf : ByteArray := prog_8_method_5_code
def yX6_kindOf : MethodName := ⟨RX6, "kindOf", "(I)I"⟩
abbrev cX6_argumentOf : ByteArray := prog_8_method_6_code
def yX6_argumentOf : MethodName := ⟨RX6, "argumentOf", "(II)I"⟩
abbrev cX6_patternOf : ByteArray := prog_8_method_7_code
def yX6_patternOf : MethodName := ⟨RX6, "patternOf", "(I)Ljava/lang/String;"⟩
abbrev cX6_parse : ByteArray := prog_8_method_8_code
def yX6_parse : MethodName := ⟨RX6, "parse", "()Z"⟩
abbrev cX6_parseCommand : ByteArray := prog_8_method_9_code
def yX6_parseCommand : MethodName := ⟨RX6, "parseCommand", "()Z"⟩
abbrev cX6_parseOpening : ByteArray := prog_8_method_10_code
def yX6_parseOpening : MethodName := ⟨RX6, "parseOpening", "()I"⟩
abbrev cX6_openingLength : ByteArray := prog_8_method_11_code
def yX6_openingLength : MethodName := ⟨RX6, "openingLength", "(Ljava/lang/String;)I"⟩
abbrev cX6_commonLength : ByteArray := prog_8_method_12_code
def yX6_commonLength : MethodName := ⟨RX6, "commonLength", "(Ljava/lang/String;I)I"⟩
abbrev cX6_isHere : ByteArray := prog_8_method_13_code
def yX6_isHere : MethodName := ⟨RX6, "isHere", "(IC)Z"⟩
abbrev cX6_isPlaceholder : ByteArray := prog_8_method_14_code
def yX6_isPlaceholder : MethodName := ⟨RX6, "isPlaceholder", "(C)Z"⟩
abbrev cX6_parsePart : ByteArray := prog_8_method_15_code
def yX6_parsePart : MethodName := ⟨RX6, "parsePart", "(C)Z"⟩
abbrev cX6_parseSign : ByteArray := prog_8_method_16_code
def yX6_parseSign : MethodName := ⟨RX6, "parseSign", "(C)Z"⟩
abbrev cX6_parseNumber : ByteArray := prog_8_method_17_code
def yX6_parseNumber : MethodName := ⟨RX6, "parseNumber", "(I)Z"⟩
abbrev cX6_digitHere : ByteArray := prog_8_method_18_code
def yX6_digitHere : MethodName := ⟨RX6, "digitHere", "()I"⟩
abbrev cX6_parseMode : ByteArray := prog_8_method_19_code
def yX6_parseMode : MethodName := ⟨RX6, "parseMode", "()Z"⟩
abbrev cX6_clearValues : ByteArray := prog_8_method_20_code
def yX6_clearValues : MethodName := ⟨RX6, "clearValues", "()V"⟩
abbrev cX6_addValue : ByteArray := prog_8_method_21_code
def yX6_addValue : MethodName := ⟨RX6, "addValue", "(I)V"⟩
abbrev cX6_store : ByteArray := prog_8_method_22_code
def yX6_store : MethodName := ⟨RX6, "store", "(I)V"⟩
def RX7 : String := "TrailGuide$State"
def TX7 : u_T := fun k => match k with
  | 0 => ("TrailGuide$State", "map", "LTrailGuide$TrailMap;", true)
  | 1 => ("TrailGuide$State", "tour", "LTrailGuide$Tour;", true)
  | _ => ("TrailGuide$State", "meter", "LTrailGuide$Meter;", true)
def tyX7 : Nat → FieldType := fun k => match k with
  | 0 => .object "TrailGuide$TrailMap"
  | 1 => .object "TrailGuide$Tour"
  | _ => .object "TrailGuide$Meter"
abbrev wsX70 : List Cond := u_ws RX7 TX7 3
theorem nmX7 : ∀ a, a < 3 → ∀ b, b < 3 → a ≠ b → (TX7 a).2.1 ≠ (TX7 b).2.1 := by decide +kernel
theorem tyX7_ok : ∀ k, k < 3 → parseFieldDescriptor (TX7 k).2.2.1 = some (tyX7 k) := by decide +kernel
abbrev cX7_init : ByteArray := prog_9_method_1_code
def yX7_init : MethodName := ⟨RX7, "<init>", "()V"⟩
abbrev cX7_takeFrom : ByteArray := prog_9_method_2_code
def yX7_takeFrom : MethodName := ⟨RX7, "takeFrom", "(LTrailGuide$State;)V"⟩
def RX8 : String := "TrailGuide$Tour"
def TX8 : u_T := fun k => match k with
  | 0 => ("TrailGuide$Tour", "route", "[I", true)
  | 1 => ("TrailGuide$Tour", "count", "I", false)
  | 2 => ("TrailGuide$Tour", "targetIndex", "I", false)
  | 3 => ("TrailGuide$Tour", "x", "I", false)
  | 4 => ("TrailGuide$Tour", "y", "I", false)
  | _ => ("TrailGuide$Tour", "alarm", "Z", false)
def tyX8 : Nat → FieldType := fun k => match k with
  | 0 => .array .int
  | 1 => .int
  | 2 => .int
  | 3 => .int
  | 4 => .int
  | _ => .boolean
abbrev wsX80 : List Cond := u_ws RX8 TX8 6
theorem nmX8 : ∀ a, a < 6 → ∀ b, b < 6 → a ≠ b → (TX8 a).2.1 ≠ (TX8 b).2.1 := by decide +kernel
theorem tyX8_ok : ∀ k, k < 6 → parseFieldDescriptor (TX8 k).2.2.1 = some (tyX8 k) := by decide +kernel
abbrev cX8_init : ByteArray := prog_10_method_1_code
def yX8_init : MethodName := ⟨RX8, "<init>", "()V"⟩
abbrev cX8_takeFrom : ByteArray := prog_10_method_2_code
def yX8_takeFrom : MethodName := ⟨RX8, "takeFrom", "(LTrailGuide$Tour;)V"⟩
abbrev cX8_isOn : ByteArray := prog_10_method_3_code
def yX8_isOn : MethodName := ⟨RX8, "isOn", "()Z"⟩
abbrev cX8_hasIndex : ByteArray := prog_10_method_4_code
def yX8_hasIndex : MethodName := ⟨RX8, "hasIndex", "(I)Z"⟩
abbrev cX8_isInner : ByteArray := prog_10_method_5_code
def yX8_isInner : MethodName := ⟨RX8, "isInner", "(I)Z"⟩
abbrev cX8_waypointAt : ByteArray := prog_10_method_6_code
def yX8_waypointAt : MethodName := ⟨RX8, "waypointAt", "(I)I"⟩
abbrev cX8_targetWaypoint : ByteArray := prog_10_method_7_code
def yX8_targetWaypoint : MethodName := ⟨RX8, "targetWaypoint", "()I"⟩
abbrev cX8_append : ByteArray := prog_10_method_8_code
def yX8_append : MethodName := ⟨RX8, "append", "(I)V"⟩
abbrev cX8_advance : ByteArray := prog_10_method_9_code
def yX8_advance : MethodName := ⟨RX8, "advance", "()V"⟩
abbrev cX8_end : ByteArray := prog_10_method_10_code
def yX8_end : MethodName := ⟨RX8, "end", "()V"⟩
def RX9 : String := "TrailGuide$TrailMap"
def TX9 : u_T := fun k => match k with
  | 0 => ("TrailGuide$TrailMap", "xs", "[I", true)
  | 1 => ("TrailGuide$TrailMap", "ys", "[I", true)
  | 2 => ("TrailGuide$TrailMap", "radii", "[I", true)
  | 3 => ("TrailGuide$TrailMap", "lengths", "[I", true)
  | 4 => ("TrailGuide$TrailMap", "count", "I", false)
  | _ => ("TrailGuide$TrailMap", "trailCount", "I", false)
def tyX9 : Nat → FieldType := fun k => match k with
  | 0 => .array .int
  | 1 => .array .int
  | 2 => .array .int
  | 3 => .array .int
  | 4 => .int
  | _ => .int
abbrev wsX90 : List Cond := u_ws RX9 TX9 6
theorem nmX9 : ∀ a, a < 6 → ∀ b, b < 6 → a ≠ b → (TX9 a).2.1 ≠ (TX9 b).2.1 := by decide +kernel
theorem tyX9_ok : ∀ k, k < 6 → parseFieldDescriptor (TX9 k).2.2.1 = some (tyX9 k) := by decide +kernel
abbrev cX9_init : ByteArray := prog_11_method_1_code
def yX9_init : MethodName := ⟨RX9, "<init>", "()V"⟩
abbrev cX9_takeFrom : ByteArray := prog_11_method_2_code
def yX9_takeFrom : MethodName := ⟨RX9, "takeFrom", "(LTrailGuide$TrailMap;)V"⟩
abbrev cX9_isFull : ByteArray := prog_11_method_3_code
def yX9_isFull : MethodName := ⟨RX9, "isFull", "()Z"⟩
abbrev cX9_exists : ByteArray := prog_11_method_4_code
def yX9_exists : MethodName := ⟨RX9, "exists", "(I)Z"⟩
abbrev cX9_xOf : ByteArray := prog_11_method_5_code
def yX9_xOf : MethodName := ⟨RX9, "xOf", "(I)I"⟩
abbrev cX9_yOf : ByteArray := prog_11_method_6_code
def yX9_yOf : MethodName := ⟨RX9, "yOf", "(I)I"⟩
abbrev cX9_radiusOf : ByteArray := prog_11_method_7_code
def yX9_radiusOf : MethodName := ⟨RX9, "radiusOf", "(I)I"⟩
abbrev cX9_lengthBetween : ByteArray := prog_11_method_8_code
def yX9_lengthBetween : MethodName := ⟨RX9, "lengthBetween", "(II)I"⟩
abbrev cX9_areJoined : ByteArray := prog_11_method_9_code
def yX9_areJoined : MethodName := ⟨RX9, "areJoined", "(II)Z"⟩
abbrev cX9_append : ByteArray := prog_11_method_10_code
def yX9_append : MethodName := ⟨RX9, "append", "(III)I"⟩
abbrev cX9_join : ByteArray := prog_11_method_11_code
def yX9_join : MethodName := ⟨RX9, "join", "(III)I"⟩
abbrev cX9_cut : ByteArray := prog_11_method_12_code
def yX9_cut : MethodName := ⟨RX9, "cut", "(II)I"⟩
abbrev cX9_setLength : ByteArray := prog_11_method_13_code
def yX9_setLength : MethodName := ⟨RX9, "setLength", "(III)V"⟩
abbrev cX9_sumOfLengths : ByteArray := prog_11_method_14_code
def yX9_sumOfLengths : MethodName := ⟨RX9, "sumOfLengths", "()I"⟩
abbrev cX9_squareTo : ByteArray := prog_11_method_15_code
def yX9_squareTo : MethodName := ⟨RX9, "squareTo", "(III)I"⟩
abbrev cX9_closestTo : ByteArray := prog_11_method_16_code
def yX9_closestTo : MethodName := ⟨RX9, "closestTo", "(II)I"⟩
def RX10 : String := "TrailGuide"
def TX10 : u_T := fun k => match k with
  | 0 => ("TrailGuide", "guide", "LTrailGuide$Guide;", true)
  | 1 => ("TrailGuide", "history", "LTrailGuide$History;", true)
  | 2 => ("TrailGuide", "saved", "LTrailGuide$State;", true)
  | 3 => ("TrailGuide", "beforeRun", "LTrailGuide$State;", true)
  | 4 => ("TrailGuide", "program", "LTrailGuide$Program;", true)
  | 5 => ("TrailGuide", "line", "LTrailGuide$Line;", true)
  | 6 => ("TrailGuide", "isSaved", "Z", false)
  | 7 => ("TrailGuide", "recordedError", "I", false)
  | _ => ("TrailGuide", "recordedFailure", "I", false)
def tyX10 : Nat → FieldType := fun k => match k with
  | 0 => .object "TrailGuide$Guide"
  | 1 => .object "TrailGuide$History"
  | 2 => .object "TrailGuide$State"
  | 3 => .object "TrailGuide$State"
  | 4 => .object "TrailGuide$Program"
  | 5 => .object "TrailGuide$Line"
  | 6 => .boolean
  | 7 => .int
  | _ => .int
abbrev wsX100 : List Cond := u_ws RX10 TX10 9
theorem nmX10 : ∀ a, a < 9 → ∀ b, b < 9 → a ≠ b → (TX10 a).2.1 ≠ (TX10 b).2.1 := by decide +kernel
theorem tyX10_ok : ∀ k, k < 9 → parseFieldDescriptor (TX10 k).2.2.1 = some (tyX10 k) := by decide +kernel
abbrev cX10_init : ByteArray := prog_1_method_1_code
def yX10_init : MethodName := ⟨RX10, "<init>", "()V"⟩
abbrev cX10_addWaypoint : ByteArray := prog_1_method_2_code
def yX10_addWaypoint : MethodName := ⟨RX10, "addWaypoint", "(III)I"⟩
abbrev cX10_addTrail : ByteArray := prog_1_method_3_code
def yX10_addTrail : MethodName := ⟨RX10, "addTrail", "(III)I"⟩
abbrev cX10_removeTrail : ByteArray := prog_1_method_4_code
def yX10_removeTrail : MethodName := ⟨RX10, "removeTrail", "(II)I"⟩
abbrev cX10_startTour : ByteArray := prog_1_method_5_code
def yX10_startTour : MethodName := ⟨RX10, "startTour", "(II)I"⟩
abbrev cX10_stopTour : ByteArray := prog_1_method_6_code
def yX10_stopTour : MethodName := ⟨RX10, "stopTour", "()I"⟩
abbrev cX10_update : ByteArray := prog_1_method_7_code
def yX10_update : MethodName := ⟨RX10, "update", "(II)Z"⟩
abbrev cX10_setTolerance : ByteArray := prog_1_method_8_code
def yX10_setTolerance : MethodName := ⟨RX10, "setTolerance", "(I)I"⟩
abbrev cX10_setMode : ByteArray := prog_1_method_9_code
def yX10_setMode : MethodName := ⟨RX10, "setMode", "(I)I"⟩
abbrev cX10_charge : ByteArray := prog_1_method_10_code
def yX10_charge : MethodName := ⟨RX10, "charge", "(I)I"⟩
abbrev cX10_waypoints : ByteArray := prog_1_method_11_code
def yX10_waypoints : MethodName := ⟨RX10, "waypoints", "()I"⟩
abbrev cX10_waypointX : ByteArray := prog_1_method_12_code
def yX10_waypointX : MethodName := ⟨RX10, "waypointX", "(I)I"⟩
abbrev cX10_waypointY : ByteArray := prog_1_method_13_code
def yX10_waypointY : MethodName := ⟨RX10, "waypointY", "(I)I"⟩
abbrev cX10_radius : ByteArray := prog_1_method_14_code
def yX10_radius : MethodName := ⟨RX10, "radius", "(I)I"⟩
abbrev cX10_trails : ByteArray := prog_1_method_15_code
def yX10_trails : MethodName := ⟨RX10, "trails", "()I"⟩
abbrev cX10_hasTrail : ByteArray := prog_1_method_16_code
def yX10_hasTrail : MethodName := ⟨RX10, "hasTrail", "(II)Z"⟩
abbrev cX10_trailLength : ByteArray := prog_1_method_17_code
def yX10_trailLength : MethodName := ⟨RX10, "trailLength", "(II)I"⟩
abbrev cX10_distance : ByteArray := prog_1_method_18_code
def yX10_distance : MethodName := ⟨RX10, "distance", "(II)I"⟩
abbrev cX10_distanceByRelaxation : ByteArray := prog_1_method_19_code
def yX10_distanceByRelaxation : MethodName := ⟨RX10, "distanceByRelaxation", "(II)I"⟩
abbrev cX10_components : ByteArray := prog_1_method_20_code
def yX10_components : MethodName := ⟨RX10, "components", "()I"⟩
abbrev cX10_componentsByMerging : ByteArray := prog_1_method_21_code
def yX10_componentsByMerging : MethodName := ⟨RX10, "componentsByMerging", "()I"⟩
abbrev cX10_nearest : ByteArray := prog_1_method_22_code
def yX10_nearest : MethodName := ⟨RX10, "nearest", "(II)I"⟩
abbrev cX10_isTouring : ByteArray := prog_1_method_23_code
def yX10_isTouring : MethodName := ⟨RX10, "isTouring", "()Z"⟩
abbrev cX10_routeLength : ByteArray := prog_1_method_24_code
def yX10_routeLength : MethodName := ⟨RX10, "routeLength", "()I"⟩
abbrev cX10_routeWaypoint : ByteArray := prog_1_method_25_code
def yX10_routeWaypoint : MethodName := ⟨RX10, "routeWaypoint", "(I)I"⟩
abbrev cX10_turn : ByteArray := prog_1_method_26_code
def yX10_turn : MethodName := ⟨RX10, "turn", "(I)C"⟩
abbrev cX10_target : ByteArray := prog_1_method_27_code
def yX10_target : MethodName := ⟨RX10, "target", "()I"⟩
abbrev cX10_hikerX : ByteArray := prog_1_method_28_code
def yX10_hikerX : MethodName := ⟨RX10, "hikerX", "()I"⟩
abbrev cX10_hikerY : ByteArray := prog_1_method_29_code
def yX10_hikerY : MethodName := ⟨RX10, "hikerY", "()I"⟩
abbrev cX10_drift : ByteArray := prog_1_method_30_code
def yX10_drift : MethodName := ⟨RX10, "drift", "()I"⟩
abbrev cX10_isAlarm : ByteArray := prog_1_method_31_code
def yX10_isAlarm : MethodName := ⟨RX10, "isAlarm", "()Z"⟩
abbrev cX10_forecast : ByteArray := prog_1_method_32_code
def yX10_forecast : MethodName := ⟨RX10, "forecast", "(II)C"⟩
abbrev cX10_battery : ByteArray := prog_1_method_33_code
def yX10_battery : MethodName := ⟨RX10, "battery", "()I"⟩
abbrev cX10_mode : ByteArray := prog_1_method_34_code
def yX10_mode : MethodName := ⟨RX10, "mode", "()I"⟩
abbrev cX10_tolerance : ByteArray := prog_1_method_35_code
def yX10_tolerance : MethodName := ⟨RX10, "tolerance", "()I"⟩
abbrev cX10_updatesLeft : ByteArray := prog_1_method_36_code
def yX10_updatesLeft : MethodName := ⟨RX10, "updatesLeft", "()I"⟩
abbrev cX10_updatesLeftByCounting : ByteArray := prog_1_method_37_code
def yX10_updatesLeftByCounting : MethodName := ⟨RX10, "updatesLeftByCounting", "()I"⟩
abbrev cX10_updates : ByteArray := prog_1_method_38_code
def yX10_updates : MethodName := ⟨RX10, "updates", "()I"⟩
abbrev cX10_alarms : ByteArray := prog_1_method_39_code
def yX10_alarms : MethodName := ⟨RX10, "alarms", "()I"⟩
abbrev cX10_reached : ByteArray := prog_1_method_40_code
def yX10_reached : MethodName := ⟨RX10, "reached", "()I"⟩
abbrev cX10_alarmRate : ByteArray := prog_1_method_41_code
def yX10_alarmRate : MethodName := ⟨RX10, "alarmRate", "()F"⟩
abbrev cX10_meanTrailLength : ByteArray := prog_1_method_42_code
def yX10_meanTrailLength : MethodName := ⟨RX10, "meanTrailLength", "()D"⟩
abbrev cX10_isConsistent : ByteArray := prog_1_method_43_code
def yX10_isConsistent : MethodName := ⟨RX10, "isConsistent", "()Z"⟩
abbrev cX10_writeRoute : ByteArray := prog_1_method_44_code
def yX10_writeRoute : MethodName := ⟨RX10, "writeRoute", "()I"⟩
abbrev cX10_writeTrails : ByteArray := prog_1_method_45_code
def yX10_writeTrails : MethodName := ⟨RX10, "writeTrails", "(I)I"⟩
abbrev cX10_charAt : ByteArray := prog_1_method_46_code
def yX10_charAt : MethodName := ⟨RX10, "charAt", "(I)C"⟩
abbrev cX10_type : ByteArray := prog_1_method_47_code
def yX10_type : MethodName := ⟨RX10, "type", "(C)I"⟩
abbrev cX10_run : ByteArray := prog_1_method_48_code
def yX10_run : MethodName := ⟨RX10, "run", "()I"⟩
abbrev cX10_errorPosition : ByteArray := prog_1_method_49_code
def yX10_errorPosition : MethodName := ⟨RX10, "errorPosition", "()I"⟩
abbrev cX10_failedCommand : ByteArray := prog_1_method_50_code
def yX10_failedCommand : MethodName := ⟨RX10, "failedCommand", "()I"⟩
abbrev cX10_undo : ByteArray := prog_1_method_51_code
def yX10_undo : MethodName := ⟨RX10, "undo", "()I"⟩
abbrev cX10_save : ByteArray := prog_1_method_52_code
def yX10_save : MethodName := ⟨RX10, "save", "()I"⟩
abbrev cX10_restore : ByteArray := prog_1_method_53_code
def yX10_restore : MethodName := ⟨RX10, "restore", "()I"⟩
abbrev cX10_change : ByteArray := prog_1_method_54_code
def yX10_change : MethodName := ⟨RX10, "change", "(IIII)I"⟩
abbrev cX10_firstFailure : ByteArray := prog_1_method_55_code
def yX10_firstFailure : MethodName := ⟨RX10, "firstFailure", "()I"⟩
abbrev cX10_refuse : ByteArray := prog_1_method_56_code
def yX10_refuse : MethodName := ⟨RX10, "refuse", "(I)V"⟩
abbrev cX10_requireWaypoint : ByteArray := prog_1_method_57_code
def yX10_requireWaypoint : MethodName := ⟨RX10, "requireWaypoint", "(I)V"⟩
abbrev cX10_requirePath : ByteArray := prog_1_method_58_code
def yX10_requirePath : MethodName := ⟨RX10, "requirePath", "(I)V"⟩
abbrev cX10_requireCoordinates : ByteArray := prog_1_method_59_code
def yX10_requireCoordinates : MethodName := ⟨RX10, "requireCoordinates", "(II)V"⟩
abbrev cX10_requireTour : ByteArray := prog_1_method_60_code
def yX10_requireTour : MethodName := ⟨RX10, "requireTour", "()V"⟩
abbrev cX10_requireRouteIndex : ByteArray := prog_1_method_61_code
def yX10_requireRouteIndex : MethodName := ⟨RX10, "requireRouteIndex", "(I)V"⟩
abbrev cX10_isWithin : ByteArray := prog_1_method_62_code
def yX10_isWithin : MethodName := ⟨RX10, "isWithin", "(III)Z"⟩
abbrev cX10_areCoordinates : ByteArray := prog_1_method_63_code
def yX10_areCoordinates : MethodName := ⟨RX10, "areCoordinates", "(II)Z"⟩
def RX11 : String := "TrailGuideModel"
def TX11 : u_T := fun k => match k with
  | 0 => ("TrailGuideModel", "s", "[I", true)
  | 1 => ("TrailGuideModel", "was", "[I", true)
  | 2 => ("TrailGuideModel", "saved", "[I", true)
  | 3 => ("TrailGuideModel", "past", "[I", true)
  | 4 => ("TrailGuideModel", "far", "[I", true)
  | 5 => ("TrailGuideModel", "changes", "I", false)
  | 6 => ("TrailGuideModel", "thrown", "I", false)
  | 7 => ("TrailGuideModel", "errorAt", "I", false)
  | 8 => ("TrailGuideModel", "failedAt", "I", false)
  | 9 => ("TrailGuideModel", "answer", "I", false)
  | 10 => ("TrailGuideModel", "isSaved", "Z", false)
  | 11 => ("TrailGuideModel", "line", "[I", true)
  | 12 => ("TrailGuideModel", "lined", "I", false)
  | 13 => ("TrailGuideModel", "tape", "[I", true)
  | 14 => ("TrailGuideModel", "commands", "[I", true)
  | 15 => ("TrailGuideModel", "taped", "I", false)
  | 16 => ("TrailGuideModel", "here", "I", false)
  | _ => ("TrailGuideModel", "commandMany", "I", false)
def tyX11 : Nat → FieldType := fun k => match k with
  | 0 => .array .int
  | 1 => .array .int
  | 2 => .array .int
  | 3 => .array .int
  | 4 => .array .int
  | 5 => .int
  | 6 => .int
  | 7 => .int
  | 8 => .int
  | 9 => .int
  | 10 => .boolean
  | 11 => .array .int
  | 12 => .int
  | 13 => .array .int
  | 14 => .array .int
  | 15 => .int
  | 16 => .int
  | _ => .int
abbrev wsX110 : List Cond := u_ws RX11 TX11 18
theorem nmX11 : ∀ a, a < 18 → ∀ b, b < 18 → a ≠ b → (TX11 a).2.1 ≠ (TX11 b).2.1 := by decide +kernel
theorem tyX11_ok : ∀ k, k < 18 → parseFieldDescriptor (TX11 k).2.2.1 = some (tyX11 k) := by decide +kernel
abbrev cX11_init : ByteArray := prog_13_method_1_code
def yX11_init : MethodName := ⟨RX11, "<init>", "()V"⟩
abbrev cX11_thrown : ByteArray := prog_13_method_2_code
def yX11_thrown : MethodName := ⟨RX11, "thrown", "()I"⟩
abbrev cX11_isIn : ByteArray := prog_13_method_3_code
def yX11_isIn : MethodName := ⟨RX11, "isIn", "(III)Z"⟩
abbrev cX11_copies : ByteArray := prog_13_method_4_code
def yX11_copies : MethodName := ⟨RX11, "copies", "([II[II)V"⟩
abbrev cX11_keeps : ByteArray := prog_13_method_5_code
def yX11_keeps : MethodName := ⟨RX11, "keeps", "()V"⟩
abbrev cX11_ends : ByteArray := prog_13_method_6_code
def yX11_ends : MethodName := ⟨RX11, "ends", "(I)I"⟩
abbrev cX11_isThrown : ByteArray := prog_13_method_7_code
def yX11_isThrown : MethodName := ⟨RX11, "isThrown", "(ZI)Z"⟩
abbrev cX11_of : ByteArray := prog_13_method_8_code
def yX11_of : MethodName := ⟨RX11, "of", "(II)I"⟩
abbrev cX11_isPoint : ByteArray := prog_13_method_9_code
def yX11_isPoint : MethodName := ⟨RX11, "isPoint", "(I)Z"⟩
abbrev cX11_isPlace : ByteArray := prog_13_method_10_code
def yX11_isPlace : MethodName := ⟨RX11, "isPlace", "(II)Z"⟩
abbrev cX11_trail : ByteArray := prog_13_method_11_code
def yX11_trail : MethodName := ⟨RX11, "trail", "(II)I"⟩
abbrev cX11_setsTrail : ByteArray := prog_13_method_12_code
def yX11_setsTrail : MethodName := ⟨RX11, "setsTrail", "(III)V"⟩
abbrev cX11_manyTrails : ByteArray := prog_13_method_13_code
def yX11_manyTrails : MethodName := ⟨RX11, "manyTrails", "()I"⟩
abbrev cX11_points : ByteArray := prog_13_method_14_code
def yX11_points : MethodName := ⟨RX11, "points", "(III)I"⟩
abbrev cX11_addWaypoint : ByteArray := prog_13_method_15_code
def yX11_addWaypoint : MethodName := ⟨RX11, "addWaypoint", "(III)I"⟩
abbrev cX11_joins : ByteArray := prog_13_method_16_code
def yX11_joins : MethodName := ⟨RX11, "joins", "(III)I"⟩
abbrev cX11_addTrail : ByteArray := prog_13_method_17_code
def yX11_addTrail : MethodName := ⟨RX11, "addTrail", "(III)I"⟩
abbrev cX11_cuts : ByteArray := prog_13_method_18_code
def yX11_cuts : MethodName := ⟨RX11, "cuts", "(II)I"⟩
abbrev cX11_removeTrail : ByteArray := prog_13_method_19_code
def yX11_removeTrail : MethodName := ⟨RX11, "removeTrail", "(II)I"⟩
abbrev cX11_finds : ByteArray := prog_13_method_20_code
def yX11_finds : MethodName := ⟨RX11, "finds", "(I)V"⟩
abbrev cX11_isOnTour : ByteArray := prog_13_method_21_code
def yX11_isOnTour : MethodName := ⟨RX11, "isOnTour", "()Z"⟩
abbrev cX11_following : ByteArray := prog_13_method_22_code
def yX11_following : MethodName := ⟨RX11, "following", "(I)I"⟩
abbrev cX11_tours : ByteArray := prog_13_method_23_code
def yX11_tours : MethodName := ⟨RX11, "tours", "(II)I"⟩
abbrev cX11_startTour : ByteArray := prog_13_method_24_code
def yX11_startTour : MethodName := ⟨RX11, "startTour", "(II)I"⟩
abbrev cX11_over : ByteArray := prog_13_method_25_code
def yX11_over : MethodName := ⟨RX11, "over", "()V"⟩
abbrev cX11_stops : ByteArray := prog_13_method_26_code
def yX11_stops : MethodName := ⟨RX11, "stops", "()I"⟩
abbrev cX11_stopTour : ByteArray := prog_13_method_27_code
def yX11_stopTour : MethodName := ⟨RX11, "stopTour", "()I"⟩
abbrev cX11_aim : ByteArray := prog_13_method_28_code
def yX11_aim : MethodName := ⟨RX11, "aim", "()I"⟩
abbrev cX11_square : ByteArray := prog_13_method_29_code
def yX11_square : MethodName := ⟨RX11, "square", "(II)I"⟩
abbrev cX11_reaches : ByteArray := prog_13_method_30_code
def yX11_reaches : MethodName := ⟨RX11, "reaches", "(II)Z"⟩
abbrev cX11_compared : ByteArray := prog_13_method_31_code
def yX11_compared : MethodName := ⟨RX11, "compared", "(III)I"⟩
abbrev cX11_isBeyond : ByteArray := prog_13_method_32_code
def yX11_isBeyond : MethodName := ⟨RX11, "isBeyond", "(III)Z"⟩
abbrev cX11_isWithin : ByteArray := prog_13_method_33_code
def yX11_isWithin : MethodName := ⟨RX11, "isWithin", "(III)Z"⟩
abbrev cX11_costOf : ByteArray := prog_13_method_34_code
def yX11_costOf : MethodName := ⟨RX11, "costOf", "(I)I"⟩
abbrev cX11_drains : ByteArray := prog_13_method_35_code
def yX11_drains : MethodName := ⟨RX11, "drains", "(I)V"⟩
abbrev cX11_watches : ByteArray := prog_13_method_36_code
def yX11_watches : MethodName := ⟨RX11, "watches", "()V"⟩
abbrev cX11_updated : ByteArray := prog_13_method_37_code
def yX11_updated : MethodName := ⟨RX11, "updated", "(II)I"⟩
abbrev cX11_update : ByteArray := prog_13_method_38_code
def yX11_update : MethodName := ⟨RX11, "update", "(II)Z"⟩
abbrev cX11_tells : ByteArray := prog_13_method_39_code
def yX11_tells : MethodName := ⟨RX11, "tells", "(IIII)I"⟩
abbrev cX11_setTolerance : ByteArray := prog_13_method_40_code
def yX11_setTolerance : MethodName := ⟨RX11, "setTolerance", "(I)I"⟩
abbrev cX11_setMode : ByteArray := prog_13_method_41_code
def yX11_setMode : MethodName := ⟨RX11, "setMode", "(I)I"⟩
abbrev cX11_charges : ByteArray := prog_13_method_42_code
def yX11_charges : MethodName := ⟨RX11, "charges", "(I)I"⟩
abbrev cX11_charge : ByteArray := prog_13_method_43_code
def yX11_charge : MethodName := ⟨RX11, "charge", "(I)I"⟩
abbrev cX11_waypoints : ByteArray := prog_13_method_44_code
def yX11_waypoints : MethodName := ⟨RX11, "waypoints", "()I"⟩
abbrev cX11_ofPoint : ByteArray := prog_13_method_45_code
def yX11_ofPoint : MethodName := ⟨RX11, "ofPoint", "(II)I"⟩
abbrev cX11_waypointX : ByteArray := prog_13_method_46_code
def yX11_waypointX : MethodName := ⟨RX11, "waypointX", "(I)I"⟩
abbrev cX11_waypointY : ByteArray := prog_13_method_47_code
def yX11_waypointY : MethodName := ⟨RX11, "waypointY", "(I)I"⟩
abbrev cX11_radius : ByteArray := prog_13_method_48_code
def yX11_radius : MethodName := ⟨RX11, "radius", "(I)I"⟩
abbrev cX11_trails : ByteArray := prog_13_method_49_code
def yX11_trails : MethodName := ⟨RX11, "trails", "()I"⟩
abbrev cX11_hasTrail : ByteArray := prog_13_method_50_code
def yX11_hasTrail : MethodName := ⟨RX11, "hasTrail", "(II)Z"⟩
abbrev cX11_trailLength : ByteArray := prog_13_method_51_code
def yX11_trailLength : MethodName := ⟨RX11, "trailLength", "(II)I"⟩
abbrev cX11_distance : ByteArray := prog_13_method_52_code
def yX11_distance : MethodName := ⟨RX11, "distance", "(II)I"⟩
abbrev cX11_distanceByRelaxation : ByteArray := prog_13_method_53_code
def yX11_distanceByRelaxation : MethodName := ⟨RX11, "distanceByRelaxation", "(II)I"⟩
abbrev cX11_components : ByteArray := prog_13_method_54_code
def yX11_components : MethodName := ⟨RX11, "components", "()I"⟩
abbrev cX11_componentsByMerging : ByteArray := prog_13_method_55_code
def yX11_componentsByMerging : MethodName := ⟨RX11, "componentsByMerging", "()I"⟩
abbrev cX11_away : ByteArray := prog_13_method_56_code
def yX11_away : MethodName := ⟨RX11, "away", "(III)I"⟩
abbrev cX11_nearest : ByteArray := prog_13_method_57_code
def yX11_nearest : MethodName := ⟨RX11, "nearest", "(II)I"⟩
abbrev cX11_isTouring : ByteArray := prog_13_method_58_code
def yX11_isTouring : MethodName := ⟨RX11, "isTouring", "()Z"⟩
abbrev cX11_ofTour : ByteArray := prog_13_method_59_code
def yX11_ofTour : MethodName := ⟨RX11, "ofTour", "(I)I"⟩
abbrev cX11_routeLength : ByteArray := prog_13_method_60_code
def yX11_routeLength : MethodName := ⟨RX11, "routeLength", "()I"⟩
abbrev cX11_isNoIndex : ByteArray := prog_13_method_61_code
def yX11_isNoIndex : MethodName := ⟨RX11, "isNoIndex", "(I)Z"⟩
abbrev cX11_routeWaypoint : ByteArray := prog_13_method_62_code
def yX11_routeWaypoint : MethodName := ⟨RX11, "routeWaypoint", "(I)I"⟩
abbrev cX11_turnAt : ByteArray := prog_13_method_63_code
def yX11_turnAt : MethodName := ⟨RX11, "turnAt", "(I)I"⟩
abbrev cX11_turn : ByteArray := prog_13_method_64_code
def yX11_turn : MethodName := ⟨RX11, "turn", "(I)C"⟩
abbrev cX11_target : ByteArray := prog_13_method_65_code
def yX11_target : MethodName := ⟨RX11, "target", "()I"⟩
abbrev cX11_hikerX : ByteArray := prog_13_method_66_code
def yX11_hikerX : MethodName := ⟨RX11, "hikerX", "()I"⟩
abbrev cX11_hikerY : ByteArray := prog_13_method_67_code
def yX11_hikerY : MethodName := ⟨RX11, "hikerY", "()I"⟩
abbrev cX11_drift : ByteArray := prog_13_method_68_code
def yX11_drift : MethodName := ⟨RX11, "drift", "()I"⟩
abbrev cX11_isAlarm : ByteArray := prog_13_method_69_code
def yX11_isAlarm : MethodName := ⟨RX11, "isAlarm", "()Z"⟩
abbrev cX11_forecast : ByteArray := prog_13_method_70_code
def yX11_forecast : MethodName := ⟨RX11, "forecast", "(II)C"⟩
abbrev cX11_battery : ByteArray := prog_13_method_71_code
def yX11_battery : MethodName := ⟨RX11, "battery", "()I"⟩
abbrev cX11_mode : ByteArray := prog_13_method_72_code
def yX11_mode : MethodName := ⟨RX11, "mode", "()I"⟩
abbrev cX11_tolerance : ByteArray := prog_13_method_73_code
def yX11_tolerance : MethodName := ⟨RX11, "tolerance", "()I"⟩
abbrev cX11_updatesLeft : ByteArray := prog_13_method_74_code
def yX11_updatesLeft : MethodName := ⟨RX11, "updatesLeft", "()I"⟩
abbrev cX11_updatesLeftByCounting : ByteArray := prog_13_method_75_code
def yX11_updatesLeftByCounting : MethodName := ⟨RX11, "updatesLeftByCounting", "()I"⟩
abbrev cX11_updates : ByteArray := prog_13_method_76_code
def yX11_updates : MethodName := ⟨RX11, "updates", "()I"⟩
abbrev cX11_alarms : ByteArray := prog_13_method_77_code
def yX11_alarms : MethodName := ⟨RX11, "alarms", "()I"⟩
abbrev cX11_reached : ByteArray := prog_13_method_78_code
def yX11_reached : MethodName := ⟨RX11, "reached", "()I"⟩
abbrev cX11_alarmRate : ByteArray := prog_13_method_79_code
def yX11_alarmRate : MethodName := ⟨RX11, "alarmRate", "()F"⟩
abbrev cX11_meanTrailLength : ByteArray := prog_13_method_80_code
def yX11_meanTrailLength : MethodName := ⟨RX11, "meanTrailLength", "()D"⟩
abbrev cX11_isConsistent : ByteArray := prog_13_method_81_code
def yX11_isConsistent : MethodName := ⟨RX11, "isConsistent", "()Z"⟩
abbrev cX11_puts : ByteArray := prog_13_method_82_code
def yX11_puts : MethodName := ⟨RX11, "puts", "(I)V"⟩
abbrev cX11_number : ByteArray := prog_13_method_83_code
def yX11_number : MethodName := ⟨RX11, "number", "(I)V"⟩
abbrev cX11_writeRoute : ByteArray := prog_13_method_84_code
def yX11_writeRoute : MethodName := ⟨RX11, "writeRoute", "()I"⟩
abbrev cX11_writeTrails : ByteArray := prog_13_method_85_code
def yX11_writeTrails : MethodName := ⟨RX11, "writeTrails", "(I)I"⟩
abbrev cX11_charAt : ByteArray := prog_13_method_86_code
def yX11_charAt : MethodName := ⟨RX11, "charAt", "(I)C"⟩
abbrev cX11_type : ByteArray := prog_13_method_87_code
def yX11_type : MethodName := ⟨RX11, "type", "(C)I"⟩
abbrev cX11_sign : ByteArray := prog_13_method_88_code
def yX11_sign : MethodName := ⟨RX11, "sign", "()I"⟩
abbrev cX11_isSign : ByteArray := prog_13_method_89_code
def yX11_isSign : MethodName := ⟨RX11, "isSign", "(I)Z"⟩
abbrev cX11_isNumber : ByteArray := prog_13_method_90_code
def yX11_isNumber : MethodName := ⟨RX11, "isNumber", "(II)Z"⟩
abbrev cX11_isWord : ByteArray := prog_13_method_91_code
def yX11_isWord : MethodName := ⟨RX11, "isWord", "(Ljava/lang/String;)Z"⟩
abbrev cX11_isMode : ByteArray := prog_13_method_92_code
def yX11_isMode : MethodName := ⟨RX11, "isMode", "(I)Z"⟩
abbrev cX11_isPair : ByteArray := prog_13_method_93_code
def yX11_isPair : MethodName := ⟨RX11, "isPair", "(II)Z"⟩
abbrev cX11_readsT : ByteArray := prog_13_method_94_code
def yX11_readsT : MethodName := ⟨RX11, "readsT", "(I)Z"⟩
abbrev cX11_readsC : ByteArray := prog_13_method_95_code
def yX11_readsC : MethodName := ⟨RX11, "readsC", "(I)Z"⟩
abbrev cX11_readsM : ByteArray := prog_13_method_96_code
def yX11_readsM : MethodName := ⟨RX11, "readsM", "(I)Z"⟩
abbrev cX11_readsRest : ByteArray := prog_13_method_97_code
def yX11_readsRest : MethodName := ⟨RX11, "readsRest", "(II)Z"⟩
abbrev cX11_isFirst : ByteArray := prog_13_method_98_code
def yX11_isFirst : MethodName := ⟨RX11, "isFirst", "(I)Z"⟩
abbrev cX11_readsCommand : ByteArray := prog_13_method_99_code
def yX11_readsCommand : MethodName := ⟨RX11, "readsCommand", "()Z"⟩
abbrev cX11_isProgram : ByteArray := prog_13_method_100_code
def yX11_isProgram : MethodName := ⟨RX11, "isProgram", "()Z"⟩
abbrev cX11_does : ByteArray := prog_13_method_101_code
def yX11_does : MethodName := ⟨RX11, "does", "(I)I"⟩
abbrev cX11_run : ByteArray := prog_13_method_102_code
def yX11_run : MethodName := ⟨RX11, "run", "()I"⟩
abbrev cX11_errorPosition : ByteArray := prog_13_method_103_code
def yX11_errorPosition : MethodName := ⟨RX11, "errorPosition", "()I"⟩
abbrev cX11_failedCommand : ByteArray := prog_13_method_104_code
def yX11_failedCommand : MethodName := ⟨RX11, "failedCommand", "()I"⟩
abbrev cX11_undo : ByteArray := prog_13_method_105_code
def yX11_undo : MethodName := ⟨RX11, "undo", "()I"⟩
abbrev cX11_save : ByteArray := prog_13_method_106_code
def yX11_save : MethodName := ⟨RX11, "save", "()I"⟩
abbrev cX11_restore : ByteArray := prog_13_method_107_code
def yX11_restore : MethodName := ⟨RX11, "restore", "()I"⟩
def RJx145de : String := "java/io/Serializable"
def TJx145de : u_T := fun k => match k with
  | _ => ("", "", "", false)
def tyJx145de : Nat → FieldType := fun k => match k with
  | _ => .int
abbrev wsJx145de0 : List Cond := u_ws RJx145de TJx145de 0
theorem nmJx145de : ∀ a, a < 0 → ∀ b, b < 0 → a ≠ b → (TJx145de a).2.1 ≠ (TJx145de b).2.1 := by decide +kernel
theorem tyJx145de_ok : ∀ k, k < 0 → parseFieldDescriptor (TJx145de k).2.2.1 = some (tyJx145de k) := by decide +kernel
def RJx00060 : String := "java/lang/ArrayIndexOutOfBoundsException"
def TJx00060 : u_T := fun k => match k with
  | 0 => ("java/lang/Throwable", "backtrace", "Ljava/lang/Object;", false)
  | 1 => ("java/lang/Throwable", "detailMessage", "Ljava/lang/String;", false)
  | 2 => ("java/lang/Throwable", "cause", "Ljava/lang/Throwable;", false)
  | 3 => ("java/lang/Throwable", "stackTrace", "[Ljava/lang/StackTraceElement;", false)
  | 4 => ("java/lang/Throwable", "depth", "I", false)
  | _ => ("java/lang/Throwable", "suppressedExceptions", "Ljava/util/List;", false)
def tyJx00060 : Nat → FieldType := fun k => match k with
  | 0 => .object "java/lang/Object"
  | 1 => .object "java/lang/String"
  | 2 => .object "java/lang/Throwable"
  | 3 => .array (.object "java/lang/StackTraceElement")
  | 4 => .int
  | _ => .object "java/util/List"
abbrev wsJx000600 : List Cond := u_ws RJx00060 TJx00060 6
theorem nmJx00060 : ∀ a, a < 6 → ∀ b, b < 6 → a ≠ b → (TJx00060 a).2.1 ≠ (TJx00060 b).2.1 := by decide +kernel
theorem tyJx00060_ok : ∀ k, k < 6 → parseFieldDescriptor (TJx00060 k).2.2.1 = some (tyJx00060 k) := by decide +kernel
abbrev cJx00060_init_a7421 : ByteArray := prog_16_method_2_code
def yJx00060_init_a7421 : MethodName := ⟨RJx00060, "<init>", "(Ljava/lang/String;)V"⟩
def RJx9f9b0 : String := "java/lang/CharSequence"
def TJx9f9b0 : u_T := fun k => match k with
  | _ => ("", "", "", false)
def tyJx9f9b0 : Nat → FieldType := fun k => match k with
  | _ => .int
abbrev wsJx9f9b00 : List Cond := u_ws RJx9f9b0 TJx9f9b0 0
theorem nmJx9f9b0 : ∀ a, a < 0 → ∀ b, b < 0 → a ≠ b → (TJx9f9b0 a).2.1 ≠ (TJx9f9b0 b).2.1 := by decide +kernel
theorem tyJx9f9b0_ok : ∀ k, k < 0 → parseFieldDescriptor (TJx9f9b0 k).2.2.1 = some (tyJx9f9b0 k) := by decide +kernel
def RJxb160c : String := "java/lang/Comparable"
def TJxb160c : u_T := fun k => match k with
  | _ => ("", "", "", false)
def tyJxb160c : Nat → FieldType := fun k => match k with
  | _ => .int
abbrev wsJxb160c0 : List Cond := u_ws RJxb160c TJxb160c 0
theorem nmJxb160c : ∀ a, a < 0 → ∀ b, b < 0 → a ≠ b → (TJxb160c a).2.1 ≠ (TJxb160c b).2.1 := by decide +kernel
theorem tyJxb160c_ok : ∀ k, k < 0 → parseFieldDescriptor (TJxb160c k).2.2.1 = some (tyJxb160c k) := by decide +kernel
def RJ0 : String := "java/lang/String"
def TJ0 : u_T := fun k => match k with
  | 0 => ("java/lang/String", "value", "[B", true)
  | _ => ("java/lang/String", "coder", "B", true)
def tyJ0 : Nat → FieldType := fun k => match k with
  | 0 => .array .byte
  | _ => .byte
abbrev wsJ00 : List Cond := u_ws RJ0 TJ0 2
theorem nmJ0 : ∀ a, a < 2 → ∀ b, b < 2 → a ≠ b → (TJ0 a).2.1 ≠ (TJ0 b).2.1 := by decide +kernel
theorem tyJ0_ok : ∀ k, k < 2 → parseFieldDescriptor (TJ0 k).2.2.1 = some (tyJ0 k) := by decide +kernel
abbrev cJ0_length_8abf5 : ByteArray := prog_24_method_54_code
def yJ0_length_8abf5 : MethodName := ⟨RJ0, "length", "()I"⟩
abbrev cJ0_charAt_5068e : ByteArray := prog_24_method_56_code
def yJ0_charAt_5068e : MethodName := ⟨RJ0, "charAt", "(I)C"⟩
abbrev cJ0_coder_7d493 : ByteArray := prog_24_method_152_code
def yJ0_coder_7d493 : MethodName := ⟨RJ0, "coder", "()B"⟩
abbrev cJ0_isLatin1_aae02 : ByteArray := prog_24_method_154_code
def yJ0_isLatin1_aae02 : MethodName := ⟨RJ0, "isLatin1", "()Z"⟩
abbrev cJ0_checkIndex_df160 : ByteArray := prog_24_method_155_code
def yJ0_checkIndex_df160 : MethodName := ⟨RJ0, "checkIndex", "(II)V"⟩
def RJ1 : String := "java/lang/StringLatin1"
def TJ1 : u_T := fun k => match k with
  | _ => ("", "", "", false)
def tyJ1 : Nat → FieldType := fun k => match k with
  | _ => .int
abbrev wsJ10 : List Cond := u_ws RJ1 TJ1 0
theorem nmJ1 : ∀ a, a < 0 → ∀ b, b < 0 → a ≠ b → (TJ1 a).2.1 ≠ (TJ1 b).2.1 := by decide +kernel
theorem tyJ1_ok : ∀ k, k < 0 → parseFieldDescriptor (TJ1 k).2.2.1 = some (tyJ1 k) := by decide +kernel
abbrev cJ1_charAt_3b067 : ByteArray := prog_25_method_2_code
def yJ1_charAt_3b067 : MethodName := ⟨RJ1, "charAt", "([BI)C"⟩
def RJ2 : String := "java/lang/StringUTF16"
def TJ2 : u_T := fun k => match k with
  | _ => ("", "", "", false)
def tyJ2 : Nat → FieldType := fun k => match k with
  | _ => .int
abbrev wsJ20 : List Cond := u_ws RJ2 TJ2 0
theorem nmJ2 : ∀ a, a < 0 → ∀ b, b < 0 → a ≠ b → (TJ2 a).2.1 ≠ (TJ2 b).2.1 := by decide +kernel
theorem tyJ2_ok : ∀ k, k < 0 → parseFieldDescriptor (TJ2 k).2.2.1 = some (tyJ2 k) := by decide +kernel
abbrev cJ2_getChar_3b067 : ByteArray := prog_26_method_5_code
def yJ2_getChar_3b067 : MethodName := ⟨RJ2, "getChar", "([BI)C"⟩
abbrev cJ2_length_9d52b : ByteArray := prog_26_method_6_code
def yJ2_length_9d52b : MethodName := ⟨RJ2, "length", "([B)I"⟩
abbrev cJ2_charAt_3b067 : ByteArray := prog_26_method_83_code
def yJ2_charAt_3b067 : MethodName := ⟨RJ2, "charAt", "([BI)C"⟩
abbrev cJ2_checkIndex_2214a : ByteArray := prog_26_method_91_code
def yJ2_checkIndex_2214a : MethodName := ⟨RJ2, "checkIndex", "(I[B)V"⟩
def RJ10 : String := "java/lang/System"
def TJ10 : u_T := fun k => match k with
  | _ => ("", "", "", false)
def tyJ10 : Nat → FieldType := fun k => match k with
  | _ => .int
abbrev wsJ100 : List Cond := u_ws RJ10 TJ10 0
theorem nmJ10 : ∀ a, a < 0 → ∀ b, b < 0 → a ≠ b → (TJ10 a).2.1 ≠ (TJ10 b).2.1 := by decide +kernel
theorem tyJ10_ok : ∀ k, k < 0 → parseFieldDescriptor (TJ10 k).2.2.1 = some (tyJ10 k) := by decide +kernel
def RJxfd54e : String := "java/lang/constant/Constable"
def TJxfd54e : u_T := fun k => match k with
  | _ => ("", "", "", false)
def tyJxfd54e : Nat → FieldType := fun k => match k with
  | _ => .int
abbrev wsJxfd54e0 : List Cond := u_ws RJxfd54e TJxfd54e 0
theorem nmJxfd54e : ∀ a, a < 0 → ∀ b, b < 0 → a ≠ b → (TJxfd54e a).2.1 ≠ (TJxfd54e b).2.1 := by decide +kernel
theorem tyJxfd54e_ok : ∀ k, k < 0 → parseFieldDescriptor (TJxfd54e k).2.2.1 = some (tyJxfd54e k) := by decide +kernel
def RJx3cf43 : String := "java/lang/constant/ConstantDesc"
def TJx3cf43 : u_T := fun k => match k with
  | _ => ("", "", "", false)
def tyJx3cf43 : Nat → FieldType := fun k => match k with
  | _ => .int
abbrev wsJx3cf430 : List Cond := u_ws RJx3cf43 TJx3cf43 0
theorem nmJx3cf43 : ∀ a, a < 0 → ∀ b, b < 0 → a ≠ b → (TJx3cf43 a).2.1 ≠ (TJx3cf43 b).2.1 := by decide +kernel
theorem tyJx3cf43_ok : ∀ k, k < 0 → parseFieldDescriptor (TJx3cf43 k).2.2.1 = some (tyJx3cf43 k) := by decide +kernel
def RJ3 : String := "jdk/internal/util/Preconditions"
def TJ3 : u_T := fun k => match k with
  | _ => ("", "", "", false)
def tyJ3 : Nat → FieldType := fun k => match k with
  | _ => .int
abbrev wsJ30 : List Cond := u_ws RJ3 TJ3 0
theorem nmJ3 : ∀ a, a < 0 → ∀ b, b < 0 → a ≠ b → (TJ3 a).2.1 ≠ (TJ3 b).2.1 := by decide +kernel
theorem tyJ3_ok : ∀ k, k < 0 → parseFieldDescriptor (TJ3 k).2.2.1 = some (tyJ3 k) := by decide +kernel
abbrev cJ3_checkIndex_8e157 : ByteArray := prog_33_method_11_code
def yJ3_checkIndex_8e157 : MethodName := ⟨RJ3, "checkIndex", "(IILjava/util/function/BiFunction;)I"⟩
def RL : String := "TrailGuideLaw"
abbrev cL_addWaypoint : ByteArray := method_3_code
def yL_addWaypoint : MethodName := ⟨RL, "addWaypoint", "(LTrailGuide;III[J)I"⟩
abbrev cL_addTrail : ByteArray := method_4_code
def yL_addTrail : MethodName := ⟨RL, "addTrail", "(LTrailGuide;III[J)I"⟩
abbrev cL_removeTrail : ByteArray := method_5_code
def yL_removeTrail : MethodName := ⟨RL, "removeTrail", "(LTrailGuide;II[J)I"⟩
abbrev cL_startTour : ByteArray := method_6_code
def yL_startTour : MethodName := ⟨RL, "startTour", "(LTrailGuide;II[J)I"⟩
abbrev cL_stopTour : ByteArray := method_7_code
def yL_stopTour : MethodName := ⟨RL, "stopTour", "(LTrailGuide;[J)I"⟩
abbrev cL_update : ByteArray := method_8_code
def yL_update : MethodName := ⟨RL, "update", "(LTrailGuide;II[J)I"⟩
abbrev cL_setTolerance : ByteArray := method_9_code
def yL_setTolerance : MethodName := ⟨RL, "setTolerance", "(LTrailGuide;I[J)I"⟩
abbrev cL_setMode : ByteArray := method_10_code
def yL_setMode : MethodName := ⟨RL, "setMode", "(LTrailGuide;I[J)I"⟩
abbrev cL_charge : ByteArray := method_11_code
def yL_charge : MethodName := ⟨RL, "charge", "(LTrailGuide;I[J)I"⟩
abbrev cL_waypointX : ByteArray := method_12_code
def yL_waypointX : MethodName := ⟨RL, "waypointX", "(LTrailGuide;I[J)I"⟩
abbrev cL_waypointY : ByteArray := method_13_code
def yL_waypointY : MethodName := ⟨RL, "waypointY", "(LTrailGuide;I[J)I"⟩
abbrev cL_radius : ByteArray := method_14_code
def yL_radius : MethodName := ⟨RL, "radius", "(LTrailGuide;I[J)I"⟩
abbrev cL_hasTrail : ByteArray := method_15_code
def yL_hasTrail : MethodName := ⟨RL, "hasTrail", "(LTrailGuide;II[J)I"⟩
abbrev cL_trailLength : ByteArray := method_16_code
def yL_trailLength : MethodName := ⟨RL, "trailLength", "(LTrailGuide;II[J)I"⟩
abbrev cL_distance : ByteArray := method_17_code
def yL_distance : MethodName := ⟨RL, "distance", "(LTrailGuide;II[J)I"⟩
abbrev cL_distanceByRelaxation : ByteArray := method_18_code
def yL_distanceByRelaxation : MethodName := ⟨RL, "distanceByRelaxation", "(LTrailGuide;II[J)I"⟩
abbrev cL_nearest : ByteArray := method_19_code
def yL_nearest : MethodName := ⟨RL, "nearest", "(LTrailGuide;II[J)I"⟩
abbrev cL_routeLength : ByteArray := method_20_code
def yL_routeLength : MethodName := ⟨RL, "routeLength", "(LTrailGuide;[J)I"⟩
abbrev cL_routeWaypoint : ByteArray := method_21_code
def yL_routeWaypoint : MethodName := ⟨RL, "routeWaypoint", "(LTrailGuide;I[J)I"⟩
abbrev cL_turn : ByteArray := method_22_code
def yL_turn : MethodName := ⟨RL, "turn", "(LTrailGuide;I[J)I"⟩
abbrev cL_target : ByteArray := method_23_code
def yL_target : MethodName := ⟨RL, "target", "(LTrailGuide;[J)I"⟩
abbrev cL_hikerX : ByteArray := method_24_code
def yL_hikerX : MethodName := ⟨RL, "hikerX", "(LTrailGuide;[J)I"⟩
abbrev cL_hikerY : ByteArray := method_25_code
def yL_hikerY : MethodName := ⟨RL, "hikerY", "(LTrailGuide;[J)I"⟩
abbrev cL_drift : ByteArray := method_26_code
def yL_drift : MethodName := ⟨RL, "drift", "(LTrailGuide;[J)I"⟩
abbrev cL_forecast : ByteArray := method_27_code
def yL_forecast : MethodName := ⟨RL, "forecast", "(LTrailGuide;II[J)I"⟩
abbrev cL_alarmRate : ByteArray := method_28_code
def yL_alarmRate : MethodName := ⟨RL, "alarmRate", "(LTrailGuide;[D)I"⟩
abbrev cL_meanTrailLength : ByteArray := method_29_code
def yL_meanTrailLength : MethodName := ⟨RL, "meanTrailLength", "(LTrailGuide;[D)I"⟩
abbrev cL_writeTrails : ByteArray := method_30_code
def yL_writeTrails : MethodName := ⟨RL, "writeTrails", "(LTrailGuide;I[J)I"⟩
abbrev cL_charAt : ByteArray := method_31_code
def yL_charAt : MethodName := ⟨RL, "charAt", "(LTrailGuide;I[J)I"⟩
abbrev cL_type : ByteArray := method_32_code
def yL_type : MethodName := ⟨RL, "type", "(LTrailGuide;C[J)I"⟩
abbrev cL_run : ByteArray := method_33_code
def yL_run : MethodName := ⟨RL, "run", "(LTrailGuide;[J)I"⟩
abbrev cL_errorPosition : ByteArray := method_34_code
def yL_errorPosition : MethodName := ⟨RL, "errorPosition", "(LTrailGuide;[J)I"⟩
abbrev cL_failedCommand : ByteArray := method_35_code
def yL_failedCommand : MethodName := ⟨RL, "failedCommand", "(LTrailGuide;[J)I"⟩
abbrev cL_undo : ByteArray := method_36_code
def yL_undo : MethodName := ⟨RL, "undo", "(LTrailGuide;[J)I"⟩
abbrev cL_restore : ByteArray := method_37_code
def yL_restore : MethodName := ⟨RL, "restore", "(LTrailGuide;[J)I"⟩
abbrev cL_law : ByteArray := code
def yL_law : MethodName := ⟨RL, "law", "([I)Z"⟩
