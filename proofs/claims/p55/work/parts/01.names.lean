-- ===== PART A: goes FIRST, ahead of the names: the tables' words, and 'selects' of the private methods out of them =====
/-- a private method of a class that the tables say can be made, by its rows of tables_1 -/
def lw_okq (q : MethodName × Nat) : Prop := (q.1.cls ≠ "java/lang/invoke/MethodHandle" ∧ q.1.cls ≠ "java/lang/invoke/VarHandle") ∧ Cond.instantiable q.1.cls q.2 ∈ tables_1 ∧ Cond.privateMethod q.1 ∈ tables_1 ∧ Cond.instanceMethod q.1 ∈ tables_1
theorem lw_p0 : lw_okq (⟨"TrailGuide", "requireWaypoint", "(I)V"⟩, 9) := ⟨⟨by decide +kernel, by decide +kernel⟩, List.mem_of_getElem? (i := 78) (by decide +kernel), List.mem_of_getElem? (i := 76) (by decide +kernel), List.mem_of_getElem? (i := 77) (by decide +kernel)⟩
theorem lw_p1 : lw_okq (⟨"java/lang/Throwable", "fillInStackTrace", "(I)Ljava/lang/Throwable;"⟩, 6) := ⟨⟨by decide +kernel, by decide +kernel⟩, List.mem_of_getElem? (i := 128) (by decide +kernel), List.mem_of_getElem? (i := 126) (by decide +kernel), List.mem_of_getElem? (i := 127) (by decide +kernel)⟩
theorem lw_p2 : lw_okq (⟨"TrailGuide", "change", "(IIII)I"⟩, 9) := ⟨⟨by decide +kernel, by decide +kernel⟩, List.mem_of_getElem? (i := 78) (by decide +kernel), List.mem_of_getElem? (i := 222) (by decide +kernel), List.mem_of_getElem? (i := 223) (by decide +kernel)⟩
theorem lw_p3 : lw_okq (⟨"TrailGuide$Guide", "faultOfPoint", "(III)I"⟩, 3) := ⟨⟨by decide +kernel, by decide +kernel⟩, List.mem_of_getElem? (i := 232) (by decide +kernel), List.mem_of_getElem? (i := 230) (by decide +kernel), List.mem_of_getElem? (i := 231) (by decide +kernel)⟩
theorem lw_p4 : lw_okq (⟨"TrailGuide$Guide", "faultOfTrail", "(III)I"⟩, 3) := ⟨⟨by decide +kernel, by decide +kernel⟩, List.mem_of_getElem? (i := 232) (by decide +kernel), List.mem_of_getElem? (i := 246) (by decide +kernel), List.mem_of_getElem? (i := 247) (by decide +kernel)⟩
theorem lw_p5 : lw_okq (⟨"TrailGuide$Guide", "faultOfCut", "(II)I"⟩, 3) := ⟨⟨by decide +kernel, by decide +kernel⟩, List.mem_of_getElem? (i := 232) (by decide +kernel), List.mem_of_getElem? (i := 252) (by decide +kernel), List.mem_of_getElem? (i := 253) (by decide +kernel)⟩
theorem lw_p6 : lw_okq (⟨"TrailGuide$Guide", "faultOfTour", "(II)I"⟩, 3) := ⟨⟨by decide +kernel, by decide +kernel⟩, List.mem_of_getElem? (i := 232) (by decide +kernel), List.mem_of_getElem? (i := 256) (by decide +kernel), List.mem_of_getElem? (i := 257) (by decide +kernel)⟩
theorem lw_p7 : lw_okq (⟨"TrailGuide$Paths", "clearMarks", "()V"⟩, 4) := ⟨⟨by decide +kernel, by decide +kernel⟩, List.mem_of_getElem? (i := 274) (by decide +kernel), List.mem_of_getElem? (i := 272) (by decide +kernel), List.mem_of_getElem? (i := 273) (by decide +kernel)⟩
theorem lw_p8 : lw_okq (⟨"TrailGuide$Paths", "closestUnmarked", "()I"⟩, 4) := ⟨⟨by decide +kernel, by decide +kernel⟩, List.mem_of_getElem? (i := 274) (by decide +kernel), List.mem_of_getElem? (i := 277) (by decide +kernel), List.mem_of_getElem? (i := 278) (by decide +kernel)⟩
theorem lw_p9 : lw_okq (⟨"TrailGuide$Guide", "faultOfMove", "(II)I"⟩, 3) := ⟨⟨by decide +kernel, by decide +kernel⟩, List.mem_of_getElem? (i := 232) (by decide +kernel), List.mem_of_getElem? (i := 292) (by decide +kernel), List.mem_of_getElem? (i := 293) (by decide +kernel)⟩
theorem lw_p10 : lw_okq (⟨"TrailGuide$History", "slotAt", "(I)LTrailGuide$State;"⟩, 3) := ⟨⟨by decide +kernel, by decide +kernel⟩, List.mem_of_getElem? (i := 369) (by decide +kernel), List.mem_of_getElem? (i := 367) (by decide +kernel), List.mem_of_getElem? (i := 368) (by decide +kernel)⟩
theorem lw_p11 : lw_okq (⟨"TrailGuide$TrailMap", "setLength", "(III)V"⟩, 6) := ⟨⟨by decide +kernel, by decide +kernel⟩, List.mem_of_getElem? (i := 388) (by decide +kernel), List.mem_of_getElem? (i := 386) (by decide +kernel), List.mem_of_getElem? (i := 387) (by decide +kernel)⟩
theorem lw_p12 : lw_okq (⟨"TrailGuide$Guide", "beginTour", "(II)I"⟩, 3) := ⟨⟨by decide +kernel, by decide +kernel⟩, List.mem_of_getElem? (i := 232) (by decide +kernel), List.mem_of_getElem? (i := 395) (by decide +kernel), List.mem_of_getElem? (i := 396) (by decide +kernel)⟩
theorem lw_p13 : lw_okq (⟨"TrailGuide$Guide", "moveHiker", "(II)Z"⟩, 3) := ⟨⟨by decide +kernel, by decide +kernel⟩, List.mem_of_getElem? (i := 232) (by decide +kernel), List.mem_of_getElem? (i := 424) (by decide +kernel), List.mem_of_getElem? (i := 425) (by decide +kernel)⟩
theorem lw_p14 : lw_okq (⟨"TrailGuide$Guide", "setAlarm", "(Z)V"⟩, 3) := ⟨⟨by decide +kernel, by decide +kernel⟩, List.mem_of_getElem? (i := 232) (by decide +kernel), List.mem_of_getElem? (i := 472) (by decide +kernel), List.mem_of_getElem? (i := 473) (by decide +kernel)⟩
theorem lw_p15 : lw_okq (⟨"TrailGuide$Guide", "endTour", "()I"⟩, 3) := ⟨⟨by decide +kernel, by decide +kernel⟩, List.mem_of_getElem? (i := 232) (by decide +kernel), List.mem_of_getElem? (i := 476) (by decide +kernel), List.mem_of_getElem? (i := 477) (by decide +kernel)⟩
def lw_privs_1 : List (MethodName × Nat) := [(⟨"TrailGuide", "requireWaypoint", "(I)V"⟩, 9), (⟨"java/lang/Throwable", "fillInStackTrace", "(I)Ljava/lang/Throwable;"⟩, 6), (⟨"TrailGuide", "change", "(IIII)I"⟩, 9), (⟨"TrailGuide$Guide", "faultOfPoint", "(III)I"⟩, 3), (⟨"TrailGuide$Guide", "faultOfTrail", "(III)I"⟩, 3), (⟨"TrailGuide$Guide", "faultOfCut", "(II)I"⟩, 3), (⟨"TrailGuide$Guide", "faultOfTour", "(II)I"⟩, 3), (⟨"TrailGuide$Paths", "clearMarks", "()V"⟩, 4), (⟨"TrailGuide$Paths", "closestUnmarked", "()I"⟩, 4), (⟨"TrailGuide$Guide", "faultOfMove", "(II)I"⟩, 3), (⟨"TrailGuide$History", "slotAt", "(I)LTrailGuide$State;"⟩, 3), (⟨"TrailGuide$TrailMap", "setLength", "(III)V"⟩, 6), (⟨"TrailGuide$Guide", "beginTour", "(II)I"⟩, 3), (⟨"TrailGuide$Guide", "moveHiker", "(II)Z"⟩, 3), (⟨"TrailGuide$Guide", "setAlarm", "(Z)V"⟩, 3), (⟨"TrailGuide$Guide", "endTour", "()I"⟩, 3)]
theorem lw_r1 : ∀ q ∈ lw_privs_1, lw_okq q := List.forall_mem_cons.mpr ⟨lw_p0, List.forall_mem_cons.mpr ⟨lw_p1, List.forall_mem_cons.mpr ⟨lw_p2, List.forall_mem_cons.mpr ⟨lw_p3, List.forall_mem_cons.mpr ⟨lw_p4, List.forall_mem_cons.mpr ⟨lw_p5, List.forall_mem_cons.mpr ⟨lw_p6, List.forall_mem_cons.mpr ⟨lw_p7, List.forall_mem_cons.mpr ⟨lw_p8, List.forall_mem_cons.mpr ⟨lw_p9, List.forall_mem_cons.mpr ⟨lw_p10, List.forall_mem_cons.mpr ⟨lw_p11, List.forall_mem_cons.mpr ⟨lw_p12, List.forall_mem_cons.mpr ⟨lw_p13, List.forall_mem_cons.mpr ⟨lw_p14, List.forall_mem_cons.mpr ⟨lw_p15, fun _ h => absurd h List.not_mem_nil⟩⟩⟩⟩⟩⟩⟩⟩⟩⟩⟩⟩⟩⟩⟩⟩
theorem lw_p16 : lw_okq (⟨"TrailGuide", "requireTour", "()V"⟩, 9) := ⟨⟨by decide +kernel, by decide +kernel⟩, List.mem_of_getElem? (i := 78) (by decide +kernel), List.mem_of_getElem? (i := 544) (by decide +kernel), List.mem_of_getElem? (i := 545) (by decide +kernel)⟩
theorem lw_p17 : lw_okq (⟨"TrailGuide$Program", "parseCommand", "()Z"⟩, 8) := ⟨⟨by decide +kernel, by decide +kernel⟩, List.mem_of_getElem? (i := 796) (by decide +kernel), List.mem_of_getElem? (i := 1223) (by decide +kernel), List.mem_of_getElem? (i := 1224) (by decide +kernel)⟩
theorem lw_p18 : lw_okq (⟨"TrailGuide$Program", "clearValues", "()V"⟩, 8) := ⟨⟨by decide +kernel, by decide +kernel⟩, List.mem_of_getElem? (i := 796) (by decide +kernel), List.mem_of_getElem? (i := 1227) (by decide +kernel), List.mem_of_getElem? (i := 1228) (by decide +kernel)⟩
theorem lw_p19 : lw_okq (⟨"TrailGuide$Program", "parseOpening", "()I"⟩, 8) := ⟨⟨by decide +kernel, by decide +kernel⟩, List.mem_of_getElem? (i := 796) (by decide +kernel), List.mem_of_getElem? (i := 1231) (by decide +kernel), List.mem_of_getElem? (i := 1232) (by decide +kernel)⟩
theorem lw_p20 : lw_okq (⟨"TrailGuide$Program", "commonLength", "(Ljava/lang/String;I)I"⟩, 8) := ⟨⟨by decide +kernel, by decide +kernel⟩, List.mem_of_getElem? (i := 796) (by decide +kernel), List.mem_of_getElem? (i := 1255) (by decide +kernel), List.mem_of_getElem? (i := 1256) (by decide +kernel)⟩
theorem lw_p21 : lw_okq (⟨"TrailGuide$Program", "isHere", "(IC)Z"⟩, 8) := ⟨⟨by decide +kernel, by decide +kernel⟩, List.mem_of_getElem? (i := 796) (by decide +kernel), List.mem_of_getElem? (i := 1259) (by decide +kernel), List.mem_of_getElem? (i := 1260) (by decide +kernel)⟩
theorem lw_p22 : lw_okq (⟨"TrailGuide$Program", "parsePart", "(C)Z"⟩, 8) := ⟨⟨by decide +kernel, by decide +kernel⟩, List.mem_of_getElem? (i := 796) (by decide +kernel), List.mem_of_getElem? (i := 1263) (by decide +kernel), List.mem_of_getElem? (i := 1264) (by decide +kernel)⟩
theorem lw_p23 : lw_okq (⟨"TrailGuide$Program", "parseNumber", "(I)Z"⟩, 8) := ⟨⟨by decide +kernel, by decide +kernel⟩, List.mem_of_getElem? (i := 796) (by decide +kernel), List.mem_of_getElem? (i := 1267) (by decide +kernel), List.mem_of_getElem? (i := 1268) (by decide +kernel)⟩
theorem lw_p24 : lw_okq (⟨"TrailGuide$Program", "digitHere", "()I"⟩, 8) := ⟨⟨by decide +kernel, by decide +kernel⟩, List.mem_of_getElem? (i := 796) (by decide +kernel), List.mem_of_getElem? (i := 1271) (by decide +kernel), List.mem_of_getElem? (i := 1272) (by decide +kernel)⟩
theorem lw_p25 : lw_okq (⟨"TrailGuide$Program", "addValue", "(I)V"⟩, 8) := ⟨⟨by decide +kernel, by decide +kernel⟩, List.mem_of_getElem? (i := 796) (by decide +kernel), List.mem_of_getElem? (i := 1275) (by decide +kernel), List.mem_of_getElem? (i := 1276) (by decide +kernel)⟩
theorem lw_p26 : lw_okq (⟨"TrailGuide$Program", "parseMode", "()Z"⟩, 8) := ⟨⟨by decide +kernel, by decide +kernel⟩, List.mem_of_getElem? (i := 796) (by decide +kernel), List.mem_of_getElem? (i := 1280) (by decide +kernel), List.mem_of_getElem? (i := 1281) (by decide +kernel)⟩
theorem lw_p27 : lw_okq (⟨"TrailGuide$Program", "parseSign", "(C)Z"⟩, 8) := ⟨⟨by decide +kernel, by decide +kernel⟩, List.mem_of_getElem? (i := 796) (by decide +kernel), List.mem_of_getElem? (i := 1284) (by decide +kernel), List.mem_of_getElem? (i := 1285) (by decide +kernel)⟩
theorem lw_p28 : lw_okq (⟨"TrailGuide$Program", "store", "(I)V"⟩, 8) := ⟨⟨by decide +kernel, by decide +kernel⟩, List.mem_of_getElem? (i := 796) (by decide +kernel), List.mem_of_getElem? (i := 1288) (by decide +kernel), List.mem_of_getElem? (i := 1289) (by decide +kernel)⟩
theorem lw_p29 : lw_okq (⟨"TrailGuide", "firstFailure", "()I"⟩, 9) := ⟨⟨by decide +kernel, by decide +kernel⟩, List.mem_of_getElem? (i := 78) (by decide +kernel), List.mem_of_getElem? (i := 1297) (by decide +kernel), List.mem_of_getElem? (i := 1298) (by decide +kernel)⟩
theorem lw_p30 : lw_okq (⟨"TrailGuide", "requireRouteIndex", "(I)V"⟩, 9) := ⟨⟨by decide +kernel, by decide +kernel⟩, List.mem_of_getElem? (i := 78) (by decide +kernel), List.mem_of_getElem? (i := 1365) (by decide +kernel), List.mem_of_getElem? (i := 1366) (by decide +kernel)⟩
theorem lw_p31 : lw_okq (⟨"TrailGuide$Paths", "relaxAll", "(LTrailGuide$TrailMap;)Z"⟩, 4) := ⟨⟨by decide +kernel, by decide +kernel⟩, List.mem_of_getElem? (i := 274) (by decide +kernel), List.mem_of_getElem? (i := 1405) (by decide +kernel), List.mem_of_getElem? (i := 1406) (by decide +kernel)⟩
def lw_privs_2 : List (MethodName × Nat) := [(⟨"TrailGuide", "requireTour", "()V"⟩, 9), (⟨"TrailGuide$Program", "parseCommand", "()Z"⟩, 8), (⟨"TrailGuide$Program", "clearValues", "()V"⟩, 8), (⟨"TrailGuide$Program", "parseOpening", "()I"⟩, 8), (⟨"TrailGuide$Program", "commonLength", "(Ljava/lang/String;I)I"⟩, 8), (⟨"TrailGuide$Program", "isHere", "(IC)Z"⟩, 8), (⟨"TrailGuide$Program", "parsePart", "(C)Z"⟩, 8), (⟨"TrailGuide$Program", "parseNumber", "(I)Z"⟩, 8), (⟨"TrailGuide$Program", "digitHere", "()I"⟩, 8), (⟨"TrailGuide$Program", "addValue", "(I)V"⟩, 8), (⟨"TrailGuide$Program", "parseMode", "()Z"⟩, 8), (⟨"TrailGuide$Program", "parseSign", "(C)Z"⟩, 8), (⟨"TrailGuide$Program", "store", "(I)V"⟩, 8), (⟨"TrailGuide", "firstFailure", "()I"⟩, 9), (⟨"TrailGuide", "requireRouteIndex", "(I)V"⟩, 9), (⟨"TrailGuide$Paths", "relaxAll", "(LTrailGuide$TrailMap;)Z"⟩, 4)]
theorem lw_r2 : ∀ q ∈ lw_privs_2, lw_okq q := List.forall_mem_cons.mpr ⟨lw_p16, List.forall_mem_cons.mpr ⟨lw_p17, List.forall_mem_cons.mpr ⟨lw_p18, List.forall_mem_cons.mpr ⟨lw_p19, List.forall_mem_cons.mpr ⟨lw_p20, List.forall_mem_cons.mpr ⟨lw_p21, List.forall_mem_cons.mpr ⟨lw_p22, List.forall_mem_cons.mpr ⟨lw_p23, List.forall_mem_cons.mpr ⟨lw_p24, List.forall_mem_cons.mpr ⟨lw_p25, List.forall_mem_cons.mpr ⟨lw_p26, List.forall_mem_cons.mpr ⟨lw_p27, List.forall_mem_cons.mpr ⟨lw_p28, List.forall_mem_cons.mpr ⟨lw_p29, List.forall_mem_cons.mpr ⟨lw_p30, List.forall_mem_cons.mpr ⟨lw_p31, fun _ h => absurd h List.not_mem_nil⟩⟩⟩⟩⟩⟩⟩⟩⟩⟩⟩⟩⟩⟩⟩⟩
theorem lw_p32 : lw_okq (⟨"TrailGuide$Paths", "merge", "(II)Z"⟩, 4) := ⟨⟨by decide +kernel, by decide +kernel⟩, List.mem_of_getElem? (i := 274) (by decide +kernel), List.mem_of_getElem? (i := 1441) (by decide +kernel), List.mem_of_getElem? (i := 1442) (by decide +kernel)⟩
theorem lw_p33 : lw_okq (⟨"TrailGuide$Paths", "leaderOf", "(I)I"⟩, 4) := ⟨⟨by decide +kernel, by decide +kernel⟩, List.mem_of_getElem? (i := 274) (by decide +kernel), List.mem_of_getElem? (i := 1445) (by decide +kernel), List.mem_of_getElem? (i := 1446) (by decide +kernel)⟩
def lw_privs_3 : List (MethodName × Nat) := [(⟨"TrailGuide$Paths", "merge", "(II)Z"⟩, 4), (⟨"TrailGuide$Paths", "leaderOf", "(I)I"⟩, 4)]
theorem lw_r3 : ∀ q ∈ lw_privs_3, lw_okq q := List.forall_mem_cons.mpr ⟨lw_p32, List.forall_mem_cons.mpr ⟨lw_p33, fun _ h => absurd h List.not_mem_nil⟩⟩
def lw_privs : List (MethodName × Nat) := lw_privs_1 ++ (lw_privs_2 ++ (lw_privs_3))
def lw_tbl : List Cond := k2_sels lw_privs ++ tables_1
theorem lw_privs_ok : ∀ q ∈ lw_privs, lw_okq q := by
  show ∀ q ∈ lw_privs_1 ++ (lw_privs_2 ++ (lw_privs_3)), lw_okq q
  exact List.forall_mem_append.mpr ⟨lw_r1, List.forall_mem_append.mpr ⟨lw_r2, lw_r3⟩⟩
def RX0 : String := "TrailGuide$Drift"
def TX0 : u_T := fun k => match k with
  | 0 => ("TrailGuide$Drift", "numerator", "J", false)
  | _ => ("TrailGuide$Drift", "denominator", "J", false)
def tyX0 : Nat → FieldType := fun k => match k with
  | 0 => .long
  | _ => .long
abbrev wsX00 : List Cond := u_ws RX0 TX0 2
theorem nmX0 : ∀ a, a < 2 → ∀ b, b < 2 → a ≠ b → (TX0 a).2.1 ≠ (TX0 b).2.1 := by decide +kernel
theorem tyX0_ok : ∀ k, k < 2 → parseFieldDescriptor (TX0 k).2.2.1 = some (tyX0 k) := by decide +kernel
abbrev cX0_init : ByteArray := prog_2_method_1_code
def yX0_init : MethodName := ⟨RX0, "<init>", "()V"⟩
abbrev cX0_measure : ByteArray := prog_2_method_2_code
def yX0_measure : MethodName := ⟨RX0, "measure", "(IIII)V"⟩
abbrev cX0_isAbove : ByteArray := prog_2_method_3_code
def yX0_isAbove : MethodName := ⟨RX0, "isAbove", "(I)Z"⟩
abbrev cX0_roundedDown : ByteArray := prog_2_method_4_code
def yX0_roundedDown : MethodName := ⟨RX0, "roundedDown", "()I"⟩
def RX1 : String := "TrailGuide$Guide"
def TX1 : u_T := fun k => match k with
  | 0 => ("TrailGuide$Guide", "state", "LTrailGuide$State;", true)
  | 1 => ("TrailGuide$Guide", "paths", "LTrailGuide$Paths;", true)
  | _ => ("TrailGuide$Guide", "drift", "LTrailGuide$Drift;", true)
def tyX1 : Nat → FieldType := fun k => match k with
  | 0 => .object "TrailGuide$State"
  | 1 => .object "TrailGuide$Paths"
  | _ => .object "TrailGuide$Drift"
abbrev wsX10 : List Cond := u_ws RX1 TX1 3
theorem nmX1 : ∀ a, a < 3 → ∀ b, b < 3 → a ≠ b → (TX1 a).2.1 ≠ (TX1 b).2.1 := by decide +kernel
theorem tyX1_ok : ∀ k, k < 3 → parseFieldDescriptor (TX1 k).2.2.1 = some (tyX1 k) := by decide +kernel
abbrev cX1_init : ByteArray := prog_3_method_1_code
def yX1_init : MethodName := ⟨RX1, "<init>", "()V"⟩
abbrev cX1_faultOf : ByteArray := prog_3_method_2_code
def yX1_faultOf : MethodName := ⟨RX1, "faultOf", "(IIII)I"⟩
abbrev cX1_faultOfPoint : ByteArray := prog_3_method_3_code
def yX1_faultOfPoint : MethodName := ⟨RX1, "faultOfPoint", "(III)I"⟩
abbrev cX1_faultOfTrail : ByteArray := prog_3_method_4_code
def yX1_faultOfTrail : MethodName := ⟨RX1, "faultOfTrail", "(III)I"⟩
abbrev cX1_faultOfCut : ByteArray := prog_3_method_5_code
def yX1_faultOfCut : MethodName := ⟨RX1, "faultOfCut", "(II)I"⟩
abbrev cX1_faultOfTour : ByteArray := prog_3_method_6_code
def yX1_faultOfTour : MethodName := ⟨RX1, "faultOfTour", "(II)I"⟩
abbrev cX1_faultOfMove : ByteArray := prog_3_method_7_code
def yX1_faultOfMove : MethodName := ⟨RX1, "faultOfMove", "(II)I"⟩
abbrev cX1_perform : ByteArray := prog_3_method_8_code
def yX1_perform : MethodName := ⟨RX1, "perform", "(IIII)I"⟩
abbrev cX1_beginTour : ByteArray := prog_3_method_9_code
def yX1_beginTour : MethodName := ⟨RX1, "beginTour", "(II)I"⟩
abbrev cX1_endTour : ByteArray := prog_3_method_10_code
def yX1_endTour : MethodName := ⟨RX1, "endTour", "()I"⟩
abbrev cX1_moveHiker : ByteArray := prog_3_method_11_code
def yX1_moveHiker : MethodName := ⟨RX1, "moveHiker", "(II)Z"⟩
abbrev cX1_setAlarm : ByteArray := prog_3_method_12_code
def yX1_setAlarm : MethodName := ⟨RX1, "setAlarm", "(Z)V"⟩
abbrev cX1_reachesTarget : ByteArray := prog_3_method_13_code
def yX1_reachesTarget : MethodName := ⟨RX1, "reachesTarget", "(II)Z"⟩
abbrev cX1_measureDrift : ByteArray := prog_3_method_14_code
def yX1_measureDrift : MethodName := ⟨RX1, "measureDrift", "(II)V"⟩
abbrev cX1_turnAt : ByteArray := prog_3_method_15_code
def yX1_turnAt : MethodName := ⟨RX1, "turnAt", "(I)C"⟩
def RX2 : String := "TrailGuide$History"
def TX2 : u_T := fun k => match k with
  | 0 => ("TrailGuide$History", "ring", "[LTrailGuide$State;", true)
  | 1 => ("TrailGuide$History", "next", "I", false)
  | _ => ("TrailGuide$History", "count", "I", false)
def tyX2 : Nat → FieldType := fun k => match k with
  | 0 => .array (.object "TrailGuide$State")
  | 1 => .int
  | _ => .int
abbrev wsX20 : List Cond := u_ws RX2 TX2 3
theorem nmX2 : ∀ a, a < 3 → ∀ b, b < 3 → a ≠ b → (TX2 a).2.1 ≠ (TX2 b).2.1 := by decide +kernel
theorem tyX2_ok : ∀ k, k < 3 → parseFieldDescriptor (TX2 k).2.2.1 = some (tyX2 k) := by decide +kernel
abbrev cX2_init : ByteArray := prog_4_method_1_code
def yX2_init : MethodName := ⟨RX2, "<init>", "()V"⟩
abbrev cX2_slotAt : ByteArray := prog_4_method_2_code
def yX2_slotAt : MethodName := ⟨RX2, "slotAt", "(I)LTrailGuide$State;"⟩
abbrev cX2_keep : ByteArray := prog_4_method_3_code
def yX2_keep : MethodName := ⟨RX2, "keep", "(LTrailGuide$State;)V"⟩
abbrev cX2_takeBack : ByteArray := prog_4_method_4_code
def yX2_takeBack : MethodName := ⟨RX2, "takeBack", "(LTrailGuide$State;)V"⟩
abbrev cX2_forget : ByteArray := prog_4_method_5_code
def yX2_forget : MethodName := ⟨RX2, "forget", "()V"⟩
def RX3 : String := "TrailGuide$Line"
def TX3 : u_T := fun k => match k with
  | 0 => ("TrailGuide$Line", "signs", "[C", true)
  | _ => ("TrailGuide$Line", "length", "I", false)
def tyX3 : Nat → FieldType := fun k => match k with
  | 0 => .array .char
  | _ => .int
abbrev wsX30 : List Cond := u_ws RX3 TX3 2
theorem nmX3 : ∀ a, a < 2 → ∀ b, b < 2 → a ≠ b → (TX3 a).2.1 ≠ (TX3 b).2.1 := by decide +kernel
theorem tyX3_ok : ∀ k, k < 2 → parseFieldDescriptor (TX3 k).2.2.1 = some (tyX3 k) := by decide +kernel
abbrev cX3_init : ByteArray := prog_5_method_1_code
def yX3_init : MethodName := ⟨RX3, "<init>", "()V"⟩
abbrev cX3_clear : ByteArray := prog_5_method_2_code
def yX3_clear : MethodName := ⟨RX3, "clear", "()V"⟩
abbrev cX3_putSign : ByteArray := prog_5_method_3_code
def yX3_putSign : MethodName := ⟨RX3, "putSign", "(C)V"⟩
abbrev cX3_putNumber : ByteArray := prog_5_method_4_code
def yX3_putNumber : MethodName := ⟨RX3, "putNumber", "(I)V"⟩
def RX4 : String := "TrailGuide$Meter"
def TX4 : u_T := fun k => match k with
  | 0 => ("TrailGuide$Meter", "battery", "I", false)
  | 1 => ("TrailGuide$Meter", "mode", "I", false)
  | 2 => ("TrailGuide$Meter", "tolerance", "I", false)
  | 3 => ("TrailGuide$Meter", "updates", "I", false)
  | 4 => ("TrailGuide$Meter", "alarms", "I", false)
  | _ => ("TrailGuide$Meter", "reached", "I", false)
def tyX4 : Nat → FieldType := fun k => match k with
  | 0 => .int
  | 1 => .int
  | 2 => .int
  | 3 => .int
  | 4 => .int
  | _ => .int
abbrev wsX40 : List Cond := u_ws RX4 TX4 6
theorem nmX4 : ∀ a, a < 6 → ∀ b, b < 6 → a ≠ b → (TX4 a).2.1 ≠ (TX4 b).2.1 := by decide +kernel
theorem tyX4_ok : ∀ k, k < 6 → parseFieldDescriptor (TX4 k).2.2.1 = some (tyX4 k) := by decide +kernel
abbrev cX4_init : ByteArray := prog_6_method_1_code
def yX4_init : MethodName := ⟨RX4, "<init>", "()V"⟩
abbrev cX4_takeFrom : ByteArray := prog_6_method_2_code
def yX4_takeFrom : MethodName := ⟨RX4, "takeFrom", "(LTrailGuide$Meter;)V"⟩
abbrev cX4_cost : ByteArray := prog_6_method_3_code
def yX4_cost : MethodName := ⟨RX4, "cost", "()I"⟩
abbrev cX4_spend : ByteArray := prog_6_method_4_code
def yX4_spend : MethodName := ⟨RX4, "spend", "(I)V"⟩
abbrev cX4_refill : ByteArray := prog_6_method_5_code
def yX4_refill : MethodName := ⟨RX4, "refill", "(I)I"⟩
abbrev cX4_exchangeMode : ByteArray := prog_6_method_6_code
def yX4_exchangeMode : MethodName := ⟨RX4, "exchangeMode", "(I)I"⟩
abbrev cX4_exchangeTolerance : ByteArray := prog_6_method_7_code
def yX4_exchangeTolerance : MethodName := ⟨RX4, "exchangeTolerance", "(I)I"⟩
abbrev cX4_leftByDivision : ByteArray := prog_6_method_8_code
def yX4_leftByDivision : MethodName := ⟨RX4, "leftByDivision", "()I"⟩
abbrev cX4_leftByCounting : ByteArray := prog_6_method_9_code
def yX4_leftByCounting : MethodName := ⟨RX4, "leftByCounting", "()I"⟩
def RX5 : String := "TrailGuide$Paths"
def TX5 : u_T := fun k => match k with
  | 0 => ("TrailGuide$Paths", "settledRow", "[I", true)
  | 1 => ("TrailGuide$Paths", "relaxedRow", "[I", true)
  | 2 => ("TrailGuide$Paths", "leaders", "[I", true)
  | _ => ("TrailGuide$Paths", "marks", "[Z", true)
def tyX5 : Nat → FieldType := fun k => match k with
  | 0 => .array .int
  | 1 => .array .int
  | 2 => .array .int
  | _ => .array .boolean
abbrev wsX50 : List Cond := u_ws RX5 TX5 4
theorem nmX5 : ∀ a, a < 4 → ∀ b, b < 4 → a ≠ b → (TX5 a).2.1 ≠ (TX5 b).2.1 := by decide +kernel
theorem tyX5_ok : ∀ k, k < 4 → parseFieldDescriptor (TX5 k).2.2.1 = some (tyX5 k) := by decide +kernel
abbrev cX5_init : ByteArray := prog_7_method_1_code
def yX5_init : MethodName := ⟨RX5, "<init>", "()V"⟩
abbrev cX5_settledDistance : ByteArray := prog_7_method_2_code
def yX5_settledDistance : MethodName := ⟨RX5, "settledDistance", "(I)I"⟩
abbrev cX5_relaxedDistance : ByteArray := prog_7_method_3_code
def yX5_relaxedDistance : MethodName := ⟨RX5, "relaxedDistance", "(I)I"⟩
abbrev cX5_clearMarks : ByteArray := prog_7_method_4_code
def yX5_clearMarks : MethodName := ⟨RX5, "clearMarks", "()V"⟩
abbrev cX5_startRow : ByteArray := prog_7_method_5_code
def yX5_startRow : MethodName := ⟨RX5, "startRow", "([II)V"⟩
abbrev cX5_settleFrom : ByteArray := prog_7_method_6_code
def yX5_settleFrom : MethodName := ⟨RX5, "settleFrom", "(LTrailGuide$TrailMap;I)V"⟩
abbrev cX5_closestUnmarked : ByteArray := prog_7_method_7_code
def yX5_closestUnmarked : MethodName := ⟨RX5, "closestUnmarked", "()I"⟩
abbrev cX5_shorten : ByteArray := prog_7_method_8_code
def yX5_shorten : MethodName := ⟨RX5, "shorten", "([IIII)Z"⟩
abbrev cX5_relaxFrom : ByteArray := prog_7_method_9_code
def yX5_relaxFrom : MethodName := ⟨RX5, "relaxFrom", "(LTrailGuide$TrailMap;I)V"⟩
abbrev cX5_relaxAll : ByteArray := prog_7_method_10_code
def yX5_relaxAll : MethodName := ⟨RX5, "relaxAll", "(LTrailGuide$TrailMap;)Z"⟩
abbrev cX5_distancesAgree : ByteArray := prog_7_method_11_code
def yX5_distancesAgree : MethodName := ⟨RX5, "distancesAgree", "(LTrailGuide$TrailMap;)Z"⟩
abbrev cX5_nextTowardsStart : ByteArray := prog_7_method_12_code
def yX5_nextTowardsStart : MethodName := ⟨RX5, "nextTowardsStart", "(LTrailGuide$TrailMap;I)I"⟩
abbrev cX5_countBySearch : ByteArray := prog_7_method_13_code
def yX5_countBySearch : MethodName := ⟨RX5, "countBySearch", "(LTrailGuide$TrailMap;)I"⟩
abbrev cX5_search : ByteArray := prog_7_method_14_code
def yX5_search : MethodName := ⟨RX5, "search", "(LTrailGuide$TrailMap;[ZII)V"⟩
abbrev cX5_countByMerging : ByteArray := prog_7_method_15_code
def yX5_countByMerging : MethodName := ⟨RX5, "countByMerging", "(LTrailGuide$TrailMap;)I"⟩
abbrev cX5_merge : ByteArray := prog_7_method_16_code
def yX5_merge : MethodName := ⟨RX5, "merge", "(II)Z"⟩
abbrev cX5_leaderOf : ByteArray := prog_7_method_17_code
def yX5_leaderOf : MethodName := ⟨RX5, "leaderOf", "(I)I"⟩
def RX6 : String := "TrailGuide$Program"
def TX6 : u_T := fun k => match k with
  | 0 => ("TrailGuide$Program", "text", "[C", true)
  | 1 => ("TrailGuide$Program", "kinds", "[I", true)
  | 2 => ("TrailGuide$Program", "arguments", "[I", true)
  | 3 => ("TrailGuide$Program", "values", "[I", true)
  | 4 => ("TrailGuide$Program", "size", "I", false)
  | 5 => ("TrailGuide$Program", "position", "I", false)
  | 6 => ("TrailGuide$Program", "count", "I", false)
  | _ => ("TrailGuide$Program", "valueCount", "I", false)
def tyX6 : Nat → FieldType := fun k => match k with
  | 0 => .array .char
  | 1 => .array .int
  | 2 => .array .int
  | 3 => .array .int
  | 4 => .int
  | 5 => .int
  | 6 => .int
  | _ => .int
abbrev wsX60 : List Cond := u_ws RX6 TX6 8
theorem nmX6 : ∀ a, a < 8 → ∀ b, b < 8 → a ≠ b → (TX6 a).2.1 ≠ (TX6 b).2.1 := by decide +kernel
theorem tyX6_ok : ∀ k, k < 8 → parseFieldDescriptor (TX6 k).2.2.1 = some (tyX6 k) := by decide +kernel
abbrev cX6_init : ByteArray := prog_8_method_1_code
def yX6_init : MethodName := ⟨RX6, "<init>", "()V"⟩
abbrev cX6_isFull : ByteArray := prog_8_method_2_code
def yX6_isFull : MethodName := ⟨RX6, "isFull", "()Z"⟩
abbrev cX6_append : ByteArray := prog_8_method_3_code
def yX6_append : MethodName := ⟨RX6, "append", "(C)I"⟩
abbrev cX6_empty : ByteArray := prog_8_method_4_code
def yX6_empty : MethodName := ⟨RX6, "empty", "()V"⟩
abbrev cX6_kindOf : ByteArray := prog_8_method_5_code
def yX6_kindOf : MethodName := ⟨RX6, "kindOf", "(I)I"⟩
abbrev cX6_argumentOf : ByteArray := prog_8_method_6_code
def yX6_argumentOf : MethodName := ⟨RX6, "argumentOf", "(II)I"⟩
abbrev cX6_patternOf : ByteArray := prog_8_method_7_code
def yX6_patternOf : MethodName := ⟨RX6, "patternOf", "(I)Ljava/lang/String;"⟩
abbrev cX6_parse : ByteArray := prog_8_method_8_code
def yX6_parse : MethodName := ⟨RX6, "parse", "()Z"⟩
abbrev cX6_parseCommand : ByteArray := prog_8_method_9_code
def yX6_parseCommand : MethodName := ⟨RX6, "parseCommand", "()Z"⟩
abbrev cX6_parseOpening : ByteArray := prog_8_method_10_code
def yX6_parseOpening : MethodName := ⟨RX6, "parseOpening", "()I"⟩
abbrev cX6_openingLength : ByteArray := prog_8_method_11_code
def yX6_openingLength : MethodName := ⟨RX6, "openingLength", "(Ljava/lang/String;)I"⟩
abbrev cX6_commonLength : ByteArray := prog_8_method_12_code
def yX6_commonLength : MethodName := ⟨RX6, "commonLength", "(Ljava/lang/String;I)I"⟩
abbrev cX6_isHere : ByteArray := prog_8_method_13_code
def yX6_isHere : MethodName := ⟨RX6, "isHere", "(IC)Z"⟩
abbrev cX6_isPlaceholder : ByteArray := prog_8_method_14_code
def yX6_isPlaceholder : MethodName := ⟨RX6, "isPlaceholder", "(C)Z"⟩
abbrev cX6_parsePart : ByteArray := prog_8_method_15_code
def yX6_parsePart : MethodName := ⟨RX6, "parsePart", "(C)Z"⟩
abbrev cX6_parseSign : ByteArray := prog_8_method_16_code
def yX6_parseSign : MethodName := ⟨RX6, "parseSign", "(C)Z"⟩
abbrev cX6_parseNumber : ByteArray := prog_8_method_17_code
def yX6_parseNumber : MethodName := ⟨RX6, "parseNumber", "(I)Z"⟩
abbrev cX6_digitHere : ByteArray := prog_8_method_18_code
def yX6_digitHere : MethodName := ⟨RX6, "digitHere", "()I"⟩
abbrev cX6_parseMode : ByteArray := prog_8_method_19_code
def yX6_parseMode : MethodName := ⟨RX6, "parseMode", "()Z"⟩
abbrev cX6_clearValues : ByteArray := prog_8_method_20_code
def yX6_clearValues : MethodName := ⟨RX6, "clearValues", "()V"⟩
abbrev cX6_addValue : ByteArray := prog_8_method_21_code
def yX6_addValue : MethodName := ⟨RX6, "addValue", "(I)V"⟩
abbrev cX6_store : ByteArray := prog_8_method_22_code
def yX6_store : MethodName := ⟨RX6, "store", "(I)V"⟩
def RX7 : String := "TrailGuide$State"
def TX7 : u_T := fun k => match k with
  | 0 => ("TrailGuide$State", "map", "LTrailGuide$TrailMap;", true)
  | 1 => ("TrailGuide$State", "tour", "LTrailGuide$Tour;", true)
  | _ => ("TrailGuide$State", "meter", "LTrailGuide$Meter;", true)
def tyX7 : Nat → FieldType := fun k => match k with
  | 0 => .object "TrailGuide$TrailMap"
  | 1 => .object "TrailGuide$Tour"
  | _ => .object "TrailGuide$Meter"
abbrev wsX70 : List Cond := u_ws RX7 TX7 3
theorem nmX7 : ∀ a, a < 3 → ∀ b, b < 3 → a ≠ b → (TX7 a).2.1 ≠ (TX7 b).2.1 := by decide +kernel
theorem tyX7_ok : ∀ k, k < 3 → parseFieldDescriptor (TX7 k).2.2.1 = some (tyX7 k) := by decide +kernel
abbrev cX7_init : ByteArray := prog_9_method_1_code
def yX7_init : MethodName := ⟨RX7, "<init>", "()V"⟩
abbrev cX7_takeFrom : ByteArray := prog_9_method_2_code
def yX7_takeFrom : MethodName := ⟨RX7, "takeFrom", "(LTrailGuide$State;)V"⟩
def RX8 : String := "TrailGuide$Tour"
def TX8 : u_T := fun k => match k with
  | 0 => ("TrailGuide$Tour", "route", "[I", true)
  | 1 => ("TrailGuide$Tour", "count", "I", false)
  | 2 => ("TrailGuide$Tour", "targetIndex", "I", false)
  | 3 => ("TrailGuide$Tour", "x", "I", false)
  | 4 => ("TrailGuide$Tour", "y", "I", false)
  | _ => ("TrailGuide$Tour", "alarm", "Z", false)
def tyX8 : Nat → FieldType := fun k => match k with
  | 0 => .array .int
  | 1 => .int
  | 2 => .int
  | 3 => .int
  | 4 => .int
  | _ => .boolean
abbrev wsX80 : List Cond := u_ws RX8 TX8 6
theorem nmX8 : ∀ a, a < 6 → ∀ b, b < 6 → a ≠ b → (TX8 a).2.1 ≠ (TX8 b).2.1 := by decide +kernel
theorem tyX8_ok : ∀ k, k < 6 → parseFieldDescriptor (TX8 k).2.2.1 = some (tyX8 k) := by decide +kernel
abbrev cX8_init : ByteArray := prog_10_method_1_code
def yX8_init : MethodName := ⟨RX8, "<init>", "()V"⟩
abbrev cX8_takeFrom : ByteArray := prog_10_method_2_code
def yX8_takeFrom : MethodName := ⟨RX8, "takeFrom", "(LTrailGuide$Tour;)V"⟩
abbrev cX8_isOn : ByteArray := prog_10_method_3_code
def yX8_isOn : MethodName := ⟨RX8, "isOn", "()Z"⟩
abbrev cX8_hasIndex : ByteArray := prog_10_method_4_code
def yX8_hasIndex : MethodName := ⟨RX8, "hasIndex", "(I)Z"⟩
abbrev cX8_isInner : ByteArray := prog_10_method_5_code
def yX8_isInner : MethodName := ⟨RX8, "isInner", "(I)Z"⟩
abbrev cX8_waypointAt : ByteArray := prog_10_method_6_code
def yX8_waypointAt : MethodName := ⟨RX8, "waypointAt", "(I)I"⟩
abbrev cX8_targetWaypoint : ByteArray := prog_10_method_7_code
def yX8_targetWaypoint : MethodName := ⟨RX8, "targetWaypoint", "()I"⟩
abbrev cX8_append : ByteArray := prog_10_method_8_code
def yX8_append : MethodName := ⟨RX8, "append", "(I)V"⟩
abbrev cX8_advance : ByteArray := prog_10_method_9_code
def yX8_advance : MethodName := ⟨RX8, "advance", "()V"⟩
abbrev cX8_end : ByteArray := prog_10_method_10_code
def yX8_end : MethodName := ⟨RX8, "end", "()V"⟩
def RX9 : String := "TrailGuide$TrailMap"
def TX9 : u_T := fun k => match k with
  | 0 => ("TrailGuide$TrailMap", "xs", "[I", true)
  | 1 => ("TrailGuide$TrailMap", "ys", "[I", true)
  | 2 => ("TrailGuide$TrailMap", "radii", "[I", true)
  | 3 => ("TrailGuide$TrailMap", "lengths", "[I", true)
  | 4 => ("TrailGuide$TrailMap", "count", "I", false)
  | _ => ("TrailGuide$TrailMap", "trailCount", "I", false)
def tyX9 : Nat → FieldType := fun k => match k with
  | 0 => .array .int
  | 1 => .array .int
  | 2 => .array .int
  | 3 => .array .int
  | 4 => .int
  | _ => .int
abbrev wsX90 : List Cond := u_ws RX9 TX9 6
theorem nmX9 : ∀ a, a < 6 → ∀ b, b < 6 → a ≠ b → (TX9 a).2.1 ≠ (TX9 b).2.1 := by decide +kernel
theorem tyX9_ok : ∀ k, k < 6 → parseFieldDescriptor (TX9 k).2.2.1 = some (tyX9 k) := by decide +kernel
abbrev cX9_init : ByteArray := prog_11_method_1_code
def yX9_init : MethodName := ⟨RX9, "<init>", "()V"⟩
abbrev cX9_takeFrom : ByteArray := prog_11_method_2_code
def yX9_takeFrom : MethodName := ⟨RX9, "takeFrom", "(LTrailGuide$TrailMap;)V"⟩
abbrev cX9_isFull : ByteArray := prog_11_method_3_code
def yX9_isFull : MethodName := ⟨RX9, "isFull", "()Z"⟩
abbrev cX9_exists : ByteArray := prog_11_method_4_code
def yX9_exists : MethodName := ⟨RX9, "exists", "(I)Z"⟩
abbrev cX9_xOf : ByteArray := prog_11_method_5_code
def yX9_xOf : MethodName := ⟨RX9, "xOf", "(I)I"⟩
abbrev cX9_yOf : ByteArray := prog_11_method_6_code
def yX9_yOf : MethodName := ⟨RX9, "yOf", "(I)I"⟩
abbrev cX9_radiusOf : ByteArray := prog_11_method_7_code
def yX9_radiusOf : MethodName := ⟨RX9, "radiusOf", "(I)I"⟩
abbrev cX9_lengthBetween : ByteArray := prog_11_method_8_code
def yX9_lengthBetween : MethodName := ⟨RX9, "lengthBetween", "(II)I"⟩
abbrev cX9_areJoined : ByteArray := prog_11_method_9_code
def yX9_areJoined : MethodName := ⟨RX9, "areJoined", "(II)Z"⟩
abbrev cX9_append : ByteArray := prog_11_method_10_code
def yX9_append : MethodName := ⟨RX9, "append", "(III)I"⟩
abbrev cX9_join : ByteArray := prog_11_method_11_code
def yX9_join : MethodName := ⟨RX9, "join", "(III)I"⟩
abbrev cX9_cut : ByteArray := prog_11_method_12_code
def yX9_cut : MethodName := ⟨RX9, "cut", "(II)I"⟩
abbrev cX9_setLength : ByteArray := prog_11_method_13_code
def yX9_setLength : MethodName := ⟨RX9, "setLength", "(III)V"⟩
abbrev cX9_squareTo : ByteArray := prog_11_method_15_code
def yX9_squareTo : MethodName := ⟨RX9, "squareTo", "(III)I"⟩
abbrev cX9_closestTo : ByteArray := prog_11_method_16_code
def yX9_closestTo : MethodName := ⟨RX9, "closestTo", "(II)I"⟩
def RX10 : String := "TrailGuide"
def TX10 : u_T := fun k => match k with
  | 0 => ("TrailGuide", "guide", "LTrailGuide$Guide;", true)
  | 1 => ("TrailGuide", "history", "LTrailGuide$History;", true)
  | 2 => ("TrailGuide", "saved", "LTrailGuide$State;", true)
  | 3 => ("TrailGuide", "beforeRun", "LTrailGuide$State;", true)
  | 4 => ("TrailGuide", "program", "LTrailGuide$Program;", true)
  | 5 => ("TrailGuide", "line", "LTrailGuide$Line;", true)
  | 6 => ("TrailGuide", "isSaved", "Z", false)
  | 7 => ("TrailGuide", "recordedError", "I", false)
  | _ => ("TrailGuide", "recordedFailure", "I", false)
def tyX10 : Nat → FieldType := fun k => match k with
  | 0 => .object "TrailGuide$Guide"
  | 1 => .object "TrailGuide$History"
  | 2 => .object "TrailGuide$State"
  | 3 => .object "TrailGuide$State"
  | 4 => .object "TrailGuide$Program"
  | 5 => .object "TrailGuide$Line"
  | 6 => .boolean
  | 7 => .int
  | _ => .int
abbrev wsX100 : List Cond := u_ws RX10 TX10 9
theorem nmX10 : ∀ a, a < 9 → ∀ b, b < 9 → a ≠ b → (TX10 a).2.1 ≠ (TX10 b).2.1 := by decide +kernel
theorem tyX10_ok : ∀ k, k < 9 → parseFieldDescriptor (TX10 k).2.2.1 = some (tyX10 k) := by decide +kernel
abbrev cX10_init : ByteArray := prog_1_method_1_code
def yX10_init : MethodName := ⟨RX10, "<init>", "()V"⟩
abbrev cX10_addWaypoint : ByteArray := prog_1_method_2_code
def yX10_addWaypoint : MethodName := ⟨RX10, "addWaypoint", "(III)I"⟩
abbrev cX10_addTrail : ByteArray := prog_1_method_3_code
def yX10_addTrail : MethodName := ⟨RX10, "addTrail", "(III)I"⟩
abbrev cX10_removeTrail : ByteArray := prog_1_method_4_code
def yX10_removeTrail : MethodName := ⟨RX10, "removeTrail", "(II)I"⟩
abbrev cX10_startTour : ByteArray := prog_1_method_5_code
def yX10_startTour : MethodName := ⟨RX10, "startTour", "(II)I"⟩
abbrev cX10_stopTour : ByteArray := prog_1_method_6_code
def yX10_stopTour : MethodName := ⟨RX10, "stopTour", "()I"⟩
abbrev cX10_update : ByteArray := prog_1_method_7_code
def yX10_update : MethodName := ⟨RX10, "update", "(II)Z"⟩
abbrev cX10_setTolerance : ByteArray := prog_1_method_8_code
def yX10_setTolerance : MethodName := ⟨RX10, "setTolerance", "(I)I"⟩
abbrev cX10_setMode : ByteArray := prog_1_method_9_code
def yX10_setMode : MethodName := ⟨RX10, "setMode", "(I)I"⟩
abbrev cX10_charge : ByteArray := prog_1_method_10_code
def yX10_charge : MethodName := ⟨RX10, "charge", "(I)I"⟩
abbrev cX10_waypoints : ByteArray := prog_1_method_11_code
def yX10_waypoints : MethodName := ⟨RX10, "waypoints", "()I"⟩
abbrev cX10_waypointX : ByteArray := prog_1_method_12_code
def yX10_waypointX : MethodName := ⟨RX10, "waypointX", "(I)I"⟩
abbrev cX10_waypointY : ByteArray := prog_1_method_13_code
def yX10_waypointY : MethodName := ⟨RX10, "waypointY", "(I)I"⟩
abbrev cX10_radius : ByteArray := prog_1_method_14_code
def yX10_radius : MethodName := ⟨RX10, "radius", "(I)I"⟩
abbrev cX10_trails : ByteArray := prog_1_method_15_code
def yX10_trails : MethodName := ⟨RX10, "trails", "()I"⟩
abbrev cX10_hasTrail : ByteArray := prog_1_method_16_code
def yX10_hasTrail : MethodName := ⟨RX10, "hasTrail", "(II)Z"⟩
abbrev cX10_trailLength : ByteArray := prog_1_method_17_code
def yX10_trailLength : MethodName := ⟨RX10, "trailLength", "(II)I"⟩
abbrev cX10_distance : ByteArray := prog_1_method_18_code
def yX10_distance : MethodName := ⟨RX10, "distance", "(II)I"⟩
abbrev cX10_distanceByRelaxation : ByteArray := prog_1_method_19_code
def yX10_distanceByRelaxation : MethodName := ⟨RX10, "distanceByRelaxation", "(II)I"⟩
abbrev cX10_components : ByteArray := prog_1_method_20_code
def yX10_components : MethodName := ⟨RX10, "components", "()I"⟩
abbrev cX10_componentsByMerging : ByteArray := prog_1_method_21_code
def yX10_componentsByMerging : MethodName := ⟨RX10, "componentsByMerging", "()I"⟩
abbrev cX10_nearest : ByteArray := prog_1_method_22_code
def yX10_nearest : MethodName := ⟨RX10, "nearest", "(II)I"⟩
abbrev cX10_isTouring : ByteArray := prog_1_method_23_code
def yX10_isTouring : MethodName := ⟨RX10, "isTouring", "()Z"⟩
abbrev cX10_routeLength : ByteArray := prog_1_method_24_code
def yX10_routeLength : MethodName := ⟨RX10, "routeLength", "()I"⟩
abbrev cX10_routeWaypoint : ByteArray := prog_1_method_25_code
def yX10_routeWaypoint : MethodName := ⟨RX10, "routeWaypoint", "(I)I"⟩
abbrev cX10_target : ByteArray := prog_1_method_27_code
def yX10_target : MethodName := ⟨RX10, "target", "()I"⟩
abbrev cX10_hikerX : ByteArray := prog_1_method_28_code
def yX10_hikerX : MethodName := ⟨RX10, "hikerX", "()I"⟩
abbrev cX10_hikerY : ByteArray := prog_1_method_29_code
def yX10_hikerY : MethodName := ⟨RX10, "hikerY", "()I"⟩
abbrev cX10_drift : ByteArray := prog_1_method_30_code
def yX10_drift : MethodName := ⟨RX10, "drift", "()I"⟩
abbrev cX10_isAlarm : ByteArray := prog_1_method_31_code
def yX10_isAlarm : MethodName := ⟨RX10, "isAlarm", "()Z"⟩
abbrev cX10_battery : ByteArray := prog_1_method_33_code
def yX10_battery : MethodName := ⟨RX10, "battery", "()I"⟩
abbrev cX10_mode : ByteArray := prog_1_method_34_code
def yX10_mode : MethodName := ⟨RX10, "mode", "()I"⟩
abbrev cX10_tolerance : ByteArray := prog_1_method_35_code
def yX10_tolerance : MethodName := ⟨RX10, "tolerance", "()I"⟩
abbrev cX10_updatesLeft : ByteArray := prog_1_method_36_code
def yX10_updatesLeft : MethodName := ⟨RX10, "updatesLeft", "()I"⟩
abbrev cX10_updatesLeftByCounting : ByteArray := prog_1_method_37_code
def yX10_updatesLeftByCounting : MethodName := ⟨RX10, "updatesLeftByCounting", "()I"⟩
abbrev cX10_updates : ByteArray := prog_1_method_38_code
def yX10_updates : MethodName := ⟨RX10, "updates", "()I"⟩
abbrev cX10_alarms : ByteArray := prog_1_method_39_code
def yX10_alarms : MethodName := ⟨RX10, "alarms", "()I"⟩
abbrev cX10_reached : ByteArray := prog_1_method_40_code
def yX10_reached : MethodName := ⟨RX10, "reached", "()I"⟩
abbrev cX10_isConsistent : ByteArray := prog_1_method_43_code
def yX10_isConsistent : MethodName := ⟨RX10, "isConsistent", "()Z"⟩
abbrev cX10_writeRoute : ByteArray := prog_1_method_44_code
def yX10_writeRoute : MethodName := ⟨RX10, "writeRoute", "()I"⟩
abbrev cX10_writeTrails : ByteArray := prog_1_method_45_code
def yX10_writeTrails : MethodName := ⟨RX10, "writeTrails", "(I)I"⟩
abbrev cX10_type : ByteArray := prog_1_method_47_code
def yX10_type : MethodName := ⟨RX10, "type", "(C)I"⟩
abbrev cX10_run : ByteArray := prog_1_method_48_code
def yX10_run : MethodName := ⟨RX10, "run", "()I"⟩
abbrev cX10_undo : ByteArray := prog_1_method_51_code
def yX10_undo : MethodName := ⟨RX10, "undo", "()I"⟩
abbrev cX10_save : ByteArray := prog_1_method_52_code
def yX10_save : MethodName := ⟨RX10, "save", "()I"⟩
abbrev cX10_restore : ByteArray := prog_1_method_53_code
def yX10_restore : MethodName := ⟨RX10, "restore", "()I"⟩
abbrev cX10_change : ByteArray := prog_1_method_54_code
def yX10_change : MethodName := ⟨RX10, "change", "(IIII)I"⟩
abbrev cX10_firstFailure : ByteArray := prog_1_method_55_code
def yX10_firstFailure : MethodName := ⟨RX10, "firstFailure", "()I"⟩
abbrev cX10_refuse : ByteArray := prog_1_method_56_code
def yX10_refuse : MethodName := ⟨RX10, "refuse", "(I)V"⟩
abbrev cX10_requireWaypoint : ByteArray := prog_1_method_57_code
def yX10_requireWaypoint : MethodName := ⟨RX10, "requireWaypoint", "(I)V"⟩
abbrev cX10_requirePath : ByteArray := prog_1_method_58_code
def yX10_requirePath : MethodName := ⟨RX10, "requirePath", "(I)V"⟩
abbrev cX10_requireCoordinates : ByteArray := prog_1_method_59_code
def yX10_requireCoordinates : MethodName := ⟨RX10, "requireCoordinates", "(II)V"⟩
abbrev cX10_requireTour : ByteArray := prog_1_method_60_code
def yX10_requireTour : MethodName := ⟨RX10, "requireTour", "()V"⟩
abbrev cX10_requireRouteIndex : ByteArray := prog_1_method_61_code
def yX10_requireRouteIndex : MethodName := ⟨RX10, "requireRouteIndex", "(I)V"⟩
abbrev cX10_isWithin : ByteArray := prog_1_method_62_code
def yX10_isWithin : MethodName := ⟨RX10, "isWithin", "(III)Z"⟩
abbrev cX10_areCoordinates : ByteArray := prog_1_method_63_code
def yX10_areCoordinates : MethodName := ⟨RX10, "areCoordinates", "(II)Z"⟩
def RX11 : String := "TrailGuideModel"
def TX11 : u_T := fun k => match k with
  | _ => ("", "", "", false)
def tyX11 : Nat → FieldType := fun k => match k with
  | _ => .int
abbrev wsX110 : List Cond := u_ws RX11 TX11 0
theorem nmX11 : ∀ a, a < 0 → ∀ b, b < 0 → a ≠ b → (TX11 a).2.1 ≠ (TX11 b).2.1 := by decide +kernel
theorem tyX11_ok : ∀ k, k < 0 → parseFieldDescriptor (TX11 k).2.2.1 = some (tyX11 k) := by decide +kernel
def RJx145de : String := "java/io/Serializable"
def TJx145de : u_T := fun k => match k with
  | _ => ("", "", "", false)
def tyJx145de : Nat → FieldType := fun k => match k with
  | _ => .int
abbrev wsJx145de0 : List Cond := u_ws RJx145de TJx145de 0
theorem nmJx145de : ∀ a, a < 0 → ∀ b, b < 0 → a ≠ b → (TJx145de a).2.1 ≠ (TJx145de b).2.1 := by decide +kernel
theorem tyJx145de_ok : ∀ k, k < 0 → parseFieldDescriptor (TJx145de k).2.2.1 = some (tyJx145de k) := by decide +kernel
def RJ5 : String := "java/lang/AbstractStringBuilder"
def TJ5 : u_T := fun k => match k with
  | _ => ("", "", "", false)
def tyJ5 : Nat → FieldType := fun k => match k with
  | _ => .int
abbrev wsJ50 : List Cond := u_ws RJ5 TJ5 0
theorem nmJ5 : ∀ a, a < 0 → ∀ b, b < 0 → a ≠ b → (TJ5 a).2.1 ≠ (TJ5 b).2.1 := by decide +kernel
theorem tyJ5_ok : ∀ k, k < 0 → parseFieldDescriptor (TJ5 k).2.2.1 = some (tyJ5 k) := by decide +kernel
abbrev cJ5_init_d00df : ByteArray := prog_15_method_2_code
def yJ5_init_d00df : MethodName := ⟨RJ5, "<init>", "(I)V"⟩
abbrev cJ5_length_8abf5 : ByteArray := prog_15_method_6_code
def yJ5_length_8abf5 : MethodName := ⟨RJ5, "length", "()I"⟩
abbrev cJ5_ensureCapacityInternal_d00df : ByteArray := prog_15_method_9_code
def yJ5_ensureCapacityInternal_d00df : MethodName := ⟨RJ5, "ensureCapacityInternal", "(I)V"⟩
abbrev cJ5_newCapacity_0f7a4 : ByteArray := prog_15_method_10_code
def yJ5_newCapacity_0f7a4 : MethodName := ⟨RJ5, "newCapacity", "(I)I"⟩
abbrev cJ5_inflate_da8c8 : ByteArray := prog_15_method_11_code
def yJ5_inflate_da8c8 : MethodName := ⟨RJ5, "inflate", "()V"⟩
abbrev cJ5_append_cf1ce : ByteArray := prog_15_method_22_code
def yJ5_append_cf1ce : MethodName := ⟨RJ5, "append", "(Ljava/lang/String;)Ljava/lang/AbstractStringBuilder;"⟩
abbrev cJ5_appendNull_278bc : ByteArray := prog_15_method_26_code
def yJ5_appendNull_278bc : MethodName := ⟨RJ5, "appendNull", "()Ljava/lang/AbstractStringBuilder;"⟩
abbrev cJ5_append_c97b9 : ByteArray := prog_15_method_32_code
def yJ5_append_c97b9 : MethodName := ⟨RJ5, "append", "(I)Ljava/lang/AbstractStringBuilder;"⟩
abbrev cJ5_getValue_6d5f1 : ByteArray := prog_15_method_64_code
def yJ5_getValue_6d5f1 : MethodName := ⟨RJ5, "getValue", "()[B"⟩
abbrev cJ5_isLatin1_aae02 : ByteArray := prog_15_method_68_code
def yJ5_isLatin1_aae02 : MethodName := ⟨RJ5, "isLatin1", "()Z"⟩
abbrev cJ5_inflateIfNeededFor_a7421 : ByteArray := prog_15_method_71_code
def yJ5_inflateIfNeededFor_a7421 : MethodName := ⟨RJ5, "inflateIfNeededFor", "(Ljava/lang/String;)V"⟩
abbrev cJ5_putStringAt_47b60 : ByteArray := prog_15_method_73_code
def yJ5_putStringAt_47b60 : MethodName := ⟨RJ5, "putStringAt", "(ILjava/lang/String;)V"⟩
def RJx2cfe8 : String := "java/lang/Appendable"
def TJx2cfe8 : u_T := fun k => match k with
  | _ => ("", "", "", false)
def tyJx2cfe8 : Nat → FieldType := fun k => match k with
  | _ => .int
abbrev wsJx2cfe80 : List Cond := u_ws RJx2cfe8 TJx2cfe8 0
theorem nmJx2cfe8 : ∀ a, a < 0 → ∀ b, b < 0 → a ≠ b → (TJx2cfe8 a).2.1 ≠ (TJx2cfe8 b).2.1 := by decide +kernel
theorem tyJx2cfe8_ok : ∀ k, k < 0 → parseFieldDescriptor (TJx2cfe8 k).2.2.1 = some (tyJx2cfe8 k) := by decide +kernel
def RJx00060 : String := "java/lang/ArrayIndexOutOfBoundsException"
def TJx00060 : u_T := fun k => match k with
  | 0 => ("java/lang/Throwable", "backtrace", "Ljava/lang/Object;", false)
  | 1 => ("java/lang/Throwable", "detailMessage", "Ljava/lang/String;", false)
  | 2 => ("java/lang/Throwable", "cause", "Ljava/lang/Throwable;", false)
  | 3 => ("java/lang/Throwable", "stackTrace", "[Ljava/lang/StackTraceElement;", false)
  | 4 => ("java/lang/Throwable", "depth", "I", false)
  | _ => ("java/lang/Throwable", "suppressedExceptions", "Ljava/util/List;", false)
def tyJx00060 : Nat → FieldType := fun k => match k with
  | 0 => .object "java/lang/Object"
  | 1 => .object "java/lang/String"
  | 2 => .object "java/lang/Throwable"
  | 3 => .array (.object "java/lang/StackTraceElement")
  | 4 => .int
  | _ => .object "java/util/List"
abbrev wsJx000600 : List Cond := u_ws RJx00060 TJx00060 6
theorem nmJx00060 : ∀ a, a < 6 → ∀ b, b < 6 → a ≠ b → (TJx00060 a).2.1 ≠ (TJx00060 b).2.1 := by decide +kernel
theorem tyJx00060_ok : ∀ k, k < 6 → parseFieldDescriptor (TJx00060 k).2.2.1 = some (tyJx00060 k) := by decide +kernel
abbrev cJx00060_init_a7421 : ByteArray := prog_17_method_2_code
def yJx00060_init_a7421 : MethodName := ⟨RJx00060, "<init>", "(Ljava/lang/String;)V"⟩
def RJx9f9b0 : String := "java/lang/CharSequence"
def TJx9f9b0 : u_T := fun k => match k with
  | _ => ("", "", "", false)
def tyJx9f9b0 : Nat → FieldType := fun k => match k with
  | _ => .int
abbrev wsJx9f9b00 : List Cond := u_ws RJx9f9b0 TJx9f9b0 0
theorem nmJx9f9b0 : ∀ a, a < 0 → ∀ b, b < 0 → a ≠ b → (TJx9f9b0 a).2.1 ≠ (TJx9f9b0 b).2.1 := by decide +kernel
theorem tyJx9f9b0_ok : ∀ k, k < 0 → parseFieldDescriptor (TJx9f9b0 k).2.2.1 = some (tyJx9f9b0 k) := by decide +kernel
def RJx8e188 : String := "java/lang/Cloneable"
def TJx8e188 : u_T := fun k => match k with
  | _ => ("", "", "", false)
def tyJx8e188 : Nat → FieldType := fun k => match k with
  | _ => .int
abbrev wsJx8e1880 : List Cond := u_ws RJx8e188 TJx8e188 0
theorem nmJx8e188 : ∀ a, a < 0 → ∀ b, b < 0 → a ≠ b → (TJx8e188 a).2.1 ≠ (TJx8e188 b).2.1 := by decide +kernel
theorem tyJx8e188_ok : ∀ k, k < 0 → parseFieldDescriptor (TJx8e188 k).2.2.1 = some (tyJx8e188 k) := by decide +kernel
def RJxb160c : String := "java/lang/Comparable"
def TJxb160c : u_T := fun k => match k with
  | _ => ("", "", "", false)
def tyJxb160c : Nat → FieldType := fun k => match k with
  | _ => .int
abbrev wsJxb160c0 : List Cond := u_ws RJxb160c TJxb160c 0
theorem nmJxb160c : ∀ a, a < 0 → ∀ b, b < 0 → a ≠ b → (TJxb160c a).2.1 ≠ (TJxb160c b).2.1 := by decide +kernel
theorem tyJxb160c_ok : ∀ k, k < 0 → parseFieldDescriptor (TJxb160c k).2.2.1 = some (tyJxb160c k) := by decide +kernel
def RJ6 : String := "java/lang/Integer"
def TJ6 : u_T := fun k => match k with
  | _ => ("", "", "", false)
def tyJ6 : Nat → FieldType := fun k => match k with
  | _ => .int
abbrev wsJ60 : List Cond := u_ws RJ6 TJ6 0
theorem nmJ6 : ∀ a, a < 0 → ∀ b, b < 0 → a ≠ b → (TJ6 a).2.1 ≠ (TJ6 b).2.1 := by decide +kernel
theorem tyJ6_ok : ∀ k, k < 0 → parseFieldDescriptor (TJ6 k).2.2.1 = some (tyJ6 k) := by decide +kernel
abbrev cJ6_getChars_ba4f3 : ByteArray := prog_25_method_12_code
def yJ6_getChars_ba4f3 : MethodName := ⟨RJ6, "getChars", "(II[B)I"⟩
abbrev cJ6_stringSize_0f7a4 : ByteArray := prog_25_method_13_code
def yJ6_stringSize_0f7a4 : MethodName := ⟨RJ6, "stringSize", "(I)I"⟩
def RJ9 : String := "java/lang/Math"
def TJ9 : u_T := fun k => match k with
  | _ => ("", "", "", false)
def tyJ9 : Nat → FieldType := fun k => match k with
  | _ => .int
abbrev wsJ90 : List Cond := u_ws RJ9 TJ9 0
theorem nmJ9 : ∀ a, a < 0 → ∀ b, b < 0 → a ≠ b → (TJ9 a).2.1 ≠ (TJ9 b).2.1 := by decide +kernel
theorem tyJ9_ok : ∀ k, k < 0 → parseFieldDescriptor (TJ9 k).2.2.1 = some (tyJ9 k) := by decide +kernel
abbrev cJ9_max_7cf53 : ByteArray := prog_26_method_65_code
def yJ9_max_7cf53 : MethodName := ⟨RJ9, "max", "(II)I"⟩
abbrev cJ9_min_7cf53 : ByteArray := prog_26_method_69_code
def yJ9_min_7cf53 : MethodName := ⟨RJ9, "min", "(II)I"⟩
def RJxd2413 : String := "java/lang/Number"
def TJxd2413 : u_T := fun k => match k with
  | _ => ("", "", "", false)
def tyJxd2413 : Nat → FieldType := fun k => match k with
  | _ => .int
abbrev wsJxd24130 : List Cond := u_ws RJxd2413 TJxd2413 0
theorem nmJxd2413 : ∀ a, a < 0 → ∀ b, b < 0 → a ≠ b → (TJxd2413 a).2.1 ≠ (TJxd2413 b).2.1 := by decide +kernel
theorem tyJxd2413_ok : ∀ k, k < 0 → parseFieldDescriptor (TJxd2413 k).2.2.1 = some (tyJxd2413 k) := by decide +kernel
def RJ0 : String := "java/lang/String"
def TJ0 : u_T := fun k => match k with
  | 0 => ("java/lang/String", "value", "[B", true)
  | 1 => ("java/lang/String", "coder", "B", true)
  | 2 => ("java/lang/String", "hash", "I", false)
  | _ => ("java/lang/String", "hashIsZero", "Z", false)
def tyJ0 : Nat → FieldType := fun k => match k with
  | 0 => .array .byte
  | 1 => .byte
  | 2 => .int
  | _ => .boolean
abbrev wsJ00 : List Cond := u_ws RJ0 TJ0 4
theorem nmJ0 : ∀ a, a < 4 → ∀ b, b < 4 → a ≠ b → (TJ0 a).2.1 ≠ (TJ0 b).2.1 := by decide +kernel
theorem tyJ0_ok : ∀ k, k < 4 → parseFieldDescriptor (TJ0 k).2.2.1 = some (tyJ0 k) := by decide +kernel
abbrev cJ0_init_81219 : ByteArray := prog_29_method_53_code
def yJ0_init_81219 : MethodName := ⟨RJ0, "<init>", "(Ljava/lang/StringBuilder;)V"⟩
abbrev cJ0_length_8abf5 : ByteArray := prog_29_method_54_code
def yJ0_length_8abf5 : MethodName := ⟨RJ0, "length", "()I"⟩
abbrev cJ0_charAt_5068e : ByteArray := prog_29_method_56_code
def yJ0_charAt_5068e : MethodName := ⟨RJ0, "charAt", "(I)C"⟩
abbrev cJ0_getBytes_840e7 : ByteArray := prog_29_method_147_code
def yJ0_getBytes_840e7 : MethodName := ⟨RJ0, "getBytes", "([BIB)V"⟩
abbrev cJ0_init_db425 : ByteArray := prog_29_method_150_code
def yJ0_init_db425 : MethodName := ⟨RJ0, "<init>", "(Ljava/lang/AbstractStringBuilder;Ljava/lang/Void;)V"⟩
abbrev cJ0_coder_7d493 : ByteArray := prog_29_method_152_code
def yJ0_coder_7d493 : MethodName := ⟨RJ0, "coder", "()B"⟩
abbrev cJ0_isLatin1_aae02 : ByteArray := prog_29_method_154_code
def yJ0_isLatin1_aae02 : MethodName := ⟨RJ0, "isLatin1", "()Z"⟩
abbrev cJ0_checkIndex_df160 : ByteArray := prog_29_method_155_code
def yJ0_checkIndex_df160 : MethodName := ⟨RJ0, "checkIndex", "(II)V"⟩
abbrev cJ0_checkBoundsOffCount_cabcc : ByteArray := prog_29_method_157_code
def yJ0_checkBoundsOffCount_cabcc : MethodName := ⟨RJ0, "checkBoundsOffCount", "(III)I"⟩
abbrev cJ0_checkBoundsBeginEnd_23922 : ByteArray := prog_29_method_158_code
def yJ0_checkBoundsBeginEnd_23922 : MethodName := ⟨RJ0, "checkBoundsBeginEnd", "(III)V"⟩
def RJ4 : String := "java/lang/StringBuilder"
def TJ4 : u_T := fun k => match k with
  | 0 => ("java/lang/AbstractStringBuilder", "value", "[B", false)
  | 1 => ("java/lang/AbstractStringBuilder", "coder", "B", false)
  | 2 => ("java/lang/AbstractStringBuilder", "maybeLatin1", "Z", false)
  | _ => ("java/lang/AbstractStringBuilder", "count", "I", false)
def tyJ4 : Nat → FieldType := fun k => match k with
  | 0 => .array .byte
  | 1 => .byte
  | 2 => .boolean
  | _ => .int
abbrev wsJ40 : List Cond := u_ws RJ4 TJ4 4
theorem nmJ4 : ∀ a, a < 4 → ∀ b, b < 4 → a ≠ b → (TJ4 a).2.1 ≠ (TJ4 b).2.1 := by decide +kernel
theorem tyJ4_ok : ∀ k, k < 4 → parseFieldDescriptor (TJ4 k).2.2.1 = some (tyJ4 k) := by decide +kernel
abbrev cJ4_init_da8c8 : ByteArray := prog_30_method_1_code
def yJ4_init_da8c8 : MethodName := ⟨RJ4, "<init>", "()V"⟩
abbrev cJ4_append_15ec4 : ByteArray := prog_30_method_7_code
def yJ4_append_15ec4 : MethodName := ⟨RJ4, "append", "(Ljava/lang/String;)Ljava/lang/StringBuilder;"⟩
abbrev cJ4_append_bf812 : ByteArray := prog_30_method_15_code
def yJ4_append_bf812 : MethodName := ⟨RJ4, "append", "(I)Ljava/lang/StringBuilder;"⟩
abbrev cJ4_toString_0e30d : ByteArray := prog_30_method_42_code
def yJ4_toString_0e30d : MethodName := ⟨RJ4, "toString", "()Ljava/lang/String;"⟩
abbrev cJ4_length_8abf5 : ByteArray := prog_30_method_93_code
def yJ4_length_8abf5 : MethodName := ⟨RJ4, "length", "()I"⟩
def RJ1 : String := "java/lang/StringLatin1"
def TJ1 : u_T := fun k => match k with
  | _ => ("", "", "", false)
def tyJ1 : Nat → FieldType := fun k => match k with
  | _ => .int
abbrev wsJ10 : List Cond := u_ws RJ1 TJ1 0
theorem nmJ1 : ∀ a, a < 0 → ∀ b, b < 0 → a ≠ b → (TJ1 a).2.1 ≠ (TJ1 b).2.1 := by decide +kernel
theorem tyJ1_ok : ∀ k, k < 0 → parseFieldDescriptor (TJ1 k).2.2.1 = some (tyJ1 k) := by decide +kernel
abbrev cJ1_charAt_3b067 : ByteArray := prog_31_method_2_code
def yJ1_charAt_3b067 : MethodName := ⟨RJ1, "charAt", "([BI)C"⟩
abbrev cJ1_inflate_0e8fd : ByteArray := prog_31_method_50_code
def yJ1_inflate_0e8fd : MethodName := ⟨RJ1, "inflate", "([BI[BII)V"⟩
def RJ2 : String := "java/lang/StringUTF16"
def TJ2 : u_T := fun k => match k with
  | _ => ("", "", "", false)
def tyJ2 : Nat → FieldType := fun k => match k with
  | _ => .int
abbrev wsJ20 : List Cond := u_ws RJ2 TJ2 0
theorem nmJ2 : ∀ a, a < 0 → ∀ b, b < 0 → a ≠ b → (TJ2 a).2.1 ≠ (TJ2 b).2.1 := by decide +kernel
theorem tyJ2_ok : ∀ k, k < 0 → parseFieldDescriptor (TJ2 k).2.2.1 = some (tyJ2 k) := by decide +kernel
abbrev cJ2_newBytesFor_77867 : ByteArray := prog_32_method_2_code
def yJ2_newBytesFor_77867 : MethodName := ⟨RJ2, "newBytesFor", "(I)[B"⟩
abbrev cJ2_newBytesLength_0f7a4 : ByteArray := prog_32_method_3_code
def yJ2_newBytesLength_0f7a4 : MethodName := ⟨RJ2, "newBytesLength", "(I)I"⟩
abbrev cJ2_putChar_b72d1 : ByteArray := prog_32_method_4_code
def yJ2_putChar_b72d1 : MethodName := ⟨RJ2, "putChar", "([BII)V"⟩
abbrev cJ2_getChar_3b067 : ByteArray := prog_32_method_5_code
def yJ2_getChar_3b067 : MethodName := ⟨RJ2, "getChar", "([BI)C"⟩
abbrev cJ2_length_9d52b : ByteArray := prog_32_method_6_code
def yJ2_length_9d52b : MethodName := ⟨RJ2, "length", "([B)I"⟩
abbrev cJ2_coderFromArrayLen_85cad : ByteArray := prog_32_method_15_code
def yJ2_coderFromArrayLen_85cad : MethodName := ⟨RJ2, "coderFromArrayLen", "([BI)B"⟩
abbrev cJ2_compress_39247 : ByteArray := prog_32_method_17_code
def yJ2_compress_39247 : MethodName := ⟨RJ2, "compress", "([BII)[B"⟩
abbrev cJ2_compress_5af95 : ByteArray := prog_32_method_22_code
def yJ2_compress_5af95 : MethodName := ⟨RJ2, "compress", "([BI[BII)I"⟩
abbrev cJ2_getChars_46870 : ByteArray := prog_32_method_77_code
def yJ2_getChars_46870 : MethodName := ⟨RJ2, "getChars", "(III[B)I"⟩
abbrev cJ2_putCharsAt_cd4e5 : ByteArray := prog_32_method_81_code
def yJ2_putCharsAt_cd4e5 : MethodName := ⟨RJ2, "putCharsAt", "([BICCCC)I"⟩
abbrev cJ2_charAt_3b067 : ByteArray := prog_32_method_83_code
def yJ2_charAt_3b067 : MethodName := ⟨RJ2, "charAt", "([BI)C"⟩
abbrev cJ2_inflate_0e8fd : ByteArray := prog_32_method_86_code
def yJ2_inflate_0e8fd : MethodName := ⟨RJ2, "inflate", "([BI[BII)V"⟩
abbrev cJ2_getChars_ba4f3 : ByteArray := prog_32_method_89_code
def yJ2_getChars_ba4f3 : MethodName := ⟨RJ2, "getChars", "(II[B)I"⟩
abbrev cJ2_checkIndex_2214a : ByteArray := prog_32_method_91_code
def yJ2_checkIndex_2214a : MethodName := ⟨RJ2, "checkIndex", "(I[B)V"⟩
abbrev cJ2_checkBoundsBeginEnd_d044e : ByteArray := prog_32_method_93_code
def yJ2_checkBoundsBeginEnd_d044e : MethodName := ⟨RJ2, "checkBoundsBeginEnd", "(II[B)V"⟩
abbrev cJ2_checkBoundsOffCount_d044e : ByteArray := prog_32_method_94_code
def yJ2_checkBoundsOffCount_d044e : MethodName := ⟨RJ2, "checkBoundsOffCount", "(II[B)V"⟩
def RJ10 : String := "java/lang/System"
def TJ10 : u_T := fun k => match k with
  | _ => ("", "", "", false)
def tyJ10 : Nat → FieldType := fun k => match k with
  | _ => .int
abbrev wsJ100 : List Cond := u_ws RJ10 TJ10 0
theorem nmJ10 : ∀ a, a < 0 → ∀ b, b < 0 → a ≠ b → (TJ10 a).2.1 ≠ (TJ10 b).2.1 := by decide +kernel
theorem tyJ10_ok : ∀ k, k < 0 → parseFieldDescriptor (TJ10 k).2.2.1 = some (tyJ10 k) := by decide +kernel
def RJxfd54e : String := "java/lang/constant/Constable"
def TJxfd54e : u_T := fun k => match k with
  | _ => ("", "", "", false)
def tyJxfd54e : Nat → FieldType := fun k => match k with
  | _ => .int
abbrev wsJxfd54e0 : List Cond := u_ws RJxfd54e TJxfd54e 0
theorem nmJxfd54e : ∀ a, a < 0 → ∀ b, b < 0 → a ≠ b → (TJxfd54e a).2.1 ≠ (TJxfd54e b).2.1 := by decide +kernel
theorem tyJxfd54e_ok : ∀ k, k < 0 → parseFieldDescriptor (TJxfd54e k).2.2.1 = some (tyJxfd54e k) := by decide +kernel
def RJx3cf43 : String := "java/lang/constant/ConstantDesc"
def TJx3cf43 : u_T := fun k => match k with
  | _ => ("", "", "", false)
def tyJx3cf43 : Nat → FieldType := fun k => match k with
  | _ => .int
abbrev wsJx3cf430 : List Cond := u_ws RJx3cf43 TJx3cf43 0
theorem nmJx3cf43 : ∀ a, a < 0 → ∀ b, b < 0 → a ≠ b → (TJx3cf43 a).2.1 ≠ (TJx3cf43 b).2.1 := by decide +kernel
theorem tyJx3cf43_ok : ∀ k, k < 0 → parseFieldDescriptor (TJx3cf43 k).2.2.1 = some (tyJx3cf43 k) := by decide +kernel
def RJ7 : String := "java/util/Arrays"
def TJ7 : u_T := fun k => match k with
  | _ => ("", "", "", false)
def tyJ7 : Nat → FieldType := fun k => match k with
  | _ => .int
abbrev wsJ70 : List Cond := u_ws RJ7 TJ7 0
theorem nmJ7 : ∀ a, a < 0 → ∀ b, b < 0 → a ≠ b → (TJ7 a).2.1 ≠ (TJ7 b).2.1 := by decide +kernel
theorem tyJ7_ok : ∀ k, k < 0 → parseFieldDescriptor (TJ7 k).2.2.1 = some (tyJ7 k) := by decide +kernel
abbrev cJ7_copyOf_9075b : ByteArray := prog_38_method_121_code
def yJ7_copyOf_9075b : MethodName := ⟨RJ7, "copyOf", "([BI)[B"⟩
abbrev cJ7_checkLength_df160 : ByteArray := prog_38_method_131_code
def yJ7_checkLength_df160 : MethodName := ⟨RJ7, "checkLength", "(II)V"⟩
abbrev cJ7_copyOfRange_39247 : ByteArray := prog_38_method_132_code
def yJ7_copyOfRange_39247 : MethodName := ⟨RJ7, "copyOfRange", "([BII)[B"⟩
abbrev cJ7_copyOfRangeByte_39247 : ByteArray := prog_38_method_133_code
def yJ7_copyOfRangeByte_39247 : MethodName := ⟨RJ7, "copyOfRangeByte", "([BII)[B"⟩
def RJ8 : String := "jdk/internal/util/ArraysSupport"
def TJ8 : u_T := fun k => match k with
  | _ => ("", "", "", false)
def tyJ8 : Nat → FieldType := fun k => match k with
  | _ => .int
abbrev wsJ80 : List Cond := u_ws RJ8 TJ8 0
theorem nmJ8 : ∀ a, a < 0 → ∀ b, b < 0 → a ≠ b → (TJ8 a).2.1 ≠ (TJ8 b).2.1 := by decide +kernel
theorem tyJ8_ok : ∀ k, k < 0 → parseFieldDescriptor (TJ8 k).2.2.1 = some (tyJ8 k) := by decide +kernel
abbrev cJ8_newLength_cabcc : ByteArray := prog_40_method_27_code
def yJ8_newLength_cabcc : MethodName := ⟨RJ8, "newLength", "(III)I"⟩
abbrev cJ8_hugeLength_7cf53 : ByteArray := prog_40_method_28_code
def yJ8_hugeLength_7cf53 : MethodName := ⟨RJ8, "hugeLength", "(II)I"⟩
def RJ3 : String := "jdk/internal/util/Preconditions"
def TJ3 : u_T := fun k => match k with
  | _ => ("", "", "", false)
def tyJ3 : Nat → FieldType := fun k => match k with
  | _ => .int
abbrev wsJ30 : List Cond := u_ws RJ3 TJ3 0
theorem nmJ3 : ∀ a, a < 0 → ∀ b, b < 0 → a ≠ b → (TJ3 a).2.1 ≠ (TJ3 b).2.1 := by decide +kernel
theorem tyJ3_ok : ∀ k, k < 0 → parseFieldDescriptor (TJ3 k).2.2.1 = some (tyJ3 k) := by decide +kernel
abbrev cJ3_checkIndex_8e157 : ByteArray := prog_41_method_11_code
def yJ3_checkIndex_8e157 : MethodName := ⟨RJ3, "checkIndex", "(IILjava/util/function/BiFunction;)I"⟩
abbrev cJ3_checkFromToIndex_8c36e : ByteArray := prog_41_method_12_code
def yJ3_checkFromToIndex_8c36e : MethodName := ⟨RJ3, "checkFromToIndex", "(IIILjava/util/function/BiFunction;)I"⟩
abbrev cJ3_checkFromIndexSize_8c36e : ByteArray := prog_41_method_13_code
def yJ3_checkFromIndexSize_8c36e : MethodName := ⟨RJ3, "checkFromIndexSize", "(IIILjava/util/function/BiFunction;)I"⟩
def RL : String := "TrailGuideLaw"
abbrev cL_cell : ByteArray := method_2_code
def yL_cell : MethodName := ⟨RL, "cell", "([II)I"⟩
abbrev cL_addWaypoint : ByteArray := method_3_code
def yL_addWaypoint : MethodName := ⟨RL, "addWaypoint", "(LTrailGuide;III)I"⟩
abbrev cL_addTrail : ByteArray := method_4_code
def yL_addTrail : MethodName := ⟨RL, "addTrail", "(LTrailGuide;III)I"⟩
abbrev cL_removeTrail : ByteArray := method_5_code
def yL_removeTrail : MethodName := ⟨RL, "removeTrail", "(LTrailGuide;II)I"⟩
abbrev cL_startTour : ByteArray := method_6_code
def yL_startTour : MethodName := ⟨RL, "startTour", "(LTrailGuide;II)I"⟩
abbrev cL_stopTour : ByteArray := method_7_code
def yL_stopTour : MethodName := ⟨RL, "stopTour", "(LTrailGuide;)I"⟩
abbrev cL_setTolerance : ByteArray := method_8_code
def yL_setTolerance : MethodName := ⟨RL, "setTolerance", "(LTrailGuide;I)I"⟩
abbrev cL_setMode : ByteArray := method_9_code
def yL_setMode : MethodName := ⟨RL, "setMode", "(LTrailGuide;I)I"⟩
abbrev cL_charge : ByteArray := method_10_code
def yL_charge : MethodName := ⟨RL, "charge", "(LTrailGuide;I)I"⟩
abbrev cL_distance : ByteArray := method_11_code
def yL_distance : MethodName := ⟨RL, "distance", "(LTrailGuide;II)I"⟩
abbrev cL_distanceByRelaxation : ByteArray := method_12_code
def yL_distanceByRelaxation : MethodName := ⟨RL, "distanceByRelaxation", "(LTrailGuide;II)I"⟩
abbrev cL_nearest : ByteArray := method_13_code
def yL_nearest : MethodName := ⟨RL, "nearest", "(LTrailGuide;II)I"⟩
abbrev cL_target : ByteArray := method_14_code
def yL_target : MethodName := ⟨RL, "target", "(LTrailGuide;)I"⟩
abbrev cL_drift : ByteArray := method_15_code
def yL_drift : MethodName := ⟨RL, "drift", "(LTrailGuide;)I"⟩
abbrev cL_run : ByteArray := method_16_code
def yL_run : MethodName := ⟨RL, "run", "(LTrailGuide;)I"⟩
abbrev cL_undo : ByteArray := method_17_code
def yL_undo : MethodName := ⟨RL, "undo", "(LTrailGuide;)I"⟩
abbrev cL_restore : ByteArray := method_18_code
def yL_restore : MethodName := ⟨RL, "restore", "(LTrailGuide;)I"⟩
abbrev cL_update : ByteArray := method_19_code
def yL_update : MethodName := ⟨RL, "update", "(LTrailGuide;II)I"⟩
abbrev cL_in : ByteArray := method_20_code
def yL_in : MethodName := ⟨RL, "in", "([III)I"⟩
abbrev cL_does : ByteArray := method_21_code
def yL_does : MethodName := ⟨RL, "does", "(LTrailGuide;Ljava/lang/String;)I"⟩
abbrev cL_begun : ByteArray := method_22_code
def yL_begun : MethodName := ⟨RL, "begun", "([I)LTrailGuide;"⟩
abbrev cL_acts : ByteArray := method_23_code
def yL_acts : MethodName := ⟨RL, "acts", "(LTrailGuide;[II)I"⟩
abbrev cL_seen : ByteArray := method_24_code
def yL_seen : MethodName := ⟨RL, "seen", "(LTrailGuide;)[I"⟩
abbrev cL_areAlike : ByteArray := method_25_code
def yL_areAlike : MethodName := ⟨RL, "areAlike", "([I[I)Z"⟩
abbrev cL_beyond : ByteArray := method_26_code
def yL_beyond : MethodName := ⟨RL, "beyond", "(LTrailGuide;IIIII)J"⟩
abbrev cL_aim : ByteArray := method_27_code
def yL_aim : MethodName := ⟨RL, "aim", "(LTrailGuide;)I"⟩
abbrev cL_isWell : ByteArray := method_28_code
def yL_isWell : MethodName := ⟨RL, "isWell", "(LTrailGuide;)Z"⟩
abbrev cL_law : ByteArray := code
def yL_law : MethodName := ⟨RL, "law", "([I)Z"⟩
